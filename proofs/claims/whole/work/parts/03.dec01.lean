theorem dX4_ask_51 : decode cX4_ask 51 = .ok (.getfield 9, 3) := by decide +kernel
theorem dX4_ask_54 : decode cX4_ask 54 = .ok (.iload 4, 2) := by decide +kernel
theorem dX4_ask_56 : decode cX4_ask 56 = .ok (.iload_n 3, 1) := by decide +kernel
theorem dX4_ask_57 : decode cX4_ask 57 = .ok (.iastore, 1) := by decide +kernel
theorem dX4_ask_58 : decode cX4_ask 58 = .ok (.iinc 3 1, 3) := by decide +kernel
theorem dX4_ask_61 : decode cX4_ask 61 = .ok (.goto (-51), 3) := by decide +kernel
theorem dX4_ask_64 : decode cX4_ask 64 = .ok (.iconst 0, 1) := by decide +kernel
theorem dX4_ask_65 : decode cX4_ask 65 = .ok (.istore_n 3, 1) := by decide +kernel
theorem dX4_ask_66 : decode cX4_ask 66 = .ok (.iload_n 3, 1) := by decide +kernel
theorem dX4_ask_67 : decode cX4_ask 67 = .ok (.aload_n 1, 1) := by decide +kernel
theorem dX4_ask_68 : decode cX4_ask 68 = .ok (.getfield 34, 3) := by decide +kernel
theorem dX4_ask_71 : decode cX4_ask 71 = .ok (.if_icmp .ge 26, 3) := by decide +kernel
theorem dX4_ask_74 : decode cX4_ask 74 = .ok (.aload_n 0, 1) := by decide +kernel
theorem dX4_ask_75 : decode cX4_ask 75 = .ok (.getfield 15, 3) := by decide +kernel
theorem dX4_ask_78 : decode cX4_ask 78 = .ok (.iload_n 3, 1) := by decide +kernel
theorem dX4_ask_79 : decode cX4_ask 79 = .ok (.aload_n 0, 1) := by decide +kernel
theorem dX4_ask_80 : decode cX4_ask 80 = .ok (.getfield 9, 3) := by decide +kernel
theorem dX4_ask_83 : decode cX4_ask 83 = .ok (.aload_n 1, 1) := by decide +kernel
theorem dX4_ask_84 : decode cX4_ask 84 = .ok (.getfield 39, 3) := by decide +kernel
theorem dX4_ask_87 : decode cX4_ask 87 = .ok (.iload_n 3, 1) := by decide +kernel
theorem dX4_ask_88 : decode cX4_ask 88 = .ok (.iaload, 1) := by decide +kernel
theorem dX4_ask_89 : decode cX4_ask 89 = .ok (.iaload, 1) := by decide +kernel
theorem dX4_ask_90 : decode cX4_ask 90 = .ok (.iastore, 1) := by decide +kernel
theorem dX4_ask_91 : decode cX4_ask 91 = .ok (.iinc 3 1, 3) := by decide +kernel
theorem dX4_ask_94 : decode cX4_ask 94 = .ok (.goto (-28), 3) := by decide +kernel
theorem dX4_ask_97 : decode cX4_ask 97 = .ok (.iconst 1, 1) := by decide +kernel
theorem dX4_ask_98 : decode cX4_ask 98 = .ok (.ireturn, 1) := by decide +kernel
theorem dX4_search_0 : decode cX4_search 0 = .ok (.aload_n 0, 1) := by decide +kernel
theorem dX4_search_1 : decode cX4_search 1 = .ok (.iconst 0, 1) := by decide +kernel
theorem dX4_search_2 : decode cX4_search 2 = .ok (.putfield 24, 3) := by decide +kernel
theorem dX4_search_5 : decode cX4_search 5 = .ok (.aload_n 0, 1) := by decide +kernel
theorem dX4_search_6 : decode cX4_search 6 = .ok (.iload_n 1, 1) := by decide +kernel
theorem dX4_search_7 : decode cX4_search 7 = .ok (.invokevirtual 42, 3) := by decide +kernel
theorem dX4_search_10 : decode cX4_search 10 = .ok (.istore_n 2, 1) := by decide +kernel
theorem dX4_search_11 : decode cX4_search 11 = .ok (.iload_n 2, 1) := by decide +kernel
theorem dX4_search_12 : decode cX4_search 12 = .ok (.ifCond .le 43, 3) := by decide +kernel
theorem dX4_search_15 : decode cX4_search 15 = .ok (.aload_n 0, 1) := by decide +kernel
theorem dX4_search_16 : decode cX4_search 16 = .ok (.getfield 24, 3) := by decide +kernel
theorem dX4_search_19 : decode cX4_search 19 = .ok (.bipush 40, 2) := by decide +kernel
theorem dX4_search_21 : decode cX4_search 21 = .ok (.if_icmp .ge 34, 3) := by decide +kernel
theorem dX4_search_24 : decode cX4_search 24 = .ok (.iinc 2 (-1), 3) := by decide +kernel
theorem dX4_search_27 : decode cX4_search 27 = .ok (.aload_n 0, 1) := by decide +kernel
theorem dX4_search_28 : decode cX4_search 28 = .ok (.getfield 21, 3) := by decide +kernel
theorem dX4_search_31 : decode cX4_search 31 = .ok (.aload_n 0, 1) := by decide +kernel
theorem dX4_search_32 : decode cX4_search 32 = .ok (.getfield 24, 3) := by decide +kernel
theorem dX4_search_35 : decode cX4_search 35 = .ok (.aload_n 0, 1) := by decide +kernel
theorem dX4_search_36 : decode cX4_search 36 = .ok (.iload_n 2, 1) := by decide +kernel
theorem dX4_search_37 : decode cX4_search 37 = .ok (.iload_n 1, 1) := by decide +kernel
theorem dX4_search_38 : decode cX4_search 38 = .ok (.invokevirtual 46, 3) := by decide +kernel
theorem dX4_search_41 : decode cX4_search 41 = .ok (.iastore, 1) := by decide +kernel
theorem dX4_search_42 : decode cX4_search 42 = .ok (.aload_n 0, 1) := by decide +kernel
theorem dX4_search_43 : decode cX4_search 43 = .ok (.dup, 1) := by decide +kernel
theorem dX4_search_44 : decode cX4_search 44 = .ok (.getfield 24, 3) := by decide +kernel
theorem dX4_search_47 : decode cX4_search 47 = .ok (.iconst 1, 1) := by decide +kernel
theorem dX4_search_48 : decode cX4_search 48 = .ok (.iadd, 1) := by decide +kernel
theorem dX4_search_49 : decode cX4_search 49 = .ok (.putfield 24, 3) := by decide +kernel
theorem dX4_search_52 : decode cX4_search 52 = .ok (.goto (-41), 3) := by decide +kernel
theorem dX4_search_55 : decode cX4_search 55 = .ok (.return_, 1) := by decide +kernel
theorem dX4_nearer_0 : decode cX4_nearer 0 = .ok (.iconst 0, 1) := by decide +kernel
theorem dX4_nearer_1 : decode cX4_nearer 1 = .ok (.istore_n 3, 1) := by decide +kernel
theorem dX4_nearer_2 : decode cX4_nearer 2 = .ok (.iload_n 3, 1) := by decide +kernel
theorem dX4_nearer_3 : decode cX4_nearer 3 = .ok (.iload_n 2, 1) := by decide +kernel
theorem dX4_nearer_4 : decode cX4_nearer 4 = .ok (.if_icmp .ge 32, 3) := by decide +kernel
theorem dX4_nearer_7 : decode cX4_nearer 7 = .ok (.aload_n 0, 1) := by decide +kernel
theorem dX4_nearer_8 : decode cX4_nearer 8 = .ok (.iload_n 3, 1) := by decide +kernel
theorem dX4_nearer_9 : decode cX4_nearer 9 = .ok (.iload_n 2, 1) := by decide +kernel
theorem dX4_nearer_10 : decode cX4_nearer 10 = .ok (.invokevirtual 50, 3) := by decide +kernel
theorem dX4_nearer_13 : decode cX4_nearer 13 = .ok (.aload_n 0, 1) := by decide +kernel
theorem dX4_nearer_14 : decode cX4_nearer 14 = .ok (.iload_n 2, 1) := by decide +kernel
theorem dX4_nearer_15 : decode cX4_nearer 15 = .ok (.invokevirtual 42, 3) := by decide +kernel
theorem dX4_nearer_18 : decode cX4_nearer 18 = .ok (.iload_n 1, 1) := by decide +kernel
theorem dX4_nearer_19 : decode cX4_nearer 19 = .ok (.if_icmp .ne 5, 3) := by decide +kernel
theorem dX4_nearer_22 : decode cX4_nearer 22 = .ok (.iload_n 3, 1) := by decide +kernel
theorem dX4_nearer_23 : decode cX4_nearer 23 = .ok (.ireturn, 1) := by decide +kernel
theorem dX4_nearer_24 : decode cX4_nearer 24 = .ok (.aload_n 0, 1) := by decide +kernel
theorem dX4_nearer_25 : decode cX4_nearer 25 = .ok (.iload_n 3, 1) := by decide +kernel
theorem dX4_nearer_26 : decode cX4_nearer 26 = .ok (.iload_n 2, 1) := by decide +kernel
theorem dX4_nearer_27 : decode cX4_nearer 27 = .ok (.invokevirtual 50, 3) := by decide +kernel
theorem dX4_nearer_30 : decode cX4_nearer 30 = .ok (.iinc 3 1, 3) := by decide +kernel
theorem dX4_nearer_33 : decode cX4_nearer 33 = .ok (.goto (-31), 3) := by decide +kernel
theorem dX4_nearer_36 : decode cX4_nearer 36 = .ok (.iconst (-1), 1) := by decide +kernel
theorem dX4_nearer_37 : decode cX4_nearer 37 = .ok (.ireturn, 1) := by decide +kernel
theorem dX4_swap_0 : decode cX4_swap 0 = .ok (.iload_n 1, 1) := by decide +kernel
theorem dX4_swap_1 : decode cX4_swap 1 = .ok (.iload_n 2, 1) := by decide +kernel
theorem dX4_swap_2 : decode cX4_swap 2 = .ok (.invokestatic 54, 3) := by decide +kernel
theorem dX4_swap_5 : decode cX4_swap 5 = .ok (.istore_n 3, 1) := by decide +kernel
theorem dX4_swap_6 : decode cX4_swap 6 = .ok (.aload_n 0, 1) := by decide +kernel
theorem dX4_swap_7 : decode cX4_swap 7 = .ok (.getfield 15, 3) := by decide +kernel
theorem dX4_swap_10 : decode cX4_swap 10 = .ok (.iload_n 1, 1) := by decide +kernel
theorem dX4_swap_11 : decode cX4_swap 11 = .ok (.iaload, 1) := by decide +kernel
theorem dX4_swap_12 : decode cX4_swap 12 = .ok (.istore 4, 2) := by decide +kernel
theorem dX4_swap_14 : decode cX4_swap 14 = .ok (.aload_n 0, 1) := by decide +kernel
theorem dX4_swap_15 : decode cX4_swap 15 = .ok (.getfield 15, 3) := by decide +kernel
theorem dX4_swap_18 : decode cX4_swap 18 = .ok (.iload_n 1, 1) := by decide +kernel
theorem dX4_swap_19 : decode cX4_swap 19 = .ok (.aload_n 0, 1) := by decide +kernel
theorem dX4_swap_20 : decode cX4_swap 20 = .ok (.getfield 15, 3) := by decide +kernel
theorem dX4_swap_23 : decode cX4_swap 23 = .ok (.iload_n 3, 1) := by decide +kernel
theorem dX4_swap_24 : decode cX4_swap 24 = .ok (.iaload, 1) := by decide +kernel
theorem dX4_swap_25 : decode cX4_swap 25 = .ok (.iastore, 1) := by decide +kernel
theorem dX4_swap_26 : decode cX4_swap 26 = .ok (.aload_n 0, 1) := by decide +kernel
theorem dX4_swap_27 : decode cX4_swap 27 = .ok (.getfield 15, 3) := by decide +kernel
theorem dX4_swap_30 : decode cX4_swap 30 = .ok (.iload_n 3, 1) := by decide +kernel
theorem dX4_swap_31 : decode cX4_swap 31 = .ok (.iload 4, 2) := by decide +kernel
theorem dX4_swap_33 : decode cX4_swap 33 = .ok (.iastore, 1) := by decide +kernel
theorem dX4_swap_34 : decode cX4_swap 34 = .ok (.return_, 1) := by decide +kernel
theorem dX4_passesLeft_0 : decode cX4_passesLeft 0 = .ok (.aload_n 0, 1) := by decide +kernel
theorem dX4_passesLeft_1 : decode cX4_passesLeft 1 = .ok (.iload_n 1, 1) := by decide +kernel
theorem dX4_passesLeft_2 : decode cX4_passesLeft 2 = .ok (.invokevirtual 57, 3) := by decide +kernel
theorem dX4_passesLeft_5 : decode cX4_passesLeft 5 = .ok (.iconst 0, 1) := by decide +kernel
theorem dX4_passesLeft_6 : decode cX4_passesLeft 6 = .ok (.istore_n 2, 1) := by decide +kernel
theorem dX4_passesLeft_7 : decode cX4_passesLeft 7 = .ok (.iconst 0, 1) := by decide +kernel
theorem dX4_passesLeft_8 : decode cX4_passesLeft 8 = .ok (.istore_n 3, 1) := by decide +kernel
theorem dX4_passesLeft_9 : decode cX4_passesLeft 9 = .ok (.iload_n 3, 1) := by decide +kernel
theorem dX4_passesLeft_10 : decode cX4_passesLeft 10 = .ok (.iload_n 1, 1) := by decide +kernel
theorem dX4_passesLeft_11 : decode cX4_passesLeft 11 = .ok (.if_icmp .ge 55, 3) := by decide +kernel
theorem dX4_passesLeft_14 : decode cX4_passesLeft 14 = .ok (.iload_n 3, 1) := by decide +kernel
theorem dX4_passesLeft_15 : decode cX4_passesLeft 15 = .ok (.iconst 1, 1) := by decide +kernel
theorem dX4_passesLeft_16 : decode cX4_passesLeft 16 = .ok (.iadd, 1) := by decide +kernel
theorem dX4_passesLeft_17 : decode cX4_passesLeft 17 = .ok (.istore 4, 2) := by decide +kernel
theorem dX4_passesLeft_19 : decode cX4_passesLeft 19 = .ok (.iload 4, 2) := by decide +kernel
theorem dX4_passesLeft_21 : decode cX4_passesLeft 21 = .ok (.iload_n 1, 1) := by decide +kernel
theorem dX4_passesLeft_22 : decode cX4_passesLeft 22 = .ok (.if_icmp .ge 38, 3) := by decide +kernel
theorem dX4_passesLeft_25 : decode cX4_passesLeft 25 = .ok (.iload_n 2, 1) := by decide +kernel
theorem dX4_passesLeft_26 : decode cX4_passesLeft 26 = .ok (.iload 4, 2) := by decide +kernel
theorem dX4_passesLeft_28 : decode cX4_passesLeft 28 = .ok (.aload_n 0, 1) := by decide +kernel
theorem dX4_passesLeft_29 : decode cX4_passesLeft 29 = .ok (.getfield 18, 3) := by decide +kernel
theorem dX4_passesLeft_32 : decode cX4_passesLeft 32 = .ok (.iload 4, 2) := by decide +kernel
theorem dX4_passesLeft_34 : decode cX4_passesLeft 34 = .ok (.iaload, 1) := by decide +kernel
theorem dX4_passesLeft_35 : decode cX4_passesLeft 35 = .ok (.iadd, 1) := by decide +kernel
theorem dX4_passesLeft_36 : decode cX4_passesLeft 36 = .ok (.iload_n 3, 1) := by decide +kernel
theorem dX4_passesLeft_37 : decode cX4_passesLeft 37 = .ok (.isub, 1) := by decide +kernel
theorem dX4_passesLeft_38 : decode cX4_passesLeft 38 = .ok (.aload_n 0, 1) := by decide +kernel
theorem dX4_passesLeft_39 : decode cX4_passesLeft 39 = .ok (.getfield 18, 3) := by decide +kernel
theorem dX4_passesLeft_42 : decode cX4_passesLeft 42 = .ok (.iload_n 3, 1) := by decide +kernel
theorem dX4_passesLeft_43 : decode cX4_passesLeft 43 = .ok (.iaload, 1) := by decide +kernel
theorem dX4_passesLeft_44 : decode cX4_passesLeft 44 = .ok (.isub, 1) := by decide +kernel
theorem dX4_passesLeft_45 : decode cX4_passesLeft 45 = .ok (.iload_n 1, 1) := by decide +kernel
theorem dX4_passesLeft_46 : decode cX4_passesLeft 46 = .ok (.invokestatic 61, 3) := by decide +kernel
theorem dX4_passesLeft_49 : decode cX4_passesLeft 49 = .ok (.invokestatic 66, 3) := by decide +kernel
theorem dX4_passesLeft_52 : decode cX4_passesLeft 52 = .ok (.iadd, 1) := by decide +kernel
theorem dX4_passesLeft_53 : decode cX4_passesLeft 53 = .ok (.istore_n 2, 1) := by decide +kernel
theorem dX4_passesLeft_54 : decode cX4_passesLeft 54 = .ok (.iinc 4 1, 3) := by decide +kernel
theorem dX4_passesLeft_57 : decode cX4_passesLeft 57 = .ok (.goto (-38), 3) := by decide +kernel
theorem dX4_passesLeft_60 : decode cX4_passesLeft 60 = .ok (.iinc 3 1, 3) := by decide +kernel
theorem dX4_passesLeft_63 : decode cX4_passesLeft 63 = .ok (.goto (-54), 3) := by decide +kernel
theorem dX4_passesLeft_66 : decode cX4_passesLeft 66 = .ok (.iload_n 2, 1) := by decide +kernel
theorem dX4_passesLeft_67 : decode cX4_passesLeft 67 = .ok (.ireturn, 1) := by decide +kernel
theorem dX4_settleWays_0 : decode cX4_settleWays 0 = .ok (.iconst 0, 1) := by decide +kernel
theorem dX4_settleWays_1 : decode cX4_settleWays 1 = .ok (.istore_n 2, 1) := by decide +kernel
theorem dX4_settleWays_2 : decode cX4_settleWays 2 = .ok (.iload_n 2, 1) := by decide +kernel
theorem dX4_settleWays_3 : decode cX4_settleWays 3 = .ok (.iload_n 1, 1) := by decide +kernel
theorem dX4_settleWays_4 : decode cX4_settleWays 4 = .ok (.if_icmp .ge 23, 3) := by decide +kernel
theorem dX4_settleWays_7 : decode cX4_settleWays 7 = .ok (.aload_n 0, 1) := by decide +kernel
theorem dX4_settleWays_8 : decode cX4_settleWays 8 = .ok (.getfield 18, 3) := by decide +kernel
theorem dX4_settleWays_11 : decode cX4_settleWays 11 = .ok (.iload_n 2, 1) := by decide +kernel
theorem dX4_settleWays_12 : decode cX4_settleWays 12 = .ok (.aload_n 0, 1) := by decide +kernel
theorem dX4_settleWays_13 : decode cX4_settleWays 13 = .ok (.getfield 15, 3) := by decide +kernel
theorem dX4_settleWays_16 : decode cX4_settleWays 16 = .ok (.iload_n 2, 1) := by decide +kernel
theorem dX4_settleWays_17 : decode cX4_settleWays 17 = .ok (.iaload, 1) := by decide +kernel
theorem dX4_settleWays_18 : decode cX4_settleWays 18 = .ok (.iload_n 2, 1) := by decide +kernel
theorem dX4_settleWays_19 : decode cX4_settleWays 19 = .ok (.isub, 1) := by decide +kernel
theorem dX4_settleWays_20 : decode cX4_settleWays 20 = .ok (.iastore, 1) := by decide +kernel
theorem dX4_settleWays_21 : decode cX4_settleWays 21 = .ok (.iinc 2 1, 3) := by decide +kernel
theorem dX4_settleWays_24 : decode cX4_settleWays 24 = .ok (.goto (-22), 3) := by decide +kernel
theorem dX4_settleWays_27 : decode cX4_settleWays 27 = .ok (.iconst 0, 1) := by decide +kernel
theorem dX4_settleWays_28 : decode cX4_settleWays 28 = .ok (.istore_n 2, 1) := by decide +kernel
theorem dX4_settleWays_29 : decode cX4_settleWays 29 = .ok (.iload_n 2, 1) := by decide +kernel
theorem dX4_settleWays_30 : decode cX4_settleWays 30 = .ok (.iload_n 1, 1) := by decide +kernel
theorem dX4_settleWays_31 : decode cX4_settleWays 31 = .ok (.if_icmp .ge 118, 3) := by decide +kernel
theorem dX4_settleWays_34 : decode cX4_settleWays 34 = .ok (.iconst 0, 1) := by decide +kernel
theorem dX4_settleWays_35 : decode cX4_settleWays 35 = .ok (.istore_n 3, 1) := by decide +kernel
theorem dX4_settleWays_36 : decode cX4_settleWays 36 = .ok (.iconst 0, 1) := by decide +kernel
theorem dX4_settleWays_37 : decode cX4_settleWays 37 = .ok (.istore 4, 2) := by decide +kernel
theorem dX4_settleWays_39 : decode cX4_settleWays 39 = .ok (.iconst 1, 1) := by decide +kernel
theorem dX4_settleWays_40 : decode cX4_settleWays 40 = .ok (.istore 5, 2) := by decide +kernel
theorem dX4_settleWays_42 : decode cX4_settleWays 42 = .ok (.iload 5, 2) := by decide +kernel
theorem dX4_settleWays_44 : decode cX4_settleWays 44 = .ok (.iload_n 1, 1) := by decide +kernel
theorem dX4_settleWays_45 : decode cX4_settleWays 45 = .ok (.if_icmp .ge 58, 3) := by decide +kernel
theorem dX4_settleWays_48 : decode cX4_settleWays 48 = .ok (.aload_n 0, 1) := by decide +kernel
theorem dX4_settleWays_49 : decode cX4_settleWays 49 = .ok (.getfield 18, 3) := by decide +kernel
theorem dX4_settleWays_52 : decode cX4_settleWays 52 = .ok (.iload 5, 2) := by decide +kernel
theorem dX4_settleWays_54 : decode cX4_settleWays 54 = .ok (.iaload, 1) := by decide +kernel
theorem dX4_settleWays_55 : decode cX4_settleWays 55 = .ok (.aload_n 0, 1) := by decide +kernel
theorem dX4_settleWays_56 : decode cX4_settleWays 56 = .ok (.getfield 18, 3) := by decide +kernel
theorem dX4_settleWays_59 : decode cX4_settleWays 59 = .ok (.iload_n 3, 1) := by decide +kernel
theorem dX4_settleWays_60 : decode cX4_settleWays 60 = .ok (.iaload, 1) := by decide +kernel
theorem dX4_settleWays_61 : decode cX4_settleWays 61 = .ok (.if_icmp .le 8, 3) := by decide +kernel
theorem dX4_settleWays_64 : decode cX4_settleWays 64 = .ok (.iload 5, 2) := by decide +kernel
theorem dX4_settleWays_66 : decode cX4_settleWays 66 = .ok (.goto 4, 3) := by decide +kernel
theorem dX4_settleWays_69 : decode cX4_settleWays 69 = .ok (.iload_n 3, 1) := by decide +kernel
theorem dX4_settleWays_70 : decode cX4_settleWays 70 = .ok (.istore_n 3, 1) := by decide +kernel
theorem dX4_settleWays_71 : decode cX4_settleWays 71 = .ok (.aload_n 0, 1) := by decide +kernel
theorem dX4_settleWays_72 : decode cX4_settleWays 72 = .ok (.getfield 18, 3) := by decide +kernel
theorem dX4_settleWays_75 : decode cX4_settleWays 75 = .ok (.iload 5, 2) := by decide +kernel
theorem dX4_settleWays_77 : decode cX4_settleWays 77 = .ok (.iaload, 1) := by decide +kernel
theorem dX4_settleWays_78 : decode cX4_settleWays 78 = .ok (.aload_n 0, 1) := by decide +kernel
theorem dX4_settleWays_79 : decode cX4_settleWays 79 = .ok (.getfield 18, 3) := by decide +kernel
theorem dX4_settleWays_82 : decode cX4_settleWays 82 = .ok (.iload 4, 2) := by decide +kernel
theorem dX4_settleWays_84 : decode cX4_settleWays 84 = .ok (.iaload, 1) := by decide +kernel
theorem dX4_settleWays_85 : decode cX4_settleWays 85 = .ok (.if_icmp .ge 8, 3) := by decide +kernel
theorem dX4_settleWays_88 : decode cX4_settleWays 88 = .ok (.iload 5, 2) := by decide +kernel
theorem dX4_settleWays_90 : decode cX4_settleWays 90 = .ok (.goto 5, 3) := by decide +kernel
theorem dX4_settleWays_93 : decode cX4_settleWays 93 = .ok (.iload 4, 2) := by decide +kernel
theorem dX4_settleWays_95 : decode cX4_settleWays 95 = .ok (.istore 4, 2) := by decide +kernel
theorem dX4_settleWays_97 : decode cX4_settleWays 97 = .ok (.iinc 5 1, 3) := by decide +kernel
theorem dX4_settleWays_100 : decode cX4_settleWays 100 = .ok (.goto (-58), 3) := by decide +kernel
theorem dX4_settleWays_103 : decode cX4_settleWays 103 = .ok (.aload_n 0, 1) := by decide +kernel
theorem dX4_settleWays_104 : decode cX4_settleWays 104 = .ok (.getfield 18, 3) := by decide +kernel
theorem dX4_settleWays_107 : decode cX4_settleWays 107 = .ok (.iload_n 3, 1) := by decide +kernel
theorem dX4_settleWays_108 : decode cX4_settleWays 108 = .ok (.iaload, 1) := by decide +kernel
theorem dX4_settleWays_109 : decode cX4_settleWays 109 = .ok (.aload_n 0, 1) := by decide +kernel
theorem dX4_settleWays_110 : decode cX4_settleWays 110 = .ok (.getfield 18, 3) := by decide +kernel
theorem dX4_settleWays_113 : decode cX4_settleWays 113 = .ok (.iload 4, 2) := by decide +kernel
theorem dX4_settleWays_115 : decode cX4_settleWays 115 = .ok (.iaload, 1) := by decide +kernel
theorem dX4_settleWays_116 : decode cX4_settleWays 116 = .ok (.isub, 1) := by decide +kernel
theorem dX4_settleWays_117 : decode cX4_settleWays 117 = .ok (.iload_n 1, 1) := by decide +kernel
theorem dX4_settleWays_118 : decode cX4_settleWays 118 = .ok (.if_icmp .gt 4, 3) := by decide +kernel
theorem dX4_settleWays_121 : decode cX4_settleWays 121 = .ok (.return_, 1) := by decide +kernel
theorem dX4_settleWays_122 : decode cX4_settleWays 122 = .ok (.aload_n 0, 1) := by decide +kernel
theorem dX4_settleWays_123 : decode cX4_settleWays 123 = .ok (.getfield 18, 3) := by decide +kernel
theorem dX4_settleWays_126 : decode cX4_settleWays 126 = .ok (.iload_n 3, 1) := by decide +kernel
theorem dX4_settleWays_127 : decode cX4_settleWays 127 = .ok (.dup2, 1) := by decide +kernel
theorem dX4_settleWays_128 : decode cX4_settleWays 128 = .ok (.iaload, 1) := by decide +kernel
theorem dX4_settleWays_129 : decode cX4_settleWays 129 = .ok (.iload_n 1, 1) := by decide +kernel
theorem dX4_settleWays_130 : decode cX4_settleWays 130 = .ok (.isub, 1) := by decide +kernel
theorem dX4_settleWays_131 : decode cX4_settleWays 131 = .ok (.iastore, 1) := by decide +kernel
theorem dX4_settleWays_132 : decode cX4_settleWays 132 = .ok (.aload_n 0, 1) := by decide +kernel
theorem dX4_settleWays_133 : decode cX4_settleWays 133 = .ok (.getfield 18, 3) := by decide +kernel
theorem dX4_settleWays_136 : decode cX4_settleWays 136 = .ok (.iload 4, 2) := by decide +kernel
theorem dX4_settleWays_138 : decode cX4_settleWays 138 = .ok (.dup2, 1) := by decide +kernel
theorem dX4_settleWays_139 : decode cX4_settleWays 139 = .ok (.iaload, 1) := by decide +kernel
theorem dX4_settleWays_140 : decode cX4_settleWays 140 = .ok (.iload_n 1, 1) := by decide +kernel
theorem dX4_settleWays_141 : decode cX4_settleWays 141 = .ok (.iadd, 1) := by decide +kernel
theorem dX4_settleWays_142 : decode cX4_settleWays 142 = .ok (.iastore, 1) := by decide +kernel
theorem dX4_settleWays_143 : decode cX4_settleWays 143 = .ok (.iinc 2 1, 3) := by decide +kernel
theorem dX4_settleWays_146 : decode cX4_settleWays 146 = .ok (.goto (-117), 3) := by decide +kernel
theorem dX4_settleWays_149 : decode cX4_settleWays 149 = .ok (.return_, 1) := by decide +kernel
theorem dX5_init_0 : decode cX5_init 0 = .ok (.aload_n 0, 1) := by decide +kernel
theorem dX5_init_1 : decode cX5_init 1 = .ok (.invokespecial 3, 3) := by decide +kernel
theorem dX5_init_4 : decode cX5_init 4 = .ok (.aload_n 0, 1) := by decide +kernel
theorem dX5_init_5 : decode cX5_init 5 = .ok (.iload_n 1, 1) := by decide +kernel
theorem dX5_init_6 : decode cX5_init 6 = .ok (.putfield 9, 3) := by decide +kernel
theorem dX5_init_9 : decode cX5_init 9 = .ok (.aload_n 0, 1) := by decide +kernel
theorem dX5_init_10 : decode cX5_init 10 = .ok (.iload_n 2, 1) := by decide +kernel
theorem dX5_init_11 : decode cX5_init 11 = .ok (.putfield 15, 3) := by decide +kernel
theorem dX5_init_14 : decode cX5_init 14 = .ok (.aload_n 0, 1) := by decide +kernel
theorem dX5_init_15 : decode cX5_init 15 = .ok (.iload_n 3, 1) := by decide +kernel
theorem dX5_init_16 : decode cX5_init 16 = .ok (.putfield 18, 3) := by decide +kernel
theorem dX5_init_19 : decode cX5_init 19 = .ok (.aload_n 0, 1) := by decide +kernel
theorem dX5_init_20 : decode cX5_init 20 = .ok (.iload 4, 2) := by decide +kernel
theorem dX5_init_22 : decode cX5_init 22 = .ok (.putfield 21, 3) := by decide +kernel
theorem dX5_init_25 : decode cX5_init 25 = .ok (.return_, 1) := by decide +kernel
theorem dX5_isOf_0 : decode cX5_isOf 0 = .ok (.aload_n 0, 1) := by decide +kernel
theorem dX5_isOf_1 : decode cX5_isOf 1 = .ok (.getfield 15, 3) := by decide +kernel
theorem dX5_isOf_4 : decode cX5_isOf 4 = .ok (.istore_n 2, 1) := by decide +kernel
theorem dX5_isOf_5 : decode cX5_isOf 5 = .ok (.iconst 0, 1) := by decide +kernel
theorem dX5_isOf_6 : decode cX5_isOf 6 = .ok (.istore_n 3, 1) := by decide +kernel
theorem dX5_isOf_7 : decode cX5_isOf 7 = .ok (.iload_n 3, 1) := by decide +kernel
theorem dX5_isOf_8 : decode cX5_isOf 8 = .ok (.iconst 5, 1) := by decide +kernel
theorem dX5_isOf_9 : decode cX5_isOf 9 = .ok (.if_icmp .ge 24, 3) := by decide +kernel
theorem dX5_isOf_12 : decode cX5_isOf 12 = .ok (.iload_n 2, 1) := by decide +kernel
theorem dX5_isOf_13 : decode cX5_isOf 13 = .ok (.ifCond .le 20, 3) := by decide +kernel
theorem dX5_isOf_16 : decode cX5_isOf 16 = .ok (.iload_n 2, 1) := by decide +kernel
theorem dX5_isOf_17 : decode cX5_isOf 17 = .ok (.iload_n 1, 1) := by decide +kernel
theorem dX5_isOf_18 : decode cX5_isOf 18 = .ok (.if_icmp .eq 15, 3) := by decide +kernel
theorem dX5_isOf_21 : decode cX5_isOf 21 = .ok (.getstatic 24, 3) := by decide +kernel
theorem dX5_isOf_24 : decode cX5_isOf 24 = .ok (.iload_n 2, 1) := by decide +kernel
theorem dX5_isOf_25 : decode cX5_isOf 25 = .ok (.iaload, 1) := by decide +kernel
theorem dX5_isOf_26 : decode cX5_isOf 26 = .ok (.istore_n 2, 1) := by decide +kernel
theorem dX5_isOf_27 : decode cX5_isOf 27 = .ok (.iinc 3 1, 3) := by decide +kernel
theorem dX5_isOf_30 : decode cX5_isOf 30 = .ok (.goto (-23), 3) := by decide +kernel
theorem dX5_isOf_33 : decode cX5_isOf 33 = .ok (.iload_n 2, 1) := by decide +kernel
theorem dX5_isOf_34 : decode cX5_isOf 34 = .ok (.iload_n 1, 1) := by decide +kernel
theorem dX5_isOf_35 : decode cX5_isOf 35 = .ok (.if_icmp .ne 7, 3) := by decide +kernel
theorem dX5_isOf_38 : decode cX5_isOf 38 = .ok (.iconst 1, 1) := by decide +kernel
theorem dX5_isOf_39 : decode cX5_isOf 39 = .ok (.goto 4, 3) := by decide +kernel
theorem dX5_isOf_42 : decode cX5_isOf 42 = .ok (.iconst 0, 1) := by decide +kernel
theorem dX5_isOf_43 : decode cX5_isOf 43 = .ok (.ireturn, 1) := by decide +kernel
theorem dX6_init_0 : decode cX6_init 0 = .ok (.aload_n 0, 1) := by decide +kernel
theorem dX6_init_1 : decode cX6_init 1 = .ok (.invokespecial 3, 3) := by decide +kernel
theorem dX6_init_4 : decode cX6_init 4 = .ok (.aload_n 0, 1) := by decide +kernel
theorem dX6_init_5 : decode cX6_init 5 = .ok (.bipush 40, 2) := by decide +kernel
theorem dX6_init_7 : decode cX6_init 7 = .ok (.newarray .int, 2) := by decide +kernel
theorem dX6_init_9 : decode cX6_init 9 = .ok (.putfield 9, 3) := by decide +kernel
theorem dX6_init_12 : decode cX6_init 12 = .ok (.aload_n 0, 1) := by decide +kernel
theorem dX6_init_13 : decode cX6_init 13 = .ok (.bipush 40, 2) := by decide +kernel
theorem dX6_init_15 : decode cX6_init 15 = .ok (.newarray .int, 2) := by decide +kernel
theorem dX6_init_17 : decode cX6_init 17 = .ok (.putfield 15, 3) := by decide +kernel
theorem dX6_init_20 : decode cX6_init 20 = .ok (.aload_n 0, 1) := by decide +kernel
theorem dX6_init_21 : decode cX6_init 21 = .ok (.bipush 40, 2) := by decide +kernel
theorem dX6_init_23 : decode cX6_init 23 = .ok (.newarray .int, 2) := by decide +kernel
theorem dX6_init_25 : decode cX6_init 25 = .ok (.putfield 18, 3) := by decide +kernel
theorem dX6_init_28 : decode cX6_init 28 = .ok (.aload_n 0, 1) := by decide +kernel
theorem dX6_init_29 : decode cX6_init 29 = .ok (.iconst 0, 1) := by decide +kernel
theorem dX6_init_30 : decode cX6_init 30 = .ok (.putfield 21, 3) := by decide +kernel
theorem dX6_init_33 : decode cX6_init 33 = .ok (.aload_n 0, 1) := by decide +kernel
theorem dX6_init_34 : decode cX6_init 34 = .ok (.bipush 72, 2) := by decide +kernel
theorem dX6_init_36 : decode cX6_init 36 = .ok (.newarray .int, 2) := by decide +kernel
theorem dX6_init_38 : decode cX6_init 38 = .ok (.putfield 25, 3) := by decide +kernel
theorem dX6_init_41 : decode cX6_init 41 = .ok (.aload_n 0, 1) := by decide +kernel
theorem dX6_init_42 : decode cX6_init 42 = .ok (.bipush 9, 2) := by decide +kernel
theorem dX6_init_44 : decode cX6_init 44 = .ok (.newarray .int, 2) := by decide +kernel
theorem dX6_init_46 : decode cX6_init 46 = .ok (.putfield 28, 3) := by decide +kernel
theorem dX6_init_49 : decode cX6_init 49 = .ok (.aload_n 0, 1) := by decide +kernel
theorem dX6_init_50 : decode cX6_init 50 = .ok (.iconst 0, 1) := by decide +kernel
theorem dX6_init_51 : decode cX6_init 51 = .ok (.putfield 31, 3) := by decide +kernel
theorem dX6_init_54 : decode cX6_init 54 = .ok (.return_, 1) := by decide +kernel
theorem dX6_tell_0 : decode cX6_tell 0 = .ok (.aload_n 0, 1) := by decide +kernel
theorem dX6_tell_1 : decode cX6_tell 1 = .ok (.getfield 21, 3) := by decide +kernel
theorem dX6_tell_4 : decode cX6_tell 4 = .ok (.bipush 40, 2) := by decide +kernel
theorem dX6_tell_6 : decode cX6_tell 6 = .ok (.if_icmp .lt 5, 3) := by decide +kernel
theorem dX6_tell_9 : decode cX6_tell 9 = .ok (.iconst 0, 1) := by decide +kernel
theorem dX6_tell_10 : decode cX6_tell 10 = .ok (.ireturn, 1) := by decide +kernel
theorem dX6_tell_11 : decode cX6_tell 11 = .ok (.aload_n 0, 1) := by decide +kernel
theorem dX6_tell_12 : decode cX6_tell 12 = .ok (.getfield 9, 3) := by decide +kernel
theorem dX6_tell_15 : decode cX6_tell 15 = .ok (.aload_n 0, 1) := by decide +kernel
theorem dX6_tell_16 : decode cX6_tell 16 = .ok (.getfield 21, 3) := by decide +kernel
theorem dX6_tell_19 : decode cX6_tell 19 = .ok (.iload_n 1, 1) := by decide +kernel
theorem dX6_tell_20 : decode cX6_tell 20 = .ok (.iastore, 1) := by decide +kernel
theorem dX6_tell_21 : decode cX6_tell 21 = .ok (.aload_n 0, 1) := by decide +kernel
theorem dX6_tell_22 : decode cX6_tell 22 = .ok (.getfield 15, 3) := by decide +kernel
theorem dX6_tell_25 : decode cX6_tell 25 = .ok (.aload_n 0, 1) := by decide +kernel
theorem dX6_tell_26 : decode cX6_tell 26 = .ok (.getfield 21, 3) := by decide +kernel
theorem dX6_tell_29 : decode cX6_tell 29 = .ok (.iload_n 2, 1) := by decide +kernel
theorem dX6_tell_30 : decode cX6_tell 30 = .ok (.iastore, 1) := by decide +kernel
theorem dX6_tell_31 : decode cX6_tell 31 = .ok (.aload_n 0, 1) := by decide +kernel
theorem dX6_tell_32 : decode cX6_tell 32 = .ok (.getfield 18, 3) := by decide +kernel
theorem dX6_tell_35 : decode cX6_tell 35 = .ok (.aload_n 0, 1) := by decide +kernel
theorem dX6_tell_36 : decode cX6_tell 36 = .ok (.getfield 21, 3) := by decide +kernel
theorem dX6_tell_39 : decode cX6_tell 39 = .ok (.iload_n 3, 1) := by decide +kernel
theorem dX6_tell_40 : decode cX6_tell 40 = .ok (.iastore, 1) := by decide +kernel
theorem dX6_tell_41 : decode cX6_tell 41 = .ok (.aload_n 0, 1) := by decide +kernel
theorem dX6_tell_42 : decode cX6_tell 42 = .ok (.dup, 1) := by decide +kernel
theorem dX6_tell_43 : decode cX6_tell 43 = .ok (.getfield 21, 3) := by decide +kernel
theorem dX6_tell_46 : decode cX6_tell 46 = .ok (.iconst 1, 1) := by decide +kernel
theorem dX6_tell_47 : decode cX6_tell 47 = .ok (.iadd, 1) := by decide +kernel
theorem dX6_tell_48 : decode cX6_tell 48 = .ok (.putfield 21, 3) := by decide +kernel
theorem dX6_tell_51 : decode cX6_tell 51 = .ok (.iconst 1, 1) := by decide +kernel
theorem dX6_tell_52 : decode cX6_tell 52 = .ok (.ireturn, 1) := by decide +kernel
theorem dX6_wrongOn_0 : decode cX6_wrongOn 0 = .ok (.iconst 0, 1) := by decide +kernel
theorem dX6_wrongOn_1 : decode cX6_wrongOn 1 = .ok (.istore_n 2, 1) := by decide +kernel
theorem dX6_wrongOn_2 : decode cX6_wrongOn 2 = .ok (.iconst 0, 1) := by decide +kernel
theorem dX6_wrongOn_3 : decode cX6_wrongOn 3 = .ok (.istore_n 3, 1) := by decide +kernel
theorem dX6_wrongOn_4 : decode cX6_wrongOn 4 = .ok (.iload_n 3, 1) := by decide +kernel
theorem dX6_wrongOn_5 : decode cX6_wrongOn 5 = .ok (.aload_n 0, 1) := by decide +kernel
theorem dX6_wrongOn_6 : decode cX6_wrongOn 6 = .ok (.getfield 21, 3) := by decide +kernel
theorem dX6_wrongOn_9 : decode cX6_wrongOn 9 = .ok (.if_icmp .ge 56, 3) := by decide +kernel
theorem dX6_wrongOn_12 : decode cX6_wrongOn 12 = .ok (.aload_n 1, 1) := by decide +kernel
theorem dX6_wrongOn_13 : decode cX6_wrongOn 13 = .ok (.aload_n 0, 1) := by decide +kernel
theorem dX6_wrongOn_14 : decode cX6_wrongOn 14 = .ok (.getfield 9, 3) := by decide +kernel
theorem dX6_wrongOn_17 : decode cX6_wrongOn 17 = .ok (.iload_n 3, 1) := by decide +kernel
theorem dX6_wrongOn_18 : decode cX6_wrongOn 18 = .ok (.iaload, 1) := by decide +kernel
theorem dX6_wrongOn_19 : decode cX6_wrongOn 19 = .ok (.aload_n 0, 1) := by decide +kernel
theorem dX6_wrongOn_20 : decode cX6_wrongOn 20 = .ok (.getfield 15, 3) := by decide +kernel
theorem dX6_wrongOn_23 : decode cX6_wrongOn 23 = .ok (.iload_n 3, 1) := by decide +kernel
theorem dX6_wrongOn_24 : decode cX6_wrongOn 24 = .ok (.iaload, 1) := by decide +kernel
theorem dX6_wrongOn_25 : decode cX6_wrongOn 25 = .ok (.invokevirtual 34, 3) := by decide +kernel
theorem dX6_wrongOn_28 : decode cX6_wrongOn 28 = .ok (.ifCond .eq 28, 3) := by decide +kernel
theorem dX6_wrongOn_31 : decode cX6_wrongOn 31 = .ok (.aload_n 1, 1) := by decide +kernel
theorem dX6_wrongOn_32 : decode cX6_wrongOn 32 = .ok (.aload_n 0, 1) := by decide +kernel
theorem dX6_wrongOn_33 : decode cX6_wrongOn 33 = .ok (.getfield 9, 3) := by decide +kernel
theorem dX6_wrongOn_36 : decode cX6_wrongOn 36 = .ok (.iload_n 3, 1) := by decide +kernel
theorem dX6_wrongOn_37 : decode cX6_wrongOn 37 = .ok (.iaload, 1) := by decide +kernel
theorem dX6_wrongOn_38 : decode cX6_wrongOn 38 = .ok (.aload_n 0, 1) := by decide +kernel
theorem dX6_wrongOn_39 : decode cX6_wrongOn 39 = .ok (.getfield 15, 3) := by decide +kernel
theorem dX6_wrongOn_42 : decode cX6_wrongOn 42 = .ok (.iload_n 3, 1) := by decide +kernel
theorem dX6_wrongOn_43 : decode cX6_wrongOn 43 = .ok (.iaload, 1) := by decide +kernel
theorem dX6_wrongOn_44 : decode cX6_wrongOn 44 = .ok (.invokevirtual 40, 3) := by decide +kernel
theorem dX6_wrongOn_47 : decode cX6_wrongOn 47 = .ok (.aload_n 0, 1) := by decide +kernel
theorem dX6_wrongOn_48 : decode cX6_wrongOn 48 = .ok (.getfield 18, 3) := by decide +kernel
theorem dX6_wrongOn_51 : decode cX6_wrongOn 51 = .ok (.iload_n 3, 1) := by decide +kernel
theorem dX6_wrongOn_52 : decode cX6_wrongOn 52 = .ok (.iaload, 1) := by decide +kernel
theorem dX6_wrongOn_53 : decode cX6_wrongOn 53 = .ok (.if_icmp .eq 6, 3) := by decide +kernel
theorem dX6_wrongOn_56 : decode cX6_wrongOn 56 = .ok (.iinc 2 1, 3) := by decide +kernel
theorem dX6_wrongOn_59 : decode cX6_wrongOn 59 = .ok (.iinc 3 1, 3) := by decide +kernel
theorem dX6_wrongOn_62 : decode cX6_wrongOn 62 = .ok (.goto (-58), 3) := by decide +kernel
theorem dX6_wrongOn_65 : decode cX6_wrongOn 65 = .ok (.iload_n 2, 1) := by decide +kernel
theorem dX6_wrongOn_66 : decode cX6_wrongOn 66 = .ok (.ireturn, 1) := by decide +kernel
theorem dX6_choose_0 : decode cX6_choose 0 = .ok (.aload_n 0, 1) := by decide +kernel
theorem dX6_choose_1 : decode cX6_choose 1 = .ok (.getfield 25, 3) := by decide +kernel
theorem dX6_choose_4 : decode cX6_choose 4 = .ok (.iconst 0, 1) := by decide +kernel
theorem dX6_choose_5 : decode cX6_choose 5 = .ok (.invokestatic 44, 3) := by decide +kernel
theorem dX6_choose_8 : decode cX6_choose 8 = .ok (.iconst 0, 1) := by decide +kernel
theorem dX6_choose_9 : decode cX6_choose 9 = .ok (.istore_n 3, 1) := by decide +kernel
theorem dX6_choose_10 : decode cX6_choose 10 = .ok (.iload_n 3, 1) := by decide +kernel
theorem dX6_choose_11 : decode cX6_choose 11 = .ok (.aload_n 0, 1) := by decide +kernel
theorem dX6_choose_12 : decode cX6_choose 12 = .ok (.getfield 21, 3) := by decide +kernel
theorem dX6_choose_15 : decode cX6_choose 15 = .ok (.if_icmp .ge 63, 3) := by decide +kernel
theorem dX6_choose_18 : decode cX6_choose 18 = .ok (.aload_n 1, 1) := by decide +kernel
theorem dX6_choose_19 : decode cX6_choose 19 = .ok (.aload_n 0, 1) := by decide +kernel
theorem dX6_choose_20 : decode cX6_choose 20 = .ok (.getfield 9, 3) := by decide +kernel
theorem dX6_choose_23 : decode cX6_choose 23 = .ok (.iload_n 3, 1) := by decide +kernel
theorem dX6_choose_24 : decode cX6_choose 24 = .ok (.iaload, 1) := by decide +kernel
theorem dX6_choose_25 : decode cX6_choose 25 = .ok (.aload_n 0, 1) := by decide +kernel
theorem dX6_choose_26 : decode cX6_choose 26 = .ok (.getfield 15, 3) := by decide +kernel
theorem dX6_choose_29 : decode cX6_choose 29 = .ok (.iload_n 3, 1) := by decide +kernel
theorem dX6_choose_30 : decode cX6_choose 30 = .ok (.iaload, 1) := by decide +kernel
theorem dX6_choose_31 : decode cX6_choose 31 = .ok (.invokevirtual 34, 3) := by decide +kernel
theorem dX6_choose_34 : decode cX6_choose 34 = .ok (.ifCond .eq 38, 3) := by decide +kernel
theorem dX6_choose_37 : decode cX6_choose 37 = .ok (.aload_n 0, 1) := by decide +kernel
theorem dX6_choose_38 : decode cX6_choose 38 = .ok (.getfield 25, 3) := by decide +kernel
theorem dX6_choose_41 : decode cX6_choose 41 = .ok (.bipush 8, 2) := by decide +kernel
theorem dX6_choose_43 : decode cX6_choose 43 = .ok (.aload_n 1, 1) := by decide +kernel
theorem dX6_choose_44 : decode cX6_choose 44 = .ok (.aload_n 0, 1) := by decide +kernel
theorem dX6_choose_45 : decode cX6_choose 45 = .ok (.getfield 9, 3) := by decide +kernel
theorem dX6_choose_48 : decode cX6_choose 48 = .ok (.iload_n 3, 1) := by decide +kernel
theorem dX6_choose_49 : decode cX6_choose 49 = .ok (.iaload, 1) := by decide +kernel
theorem dX6_choose_50 : decode cX6_choose 50 = .ok (.aload_n 0, 1) := by decide +kernel
theorem dX6_choose_51 : decode cX6_choose 51 = .ok (.getfield 15, 3) := by decide +kernel
theorem dX6_choose_54 : decode cX6_choose 54 = .ok (.iload_n 3, 1) := by decide +kernel
theorem dX6_choose_55 : decode cX6_choose 55 = .ok (.iaload, 1) := by decide +kernel
theorem dX6_choose_56 : decode cX6_choose 56 = .ok (.invokevirtual 50, 3) := by decide +kernel
theorem dX6_choose_59 : decode cX6_choose 59 = .ok (.imul, 1) := by decide +kernel
theorem dX6_choose_60 : decode cX6_choose 60 = .ok (.aload_n 0, 1) := by decide +kernel
theorem dX6_choose_61 : decode cX6_choose 61 = .ok (.getfield 18, 3) := by decide +kernel
theorem dX6_choose_64 : decode cX6_choose 64 = .ok (.iload_n 3, 1) := by decide +kernel
theorem dX6_choose_65 : decode cX6_choose 65 = .ok (.iaload, 1) := by decide +kernel
theorem dX6_choose_66 : decode cX6_choose 66 = .ok (.iadd, 1) := by decide +kernel
theorem dX6_choose_67 : decode cX6_choose 67 = .ok (.dup2, 1) := by decide +kernel
theorem dX6_choose_68 : decode cX6_choose 68 = .ok (.iaload, 1) := by decide +kernel
theorem dX6_choose_69 : decode cX6_choose 69 = .ok (.iconst 1, 1) := by decide +kernel
theorem dX6_choose_70 : decode cX6_choose 70 = .ok (.iadd, 1) := by decide +kernel
theorem dX6_choose_71 : decode cX6_choose 71 = .ok (.iastore, 1) := by decide +kernel
theorem dX6_choose_72 : decode cX6_choose 72 = .ok (.iinc 3 1, 3) := by decide +kernel
theorem dX6_choose_75 : decode cX6_choose 75 = .ok (.goto (-65), 3) := by decide +kernel
theorem dX6_choose_78 : decode cX6_choose 78 = .ok (.aload_n 0, 1) := by decide +kernel
theorem dX6_choose_79 : decode cX6_choose 79 = .ok (.aload_n 0, 1) := by decide +kernel
theorem dX6_choose_80 : decode cX6_choose 80 = .ok (.getfield 21, 3) := by decide +kernel
theorem dX6_choose_83 : decode cX6_choose 83 = .ok (.putfield 31, 3) := by decide +kernel
theorem dX6_choose_86 : decode cX6_choose 86 = .ok (.iconst 0, 1) := by decide +kernel
theorem dX6_choose_87 : decode cX6_choose 87 = .ok (.istore_n 3, 1) := by decide +kernel
theorem dX6_choose_88 : decode cX6_choose 88 = .ok (.iload_n 3, 1) := by decide +kernel
theorem dX6_choose_89 : decode cX6_choose 89 = .ok (.aload_n 1, 1) := by decide +kernel
theorem dX6_choose_90 : decode cX6_choose 90 = .ok (.getfield 53, 3) := by decide +kernel
theorem dX6_choose_93 : decode cX6_choose 93 = .ok (.if_icmp .ge 46, 3) := by decide +kernel
theorem dX6_choose_96 : decode cX6_choose 96 = .ok (.aload_n 0, 1) := by decide +kernel
theorem dX6_choose_97 : decode cX6_choose 97 = .ok (.getfield 28, 3) := by decide +kernel
theorem dX6_choose_100 : decode cX6_choose 100 = .ok (.iload_n 3, 1) := by decide +kernel
theorem dX6_choose_101 : decode cX6_choose 101 = .ok (.aload_n 0, 1) := by decide +kernel
theorem dX6_choose_102 : decode cX6_choose 102 = .ok (.iload_n 3, 1) := by decide +kernel
theorem dX6_choose_103 : decode cX6_choose 103 = .ok (.iload_n 2, 1) := by decide +kernel
theorem dX6_choose_104 : decode cX6_choose 104 = .ok (.invokevirtual 56, 3) := by decide +kernel
theorem dX6_choose_107 : decode cX6_choose 107 = .ok (.iastore, 1) := by decide +kernel
theorem dX6_choose_108 : decode cX6_choose 108 = .ok (.aload_n 0, 1) := by decide +kernel
theorem dX6_choose_109 : decode cX6_choose 109 = .ok (.dup, 1) := by decide +kernel
theorem dX6_choose_110 : decode cX6_choose 110 = .ok (.getfield 31, 3) := by decide +kernel
theorem dX6_choose_113 : decode cX6_choose 113 = .ok (.aload_n 0, 1) := by decide +kernel
theorem dX6_choose_114 : decode cX6_choose 114 = .ok (.getfield 25, 3) := by decide +kernel
theorem dX6_choose_117 : decode cX6_choose 117 = .ok (.bipush 8, 2) := by decide +kernel
theorem dX6_choose_119 : decode cX6_choose 119 = .ok (.iload_n 3, 1) := by decide +kernel
theorem dX6_choose_120 : decode cX6_choose 120 = .ok (.imul, 1) := by decide +kernel
theorem dX6_choose_121 : decode cX6_choose 121 = .ok (.aload_n 0, 1) := by decide +kernel
theorem dX6_choose_122 : decode cX6_choose 122 = .ok (.getfield 28, 3) := by decide +kernel
theorem dX6_choose_125 : decode cX6_choose 125 = .ok (.iload_n 3, 1) := by decide +kernel
theorem dX6_choose_126 : decode cX6_choose 126 = .ok (.iaload, 1) := by decide +kernel
theorem dX6_choose_127 : decode cX6_choose 127 = .ok (.iadd, 1) := by decide +kernel
theorem dX6_choose_128 : decode cX6_choose 128 = .ok (.iaload, 1) := by decide +kernel
theorem dX6_choose_129 : decode cX6_choose 129 = .ok (.isub, 1) := by decide +kernel
theorem dX6_choose_130 : decode cX6_choose 130 = .ok (.putfield 31, 3) := by decide +kernel
theorem dX6_choose_133 : decode cX6_choose 133 = .ok (.iinc 3 1, 3) := by decide +kernel
theorem dX6_choose_136 : decode cX6_choose 136 = .ok (.goto (-48), 3) := by decide +kernel
theorem dX6_choose_139 : decode cX6_choose 139 = .ok (.return_, 1) := by decide +kernel
theorem dX6_mostAsked_0 : decode cX6_mostAsked 0 = .ok (.iconst 0, 1) := by decide +kernel
theorem dX6_mostAsked_1 : decode cX6_mostAsked 1 = .ok (.istore_n 3, 1) := by decide +kernel
theorem dX6_mostAsked_2 : decode cX6_mostAsked 2 = .ok (.iconst 1, 1) := by decide +kernel
theorem dX6_mostAsked_3 : decode cX6_mostAsked 3 = .ok (.istore 4, 2) := by decide +kernel
theorem dX6_mostAsked_5 : decode cX6_mostAsked 5 = .ok (.iload 4, 2) := by decide +kernel
theorem dX6_mostAsked_7 : decode cX6_mostAsked 7 = .ok (.iload_n 2, 1) := by decide +kernel
theorem dX6_mostAsked_8 : decode cX6_mostAsked 8 = .ok (.if_icmp .ge 38, 3) := by decide +kernel
theorem dX6_mostAsked_11 : decode cX6_mostAsked 11 = .ok (.aload_n 0, 1) := by decide +kernel
theorem dX6_mostAsked_12 : decode cX6_mostAsked 12 = .ok (.getfield 25, 3) := by decide +kernel
theorem dX6_mostAsked_15 : decode cX6_mostAsked 15 = .ok (.bipush 8, 2) := by decide +kernel
theorem dX6_mostAsked_17 : decode cX6_mostAsked 17 = .ok (.iload_n 1, 1) := by decide +kernel
theorem dX6_mostAsked_18 : decode cX6_mostAsked 18 = .ok (.imul, 1) := by decide +kernel
theorem dX6_mostAsked_19 : decode cX6_mostAsked 19 = .ok (.iload 4, 2) := by decide +kernel
theorem dX6_mostAsked_21 : decode cX6_mostAsked 21 = .ok (.iadd, 1) := by decide +kernel
theorem dX6_mostAsked_22 : decode cX6_mostAsked 22 = .ok (.iaload, 1) := by decide +kernel
theorem dX6_mostAsked_23 : decode cX6_mostAsked 23 = .ok (.aload_n 0, 1) := by decide +kernel
theorem dX6_mostAsked_24 : decode cX6_mostAsked 24 = .ok (.getfield 25, 3) := by decide +kernel
theorem dX6_mostAsked_27 : decode cX6_mostAsked 27 = .ok (.bipush 8, 2) := by decide +kernel
theorem dX6_mostAsked_29 : decode cX6_mostAsked 29 = .ok (.iload_n 1, 1) := by decide +kernel
theorem dX6_mostAsked_30 : decode cX6_mostAsked 30 = .ok (.imul, 1) := by decide +kernel
theorem dX6_mostAsked_31 : decode cX6_mostAsked 31 = .ok (.iload_n 3, 1) := by decide +kernel
theorem dX6_mostAsked_32 : decode cX6_mostAsked 32 = .ok (.iadd, 1) := by decide +kernel
theorem dX6_mostAsked_33 : decode cX6_mostAsked 33 = .ok (.iaload, 1) := by decide +kernel
theorem dX6_mostAsked_34 : decode cX6_mostAsked 34 = .ok (.if_icmp .le 6, 3) := by decide +kernel
theorem dX6_mostAsked_37 : decode cX6_mostAsked 37 = .ok (.iload 4, 2) := by decide +kernel
theorem dX6_mostAsked_39 : decode cX6_mostAsked 39 = .ok (.istore_n 3, 1) := by decide +kernel
theorem dX6_mostAsked_40 : decode cX6_mostAsked 40 = .ok (.iinc 4 1, 3) := by decide +kernel
theorem dX6_mostAsked_43 : decode cX6_mostAsked 43 = .ok (.goto (-38), 3) := by decide +kernel
theorem dX6_mostAsked_46 : decode cX6_mostAsked 46 = .ok (.iload_n 3, 1) := by decide +kernel
theorem dX6_mostAsked_47 : decode cX6_mostAsked 47 = .ok (.ireturn, 1) := by decide +kernel
theorem dX7_init_0 : decode cX7_init 0 = .ok (.aload_n 0, 1) := by decide +kernel
theorem dX7_init_1 : decode cX7_init 1 = .ok (.invokespecial 3, 3) := by decide +kernel
theorem dX7_init_4 : decode cX7_init 4 = .ok (.aload_n 0, 1) := by decide +kernel
theorem dX7_init_5 : decode cX7_init 5 = .ok (.bipush 10, 2) := by decide +kernel
theorem dX7_init_7 : decode cX7_init 7 = .ok (.anewarray 9, 3) := by decide +kernel
theorem dX7_init_10 : decode cX7_init 10 = .ok (.putfield 11, 3) := by decide +kernel
theorem dX7_init_13 : decode cX7_init 13 = .ok (.aload_n 0, 1) := by decide +kernel
theorem dX7_init_14 : decode cX7_init 14 = .ok (.iconst 0, 1) := by decide +kernel
theorem dX7_init_15 : decode cX7_init 15 = .ok (.putfield 17, 3) := by decide +kernel
theorem dX7_init_18 : decode cX7_init 18 = .ok (.aload_n 0, 1) := by decide +kernel
theorem dX7_init_19 : decode cX7_init 19 = .ok (.bipush 80, 2) := by decide +kernel
theorem dX7_init_21 : decode cX7_init 21 = .ok (.newarray .int, 2) := by decide +kernel
theorem dX7_init_23 : decode cX7_init 23 = .ok (.putfield 21, 3) := by decide +kernel
theorem dX7_init_26 : decode cX7_init 26 = .ok (.aload_n 0, 1) := by decide +kernel
theorem dX7_init_27 : decode cX7_init 27 = .ok (.iconst 0, 1) := by decide +kernel
theorem dX7_init_28 : decode cX7_init 28 = .ok (.putfield 25, 3) := by decide +kernel
theorem dX7_init_31 : decode cX7_init 31 = .ok (.aload_n 0, 1) := by decide +kernel
theorem dX7_init_32 : decode cX7_init 32 = .ok (.new 9, 3) := by decide +kernel
theorem dX7_init_35 : decode cX7_init 35 = .ok (.dup, 1) := by decide +kernel
theorem dX7_init_36 : decode cX7_init 36 = .ok (.sipush 300, 3) := by decide +kernel
theorem dX7_init_39 : decode cX7_init 39 = .ok (.invokespecial 28, 3) := by decide +kernel
theorem dX7_init_42 : decode cX7_init 42 = .ok (.putfield 31, 3) := by decide +kernel
theorem dX7_init_45 : decode cX7_init 45 = .ok (.aload_n 0, 1) := by decide +kernel
theorem dX7_init_46 : decode cX7_init 46 = .ok (.iconst 0, 1) := by decide +kernel
theorem dX7_init_47 : decode cX7_init 47 = .ok (.putfield 35, 3) := by decide +kernel
theorem dX7_init_50 : decode cX7_init 50 = .ok (.aload_n 0, 1) := by decide +kernel
theorem dX7_init_51 : decode cX7_init 51 = .ok (.iconst 4, 1) := by decide +kernel
theorem dX7_init_52 : decode cX7_init 52 = .ok (.newarray .int, 2) := by decide +kernel
theorem dX7_init_54 : decode cX7_init 54 = .ok (.putfield 39, 3) := by decide +kernel
theorem dX7_init_57 : decode cX7_init 57 = .ok (.aload_n 0, 1) := by decide +kernel
theorem dX7_init_58 : decode cX7_init 58 = .ok (.iconst 0, 1) := by decide +kernel
theorem dX7_init_59 : decode cX7_init 59 = .ok (.putfield 42, 3) := by decide +kernel
theorem dX7_init_62 : decode cX7_init 62 = .ok (.return_, 1) := by decide +kernel
theorem dX7_figureAt_0 : decode cX7_figureAt 0 = .ok (.iload_n 1, 1) := by decide +kernel
theorem dX7_figureAt_1 : decode cX7_figureAt 1 = .ok (.ifCond .lt 20, 3) := by decide +kernel
theorem dX7_figureAt_4 : decode cX7_figureAt 4 = .ok (.iload_n 1, 1) := by decide +kernel
theorem dX7_figureAt_5 : decode cX7_figureAt 5 = .ok (.aload_n 0, 1) := by decide +kernel
theorem dX7_figureAt_6 : decode cX7_figureAt 6 = .ok (.getfield 17, 3) := by decide +kernel
theorem dX7_figureAt_9 : decode cX7_figureAt 9 = .ok (.if_icmp .ge 12, 3) := by decide +kernel
theorem dX7_figureAt_12 : decode cX7_figureAt 12 = .ok (.aload_n 0, 1) := by decide +kernel
theorem dX7_figureAt_13 : decode cX7_figureAt 13 = .ok (.getfield 11, 3) := by decide +kernel
theorem dX7_figureAt_16 : decode cX7_figureAt 16 = .ok (.iload_n 1, 1) := by decide +kernel
theorem dX7_figureAt_17 : decode cX7_figureAt 17 = .ok (.aaload, 1) := by decide +kernel
theorem dX7_figureAt_18 : decode cX7_figureAt 18 = .ok (.goto 4, 3) := by decide +kernel
theorem dX7_figureAt_21 : decode cX7_figureAt 21 = .ok (.aconst_null, 1) := by decide +kernel
theorem dX7_figureAt_22 : decode cX7_figureAt 22 = .ok (.areturn, 1) := by decide +kernel
theorem dX7_keep_0 : decode cX7_keep 0 = .ok (.aload_n 0, 1) := by decide +kernel
theorem dX7_keep_1 : decode cX7_keep 1 = .ok (.getfield 17, 3) := by decide +kernel
theorem dX7_keep_4 : decode cX7_keep 4 = .ok (.bipush 10, 2) := by decide +kernel
theorem dX7_keep_6 : decode cX7_keep 6 = .ok (.if_icmp .lt 6, 3) := by decide +kernel
theorem dX7_keep_9 : decode cX7_keep 9 = .ok (.bipush (-4), 2) := by decide +kernel
theorem dX7_keep_11 : decode cX7_keep 11 = .ok (.ireturn, 1) := by decide +kernel
theorem dX7_keep_12 : decode cX7_keep 12 = .ok (.aload_n 0, 1) := by decide +kernel
theorem dX7_keep_13 : decode cX7_keep 13 = .ok (.getfield 17, 3) := by decide +kernel
theorem dX7_keep_16 : decode cX7_keep 16 = .ok (.istore_n 1, 1) := by decide +kernel
theorem dX7_keep_17 : decode cX7_keep 17 = .ok (.aload_n 0, 1) := by decide +kernel
theorem dX7_keep_18 : decode cX7_keep 18 = .ok (.getfield 11, 3) := by decide +kernel
theorem dX7_keep_21 : decode cX7_keep 21 = .ok (.iload_n 1, 1) := by decide +kernel
theorem dX7_keep_22 : decode cX7_keep 22 = .ok (.aload_n 0, 1) := by decide +kernel
theorem dX7_keep_23 : decode cX7_keep 23 = .ok (.getfield 31, 3) := by decide +kernel
theorem dX7_keep_26 : decode cX7_keep 26 = .ok (.invokevirtual 45, 3) := by decide +kernel
theorem dX7_keep_29 : decode cX7_keep 29 = .ok (.aastore, 1) := by decide +kernel
theorem dX7_keep_30 : decode cX7_keep 30 = .ok (.aload_n 0, 1) := by decide +kernel
theorem dX7_keep_31 : decode cX7_keep 31 = .ok (.dup, 1) := by decide +kernel
theorem dX7_keep_32 : decode cX7_keep 32 = .ok (.getfield 17, 3) := by decide +kernel
theorem dX7_keep_35 : decode cX7_keep 35 = .ok (.iconst 1, 1) := by decide +kernel
theorem dX7_keep_36 : decode cX7_keep 36 = .ok (.iadd, 1) := by decide +kernel
theorem dX7_keep_37 : decode cX7_keep 37 = .ok (.putfield 17, 3) := by decide +kernel
theorem dX7_keep_40 : decode cX7_keep 40 = .ok (.iload_n 1, 1) := by decide +kernel
theorem dX7_keep_41 : decode cX7_keep 41 = .ok (.ireturn, 1) := by decide +kernel
theorem dX7_take_0 : decode cX7_take 0 = .ok (.aload_n 0, 1) := by decide +kernel
theorem dX7_take_1 : decode cX7_take 1 = .ok (.getfield 25, 3) := by decide +kernel
theorem dX7_take_4 : decode cX7_take 4 = .ok (.iload_n 2, 1) := by decide +kernel
theorem dX7_take_5 : decode cX7_take 5 = .ok (.iadd, 1) := by decide +kernel
theorem dX7_take_6 : decode cX7_take 6 = .ok (.bipush 80, 2) := by decide +kernel
theorem dX7_take_8 : decode cX7_take 8 = .ok (.if_icmp .le 5, 3) := by decide +kernel
theorem dX7_take_11 : decode cX7_take 11 = .ok (.iconst 0, 1) := by decide +kernel
theorem dX7_take_12 : decode cX7_take 12 = .ok (.ireturn, 1) := by decide +kernel
theorem dX7_take_13 : decode cX7_take 13 = .ok (.iload_n 2, 1) := by decide +kernel
theorem dX7_take_14 : decode cX7_take 14 = .ok (.iconst 1, 1) := by decide +kernel
theorem dX7_take_15 : decode cX7_take 15 = .ok (.isub, 1) := by decide +kernel
theorem dX7_take_16 : decode cX7_take 16 = .ok (.istore_n 3, 1) := by decide +kernel
theorem dX7_take_17 : decode cX7_take 17 = .ok (.iload_n 3, 1) := by decide +kernel
theorem dX7_take_18 : decode cX7_take 18 = .ok (.ifCond .lt 38, 3) := by decide +kernel
theorem dX7_take_21 : decode cX7_take 21 = .ok (.aload_n 0, 1) := by decide +kernel
theorem dX7_take_22 : decode cX7_take 22 = .ok (.getfield 21, 3) := by decide +kernel
theorem dX7_take_25 : decode cX7_take 25 = .ok (.aload_n 0, 1) := by decide +kernel
theorem dX7_take_26 : decode cX7_take 26 = .ok (.getfield 25, 3) := by decide +kernel
theorem dX7_take_29 : decode cX7_take 29 = .ok (.iload_n 1, 1) := by decide +kernel
theorem dX7_take_30 : decode cX7_take 30 = .ok (.bipush 8, 2) := by decide +kernel
theorem dX7_take_32 : decode cX7_take 32 = .ok (.iload_n 3, 1) := by decide +kernel
theorem dX7_take_33 : decode cX7_take 33 = .ok (.imul, 1) := by decide +kernel
theorem dX7_take_34 : decode cX7_take 34 = .ok (.iushr, 1) := by decide +kernel
theorem dX7_take_35 : decode cX7_take 35 = .ok (.sipush 255, 3) := by decide +kernel
theorem dX7_take_38 : decode cX7_take 38 = .ok (.iand, 1) := by decide +kernel
theorem dX7_take_39 : decode cX7_take 39 = .ok (.iastore, 1) := by decide +kernel
theorem dX7_take_40 : decode cX7_take 40 = .ok (.aload_n 0, 1) := by decide +kernel
theorem dX7_take_41 : decode cX7_take 41 = .ok (.dup, 1) := by decide +kernel
theorem dX7_take_42 : decode cX7_take 42 = .ok (.getfield 25, 3) := by decide +kernel
theorem dX7_take_45 : decode cX7_take 45 = .ok (.iconst 1, 1) := by decide +kernel
theorem dX7_take_46 : decode cX7_take 46 = .ok (.iadd, 1) := by decide +kernel
theorem dX7_take_47 : decode cX7_take 47 = .ok (.putfield 25, 3) := by decide +kernel
theorem dX7_take_50 : decode cX7_take 50 = .ok (.iinc 3 (-1), 3) := by decide +kernel
theorem dX7_take_53 : decode cX7_take 53 = .ok (.goto (-36), 3) := by decide +kernel
theorem dX7_take_56 : decode cX7_take 56 = .ok (.iconst 1, 1) := by decide +kernel
theorem dX7_take_57 : decode cX7_take 57 = .ok (.ireturn, 1) := by decide +kernel
theorem dX7_parse_0 : decode cX7_parse 0 = .ok (.aload_n 0, 1) := by decide +kernel
theorem dX7_parse_1 : decode cX7_parse 1 = .ok (.getfield 31, 3) := by decide +kernel
theorem dX7_parse_4 : decode cX7_parse 4 = .ok (.invokevirtual 49, 3) := by decide +kernel
theorem dX7_parse_7 : decode cX7_parse 7 = .ok (.aload_n 0, 1) := by decide +kernel
theorem dX7_parse_8 : decode cX7_parse 8 = .ok (.iconst 0, 1) := by decide +kernel
theorem dX7_parse_9 : decode cX7_parse 9 = .ok (.putfield 35, 3) := by decide +kernel
theorem dX7_parse_12 : decode cX7_parse 12 = .ok (.aload_n 0, 1) := by decide +kernel
theorem dX7_parse_13 : decode cX7_parse 13 = .ok (.iconst 0, 1) := by decide +kernel
theorem dX7_parse_14 : decode cX7_parse 14 = .ok (.putfield 42, 3) := by decide +kernel
theorem dX7_parse_17 : decode cX7_parse 17 = .ok (.iconst 0, 1) := by decide +kernel
theorem dX7_parse_18 : decode cX7_parse 18 = .ok (.istore_n 1, 1) := by decide +kernel
theorem dX7_parse_19 : decode cX7_parse 19 = .ok (.iconst 0, 1) := by decide +kernel
theorem dX7_parse_20 : decode cX7_parse 20 = .ok (.istore_n 2, 1) := by decide +kernel
theorem dX7_parse_21 : decode cX7_parse 21 = .ok (.iload_n 2, 1) := by decide +kernel
theorem dX7_parse_22 : decode cX7_parse 22 = .ok (.aload_n 0, 1) := by decide +kernel
theorem dX7_parse_23 : decode cX7_parse 23 = .ok (.getfield 25, 3) := by decide +kernel
theorem dX7_parse_26 : decode cX7_parse 26 = .ok (.if_icmp .ge 86, 3) := by decide +kernel
theorem dX7_parse_29 : decode cX7_parse 29 = .ok (.aload_n 0, 1) := by decide +kernel
theorem dX7_parse_30 : decode cX7_parse 30 = .ok (.getfield 21, 3) := by decide +kernel
theorem dX7_parse_33 : decode cX7_parse 33 = .ok (.iload_n 2, 1) := by decide +kernel
theorem dX7_parse_34 : decode cX7_parse 34 = .ok (.iaload, 1) := by decide +kernel
theorem dX7_parse_35 : decode cX7_parse 35 = .ok (.istore_n 3, 1) := by decide +kernel
theorem dX7_parse_36 : decode cX7_parse 36 = .ok (.iload_n 3, 1) := by decide +kernel
theorem dX7_parse_37 : decode cX7_parse 37 = .ok (.bipush 40, 2) := by decide +kernel
theorem dX7_parse_39 : decode cX7_parse 39 = .ok (.if_icmp .ne 7, 3) := by decide +kernel
theorem dX7_parse_42 : decode cX7_parse 42 = .ok (.iconst 1, 1) := by decide +kernel
theorem dX7_parse_43 : decode cX7_parse 43 = .ok (.goto 4, 3) := by decide +kernel
theorem dX7_parse_46 : decode cX7_parse 46 = .ok (.iconst 0, 1) := by decide +kernel
theorem dX7_parse_47 : decode cX7_parse 47 = .ok (.istore 4, 2) := by decide +kernel
theorem dX7_parse_49 : decode cX7_parse 49 = .ok (.iload 4, 2) := by decide +kernel
theorem dX7_parse_51 : decode cX7_parse 51 = .ok (.ifCond .eq 10, 3) := by decide +kernel
theorem dX7_parse_54 : decode cX7_parse 54 = .ok (.aload_n 0, 1) := by decide +kernel
theorem dX7_parse_55 : decode cX7_parse 55 = .ok (.invokevirtual 52, 3) := by decide +kernel
theorem dX7_parse_58 : decode cX7_parse 58 = .ok (.goto 23, 3) := by decide +kernel
theorem dX7_parse_61 : decode cX7_parse 61 = .ok (.iload_n 3, 1) := by decide +kernel
theorem dX7_parse_62 : decode cX7_parse 62 = .ok (.bipush 41, 2) := by decide +kernel
theorem dX7_parse_64 : decode cX7_parse 64 = .ok (.if_icmp .ne 12, 3) := by decide +kernel
theorem dX7_parse_67 : decode cX7_parse 67 = .ok (.aload_n 0, 1) := by decide +kernel
theorem dX7_parse_68 : decode cX7_parse 68 = .ok (.iload_n 2, 1) := by decide +kernel
theorem dX7_parse_69 : decode cX7_parse 69 = .ok (.iload_n 1, 1) := by decide +kernel
theorem dX7_parse_70 : decode cX7_parse 70 = .ok (.invokevirtual 56, 3) := by decide +kernel
theorem dX7_parse_73 : decode cX7_parse 73 = .ok (.goto 8, 3) := by decide +kernel
theorem dX7_parse_76 : decode cX7_parse 76 = .ok (.aload_n 0, 1) := by decide +kernel
theorem dX7_parse_77 : decode cX7_parse 77 = .ok (.iload_n 2, 1) := by decide +kernel
theorem dX7_parse_78 : decode cX7_parse 78 = .ok (.invokevirtual 60, 3) := by decide +kernel
theorem dX7_parse_81 : decode cX7_parse 81 = .ok (.istore 5, 2) := by decide +kernel
theorem dX7_parse_83 : decode cX7_parse 83 = .ok (.iload 5, 2) := by decide +kernel
theorem dX7_parse_85 : decode cX7_parse 85 = .ok (.ifCond .gt 8, 3) := by decide +kernel
theorem dX7_parse_88 : decode cX7_parse 88 = .ok (.iload_n 2, 1) := by decide +kernel
theorem dX7_parse_89 : decode cX7_parse 89 = .ok (.iload 5, 2) := by decide +kernel
theorem dX7_parse_91 : decode cX7_parse 91 = .ok (.isub, 1) := by decide +kernel
theorem dX7_parse_92 : decode cX7_parse 92 = .ok (.ireturn, 1) := by decide +kernel
theorem dX7_parse_93 : decode cX7_parse 93 = .ok (.iload 4, 2) := by decide +kernel
theorem dX7_parse_95 : decode cX7_parse 95 = .ok (.ifCond .ne 7, 3) := by decide +kernel
theorem dX7_parse_98 : decode cX7_parse 98 = .ok (.iconst 1, 1) := by decide +kernel
theorem dX7_parse_99 : decode cX7_parse 99 = .ok (.goto 4, 3) := by decide +kernel
theorem dX7_parse_102 : decode cX7_parse 102 = .ok (.iconst 0, 1) := by decide +kernel
theorem dX7_parse_103 : decode cX7_parse 103 = .ok (.istore_n 1, 1) := by decide +kernel
theorem dX7_parse_104 : decode cX7_parse 104 = .ok (.iload_n 2, 1) := by decide +kernel
theorem dX7_parse_105 : decode cX7_parse 105 = .ok (.iload 5, 2) := by decide +kernel
theorem dX7_parse_107 : decode cX7_parse 107 = .ok (.iadd, 1) := by decide +kernel
theorem dX7_parse_108 : decode cX7_parse 108 = .ok (.istore_n 2, 1) := by decide +kernel
theorem dX7_parse_109 : decode cX7_parse 109 = .ok (.goto (-88), 3) := by decide +kernel
theorem dX7_parse_112 : decode cX7_parse 112 = .ok (.iload_n 1, 1) := by decide +kernel
theorem dX7_parse_113 : decode cX7_parse 113 = .ok (.ifCond .eq 14, 3) := by decide +kernel
theorem dX7_parse_116 : decode cX7_parse 116 = .ok (.aload_n 0, 1) := by decide +kernel
theorem dX7_parse_117 : decode cX7_parse 117 = .ok (.getfield 42, 3) := by decide +kernel
theorem dX7_parse_120 : decode cX7_parse 120 = .ok (.ifCond .ne 7, 3) := by decide +kernel
theorem dX7_parse_123 : decode cX7_parse 123 = .ok (.iconst (-1), 1) := by decide +kernel
theorem dX7_parse_124 : decode cX7_parse 124 = .ok (.goto 7, 3) := by decide +kernel
theorem dX7_parse_127 : decode cX7_parse 127 = .ok (.aload_n 0, 1) := by decide +kernel
theorem dX7_parse_128 : decode cX7_parse 128 = .ok (.getfield 25, 3) := by decide +kernel
theorem dX7_parse_131 : decode cX7_parse 131 = .ok (.ireturn, 1) := by decide +kernel
theorem dX7_open_0 : decode cX7_open 0 = .ok (.aload_n 0, 1) := by decide +kernel
theorem dX7_open_1 : decode cX7_open 1 = .ok (.getfield 42, 3) := by decide +kernel
theorem dX7_open_4 : decode cX7_open 4 = .ok (.iconst 4, 1) := by decide +kernel
theorem dX7_open_5 : decode cX7_open 5 = .ok (.if_icmp .lt 5, 3) := by decide +kernel
theorem dX7_open_8 : decode cX7_open 8 = .ok (.iconst 0, 1) := by decide +kernel
theorem dX7_open_9 : decode cX7_open 9 = .ok (.ireturn, 1) := by decide +kernel
theorem dX7_open_10 : decode cX7_open 10 = .ok (.aload_n 0, 1) := by decide +kernel
theorem dX7_open_11 : decode cX7_open 11 = .ok (.getfield 39, 3) := by decide +kernel
theorem dX7_open_14 : decode cX7_open 14 = .ok (.aload_n 0, 1) := by decide +kernel
theorem dX7_open_15 : decode cX7_open 15 = .ok (.getfield 42, 3) := by decide +kernel
theorem dX7_open_18 : decode cX7_open 18 = .ok (.aload_n 0, 1) := by decide +kernel
theorem dX7_open_19 : decode cX7_open 19 = .ok (.getfield 31, 3) := by decide +kernel
theorem dX7_open_22 : decode cX7_open 22 = .ok (.getfield 64, 3) := by decide +kernel
theorem dX7_open_25 : decode cX7_open 25 = .ok (.iastore, 1) := by decide +kernel
theorem dX7_open_26 : decode cX7_open 26 = .ok (.aload_n 0, 1) := by decide +kernel
theorem dX7_open_27 : decode cX7_open 27 = .ok (.dup, 1) := by decide +kernel
theorem dX7_open_28 : decode cX7_open 28 = .ok (.getfield 42, 3) := by decide +kernel
theorem dX7_open_31 : decode cX7_open 31 = .ok (.iconst 1, 1) := by decide +kernel
theorem dX7_open_32 : decode cX7_open 32 = .ok (.iadd, 1) := by decide +kernel
theorem dX7_open_33 : decode cX7_open 33 = .ok (.putfield 42, 3) := by decide +kernel
theorem dX7_open_36 : decode cX7_open 36 = .ok (.iconst 1, 1) := by decide +kernel
theorem dX7_open_37 : decode cX7_open 37 = .ok (.ireturn, 1) := by decide +kernel
theorem dX7_close_0 : decode cX7_close 0 = .ok (.aload_n 0, 1) := by decide +kernel
theorem dX7_close_1 : decode cX7_close 1 = .ok (.getfield 42, 3) := by decide +kernel
theorem dX7_close_4 : decode cX7_close 4 = .ok (.ifCond .eq 7, 3) := by decide +kernel
theorem dX7_close_7 : decode cX7_close 7 = .ok (.iload_n 2, 1) := by decide +kernel
theorem dX7_close_8 : decode cX7_close 8 = .ok (.ifCond .ne 5, 3) := by decide +kernel
theorem dX7_close_11 : decode cX7_close 11 = .ok (.iconst 0, 1) := by decide +kernel
theorem dX7_close_12 : decode cX7_close 12 = .ok (.ireturn, 1) := by decide +kernel
theorem dX7_close_13 : decode cX7_close 13 = .ok (.aload_n 0, 1) := by decide +kernel
theorem dX7_close_14 : decode cX7_close 14 = .ok (.iload_n 1, 1) := by decide +kernel
theorem dX7_close_15 : decode cX7_close 15 = .ok (.iconst 1, 1) := by decide +kernel
theorem dX7_close_16 : decode cX7_close 16 = .ok (.iadd, 1) := by decide +kernel
theorem dX7_close_17 : decode cX7_close 17 = .ok (.invokevirtual 67, 3) := by decide +kernel
theorem dX7_close_20 : decode cX7_close 20 = .ok (.istore_n 3, 1) := by decide +kernel
theorem dX7_close_21 : decode cX7_close 21 = .ok (.iload_n 3, 1) := by decide +kernel
theorem dX7_close_22 : decode cX7_close 22 = .ok (.bipush 45, 2) := by decide +kernel
theorem dX7_close_24 : decode cX7_close 24 = .ok (.if_icmp .eq 17, 3) := by decide +kernel
theorem dX7_close_27 : decode cX7_close 27 = .ok (.iload_n 3, 1) := by decide +kernel
theorem dX7_close_28 : decode cX7_close 28 = .ok (.bipush 50, 2) := by decide +kernel
theorem dX7_close_30 : decode cX7_close 30 = .ok (.if_icmp .lt 9, 3) := by decide +kernel
theorem dX7_close_33 : decode cX7_close 33 = .ok (.iload_n 3, 1) := by decide +kernel
theorem dX7_close_34 : decode cX7_close 34 = .ok (.bipush 57, 2) := by decide +kernel
theorem dX7_close_36 : decode cX7_close 36 = .ok (.if_icmp .le 5, 3) := by decide +kernel
theorem dX7_close_39 : decode cX7_close 39 = .ok (.iconst (-1), 1) := by decide +kernel
theorem dX7_close_40 : decode cX7_close 40 = .ok (.ireturn, 1) := by decide +kernel
theorem dX7_close_41 : decode cX7_close 41 = .ok (.aload_n 0, 1) := by decide +kernel
theorem dX7_close_42 : decode cX7_close 42 = .ok (.dup, 1) := by decide +kernel
theorem dX7_close_43 : decode cX7_close 43 = .ok (.getfield 42, 3) := by decide +kernel
theorem dX7_close_46 : decode cX7_close 46 = .ok (.iconst 1, 1) := by decide +kernel
theorem dX7_close_47 : decode cX7_close 47 = .ok (.isub, 1) := by decide +kernel
theorem dX7_close_48 : decode cX7_close 48 = .ok (.putfield 42, 3) := by decide +kernel
theorem dX7_close_51 : decode cX7_close 51 = .ok (.iload_n 3, 1) := by decide +kernel
theorem dX7_close_52 : decode cX7_close 52 = .ok (.bipush 45, 2) := by decide +kernel
theorem dX7_close_54 : decode cX7_close 54 = .ok (.if_icmp .ne 19, 3) := by decide +kernel
theorem dX7_close_57 : decode cX7_close 57 = .ok (.aload_n 0, 1) := by decide +kernel
theorem dX7_close_58 : decode cX7_close 58 = .ok (.aload_n 0, 1) := by decide +kernel
theorem dX7_close_59 : decode cX7_close 59 = .ok (.getfield 39, 3) := by decide +kernel
theorem dX7_close_62 : decode cX7_close 62 = .ok (.aload_n 0, 1) := by decide +kernel
theorem dX7_close_63 : decode cX7_close 63 = .ok (.getfield 42, 3) := by decide +kernel
theorem dX7_close_66 : decode cX7_close 66 = .ok (.iaload, 1) := by decide +kernel
theorem dX7_close_67 : decode cX7_close 67 = .ok (.invokevirtual 70, 3) := by decide +kernel
theorem dX7_close_70 : decode cX7_close 70 = .ok (.goto 20, 3) := by decide +kernel
theorem dX7_close_73 : decode cX7_close 73 = .ok (.aload_n 0, 1) := by decide +kernel
theorem dX7_close_74 : decode cX7_close 74 = .ok (.aload_n 0, 1) := by decide +kernel
theorem dX7_close_75 : decode cX7_close 75 = .ok (.getfield 39, 3) := by decide +kernel
theorem dX7_close_78 : decode cX7_close 78 = .ok (.aload_n 0, 1) := by decide +kernel
theorem dX7_close_79 : decode cX7_close 79 = .ok (.getfield 42, 3) := by decide +kernel
theorem dX7_close_82 : decode cX7_close 82 = .ok (.iaload, 1) := by decide +kernel
theorem dX7_close_83 : decode cX7_close 83 = .ok (.iload_n 3, 1) := by decide +kernel
theorem dX7_close_84 : decode cX7_close 84 = .ok (.bipush 48, 2) := by decide +kernel
theorem dX7_close_86 : decode cX7_close 86 = .ok (.isub, 1) := by decide +kernel
theorem dX7_close_87 : decode cX7_close 87 = .ok (.invokevirtual 73, 3) := by decide +kernel
theorem dX7_close_90 : decode cX7_close 90 = .ok (.iconst 2, 1) := by decide +kernel
theorem dX7_close_91 : decode cX7_close 91 = .ok (.ireturn, 1) := by decide +kernel
theorem dX7_single_0 : decode cX7_single 0 = .ok (.aload_n 0, 1) := by decide +kernel
theorem dX7_single_1 : decode cX7_single 1 = .ok (.getfield 21, 3) := by decide +kernel
theorem dX7_single_4 : decode cX7_single 4 = .ok (.iload_n 1, 1) := by decide +kernel
theorem dX7_single_5 : decode cX7_single 5 = .ok (.iaload, 1) := by decide +kernel
theorem dX7_single_6 : decode cX7_single 6 = .ok (.istore_n 2, 1) := by decide +kernel
theorem dX7_single_7 : decode cX7_single 7 = .ok (.iload_n 2, 1) := by decide +kernel
theorem dX7_single_8 : decode cX7_single 8 = .ok (.bipush 48, 2) := by decide +kernel
theorem dX7_single_10 : decode cX7_single 10 = .ok (.if_icmp .lt 56, 3) := by decide +kernel
theorem dX7_single_13 : decode cX7_single 13 = .ok (.iload_n 2, 1) := by decide +kernel
theorem dX7_single_14 : decode cX7_single 14 = .ok (.bipush 57, 2) := by decide +kernel
theorem dX7_single_16 : decode cX7_single 16 = .ok (.if_icmp .gt 50, 3) := by decide +kernel
theorem dX7_single_19 : decode cX7_single 19 = .ok (.aload_n 0, 1) := by decide +kernel
theorem dX7_single_20 : decode cX7_single 20 = .ok (.iload_n 1, 1) := by decide +kernel
theorem dX7_single_21 : decode cX7_single 21 = .ok (.iconst 1, 1) := by decide +kernel
theorem dX7_single_22 : decode cX7_single 22 = .ok (.iadd, 1) := by decide +kernel
theorem dX7_single_23 : decode cX7_single 23 = .ok (.invokevirtual 67, 3) := by decide +kernel
theorem dX7_single_26 : decode cX7_single 26 = .ok (.istore_n 3, 1) := by decide +kernel
theorem dX7_single_27 : decode cX7_single 27 = .ok (.iload_n 3, 1) := by decide +kernel
theorem dX7_single_28 : decode cX7_single 28 = .ok (.bipush 60, 2) := by decide +kernel
theorem dX7_single_30 : decode cX7_single 30 = .ok (.if_icmp .eq 11, 3) := by decide +kernel
theorem dX7_single_33 : decode cX7_single 33 = .ok (.iload_n 3, 1) := by decide +kernel
theorem dX7_single_34 : decode cX7_single 34 = .ok (.bipush 62, 2) := by decide +kernel
theorem dX7_single_36 : decode cX7_single 36 = .ok (.if_icmp .eq 5, 3) := by decide +kernel
theorem dX7_single_39 : decode cX7_single 39 = .ok (.iconst (-1), 1) := by decide +kernel
theorem dX7_single_40 : decode cX7_single 40 = .ok (.ireturn, 1) := by decide +kernel
theorem dX7_single_41 : decode cX7_single 41 = .ok (.aload_n 0, 1) := by decide +kernel
theorem dX7_single_42 : decode cX7_single 42 = .ok (.bipush 10, 2) := by decide +kernel
theorem dX7_single_44 : decode cX7_single 44 = .ok (.iload_n 2, 1) := by decide +kernel
theorem dX7_single_45 : decode cX7_single 45 = .ok (.bipush 48, 2) := by decide +kernel
theorem dX7_single_47 : decode cX7_single 47 = .ok (.isub, 1) := by decide +kernel
theorem dX7_single_48 : decode cX7_single 48 = .ok (.imul, 1) := by decide +kernel
theorem dX7_single_49 : decode cX7_single 49 = .ok (.iload_n 3, 1) := by decide +kernel
theorem dX7_single_50 : decode cX7_single 50 = .ok (.bipush 60, 2) := by decide +kernel
theorem dX7_single_52 : decode cX7_single 52 = .ok (.if_icmp .ne 7, 3) := by decide +kernel
theorem dX7_single_55 : decode cX7_single 55 = .ok (.iconst 0, 1) := by decide +kernel
theorem dX7_single_56 : decode cX7_single 56 = .ok (.goto 4, 3) := by decide +kernel
theorem dX7_single_59 : decode cX7_single 59 = .ok (.iconst 1, 1) := by decide +kernel
theorem dX7_single_60 : decode cX7_single 60 = .ok (.iadd, 1) := by decide +kernel
theorem dX7_single_61 : decode cX7_single 61 = .ok (.invokevirtual 77, 3) := by decide +kernel
theorem dX7_single_64 : decode cX7_single 64 = .ok (.iconst 2, 1) := by decide +kernel
theorem dX7_single_65 : decode cX7_single 65 = .ok (.ireturn, 1) := by decide +kernel
theorem dX7_single_66 : decode cX7_single 66 = .ok (.iload_n 2, 1) := by decide +kernel
theorem dX7_single_67 : decode cX7_single 67 = .ok (.bipush 119, 2) := by decide +kernel
theorem dX7_single_69 : decode cX7_single 69 = .ok (.if_icmp .eq 9, 3) := by decide +kernel
theorem dX7_single_72 : decode cX7_single 72 = .ok (.iload_n 2, 1) := by decide +kernel
theorem dX7_single_73 : decode cX7_single 73 = .ok (.bipush 118, 2) := by decide +kernel
theorem dX7_single_75 : decode cX7_single 75 = .ok (.if_icmp .ne 22, 3) := by decide +kernel
theorem dX7_single_78 : decode cX7_single 78 = .ok (.aload_n 0, 1) := by decide +kernel
theorem dX7_single_79 : decode cX7_single 79 = .ok (.iload_n 2, 1) := by decide +kernel
theorem dX7_single_80 : decode cX7_single 80 = .ok (.bipush 119, 2) := by decide +kernel
theorem dX7_single_82 : decode cX7_single 82 = .ok (.if_icmp .ne 8, 3) := by decide +kernel
theorem dX7_single_85 : decode cX7_single 85 = .ok (.bipush 100, 2) := by decide +kernel
theorem dX7_single_87 : decode cX7_single 87 = .ok (.goto 5, 3) := by decide +kernel
theorem dX7_single_90 : decode cX7_single 90 = .ok (.bipush 101, 2) := by decide +kernel
theorem dX7_single_92 : decode cX7_single 92 = .ok (.invokevirtual 77, 3) := by decide +kernel
theorem dX7_single_95 : decode cX7_single 95 = .ok (.iconst 1, 1) := by decide +kernel
theorem dX7_single_96 : decode cX7_single 96 = .ok (.ireturn, 1) := by decide +kernel
theorem dX7_single_97 : decode cX7_single 97 = .ok (.aload_n 0, 1) := by decide +kernel
theorem dX7_single_98 : decode cX7_single 98 = .ok (.iload_n 2, 1) := by decide +kernel
theorem dX7_single_99 : decode cX7_single 99 = .ok (.bipush 65, 2) := by decide +kernel
theorem dX7_single_101 : decode cX7_single 101 = .ok (.isub, 1) := by decide +kernel
theorem dX7_single_102 : decode cX7_single 102 = .ok (.invokevirtual 80, 3) := by decide +kernel
theorem dX7_single_105 : decode cX7_single 105 = .ok (.astore_n 3, 1) := by decide +kernel
theorem dX7_single_106 : decode cX7_single 106 = .ok (.aload_n 3, 1) := by decide +kernel
theorem dX7_single_107 : decode cX7_single 107 = .ok (.ifnonnull 5, 3) := by decide +kernel
theorem dX7_single_110 : decode cX7_single 110 = .ok (.iconst 0, 1) := by decide +kernel
theorem dX7_single_111 : decode cX7_single 111 = .ok (.ireturn, 1) := by decide +kernel
theorem dX7_single_112 : decode cX7_single 112 = .ok (.aload_n 0, 1) := by decide +kernel
theorem dX7_single_113 : decode cX7_single 113 = .ok (.aload_n 3, 1) := by decide +kernel
theorem dX7_single_114 : decode cX7_single 114 = .ok (.invokevirtual 84, 3) := by decide +kernel
theorem dX7_single_117 : decode cX7_single 117 = .ok (.iconst 1, 1) := by decide +kernel
theorem dX7_single_118 : decode cX7_single 118 = .ok (.ireturn, 1) := by decide +kernel
theorem dX7_signAt_0 : decode cX7_signAt 0 = .ok (.iload_n 1, 1) := by decide +kernel
theorem dX7_signAt_1 : decode cX7_signAt 1 = .ok (.aload_n 0, 1) := by decide +kernel
theorem dX7_signAt_2 : decode cX7_signAt 2 = .ok (.getfield 25, 3) := by decide +kernel
theorem dX7_signAt_5 : decode cX7_signAt 5 = .ok (.if_icmp .ge 12, 3) := by decide +kernel
theorem dX7_signAt_8 : decode cX7_signAt 8 = .ok (.aload_n 0, 1) := by decide +kernel
theorem dX7_signAt_9 : decode cX7_signAt 9 = .ok (.getfield 21, 3) := by decide +kernel
theorem dX7_signAt_12 : decode cX7_signAt 12 = .ok (.iload_n 1, 1) := by decide +kernel
theorem dX7_signAt_13 : decode cX7_signAt 13 = .ok (.iaload, 1) := by decide +kernel
theorem dX7_signAt_14 : decode cX7_signAt 14 = .ok (.goto 4, 3) := by decide +kernel
theorem dX7_signAt_17 : decode cX7_signAt 17 = .ok (.iconst (-1), 1) := by decide +kernel
theorem dX7_signAt_18 : decode cX7_signAt 18 = .ok (.ireturn, 1) := by decide +kernel
theorem dX7_put_0 : decode cX7_put 0 = .ok (.aload_n 0, 1) := by decide +kernel
theorem dX7_put_1 : decode cX7_put 1 = .ok (.getfield 31, 3) := by decide +kernel
theorem dX7_put_4 : decode cX7_put 4 = .ok (.iload_n 1, 1) := by decide +kernel
theorem dX7_put_5 : decode cX7_put 5 = .ok (.invokevirtual 88, 3) := by decide +kernel
theorem dX7_put_8 : decode cX7_put 8 = .ok (.ifCond .ne 8, 3) := by decide +kernel
theorem dX7_put_11 : decode cX7_put 11 = .ok (.aload_n 0, 1) := by decide +kernel
theorem dX7_put_12 : decode cX7_put 12 = .ok (.iconst 1, 1) := by decide +kernel
theorem dX7_put_13 : decode cX7_put 13 = .ok (.putfield 35, 3) := by decide +kernel
theorem dX7_put_16 : decode cX7_put 16 = .ok (.return_, 1) := by decide +kernel
theorem dX7_putAll_0 : decode cX7_putAll 0 = .ok (.iconst 0, 1) := by decide +kernel
theorem dX7_putAll_1 : decode cX7_putAll 1 = .ok (.istore_n 2, 1) := by decide +kernel
theorem dX7_putAll_2 : decode cX7_putAll 2 = .ok (.iload_n 2, 1) := by decide +kernel
theorem dX7_putAll_3 : decode cX7_putAll 3 = .ok (.aload_n 1, 1) := by decide +kernel
theorem dX7_putAll_4 : decode cX7_putAll 4 = .ok (.getfield 64, 3) := by decide +kernel
theorem dX7_putAll_7 : decode cX7_putAll 7 = .ok (.if_icmp .ge 19, 3) := by decide +kernel
theorem dX7_putAll_10 : decode cX7_putAll 10 = .ok (.aload_n 0, 1) := by decide +kernel
theorem dX7_putAll_11 : decode cX7_putAll 11 = .ok (.aload_n 1, 1) := by decide +kernel
theorem dX7_putAll_12 : decode cX7_putAll 12 = .ok (.getfield 92, 3) := by decide +kernel
theorem dX7_putAll_15 : decode cX7_putAll 15 = .ok (.iload_n 2, 1) := by decide +kernel
theorem dX7_putAll_16 : decode cX7_putAll 16 = .ok (.iaload, 1) := by decide +kernel
theorem dX7_putAll_17 : decode cX7_putAll 17 = .ok (.invokevirtual 77, 3) := by decide +kernel
theorem dX7_putAll_20 : decode cX7_putAll 20 = .ok (.iinc 2 1, 3) := by decide +kernel
theorem dX7_putAll_23 : decode cX7_putAll 23 = .ok (.goto (-21), 3) := by decide +kernel
theorem dX7_putAll_26 : decode cX7_putAll 26 = .ok (.return_, 1) := by decide +kernel
theorem dX7_repeatFrom_0 : decode cX7_repeatFrom 0 = .ok (.aload_n 0, 1) := by decide +kernel
theorem dX7_repeatFrom_1 : decode cX7_repeatFrom 1 = .ok (.getfield 31, 3) := by decide +kernel
theorem dX7_repeatFrom_4 : decode cX7_repeatFrom 4 = .ok (.getfield 64, 3) := by decide +kernel
theorem dX7_repeatFrom_7 : decode cX7_repeatFrom 7 = .ok (.istore_n 3, 1) := by decide +kernel
theorem dX7_repeatFrom_8 : decode cX7_repeatFrom 8 = .ok (.iconst 1, 1) := by decide +kernel
theorem dX7_repeatFrom_9 : decode cX7_repeatFrom 9 = .ok (.istore 4, 2) := by decide +kernel
theorem dX7_repeatFrom_11 : decode cX7_repeatFrom 11 = .ok (.iload 4, 2) := by decide +kernel
theorem dX7_repeatFrom_13 : decode cX7_repeatFrom 13 = .ok (.iload_n 2, 1) := by decide +kernel
theorem dX7_repeatFrom_14 : decode cX7_repeatFrom 14 = .ok (.if_icmp .ge 45, 3) := by decide +kernel
theorem dX7_repeatFrom_17 : decode cX7_repeatFrom 17 = .ok (.aload_n 0, 1) := by decide +kernel
theorem dX7_repeatFrom_18 : decode cX7_repeatFrom 18 = .ok (.getfield 35, 3) := by decide +kernel
theorem dX7_repeatFrom_21 : decode cX7_repeatFrom 21 = .ok (.ifCond .ne 38, 3) := by decide +kernel
theorem dX7_repeatFrom_24 : decode cX7_repeatFrom 24 = .ok (.iload_n 1, 1) := by decide +kernel
theorem dX7_repeatFrom_25 : decode cX7_repeatFrom 25 = .ok (.istore 5, 2) := by decide +kernel
theorem dX7_repeatFrom_27 : decode cX7_repeatFrom 27 = .ok (.iload 5, 2) := by decide +kernel
theorem dX7_repeatFrom_29 : decode cX7_repeatFrom 29 = .ok (.iload_n 3, 1) := by decide +kernel
theorem dX7_repeatFrom_30 : decode cX7_repeatFrom 30 = .ok (.if_icmp .ge 23, 3) := by decide +kernel
theorem dX7_repeatFrom_33 : decode cX7_repeatFrom 33 = .ok (.aload_n 0, 1) := by decide +kernel
theorem dX7_repeatFrom_34 : decode cX7_repeatFrom 34 = .ok (.aload_n 0, 1) := by decide +kernel
theorem dX7_repeatFrom_35 : decode cX7_repeatFrom 35 = .ok (.getfield 31, 3) := by decide +kernel
theorem dX7_repeatFrom_38 : decode cX7_repeatFrom 38 = .ok (.getfield 92, 3) := by decide +kernel
theorem dX7_repeatFrom_41 : decode cX7_repeatFrom 41 = .ok (.iload 5, 2) := by decide +kernel
theorem dX7_repeatFrom_43 : decode cX7_repeatFrom 43 = .ok (.iaload, 1) := by decide +kernel
theorem dX7_repeatFrom_44 : decode cX7_repeatFrom 44 = .ok (.invokevirtual 77, 3) := by decide +kernel
theorem dX7_repeatFrom_47 : decode cX7_repeatFrom 47 = .ok (.iinc 5 1, 3) := by decide +kernel
theorem dX7_repeatFrom_50 : decode cX7_repeatFrom 50 = .ok (.goto (-23), 3) := by decide +kernel
theorem dX7_repeatFrom_53 : decode cX7_repeatFrom 53 = .ok (.iinc 4 1, 3) := by decide +kernel
theorem dX7_repeatFrom_56 : decode cX7_repeatFrom 56 = .ok (.goto (-45), 3) := by decide +kernel
theorem dX7_repeatFrom_59 : decode cX7_repeatFrom 59 = .ok (.return_, 1) := by decide +kernel
theorem dX7_undoFrom_0 : decode cX7_undoFrom 0 = .ok (.iload_n 1, 1) := by decide +kernel
theorem dX7_undoFrom_1 : decode cX7_undoFrom 1 = .ok (.istore_n 2, 1) := by decide +kernel
theorem dX7_undoFrom_2 : decode cX7_undoFrom 2 = .ok (.aload_n 0, 1) := by decide +kernel
theorem dX7_undoFrom_3 : decode cX7_undoFrom 3 = .ok (.getfield 31, 3) := by decide +kernel
theorem dX7_undoFrom_6 : decode cX7_undoFrom 6 = .ok (.getfield 64, 3) := by decide +kernel
theorem dX7_undoFrom_9 : decode cX7_undoFrom 9 = .ok (.iconst 1, 1) := by decide +kernel
theorem dX7_undoFrom_10 : decode cX7_undoFrom 10 = .ok (.isub, 1) := by decide +kernel
theorem dX7_undoFrom_11 : decode cX7_undoFrom 11 = .ok (.istore_n 3, 1) := by decide +kernel
theorem dX7_undoFrom_12 : decode cX7_undoFrom 12 = .ok (.iload_n 2, 1) := by decide +kernel
theorem dX7_undoFrom_13 : decode cX7_undoFrom 13 = .ok (.iload_n 3, 1) := by decide +kernel
theorem dX7_undoFrom_14 : decode cX7_undoFrom 14 = .ok (.if_icmp .gt 56, 3) := by decide +kernel
theorem dX7_undoFrom_17 : decode cX7_undoFrom 17 = .ok (.aload_n 0, 1) := by decide +kernel
theorem dX7_undoFrom_18 : decode cX7_undoFrom 18 = .ok (.getfield 31, 3) := by decide +kernel
theorem dX7_undoFrom_21 : decode cX7_undoFrom 21 = .ok (.getfield 92, 3) := by decide +kernel
theorem dX7_undoFrom_24 : decode cX7_undoFrom 24 = .ok (.iload_n 2, 1) := by decide +kernel
theorem dX7_undoFrom_25 : decode cX7_undoFrom 25 = .ok (.iaload, 1) := by decide +kernel
theorem dX7_undoFrom_26 : decode cX7_undoFrom 26 = .ok (.istore 4, 2) := by decide +kernel
theorem dX7_undoFrom_28 : decode cX7_undoFrom 28 = .ok (.aload_n 0, 1) := by decide +kernel
theorem dX7_undoFrom_29 : decode cX7_undoFrom 29 = .ok (.getfield 31, 3) := by decide +kernel
theorem dX7_undoFrom_32 : decode cX7_undoFrom 32 = .ok (.getfield 92, 3) := by decide +kernel
theorem dX7_undoFrom_35 : decode cX7_undoFrom 35 = .ok (.iload_n 2, 1) := by decide +kernel
theorem dX7_undoFrom_36 : decode cX7_undoFrom 36 = .ok (.aload_n 0, 1) := by decide +kernel
theorem dX7_undoFrom_37 : decode cX7_undoFrom 37 = .ok (.getfield 31, 3) := by decide +kernel
theorem dX7_undoFrom_40 : decode cX7_undoFrom 40 = .ok (.getfield 92, 3) := by decide +kernel
theorem dX7_undoFrom_43 : decode cX7_undoFrom 43 = .ok (.iload_n 3, 1) := by decide +kernel
theorem dX7_undoFrom_44 : decode cX7_undoFrom 44 = .ok (.iaload, 1) := by decide +kernel
theorem dX7_undoFrom_45 : decode cX7_undoFrom 45 = .ok (.iconst 1, 1) := by decide +kernel
theorem dX7_undoFrom_46 : decode cX7_undoFrom 46 = .ok (.ixor, 1) := by decide +kernel
theorem dX7_undoFrom_47 : decode cX7_undoFrom 47 = .ok (.iastore, 1) := by decide +kernel
theorem dX7_undoFrom_48 : decode cX7_undoFrom 48 = .ok (.aload_n 0, 1) := by decide +kernel
theorem dX7_undoFrom_49 : decode cX7_undoFrom 49 = .ok (.getfield 31, 3) := by decide +kernel
theorem dX7_undoFrom_52 : decode cX7_undoFrom 52 = .ok (.getfield 92, 3) := by decide +kernel
theorem dX7_undoFrom_55 : decode cX7_undoFrom 55 = .ok (.iload_n 3, 1) := by decide +kernel
theorem dX7_undoFrom_56 : decode cX7_undoFrom 56 = .ok (.iload 4, 2) := by decide +kernel
theorem dX7_undoFrom_58 : decode cX7_undoFrom 58 = .ok (.iconst 1, 1) := by decide +kernel
theorem dX7_undoFrom_59 : decode cX7_undoFrom 59 = .ok (.ixor, 1) := by decide +kernel
theorem dX7_undoFrom_60 : decode cX7_undoFrom 60 = .ok (.iastore, 1) := by decide +kernel
theorem dX7_undoFrom_61 : decode cX7_undoFrom 61 = .ok (.iinc 2 1, 3) := by decide +kernel
theorem dX7_undoFrom_64 : decode cX7_undoFrom 64 = .ok (.iinc 3 (-1), 3) := by decide +kernel
theorem dX7_undoFrom_67 : decode cX7_undoFrom 67 = .ok (.goto (-55), 3) := by decide +kernel
theorem dX7_undoFrom_70 : decode cX7_undoFrom 70 = .ok (.return_, 1) := by decide +kernel
theorem dX8_init_0 : decode cX8_init 0 = .ok (.aload_n 0, 1) := by decide +kernel
theorem dX8_init_1 : decode cX8_init 1 = .ok (.invokespecial 3, 3) := by decide +kernel
theorem dX8_init_4 : decode cX8_init 4 = .ok (.aload_n 0, 1) := by decide +kernel
theorem dX8_init_5 : decode cX8_init 5 = .ok (.iconst 0, 1) := by decide +kernel
theorem dX8_init_6 : decode cX8_init 6 = .ok (.putfield 9, 3) := by decide +kernel
theorem dX8_init_9 : decode cX8_init 9 = .ok (.aload_n 0, 1) := by decide +kernel
theorem dX8_init_10 : decode cX8_init 10 = .ok (.bipush 7, 2) := by decide +kernel
theorem dX8_init_12 : decode cX8_init 12 = .ok (.newarray .int, 2) := by decide +kernel
theorem dX8_init_14 : decode cX8_init 14 = .ok (.putfield 15, 3) := by decide +kernel
theorem dX8_init_17 : decode cX8_init 17 = .ok (.aload_n 0, 1) := by decide +kernel
theorem dX8_init_18 : decode cX8_init 18 = .ok (.bipush 7, 2) := by decide +kernel
theorem dX8_init_20 : decode cX8_init 20 = .ok (.newarray .int, 2) := by decide +kernel
theorem dX8_init_22 : decode cX8_init 22 = .ok (.putfield 19, 3) := by decide +kernel
theorem dX8_init_25 : decode cX8_init 25 = .ok (.aload_n 0, 1) := by decide +kernel
theorem dX8_init_26 : decode cX8_init 26 = .ok (.bipush 7, 2) := by decide +kernel
theorem dX8_init_28 : decode cX8_init 28 = .ok (.newarray .int, 2) := by decide +kernel
theorem dX8_init_30 : decode cX8_init 30 = .ok (.putfield 22, 3) := by decide +kernel
theorem dX8_init_33 : decode cX8_init 33 = .ok (.aload_n 0, 1) := by decide +kernel
theorem dX8_init_34 : decode cX8_init 34 = .ok (.bipush 7, 2) := by decide +kernel
theorem dX8_init_36 : decode cX8_init 36 = .ok (.newarray .int, 2) := by decide +kernel
theorem dX8_init_38 : decode cX8_init 38 = .ok (.putfield 25, 3) := by decide +kernel
theorem dX8_init_41 : decode cX8_init 41 = .ok (.aload_n 0, 1) := by decide +kernel
theorem dX8_init_42 : decode cX8_init 42 = .ok (.bipush 7, 2) := by decide +kernel
theorem dX8_init_44 : decode cX8_init 44 = .ok (.newarray .int, 2) := by decide +kernel
theorem dX8_init_46 : decode cX8_init 46 = .ok (.putfield 28, 3) := by decide +kernel
theorem dX8_init_49 : decode cX8_init 49 = .ok (.aload_n 0, 1) := by decide +kernel
theorem dX8_init_50 : decode cX8_init 50 = .ok (.bipush 7, 2) := by decide +kernel
theorem dX8_init_52 : decode cX8_init 52 = .ok (.newarray .int, 2) := by decide +kernel
theorem dX8_init_54 : decode cX8_init 54 = .ok (.putfield 31, 3) := by decide +kernel
theorem dX8_init_57 : decode cX8_init 57 = .ok (.aload_n 0, 1) := by decide +kernel
theorem dX8_init_58 : decode cX8_init 58 = .ok (.iconst 0, 1) := by decide +kernel
theorem dX8_init_59 : decode cX8_init 59 = .ok (.putfield 34, 3) := by decide +kernel
theorem dX8_init_62 : decode cX8_init 62 = .ok (.return_, 1) := by decide +kernel
theorem dX8_clear_0 : decode cX8_clear 0 = .ok (.aload_n 0, 1) := by decide +kernel
theorem dX8_clear_1 : decode cX8_clear 1 = .ok (.iconst 0, 1) := by decide +kernel
theorem dX8_clear_2 : decode cX8_clear 2 = .ok (.putfield 9, 3) := by decide +kernel
theorem dX8_clear_5 : decode cX8_clear 5 = .ok (.return_, 1) := by decide +kernel
theorem dX8_add_0 : decode cX8_add 0 = .ok (.aload_n 0, 1) := by decide +kernel
theorem dX8_add_1 : decode cX8_add 1 = .ok (.getfield 9, 3) := by decide +kernel
theorem dX8_add_4 : decode cX8_add 4 = .ok (.bipush 7, 2) := by decide +kernel
theorem dX8_add_6 : decode cX8_add 6 = .ok (.if_icmp .ge 52, 3) := by decide +kernel
theorem dX8_add_9 : decode cX8_add 9 = .ok (.aload_n 0, 1) := by decide +kernel
theorem dX8_add_10 : decode cX8_add 10 = .ok (.getfield 15, 3) := by decide +kernel
theorem dX8_add_13 : decode cX8_add 13 = .ok (.aload_n 0, 1) := by decide +kernel
theorem dX8_add_14 : decode cX8_add 14 = .ok (.getfield 9, 3) := by decide +kernel
theorem dX8_add_17 : decode cX8_add 17 = .ok (.aload_n 1, 1) := by decide +kernel
theorem dX8_add_18 : decode cX8_add 18 = .ok (.getfield 37, 3) := by decide +kernel
theorem dX8_add_21 : decode cX8_add 21 = .ok (.iastore, 1) := by decide +kernel
theorem dX8_add_22 : decode cX8_add 22 = .ok (.aload_n 0, 1) := by decide +kernel
theorem dX8_add_23 : decode cX8_add 23 = .ok (.getfield 19, 3) := by decide +kernel
theorem dX8_add_26 : decode cX8_add 26 = .ok (.aload_n 0, 1) := by decide +kernel
theorem dX8_add_27 : decode cX8_add 27 = .ok (.getfield 9, 3) := by decide +kernel
theorem dX8_add_30 : decode cX8_add 30 = .ok (.aload_n 1, 1) := by decide +kernel
theorem dX8_add_31 : decode cX8_add 31 = .ok (.getfield 42, 3) := by decide +kernel
theorem dX8_add_34 : decode cX8_add 34 = .ok (.iastore, 1) := by decide +kernel
theorem dX8_add_35 : decode cX8_add 35 = .ok (.aload_n 0, 1) := by decide +kernel
theorem dX8_add_36 : decode cX8_add 36 = .ok (.getfield 22, 3) := by decide +kernel
theorem dX8_add_39 : decode cX8_add 39 = .ok (.aload_n 0, 1) := by decide +kernel
theorem dX8_add_40 : decode cX8_add 40 = .ok (.getfield 9, 3) := by decide +kernel
theorem dX8_add_43 : decode cX8_add 43 = .ok (.aload_n 1, 1) := by decide +kernel
theorem dX8_add_44 : decode cX8_add 44 = .ok (.getfield 45, 3) := by decide +kernel
theorem dX8_add_47 : decode cX8_add 47 = .ok (.iastore, 1) := by decide +kernel
theorem dX8_add_48 : decode cX8_add 48 = .ok (.aload_n 0, 1) := by decide +kernel
theorem dX8_add_49 : decode cX8_add 49 = .ok (.dup, 1) := by decide +kernel
theorem dX8_add_50 : decode cX8_add 50 = .ok (.getfield 9, 3) := by decide +kernel
theorem dX8_add_53 : decode cX8_add 53 = .ok (.iconst 1, 1) := by decide +kernel
theorem dX8_add_54 : decode cX8_add 54 = .ok (.iadd, 1) := by decide +kernel
theorem dX8_add_55 : decode cX8_add 55 = .ok (.putfield 9, 3) := by decide +kernel
theorem dX8_add_58 : decode cX8_add 58 = .ok (.return_, 1) := by decide +kernel
theorem dX8_seatAll_0 : decode cX8_seatAll 0 = .ok (.aload_n 0, 1) := by decide +kernel
theorem dX8_seatAll_1 : decode cX8_seatAll 1 = .ok (.ldc 48, 2) := by decide +kernel
theorem dX8_seatAll_3 : decode cX8_seatAll 3 = .ok (.putfield 34, 3) := by decide +kernel
theorem dX8_seatAll_6 : decode cX8_seatAll 6 = .ok (.aload_n 0, 1) := by decide +kernel
theorem dX8_seatAll_7 : decode cX8_seatAll 7 = .ok (.getfield 25, 3) := by decide +kernel
theorem dX8_seatAll_10 : decode cX8_seatAll 10 = .ok (.iconst 0, 1) := by decide +kernel
theorem dX8_seatAll_11 : decode cX8_seatAll 11 = .ok (.iconst 0, 1) := by decide +kernel
theorem dX8_seatAll_12 : decode cX8_seatAll 12 = .ok (.iastore, 1) := by decide +kernel
theorem dX8_seatAll_13 : decode cX8_seatAll 13 = .ok (.aload_n 0, 1) := by decide +kernel
theorem dX8_seatAll_14 : decode cX8_seatAll 14 = .ok (.iconst 1, 1) := by decide +kernel
theorem dX8_seatAll_15 : decode cX8_seatAll 15 = .ok (.iconst 0, 1) := by decide +kernel
theorem dX8_seatAll_16 : decode cX8_seatAll 16 = .ok (.iconst 1, 1) := by decide +kernel
theorem dX8_seatAll_17 : decode cX8_seatAll 17 = .ok (.invokevirtual 49, 3) := by decide +kernel
theorem dX8_seatAll_20 : decode cX8_seatAll 20 = .ok (.return_, 1) := by decide +kernel
theorem dX8_seatFrom_0 : decode cX8_seatFrom 0 = .ok (.iload_n 1, 1) := by decide +kernel
theorem dX8_seatFrom_1 : decode cX8_seatFrom 1 = .ok (.aload_n 0, 1) := by decide +kernel
theorem dX8_seatFrom_2 : decode cX8_seatFrom 2 = .ok (.getfield 9, 3) := by decide +kernel
theorem dX8_seatFrom_5 : decode cX8_seatFrom 5 = .ok (.if_icmp .lt 45, 3) := by decide +kernel
theorem dX8_seatFrom_8 : decode cX8_seatFrom 8 = .ok (.aload_n 0, 1) := by decide +kernel
theorem dX8_seatFrom_9 : decode cX8_seatFrom 9 = .ok (.iload_n 2, 1) := by decide +kernel
theorem dX8_seatFrom_10 : decode cX8_seatFrom 10 = .ok (.aload_n 0, 1) := by decide +kernel
theorem dX8_seatFrom_11 : decode cX8_seatFrom 11 = .ok (.aload_n 0, 1) := by decide +kernel
theorem dX8_seatFrom_12 : decode cX8_seatFrom 12 = .ok (.getfield 25, 3) := by decide +kernel
theorem dX8_seatFrom_15 : decode cX8_seatFrom 15 = .ok (.iload_n 1, 1) := by decide +kernel
theorem dX8_seatFrom_16 : decode cX8_seatFrom 16 = .ok (.iconst 1, 1) := by decide +kernel
theorem dX8_seatFrom_17 : decode cX8_seatFrom 17 = .ok (.isub, 1) := by decide +kernel
theorem dX8_seatFrom_18 : decode cX8_seatFrom 18 = .ok (.iaload, 1) := by decide +kernel
theorem dX8_seatFrom_19 : decode cX8_seatFrom 19 = .ok (.aload_n 0, 1) := by decide +kernel
theorem dX8_seatFrom_20 : decode cX8_seatFrom 20 = .ok (.getfield 25, 3) := by decide +kernel
theorem dX8_seatFrom_23 : decode cX8_seatFrom 23 = .ok (.iconst 0, 1) := by decide +kernel
theorem dX8_seatFrom_24 : decode cX8_seatFrom 24 = .ok (.iaload, 1) := by decide +kernel
theorem dX8_seatFrom_25 : decode cX8_seatFrom 25 = .ok (.invokevirtual 53, 3) := by decide +kernel
theorem dX8_seatFrom_28 : decode cX8_seatFrom 28 = .ok (.iadd, 1) := by decide +kernel
theorem dX8_seatFrom_29 : decode cX8_seatFrom 29 = .ok (.putfield 34, 3) := by decide +kernel
theorem dX8_seatFrom_32 : decode cX8_seatFrom 32 = .ok (.aload_n 0, 1) := by decide +kernel
theorem dX8_seatFrom_33 : decode cX8_seatFrom 33 = .ok (.getfield 25, 3) := by decide +kernel
theorem dX8_seatFrom_36 : decode cX8_seatFrom 36 = .ok (.iconst 0, 1) := by decide +kernel
theorem dX8_seatFrom_37 : decode cX8_seatFrom 37 = .ok (.aload_n 0, 1) := by decide +kernel
theorem dX8_seatFrom_38 : decode cX8_seatFrom 38 = .ok (.getfield 28, 3) := by decide +kernel
theorem dX8_seatFrom_41 : decode cX8_seatFrom 41 = .ok (.iconst 0, 1) := by decide +kernel
theorem dX8_seatFrom_42 : decode cX8_seatFrom 42 = .ok (.aload_n 0, 1) := by decide +kernel
theorem dX8_seatFrom_43 : decode cX8_seatFrom 43 = .ok (.getfield 9, 3) := by decide +kernel
theorem dX8_seatFrom_46 : decode cX8_seatFrom 46 = .ok (.invokestatic 57, 3) := by decide +kernel
theorem dX8_seatFrom_49 : decode cX8_seatFrom 49 = .ok (.return_, 1) := by decide +kernel
theorem dX8_seatFrom_50 : decode cX8_seatFrom 50 = .ok (.iconst 1, 1) := by decide +kernel
theorem dX8_seatFrom_51 : decode cX8_seatFrom 51 = .ok (.istore 4, 2) := by decide +kernel
theorem dX8_seatFrom_53 : decode cX8_seatFrom 53 = .ok (.iload 4, 2) := by decide +kernel
theorem dX8_seatFrom_55 : decode cX8_seatFrom 55 = .ok (.aload_n 0, 1) := by decide +kernel
theorem dX8_seatFrom_56 : decode cX8_seatFrom 56 = .ok (.getfield 9, 3) := by decide +kernel
theorem dX8_seatFrom_59 : decode cX8_seatFrom 59 = .ok (.if_icmp .ge 81, 3) := by decide +kernel
theorem dX8_seatFrom_62 : decode cX8_seatFrom 62 = .ok (.iload_n 2, 1) := by decide +kernel
theorem dX8_seatFrom_63 : decode cX8_seatFrom 63 = .ok (.aload_n 0, 1) := by decide +kernel
theorem dX8_seatFrom_64 : decode cX8_seatFrom 64 = .ok (.aload_n 0, 1) := by decide +kernel
theorem dX8_seatFrom_65 : decode cX8_seatFrom 65 = .ok (.getfield 25, 3) := by decide +kernel
theorem dX8_seatFrom_68 : decode cX8_seatFrom 68 = .ok (.iload_n 1, 1) := by decide +kernel
theorem dX8_seatFrom_69 : decode cX8_seatFrom 69 = .ok (.iconst 1, 1) := by decide +kernel
theorem dX8_seatFrom_70 : decode cX8_seatFrom 70 = .ok (.isub, 1) := by decide +kernel
theorem dX8_seatFrom_71 : decode cX8_seatFrom 71 = .ok (.iaload, 1) := by decide +kernel
theorem dX8_seatFrom_72 : decode cX8_seatFrom 72 = .ok (.iload 4, 2) := by decide +kernel
theorem dX8_seatFrom_74 : decode cX8_seatFrom 74 = .ok (.invokevirtual 53, 3) := by decide +kernel
theorem dX8_seatFrom_77 : decode cX8_seatFrom 77 = .ok (.iadd, 1) := by decide +kernel
theorem dX8_seatFrom_78 : decode cX8_seatFrom 78 = .ok (.istore 5, 2) := by decide +kernel
theorem dX8_seatFrom_80 : decode cX8_seatFrom 80 = .ok (.iload_n 3, 1) := by decide +kernel
theorem dX8_seatFrom_81 : decode cX8_seatFrom 81 = .ok (.iload 4, 2) := by decide +kernel
theorem dX8_seatFrom_83 : decode cX8_seatFrom 83 = .ok (.iushr, 1) := by decide +kernel
theorem dX8_seatFrom_84 : decode cX8_seatFrom 84 = .ok (.iconst 1, 1) := by decide +kernel
theorem dX8_seatFrom_85 : decode cX8_seatFrom 85 = .ok (.iand, 1) := by decide +kernel
theorem dX8_seatFrom_86 : decode cX8_seatFrom 86 = .ok (.ifCond .ne 48, 3) := by decide +kernel
theorem dX8_seatFrom_89 : decode cX8_seatFrom 89 = .ok (.iload 5, 2) := by decide +kernel
theorem dX8_seatFrom_91 : decode cX8_seatFrom 91 = .ok (.aload_n 0, 1) := by decide +kernel
theorem dX8_seatFrom_92 : decode cX8_seatFrom 92 = .ok (.iload 4, 2) := by decide +kernel
theorem dX8_seatFrom_94 : decode cX8_seatFrom 94 = .ok (.aload_n 0, 1) := by decide +kernel
theorem dX8_seatFrom_95 : decode cX8_seatFrom 95 = .ok (.getfield 25, 3) := by decide +kernel
theorem dX8_seatFrom_98 : decode cX8_seatFrom 98 = .ok (.iconst 0, 1) := by decide +kernel
theorem dX8_seatFrom_99 : decode cX8_seatFrom 99 = .ok (.iaload, 1) := by decide +kernel
theorem dX8_seatFrom_100 : decode cX8_seatFrom 100 = .ok (.invokevirtual 53, 3) := by decide +kernel
theorem dX8_seatFrom_103 : decode cX8_seatFrom 103 = .ok (.iadd, 1) := by decide +kernel
theorem dX8_seatFrom_104 : decode cX8_seatFrom 104 = .ok (.aload_n 0, 1) := by decide +kernel
theorem dX8_seatFrom_105 : decode cX8_seatFrom 105 = .ok (.getfield 34, 3) := by decide +kernel
theorem dX8_seatFrom_108 : decode cX8_seatFrom 108 = .ok (.if_icmp .ge 26, 3) := by decide +kernel
theorem dX8_seatFrom_111 : decode cX8_seatFrom 111 = .ok (.aload_n 0, 1) := by decide +kernel
theorem dX8_seatFrom_112 : decode cX8_seatFrom 112 = .ok (.getfield 25, 3) := by decide +kernel
theorem dX8_seatFrom_115 : decode cX8_seatFrom 115 = .ok (.iload_n 1, 1) := by decide +kernel
theorem dX8_seatFrom_116 : decode cX8_seatFrom 116 = .ok (.iload 4, 2) := by decide +kernel
theorem dX8_seatFrom_118 : decode cX8_seatFrom 118 = .ok (.iastore, 1) := by decide +kernel
theorem dX8_seatFrom_119 : decode cX8_seatFrom 119 = .ok (.aload_n 0, 1) := by decide +kernel
theorem dX8_seatFrom_120 : decode cX8_seatFrom 120 = .ok (.iload_n 1, 1) := by decide +kernel
theorem dX8_seatFrom_121 : decode cX8_seatFrom 121 = .ok (.iconst 1, 1) := by decide +kernel
theorem dX8_seatFrom_122 : decode cX8_seatFrom 122 = .ok (.iadd, 1) := by decide +kernel
theorem dX8_seatFrom_123 : decode cX8_seatFrom 123 = .ok (.iload 5, 2) := by decide +kernel
theorem dX8_seatFrom_125 : decode cX8_seatFrom 125 = .ok (.iload_n 3, 1) := by decide +kernel
theorem dX8_seatFrom_126 : decode cX8_seatFrom 126 = .ok (.iconst 1, 1) := by decide +kernel
theorem dX8_seatFrom_127 : decode cX8_seatFrom 127 = .ok (.iload 4, 2) := by decide +kernel
theorem dX8_seatFrom_129 : decode cX8_seatFrom 129 = .ok (.ishl, 1) := by decide +kernel
theorem dX8_seatFrom_130 : decode cX8_seatFrom 130 = .ok (.ior, 1) := by decide +kernel
theorem dX8_seatFrom_131 : decode cX8_seatFrom 131 = .ok (.invokevirtual 49, 3) := by decide +kernel
theorem dX8_seatFrom_134 : decode cX8_seatFrom 134 = .ok (.iinc 4 1, 3) := by decide +kernel
theorem dX8_seatFrom_137 : decode cX8_seatFrom 137 = .ok (.goto (-84), 3) := by decide +kernel
theorem dX8_seatFrom_140 : decode cX8_seatFrom 140 = .ok (.return_, 1) := by decide +kernel
theorem dX8_apart_0 : decode cX8_apart 0 = .ok (.aload_n 0, 1) := by decide +kernel
theorem dX8_apart_1 : decode cX8_apart 1 = .ok (.getfield 19, 3) := by decide +kernel
theorem dX8_apart_4 : decode cX8_apart 4 = .ok (.iload_n 1, 1) := by decide +kernel
theorem dX8_apart_5 : decode cX8_apart 5 = .ok (.iaload, 1) := by decide +kernel
theorem dX8_apart_6 : decode cX8_apart 6 = .ok (.aload_n 0, 1) := by decide +kernel
theorem dX8_apart_7 : decode cX8_apart 7 = .ok (.getfield 19, 3) := by decide +kernel
theorem dX8_apart_10 : decode cX8_apart 10 = .ok (.iload_n 2, 1) := by decide +kernel
theorem dX8_apart_11 : decode cX8_apart 11 = .ok (.iaload, 1) := by decide +kernel
theorem dX8_apart_12 : decode cX8_apart 12 = .ok (.isub, 1) := by decide +kernel
theorem dX8_apart_13 : decode cX8_apart 13 = .ok (.invokestatic 63, 3) := by decide +kernel
theorem dX8_apart_16 : decode cX8_apart 16 = .ok (.ireturn, 1) := by decide +kernel
theorem dX8_numberAt_0 : decode cX8_numberAt 0 = .ok (.aload_n 0, 1) := by decide +kernel
theorem dX8_numberAt_1 : decode cX8_numberAt 1 = .ok (.getfield 15, 3) := by decide +kernel
theorem dX8_numberAt_4 : decode cX8_numberAt 4 = .ok (.aload_n 0, 1) := by decide +kernel
theorem dX8_numberAt_5 : decode cX8_numberAt 5 = .ok (.getfield 28, 3) := by decide +kernel
theorem dX8_numberAt_8 : decode cX8_numberAt 8 = .ok (.iload_n 1, 1) := by decide +kernel
theorem dX8_numberAt_9 : decode cX8_numberAt 9 = .ok (.iaload, 1) := by decide +kernel
theorem dX8_numberAt_10 : decode cX8_numberAt 10 = .ok (.iaload, 1) := by decide +kernel
theorem dX8_numberAt_11 : decode cX8_numberAt 11 = .ok (.ireturn, 1) := by decide +kernel
theorem dX8_spentIn_0 : decode cX8_spentIn 0 = .ok (.iconst 0, 1) := by decide +kernel
theorem dX8_spentIn_1 : decode cX8_spentIn 1 = .ok (.istore_n 2, 1) := by decide +kernel
theorem dX8_spentIn_2 : decode cX8_spentIn 2 = .ok (.iload_n 2, 1) := by decide +kernel
theorem dX8_spentIn_3 : decode cX8_spentIn 3 = .ok (.aload_n 0, 1) := by decide +kernel
theorem dX8_spentIn_4 : decode cX8_spentIn 4 = .ok (.getfield 9, 3) := by decide +kernel
theorem dX8_spentIn_7 : decode cX8_spentIn 7 = .ok (.if_icmp .ge 26, 3) := by decide +kernel
theorem dX8_spentIn_10 : decode cX8_spentIn 10 = .ok (.aload_n 0, 1) := by decide +kernel
theorem dX8_spentIn_11 : decode cX8_spentIn 11 = .ok (.getfield 31, 3) := by decide +kernel
theorem dX8_spentIn_14 : decode cX8_spentIn 14 = .ok (.iload_n 2, 1) := by decide +kernel
theorem dX8_spentIn_15 : decode cX8_spentIn 15 = .ok (.aload_n 0, 1) := by decide +kernel
theorem dX8_spentIn_16 : decode cX8_spentIn 16 = .ok (.getfield 22, 3) := by decide +kernel
theorem dX8_spentIn_19 : decode cX8_spentIn 19 = .ok (.aload_n 0, 1) := by decide +kernel
theorem dX8_spentIn_20 : decode cX8_spentIn 20 = .ok (.getfield 28, 3) := by decide +kernel
theorem dX8_spentIn_23 : decode cX8_spentIn 23 = .ok (.iload_n 2, 1) := by decide +kernel
theorem dX8_spentIn_24 : decode cX8_spentIn 24 = .ok (.iaload, 1) := by decide +kernel
theorem dX8_spentIn_25 : decode cX8_spentIn 25 = .ok (.iaload, 1) := by decide +kernel
theorem dX8_spentIn_26 : decode cX8_spentIn 26 = .ok (.iastore, 1) := by decide +kernel
theorem dX8_spentIn_27 : decode cX8_spentIn 27 = .ok (.iinc 2 1, 3) := by decide +kernel
theorem dX8_spentIn_30 : decode cX8_spentIn 30 = .ok (.goto (-28), 3) := by decide +kernel
theorem dX8_spentIn_33 : decode cX8_spentIn 33 = .ok (.iconst 0, 1) := by decide +kernel
theorem dX8_spentIn_34 : decode cX8_spentIn 34 = .ok (.istore_n 2, 1) := by decide +kernel
theorem dX8_spentIn_35 : decode cX8_spentIn 35 = .ok (.iconst 0, 1) := by decide +kernel
theorem dX8_spentIn_36 : decode cX8_spentIn 36 = .ok (.istore_n 3, 1) := by decide +kernel
theorem dX8_spentIn_37 : decode cX8_spentIn 37 = .ok (.iload_n 3, 1) := by decide +kernel
theorem dX8_spentIn_38 : decode cX8_spentIn 38 = .ok (.aload_n 1, 1) := by decide +kernel
theorem dX8_spentIn_39 : decode cX8_spentIn 39 = .ok (.getfield 69, 3) := by decide +kernel
theorem dX8_spentIn_42 : decode cX8_spentIn 42 = .ok (.if_icmp .ge 80, 3) := by decide +kernel
theorem dX8_spentIn_45 : decode cX8_spentIn 45 = .ok (.aload_n 1, 1) := by decide +kernel
theorem dX8_spentIn_46 : decode cX8_spentIn 46 = .ok (.getfield 74, 3) := by decide +kernel
theorem dX8_spentIn_49 : decode cX8_spentIn 49 = .ok (.iload_n 3, 1) := by decide +kernel
theorem dX8_spentIn_50 : decode cX8_spentIn 50 = .ok (.iaload, 1) := by decide +kernel
theorem dX8_spentIn_51 : decode cX8_spentIn 51 = .ok (.istore 4, 2) := by decide +kernel
theorem dX8_spentIn_53 : decode cX8_spentIn 53 = .ok (.iload 4, 2) := by decide +kernel
theorem dX8_spentIn_55 : decode cX8_spentIn 55 = .ok (.bipush 100, 2) := by decide +kernel
theorem dX8_spentIn_57 : decode cX8_spentIn 57 = .ok (.if_icmp .lt 29, 3) := by decide +kernel
theorem dX8_spentIn_60 : decode cX8_spentIn 60 = .ok (.iload_n 2, 1) := by decide +kernel
theorem dX8_spentIn_61 : decode cX8_spentIn 61 = .ok (.aload_n 0, 1) := by decide +kernel
theorem dX8_spentIn_62 : decode cX8_spentIn 62 = .ok (.invokevirtual 77, 3) := by decide +kernel
theorem dX8_spentIn_65 : decode cX8_spentIn 65 = .ok (.iadd, 1) := by decide +kernel
theorem dX8_spentIn_66 : decode cX8_spentIn 66 = .ok (.istore_n 2, 1) := by decide +kernel
theorem dX8_spentIn_67 : decode cX8_spentIn 67 = .ok (.aload_n 0, 1) := by decide +kernel
theorem dX8_spentIn_68 : decode cX8_spentIn 68 = .ok (.iload 4, 2) := by decide +kernel
theorem dX8_spentIn_70 : decode cX8_spentIn 70 = .ok (.bipush 100, 2) := by decide +kernel
theorem dX8_spentIn_72 : decode cX8_spentIn 72 = .ok (.if_icmp .ne 7, 3) := by decide +kernel
theorem dX8_spentIn_75 : decode cX8_spentIn 75 = .ok (.iconst 1, 1) := by decide +kernel
theorem dX8_spentIn_76 : decode cX8_spentIn 76 = .ok (.goto 4, 3) := by decide +kernel
theorem dX8_spentIn_79 : decode cX8_spentIn 79 = .ok (.iconst 0, 1) := by decide +kernel
theorem dX8_spentIn_80 : decode cX8_spentIn 80 = .ok (.invokevirtual 81, 3) := by decide +kernel
theorem dX8_spentIn_83 : decode cX8_spentIn 83 = .ok (.goto 33, 3) := by decide +kernel
theorem dX8_spentIn_86 : decode cX8_spentIn 86 = .ok (.iload 4, 2) := by decide +kernel
theorem dX8_spentIn_88 : decode cX8_spentIn 88 = .ok (.bipush 10, 2) := by decide +kernel
theorem dX8_spentIn_90 : decode cX8_spentIn 90 = .ok (.idiv, 1) := by decide +kernel
theorem dX8_spentIn_91 : decode cX8_spentIn 91 = .ok (.aload_n 0, 1) := by decide +kernel
theorem dX8_spentIn_92 : decode cX8_spentIn 92 = .ok (.getfield 9, 3) := by decide +kernel
theorem dX8_spentIn_95 : decode cX8_spentIn 95 = .ok (.if_icmp .ge 18, 3) := by decide +kernel
theorem dX8_spentIn_98 : decode cX8_spentIn 98 = .ok (.iload_n 2, 1) := by decide +kernel
theorem dX8_spentIn_99 : decode cX8_spentIn 99 = .ok (.aload_n 0, 1) := by decide +kernel
theorem dX8_spentIn_100 : decode cX8_spentIn 100 = .ok (.iload 4, 2) := by decide +kernel
theorem dX8_spentIn_102 : decode cX8_spentIn 102 = .ok (.bipush 10, 2) := by decide +kernel
theorem dX8_spentIn_104 : decode cX8_spentIn 104 = .ok (.idiv, 1) := by decide +kernel
theorem dX8_spentIn_105 : decode cX8_spentIn 105 = .ok (.invokevirtual 85, 3) := by decide +kernel
theorem dX8_spentIn_108 : decode cX8_spentIn 108 = .ok (.iadd, 1) := by decide +kernel
theorem dX8_spentIn_109 : decode cX8_spentIn 109 = .ok (.istore_n 2, 1) := by decide +kernel
theorem dX8_spentIn_110 : decode cX8_spentIn 110 = .ok (.goto 6, 3) := by decide +kernel
theorem dX8_spentIn_113 : decode cX8_spentIn 113 = .ok (.bipush (-3), 2) := by decide +kernel
theorem dX8_spentIn_115 : decode cX8_spentIn 115 = .ok (.ireturn, 1) := by decide +kernel
theorem dX8_spentIn_116 : decode cX8_spentIn 116 = .ok (.iinc 3 1, 3) := by decide +kernel
theorem dX8_spentIn_119 : decode cX8_spentIn 119 = .ok (.goto (-82), 3) := by decide +kernel
theorem dX8_spentIn_122 : decode cX8_spentIn 122 = .ok (.iload_n 2, 1) := by decide +kernel
theorem dX8_spentIn_123 : decode cX8_spentIn 123 = .ok (.ireturn, 1) := by decide +kernel
theorem dX8_greatestPace_0 : decode cX8_greatestPace 0 = .ok (.iconst 0, 1) := by decide +kernel
theorem dX8_greatestPace_1 : decode cX8_greatestPace 1 = .ok (.istore_n 1, 1) := by decide +kernel
theorem dX8_greatestPace_2 : decode cX8_greatestPace 2 = .ok (.iconst 0, 1) := by decide +kernel
theorem dX8_greatestPace_3 : decode cX8_greatestPace 3 = .ok (.istore_n 2, 1) := by decide +kernel
theorem dX8_greatestPace_4 : decode cX8_greatestPace 4 = .ok (.iload_n 2, 1) := by decide +kernel
theorem dX8_greatestPace_5 : decode cX8_greatestPace 5 = .ok (.aload_n 0, 1) := by decide +kernel
theorem dX8_greatestPace_6 : decode cX8_greatestPace 6 = .ok (.getfield 9, 3) := by decide +kernel
theorem dX8_greatestPace_9 : decode cX8_greatestPace 9 = .ok (.if_icmp .ge 20, 3) := by decide +kernel
theorem dX8_greatestPace_12 : decode cX8_greatestPace 12 = .ok (.iload_n 1, 1) := by decide +kernel
theorem dX8_greatestPace_13 : decode cX8_greatestPace 13 = .ok (.aload_n 0, 1) := by decide +kernel
theorem dX8_greatestPace_14 : decode cX8_greatestPace 14 = .ok (.getfield 22, 3) := by decide +kernel
theorem dX8_greatestPace_17 : decode cX8_greatestPace 17 = .ok (.iload_n 2, 1) := by decide +kernel
theorem dX8_greatestPace_18 : decode cX8_greatestPace 18 = .ok (.iaload, 1) := by decide +kernel
theorem dX8_greatestPace_19 : decode cX8_greatestPace 19 = .ok (.invokestatic 88, 3) := by decide +kernel
theorem dX8_greatestPace_22 : decode cX8_greatestPace 22 = .ok (.istore_n 1, 1) := by decide +kernel
theorem dX8_greatestPace_23 : decode cX8_greatestPace 23 = .ok (.iinc 2 1, 3) := by decide +kernel
theorem dX8_greatestPace_26 : decode cX8_greatestPace 26 = .ok (.goto (-22), 3) := by decide +kernel
theorem dX8_greatestPace_29 : decode cX8_greatestPace 29 = .ok (.iload_n 1, 1) := by decide +kernel
theorem dX8_greatestPace_30 : decode cX8_greatestPace 30 = .ok (.ireturn, 1) := by decide +kernel
theorem dX8_turn_0 : decode cX8_turn 0 = .ok (.aload_n 0, 1) := by decide +kernel
