theorem dX8_turn_1 : decode cX8_turn 1 = .ok (.getfield 9, 3) := by decide +kernel
theorem dX8_turn_4 : decode cX8_turn 4 = .ok (.iconst 1, 1) := by decide +kernel
theorem dX8_turn_5 : decode cX8_turn 5 = .ok (.if_icmp .ge 4, 3) := by decide +kernel
theorem dX8_turn_8 : decode cX8_turn 8 = .ok (.return_, 1) := by decide +kernel
theorem dX8_turn_9 : decode cX8_turn 9 = .ok (.iload_n 1, 1) := by decide +kernel
theorem dX8_turn_10 : decode cX8_turn 10 = .ok (.ifCond .eq 44, 3) := by decide +kernel
theorem dX8_turn_13 : decode cX8_turn 13 = .ok (.aload_n 0, 1) := by decide +kernel
theorem dX8_turn_14 : decode cX8_turn 14 = .ok (.getfield 31, 3) := by decide +kernel
theorem dX8_turn_17 : decode cX8_turn 17 = .ok (.aload_n 0, 1) := by decide +kernel
theorem dX8_turn_18 : decode cX8_turn 18 = .ok (.getfield 9, 3) := by decide +kernel
theorem dX8_turn_21 : decode cX8_turn 21 = .ok (.iconst 1, 1) := by decide +kernel
theorem dX8_turn_22 : decode cX8_turn 22 = .ok (.isub, 1) := by decide +kernel
theorem dX8_turn_23 : decode cX8_turn 23 = .ok (.iaload, 1) := by decide +kernel
theorem dX8_turn_24 : decode cX8_turn 24 = .ok (.istore_n 2, 1) := by decide +kernel
theorem dX8_turn_25 : decode cX8_turn 25 = .ok (.aload_n 0, 1) := by decide +kernel
theorem dX8_turn_26 : decode cX8_turn 26 = .ok (.getfield 31, 3) := by decide +kernel
theorem dX8_turn_29 : decode cX8_turn 29 = .ok (.iconst 0, 1) := by decide +kernel
theorem dX8_turn_30 : decode cX8_turn 30 = .ok (.aload_n 0, 1) := by decide +kernel
theorem dX8_turn_31 : decode cX8_turn 31 = .ok (.getfield 31, 3) := by decide +kernel
theorem dX8_turn_34 : decode cX8_turn 34 = .ok (.iconst 1, 1) := by decide +kernel
theorem dX8_turn_35 : decode cX8_turn 35 = .ok (.aload_n 0, 1) := by decide +kernel
theorem dX8_turn_36 : decode cX8_turn 36 = .ok (.getfield 9, 3) := by decide +kernel
theorem dX8_turn_39 : decode cX8_turn 39 = .ok (.iconst 1, 1) := by decide +kernel
theorem dX8_turn_40 : decode cX8_turn 40 = .ok (.isub, 1) := by decide +kernel
theorem dX8_turn_41 : decode cX8_turn 41 = .ok (.invokestatic 57, 3) := by decide +kernel
theorem dX8_turn_44 : decode cX8_turn 44 = .ok (.aload_n 0, 1) := by decide +kernel
theorem dX8_turn_45 : decode cX8_turn 45 = .ok (.getfield 31, 3) := by decide +kernel
theorem dX8_turn_48 : decode cX8_turn 48 = .ok (.iconst 0, 1) := by decide +kernel
theorem dX8_turn_49 : decode cX8_turn 49 = .ok (.iload_n 2, 1) := by decide +kernel
theorem dX8_turn_50 : decode cX8_turn 50 = .ok (.iastore, 1) := by decide +kernel
theorem dX8_turn_51 : decode cX8_turn 51 = .ok (.goto 41, 3) := by decide +kernel
theorem dX8_turn_54 : decode cX8_turn 54 = .ok (.aload_n 0, 1) := by decide +kernel
theorem dX8_turn_55 : decode cX8_turn 55 = .ok (.getfield 31, 3) := by decide +kernel
theorem dX8_turn_58 : decode cX8_turn 58 = .ok (.iconst 0, 1) := by decide +kernel
theorem dX8_turn_59 : decode cX8_turn 59 = .ok (.iaload, 1) := by decide +kernel
theorem dX8_turn_60 : decode cX8_turn 60 = .ok (.istore_n 2, 1) := by decide +kernel
theorem dX8_turn_61 : decode cX8_turn 61 = .ok (.aload_n 0, 1) := by decide +kernel
theorem dX8_turn_62 : decode cX8_turn 62 = .ok (.getfield 31, 3) := by decide +kernel
theorem dX8_turn_65 : decode cX8_turn 65 = .ok (.iconst 1, 1) := by decide +kernel
theorem dX8_turn_66 : decode cX8_turn 66 = .ok (.aload_n 0, 1) := by decide +kernel
theorem dX8_turn_67 : decode cX8_turn 67 = .ok (.getfield 31, 3) := by decide +kernel
theorem dX8_turn_70 : decode cX8_turn 70 = .ok (.iconst 0, 1) := by decide +kernel
theorem dX8_turn_71 : decode cX8_turn 71 = .ok (.aload_n 0, 1) := by decide +kernel
theorem dX8_turn_72 : decode cX8_turn 72 = .ok (.getfield 9, 3) := by decide +kernel
theorem dX8_turn_75 : decode cX8_turn 75 = .ok (.iconst 1, 1) := by decide +kernel
theorem dX8_turn_76 : decode cX8_turn 76 = .ok (.isub, 1) := by decide +kernel
theorem dX8_turn_77 : decode cX8_turn 77 = .ok (.invokestatic 57, 3) := by decide +kernel
theorem dX8_turn_80 : decode cX8_turn 80 = .ok (.aload_n 0, 1) := by decide +kernel
theorem dX8_turn_81 : decode cX8_turn 81 = .ok (.getfield 31, 3) := by decide +kernel
theorem dX8_turn_84 : decode cX8_turn 84 = .ok (.aload_n 0, 1) := by decide +kernel
theorem dX8_turn_85 : decode cX8_turn 85 = .ok (.getfield 9, 3) := by decide +kernel
theorem dX8_turn_88 : decode cX8_turn 88 = .ok (.iconst 1, 1) := by decide +kernel
theorem dX8_turn_89 : decode cX8_turn 89 = .ok (.isub, 1) := by decide +kernel
theorem dX8_turn_90 : decode cX8_turn 90 = .ok (.iload_n 2, 1) := by decide +kernel
theorem dX8_turn_91 : decode cX8_turn 91 = .ok (.iastore, 1) := by decide +kernel
theorem dX8_turn_92 : decode cX8_turn 92 = .ok (.return_, 1) := by decide +kernel
theorem dX8_change_0 : decode cX8_change 0 = .ok (.iload_n 1, 1) := by decide +kernel
theorem dX8_change_1 : decode cX8_change 1 = .ok (.aload_n 0, 1) := by decide +kernel
theorem dX8_change_2 : decode cX8_change 2 = .ok (.getfield 9, 3) := by decide +kernel
theorem dX8_change_5 : decode cX8_change 5 = .ok (.invokestatic 91, 3) := by decide +kernel
theorem dX8_change_8 : decode cX8_change 8 = .ok (.istore_n 2, 1) := by decide +kernel
theorem dX8_change_9 : decode cX8_change 9 = .ok (.aload_n 0, 1) := by decide +kernel
theorem dX8_change_10 : decode cX8_change 10 = .ok (.getfield 31, 3) := by decide +kernel
theorem dX8_change_13 : decode cX8_change 13 = .ok (.iload_n 1, 1) := by decide +kernel
theorem dX8_change_14 : decode cX8_change 14 = .ok (.iaload, 1) := by decide +kernel
theorem dX8_change_15 : decode cX8_change 15 = .ok (.istore_n 3, 1) := by decide +kernel
theorem dX8_change_16 : decode cX8_change 16 = .ok (.aload_n 0, 1) := by decide +kernel
theorem dX8_change_17 : decode cX8_change 17 = .ok (.getfield 31, 3) := by decide +kernel
theorem dX8_change_20 : decode cX8_change 20 = .ok (.iload_n 1, 1) := by decide +kernel
theorem dX8_change_21 : decode cX8_change 21 = .ok (.aload_n 0, 1) := by decide +kernel
theorem dX8_change_22 : decode cX8_change 22 = .ok (.getfield 31, 3) := by decide +kernel
theorem dX8_change_25 : decode cX8_change 25 = .ok (.iload_n 2, 1) := by decide +kernel
theorem dX8_change_26 : decode cX8_change 26 = .ok (.iaload, 1) := by decide +kernel
theorem dX8_change_27 : decode cX8_change 27 = .ok (.iastore, 1) := by decide +kernel
theorem dX8_change_28 : decode cX8_change 28 = .ok (.aload_n 0, 1) := by decide +kernel
theorem dX8_change_29 : decode cX8_change 29 = .ok (.getfield 31, 3) := by decide +kernel
theorem dX8_change_32 : decode cX8_change 32 = .ok (.iload_n 2, 1) := by decide +kernel
theorem dX8_change_33 : decode cX8_change 33 = .ok (.iload_n 3, 1) := by decide +kernel
theorem dX8_change_34 : decode cX8_change 34 = .ok (.iastore, 1) := by decide +kernel
theorem dX8_change_35 : decode cX8_change 35 = .ok (.iload_n 3, 1) := by decide +kernel
theorem dX8_change_36 : decode cX8_change 36 = .ok (.aload_n 0, 1) := by decide +kernel
theorem dX8_change_37 : decode cX8_change 37 = .ok (.getfield 31, 3) := by decide +kernel
theorem dX8_change_40 : decode cX8_change 40 = .ok (.iload_n 1, 1) := by decide +kernel
theorem dX8_change_41 : decode cX8_change 41 = .ok (.iaload, 1) := by decide +kernel
theorem dX8_change_42 : decode cX8_change 42 = .ok (.iadd, 1) := by decide +kernel
theorem dX8_change_43 : decode cX8_change 43 = .ok (.ireturn, 1) := by decide +kernel
theorem dX9_init_0 : decode cX9_init 0 = .ok (.aload_n 0, 1) := by decide +kernel
theorem dX9_init_1 : decode cX9_init 1 = .ok (.invokespecial 3, 3) := by decide +kernel
theorem dX9_init_4 : decode cX9_init 4 = .ok (.aload_n 0, 1) := by decide +kernel
theorem dX9_init_5 : decode cX9_init 5 = .ok (.iconst 0, 1) := by decide +kernel
theorem dX9_init_6 : decode cX9_init 6 = .ok (.putfield 9, 3) := by decide +kernel
theorem dX9_init_9 : decode cX9_init 9 = .ok (.aload_n 0, 1) := by decide +kernel
theorem dX9_init_10 : decode cX9_init 10 = .ok (.iload_n 1, 1) := by decide +kernel
theorem dX9_init_11 : decode cX9_init 11 = .ok (.newarray .int, 2) := by decide +kernel
theorem dX9_init_13 : decode cX9_init 13 = .ok (.putfield 15, 3) := by decide +kernel
theorem dX9_init_16 : decode cX9_init 16 = .ok (.return_, 1) := by decide +kernel
theorem dX9_clear_0 : decode cX9_clear 0 = .ok (.aload_n 0, 1) := by decide +kernel
theorem dX9_clear_1 : decode cX9_clear 1 = .ok (.iconst 0, 1) := by decide +kernel
theorem dX9_clear_2 : decode cX9_clear 2 = .ok (.putfield 9, 3) := by decide +kernel
theorem dX9_clear_5 : decode cX9_clear 5 = .ok (.return_, 1) := by decide +kernel
theorem dX9_add_0 : decode cX9_add 0 = .ok (.aload_n 0, 1) := by decide +kernel
theorem dX9_add_1 : decode cX9_add 1 = .ok (.getfield 9, 3) := by decide +kernel
theorem dX9_add_4 : decode cX9_add 4 = .ok (.aload_n 0, 1) := by decide +kernel
theorem dX9_add_5 : decode cX9_add 5 = .ok (.getfield 15, 3) := by decide +kernel
theorem dX9_add_8 : decode cX9_add 8 = .ok (.arraylength, 1) := by decide +kernel
theorem dX9_add_9 : decode cX9_add 9 = .ok (.if_icmp .lt 5, 3) := by decide +kernel
theorem dX9_add_12 : decode cX9_add 12 = .ok (.iconst 0, 1) := by decide +kernel
theorem dX9_add_13 : decode cX9_add 13 = .ok (.ireturn, 1) := by decide +kernel
theorem dX9_add_14 : decode cX9_add 14 = .ok (.aload_n 0, 1) := by decide +kernel
theorem dX9_add_15 : decode cX9_add 15 = .ok (.getfield 15, 3) := by decide +kernel
theorem dX9_add_18 : decode cX9_add 18 = .ok (.aload_n 0, 1) := by decide +kernel
theorem dX9_add_19 : decode cX9_add 19 = .ok (.getfield 9, 3) := by decide +kernel
theorem dX9_add_22 : decode cX9_add 22 = .ok (.iload_n 1, 1) := by decide +kernel
theorem dX9_add_23 : decode cX9_add 23 = .ok (.iastore, 1) := by decide +kernel
theorem dX9_add_24 : decode cX9_add 24 = .ok (.aload_n 0, 1) := by decide +kernel
theorem dX9_add_25 : decode cX9_add 25 = .ok (.dup, 1) := by decide +kernel
theorem dX9_add_26 : decode cX9_add 26 = .ok (.getfield 9, 3) := by decide +kernel
theorem dX9_add_29 : decode cX9_add 29 = .ok (.iconst 1, 1) := by decide +kernel
theorem dX9_add_30 : decode cX9_add 30 = .ok (.iadd, 1) := by decide +kernel
theorem dX9_add_31 : decode cX9_add 31 = .ok (.putfield 9, 3) := by decide +kernel
theorem dX9_add_34 : decode cX9_add 34 = .ok (.iconst 1, 1) := by decide +kernel
theorem dX9_add_35 : decode cX9_add 35 = .ok (.ireturn, 1) := by decide +kernel
theorem dX9_codeAt_0 : decode cX9_codeAt 0 = .ok (.iload_n 1, 1) := by decide +kernel
theorem dX9_codeAt_1 : decode cX9_codeAt 1 = .ok (.ifCond .lt 20, 3) := by decide +kernel
theorem dX9_codeAt_4 : decode cX9_codeAt 4 = .ok (.iload_n 1, 1) := by decide +kernel
theorem dX9_codeAt_5 : decode cX9_codeAt 5 = .ok (.aload_n 0, 1) := by decide +kernel
theorem dX9_codeAt_6 : decode cX9_codeAt 6 = .ok (.getfield 9, 3) := by decide +kernel
theorem dX9_codeAt_9 : decode cX9_codeAt 9 = .ok (.if_icmp .ge 12, 3) := by decide +kernel
theorem dX9_codeAt_12 : decode cX9_codeAt 12 = .ok (.aload_n 0, 1) := by decide +kernel
theorem dX9_codeAt_13 : decode cX9_codeAt 13 = .ok (.getfield 15, 3) := by decide +kernel
theorem dX9_codeAt_16 : decode cX9_codeAt 16 = .ok (.iload_n 1, 1) := by decide +kernel
theorem dX9_codeAt_17 : decode cX9_codeAt 17 = .ok (.iaload, 1) := by decide +kernel
theorem dX9_codeAt_18 : decode cX9_codeAt 18 = .ok (.goto 4, 3) := by decide +kernel
theorem dX9_codeAt_21 : decode cX9_codeAt 21 = .ok (.iconst (-1), 1) := by decide +kernel
theorem dX9_codeAt_22 : decode cX9_codeAt 22 = .ok (.ireturn, 1) := by decide +kernel
theorem dX9_walksIn_0 : decode cX9_walksIn 0 = .ok (.iconst 0, 1) := by decide +kernel
theorem dX9_walksIn_1 : decode cX9_walksIn 1 = .ok (.istore_n 1, 1) := by decide +kernel
theorem dX9_walksIn_2 : decode cX9_walksIn 2 = .ok (.iconst 0, 1) := by decide +kernel
theorem dX9_walksIn_3 : decode cX9_walksIn 3 = .ok (.istore_n 2, 1) := by decide +kernel
theorem dX9_walksIn_4 : decode cX9_walksIn 4 = .ok (.iload_n 2, 1) := by decide +kernel
theorem dX9_walksIn_5 : decode cX9_walksIn 5 = .ok (.aload_n 0, 1) := by decide +kernel
theorem dX9_walksIn_6 : decode cX9_walksIn 6 = .ok (.getfield 9, 3) := by decide +kernel
theorem dX9_walksIn_9 : decode cX9_walksIn 9 = .ok (.if_icmp .ge 23, 3) := by decide +kernel
theorem dX9_walksIn_12 : decode cX9_walksIn 12 = .ok (.aload_n 0, 1) := by decide +kernel
theorem dX9_walksIn_13 : decode cX9_walksIn 13 = .ok (.getfield 15, 3) := by decide +kernel
theorem dX9_walksIn_16 : decode cX9_walksIn 16 = .ok (.iload_n 2, 1) := by decide +kernel
theorem dX9_walksIn_17 : decode cX9_walksIn 17 = .ok (.iaload, 1) := by decide +kernel
theorem dX9_walksIn_18 : decode cX9_walksIn 18 = .ok (.bipush 100, 2) := by decide +kernel
theorem dX9_walksIn_20 : decode cX9_walksIn 20 = .ok (.if_icmp .lt 6, 3) := by decide +kernel
theorem dX9_walksIn_23 : decode cX9_walksIn 23 = .ok (.iinc 1 1, 3) := by decide +kernel
theorem dX9_walksIn_26 : decode cX9_walksIn 26 = .ok (.iinc 2 1, 3) := by decide +kernel
theorem dX9_walksIn_29 : decode cX9_walksIn 29 = .ok (.goto (-25), 3) := by decide +kernel
theorem dX9_walksIn_32 : decode cX9_walksIn 32 = .ok (.iload_n 1, 1) := by decide +kernel
theorem dX9_walksIn_33 : decode cX9_walksIn 33 = .ok (.ireturn, 1) := by decide +kernel
theorem dX9_copied_0 : decode cX9_copied 0 = .ok (.new 10, 3) := by decide +kernel
theorem dX9_copied_3 : decode cX9_copied 3 = .ok (.dup, 1) := by decide +kernel
theorem dX9_copied_4 : decode cX9_copied 4 = .ok (.aload_n 0, 1) := by decide +kernel
theorem dX9_copied_5 : decode cX9_copied 5 = .ok (.getfield 9, 3) := by decide +kernel
theorem dX9_copied_8 : decode cX9_copied 8 = .ok (.invokespecial 19, 3) := by decide +kernel
theorem dX9_copied_11 : decode cX9_copied 11 = .ok (.astore_n 1, 1) := by decide +kernel
theorem dX9_copied_12 : decode cX9_copied 12 = .ok (.aload_n 0, 1) := by decide +kernel
theorem dX9_copied_13 : decode cX9_copied 13 = .ok (.getfield 15, 3) := by decide +kernel
theorem dX9_copied_16 : decode cX9_copied 16 = .ok (.iconst 0, 1) := by decide +kernel
theorem dX9_copied_17 : decode cX9_copied 17 = .ok (.aload_n 1, 1) := by decide +kernel
theorem dX9_copied_18 : decode cX9_copied 18 = .ok (.getfield 15, 3) := by decide +kernel
theorem dX9_copied_21 : decode cX9_copied 21 = .ok (.iconst 0, 1) := by decide +kernel
theorem dX9_copied_22 : decode cX9_copied 22 = .ok (.aload_n 0, 1) := by decide +kernel
theorem dX9_copied_23 : decode cX9_copied 23 = .ok (.getfield 9, 3) := by decide +kernel
theorem dX9_copied_26 : decode cX9_copied 26 = .ok (.invokestatic 22, 3) := by decide +kernel
theorem dX9_copied_29 : decode cX9_copied 29 = .ok (.aload_n 1, 1) := by decide +kernel
theorem dX9_copied_30 : decode cX9_copied 30 = .ok (.aload_n 0, 1) := by decide +kernel
theorem dX9_copied_31 : decode cX9_copied 31 = .ok (.getfield 9, 3) := by decide +kernel
theorem dX9_copied_34 : decode cX9_copied 34 = .ok (.putfield 9, 3) := by decide +kernel
theorem dX9_copied_37 : decode cX9_copied 37 = .ok (.aload_n 1, 1) := by decide +kernel
theorem dX9_copied_38 : decode cX9_copied 38 = .ok (.areturn, 1) := by decide +kernel
theorem dX10_init_0 : decode cX10_init 0 = .ok (.aload_n 0, 1) := by decide +kernel
theorem dX10_init_1 : decode cX10_init 1 = .ok (.invokespecial 3, 3) := by decide +kernel
theorem dX10_init_4 : decode cX10_init 4 = .ok (.aload_n 0, 1) := by decide +kernel
theorem dX10_init_5 : decode cX10_init 5 = .ok (.iconst (-1), 1) := by decide +kernel
theorem dX10_init_6 : decode cX10_init 6 = .ok (.putfield 9, 3) := by decide +kernel
theorem dX10_init_9 : decode cX10_init 9 = .ok (.aload_n 0, 1) := by decide +kernel
theorem dX10_init_10 : decode cX10_init 10 = .ok (.iconst 0, 1) := by decide +kernel
theorem dX10_init_11 : decode cX10_init 11 = .ok (.putfield 15, 3) := by decide +kernel
theorem dX10_init_14 : decode cX10_init 14 = .ok (.aload_n 0, 1) := by decide +kernel
theorem dX10_init_15 : decode cX10_init 15 = .ok (.bipush 60, 2) := by decide +kernel
theorem dX10_init_17 : decode cX10_init 17 = .ok (.newarray .int, 2) := by decide +kernel
theorem dX10_init_19 : decode cX10_init 19 = .ok (.putfield 18, 3) := by decide +kernel
theorem dX10_init_22 : decode cX10_init 22 = .ok (.return_, 1) := by decide +kernel
theorem dX10_empty_0 : decode cX10_empty 0 = .ok (.aload_n 0, 1) := by decide +kernel
theorem dX10_empty_1 : decode cX10_empty 1 = .ok (.iconst (-1), 1) := by decide +kernel
theorem dX10_empty_2 : decode cX10_empty 2 = .ok (.putfield 9, 3) := by decide +kernel
theorem dX10_empty_5 : decode cX10_empty 5 = .ok (.aload_n 0, 1) := by decide +kernel
theorem dX10_empty_6 : decode cX10_empty 6 = .ok (.iconst 0, 1) := by decide +kernel
theorem dX10_empty_7 : decode cX10_empty 7 = .ok (.putfield 15, 3) := by decide +kernel
theorem dX10_empty_10 : decode cX10_empty 10 = .ok (.return_, 1) := by decide +kernel
theorem dX10_become_0 : decode cX10_become 0 = .ok (.aload_n 0, 1) := by decide +kernel
theorem dX10_become_1 : decode cX10_become 1 = .ok (.iload_n 1, 1) := by decide +kernel
theorem dX10_become_2 : decode cX10_become 2 = .ok (.putfield 9, 3) := by decide +kernel
theorem dX10_become_5 : decode cX10_become 5 = .ok (.aload_n 0, 1) := by decide +kernel
theorem dX10_become_6 : decode cX10_become 6 = .ok (.iload_n 2, 1) := by decide +kernel
theorem dX10_become_7 : decode cX10_become 7 = .ok (.putfield 15, 3) := by decide +kernel
theorem dX10_become_10 : decode cX10_become 10 = .ok (.aload_n 0, 1) := by decide +kernel
theorem dX10_become_11 : decode cX10_become 11 = .ok (.getfield 18, 3) := by decide +kernel
theorem dX10_become_14 : decode cX10_become 14 = .ok (.iconst 0, 1) := by decide +kernel
theorem dX10_become_15 : decode cX10_become 15 = .ok (.invokestatic 22, 3) := by decide +kernel
theorem dX10_become_18 : decode cX10_become 18 = .ok (.return_, 1) := by decide +kernel
theorem dX10_cut_0 : decode cX10_cut 0 = .ok (.aload_n 0, 1) := by decide +kernel
theorem dX10_cut_1 : decode cX10_cut 1 = .ok (.getfield 9, 3) := by decide +kernel
theorem dX10_cut_4 : decode cX10_cut 4 = .ok (.tableswitch 55 0 4 #[36, 39, 55, 42, 52], 36) := by decide +kernel
theorem dX10_cut_40 : decode cX10_cut 40 = .ok (.iload_n 1, 1) := by decide +kernel
theorem dX10_cut_41 : decode cX10_cut 41 = .ok (.i2b, 1) := by decide +kernel
theorem dX10_cut_42 : decode cX10_cut 42 = .ok (.ireturn, 1) := by decide +kernel
theorem dX10_cut_43 : decode cX10_cut 43 = .ok (.iload_n 1, 1) := by decide +kernel
theorem dX10_cut_44 : decode cX10_cut 44 = .ok (.i2s, 1) := by decide +kernel
theorem dX10_cut_45 : decode cX10_cut 45 = .ok (.ireturn, 1) := by decide +kernel
theorem dX10_cut_46 : decode cX10_cut 46 = .ok (.iload_n 1, 1) := by decide +kernel
theorem dX10_cut_47 : decode cX10_cut 47 = .ok (.ifCond .eq 7, 3) := by decide +kernel
theorem dX10_cut_50 : decode cX10_cut 50 = .ok (.iconst 1, 1) := by decide +kernel
theorem dX10_cut_51 : decode cX10_cut 51 = .ok (.goto 4, 3) := by decide +kernel
theorem dX10_cut_54 : decode cX10_cut 54 = .ok (.iconst 0, 1) := by decide +kernel
theorem dX10_cut_55 : decode cX10_cut 55 = .ok (.ireturn, 1) := by decide +kernel
theorem dX10_cut_56 : decode cX10_cut 56 = .ok (.iload_n 1, 1) := by decide +kernel
theorem dX10_cut_57 : decode cX10_cut 57 = .ok (.i2c, 1) := by decide +kernel
theorem dX10_cut_58 : decode cX10_cut 58 = .ok (.ireturn, 1) := by decide +kernel
theorem dX10_cut_59 : decode cX10_cut 59 = .ok (.iload_n 1, 1) := by decide +kernel
theorem dX10_cut_60 : decode cX10_cut 60 = .ok (.ireturn, 1) := by decide +kernel
theorem dX10_holds_0 : decode cX10_holds 0 = .ok (.iload_n 2, 1) := by decide +kernel
theorem dX10_holds_1 : decode cX10_holds 1 = .ok (.ifCond .lt 29, 3) := by decide +kernel
theorem dX10_holds_4 : decode cX10_holds 4 = .ok (.iload_n 1, 1) := by decide +kernel
theorem dX10_holds_5 : decode cX10_holds 5 = .ok (.ifCond .lt 25, 3) := by decide +kernel
theorem dX10_holds_8 : decode cX10_holds 8 = .ok (.iload_n 2, 1) := by decide +kernel
theorem dX10_holds_9 : decode cX10_holds 9 = .ok (.aload_n 0, 1) := by decide +kernel
theorem dX10_holds_10 : decode cX10_holds 10 = .ok (.getfield 15, 3) := by decide +kernel
theorem dX10_holds_13 : decode cX10_holds 13 = .ok (.if_icmp .gt 17, 3) := by decide +kernel
theorem dX10_holds_16 : decode cX10_holds 16 = .ok (.iload_n 1, 1) := by decide +kernel
theorem dX10_holds_17 : decode cX10_holds 17 = .ok (.aload_n 0, 1) := by decide +kernel
theorem dX10_holds_18 : decode cX10_holds 18 = .ok (.getfield 15, 3) := by decide +kernel
theorem dX10_holds_21 : decode cX10_holds 21 = .ok (.iload_n 2, 1) := by decide +kernel
theorem dX10_holds_22 : decode cX10_holds 22 = .ok (.isub, 1) := by decide +kernel
theorem dX10_holds_23 : decode cX10_holds 23 = .ok (.if_icmp .gt 7, 3) := by decide +kernel
theorem dX10_holds_26 : decode cX10_holds 26 = .ok (.iconst 1, 1) := by decide +kernel
theorem dX10_holds_27 : decode cX10_holds 27 = .ok (.goto 4, 3) := by decide +kernel
theorem dX10_holds_30 : decode cX10_holds 30 = .ok (.iconst 0, 1) := by decide +kernel
theorem dX10_holds_31 : decode cX10_holds 31 = .ok (.ireturn, 1) := by decide +kernel
theorem dX11_init_0 : decode cX11_init 0 = .ok (.aload_n 0, 1) := by decide +kernel
theorem dX11_init_1 : decode cX11_init 1 = .ok (.invokespecial 1, 3) := by decide +kernel
theorem dX11_init_4 : decode cX11_init 4 = .ok (.aload_n 0, 1) := by decide +kernel
theorem dX11_init_5 : decode cX11_init 5 = .ok (.bipush 15, 2) := by decide +kernel
theorem dX11_init_7 : decode cX11_init 7 = .ok (.anewarray 9, 3) := by decide +kernel
theorem dX11_init_10 : decode cX11_init 10 = .ok (.putfield 11, 3) := by decide +kernel
theorem dX11_init_13 : decode cX11_init 13 = .ok (.aload_n 0, 1) := by decide +kernel
theorem dX11_init_14 : decode cX11_init 14 = .ok (.iconst 0, 1) := by decide +kernel
theorem dX11_init_15 : decode cX11_init 15 = .ok (.putfield 15, 3) := by decide +kernel
theorem dX11_init_18 : decode cX11_init 18 = .ok (.aload_n 0, 1) := by decide +kernel
theorem dX11_init_19 : decode cX11_init 19 = .ok (.new 19, 3) := by decide +kernel
theorem dX11_init_22 : decode cX11_init 22 = .ok (.dup, 1) := by decide +kernel
theorem dX11_init_23 : decode cX11_init 23 = .ok (.invokespecial 21, 3) := by decide +kernel
theorem dX11_init_26 : decode cX11_init 26 = .ok (.putfield 22, 3) := by decide +kernel
theorem dX11_init_29 : decode cX11_init 29 = .ok (.aload_n 0, 1) := by decide +kernel
theorem dX11_init_30 : decode cX11_init 30 = .ok (.bipush 9, 2) := by decide +kernel
theorem dX11_init_32 : decode cX11_init 32 = .ok (.newarray .int, 2) := by decide +kernel
theorem dX11_init_34 : decode cX11_init 34 = .ok (.putfield 26, 3) := by decide +kernel
theorem dX11_init_37 : decode cX11_init 37 = .ok (.aload_n 0, 1) := by decide +kernel
theorem dX11_init_38 : decode cX11_init 38 = .ok (.bipush 9, 2) := by decide +kernel
theorem dX11_init_40 : decode cX11_init 40 = .ok (.newarray .int, 2) := by decide +kernel
theorem dX11_init_42 : decode cX11_init 42 = .ok (.putfield 30, 3) := by decide +kernel
theorem dX11_init_45 : decode cX11_init 45 = .ok (.aload_n 0, 1) := by decide +kernel
theorem dX11_init_46 : decode cX11_init 46 = .ok (.new 33, 3) := by decide +kernel
theorem dX11_init_49 : decode cX11_init 49 = .ok (.dup, 1) := by decide +kernel
theorem dX11_init_50 : decode cX11_init 50 = .ok (.invokespecial 35, 3) := by decide +kernel
theorem dX11_init_53 : decode cX11_init 53 = .ok (.putfield 36, 3) := by decide +kernel
theorem dX11_init_56 : decode cX11_init 56 = .ok (.aload_n 0, 1) := by decide +kernel
theorem dX11_init_57 : decode cX11_init 57 = .ok (.iconst 0, 1) := by decide +kernel
theorem dX11_init_58 : decode cX11_init 58 = .ok (.putfield 40, 3) := by decide +kernel
theorem dX11_init_61 : decode cX11_init 61 = .ok (.aload_n 0, 1) := by decide +kernel
theorem dX11_init_62 : decode cX11_init 62 = .ok (.new 44, 3) := by decide +kernel
theorem dX11_init_65 : decode cX11_init 65 = .ok (.dup, 1) := by decide +kernel
theorem dX11_init_66 : decode cX11_init 66 = .ok (.sipush 300, 3) := by decide +kernel
theorem dX11_init_69 : decode cX11_init 69 = .ok (.invokespecial 46, 3) := by decide +kernel
theorem dX11_init_72 : decode cX11_init 72 = .ok (.putfield 49, 3) := by decide +kernel
theorem dX11_init_75 : decode cX11_init 75 = .ok (.aload_n 0, 1) := by decide +kernel
theorem dX11_init_76 : decode cX11_init 76 = .ok (.new 53, 3) := by decide +kernel
theorem dX11_init_79 : decode cX11_init 79 = .ok (.dup, 1) := by decide +kernel
theorem dX11_init_80 : decode cX11_init 80 = .ok (.invokespecial 55, 3) := by decide +kernel
theorem dX11_init_83 : decode cX11_init 83 = .ok (.putfield 56, 3) := by decide +kernel
theorem dX11_init_86 : decode cX11_init 86 = .ok (.aload_n 0, 1) := by decide +kernel
theorem dX11_init_87 : decode cX11_init 87 = .ok (.new 60, 3) := by decide +kernel
theorem dX11_init_90 : decode cX11_init 90 = .ok (.dup, 1) := by decide +kernel
theorem dX11_init_91 : decode cX11_init 91 = .ok (.invokespecial 62, 3) := by decide +kernel
theorem dX11_init_94 : decode cX11_init 94 = .ok (.putfield 63, 3) := by decide +kernel
theorem dX11_init_97 : decode cX11_init 97 = .ok (.aload_n 0, 1) := by decide +kernel
theorem dX11_init_98 : decode cX11_init 98 = .ok (.new 33, 3) := by decide +kernel
theorem dX11_init_101 : decode cX11_init 101 = .ok (.dup, 1) := by decide +kernel
theorem dX11_init_102 : decode cX11_init 102 = .ok (.invokespecial 35, 3) := by decide +kernel
theorem dX11_init_105 : decode cX11_init 105 = .ok (.putfield 67, 3) := by decide +kernel
theorem dX11_init_108 : decode cX11_init 108 = .ok (.aload_n 0, 1) := by decide +kernel
theorem dX11_init_109 : decode cX11_init 109 = .ok (.new 33, 3) := by decide +kernel
theorem dX11_init_112 : decode cX11_init 112 = .ok (.dup, 1) := by decide +kernel
theorem dX11_init_113 : decode cX11_init 113 = .ok (.invokespecial 35, 3) := by decide +kernel
theorem dX11_init_116 : decode cX11_init 116 = .ok (.putfield 70, 3) := by decide +kernel
theorem dX11_init_119 : decode cX11_init 119 = .ok (.aload_n 0, 1) := by decide +kernel
theorem dX11_init_120 : decode cX11_init 120 = .ok (.new 33, 3) := by decide +kernel
theorem dX11_init_123 : decode cX11_init 123 = .ok (.dup, 1) := by decide +kernel
theorem dX11_init_124 : decode cX11_init 124 = .ok (.invokespecial 35, 3) := by decide +kernel
theorem dX11_init_127 : decode cX11_init 127 = .ok (.putfield 73, 3) := by decide +kernel
theorem dX11_init_130 : decode cX11_init 130 = .ok (.aload_n 0, 1) := by decide +kernel
theorem dX11_init_131 : decode cX11_init 131 = .ok (.new 76, 3) := by decide +kernel
theorem dX11_init_134 : decode cX11_init 134 = .ok (.dup, 1) := by decide +kernel
theorem dX11_init_135 : decode cX11_init 135 = .ok (.invokespecial 78, 3) := by decide +kernel
theorem dX11_init_138 : decode cX11_init 138 = .ok (.putfield 79, 3) := by decide +kernel
theorem dX11_init_141 : decode cX11_init 141 = .ok (.aload_n 0, 1) := by decide +kernel
theorem dX11_init_142 : decode cX11_init 142 = .ok (.new 83, 3) := by decide +kernel
theorem dX11_init_145 : decode cX11_init 145 = .ok (.dup, 1) := by decide +kernel
theorem dX11_init_146 : decode cX11_init 146 = .ok (.invokespecial 85, 3) := by decide +kernel
theorem dX11_init_149 : decode cX11_init 149 = .ok (.putfield 86, 3) := by decide +kernel
theorem dX11_init_152 : decode cX11_init 152 = .ok (.aload_n 0, 1) := by decide +kernel
theorem dX11_init_153 : decode cX11_init 153 = .ok (.new 83, 3) := by decide +kernel
theorem dX11_init_156 : decode cX11_init 156 = .ok (.dup, 1) := by decide +kernel
theorem dX11_init_157 : decode cX11_init 157 = .ok (.invokespecial 85, 3) := by decide +kernel
theorem dX11_init_160 : decode cX11_init 160 = .ok (.putfield 90, 3) := by decide +kernel
theorem dX11_init_163 : decode cX11_init 163 = .ok (.aload_n 0, 1) := by decide +kernel
theorem dX11_init_164 : decode cX11_init 164 = .ok (.new 93, 3) := by decide +kernel
theorem dX11_init_167 : decode cX11_init 167 = .ok (.dup, 1) := by decide +kernel
theorem dX11_init_168 : decode cX11_init 168 = .ok (.invokespecial 95, 3) := by decide +kernel
theorem dX11_init_171 : decode cX11_init 171 = .ok (.putfield 96, 3) := by decide +kernel
theorem dX11_init_174 : decode cX11_init 174 = .ok (.aload_n 0, 1) := by decide +kernel
theorem dX11_init_175 : decode cX11_init 175 = .ok (.new 100, 3) := by decide +kernel
theorem dX11_init_178 : decode cX11_init 178 = .ok (.dup, 1) := by decide +kernel
theorem dX11_init_179 : decode cX11_init 179 = .ok (.invokespecial 102, 3) := by decide +kernel
theorem dX11_init_182 : decode cX11_init 182 = .ok (.putfield 103, 3) := by decide +kernel
theorem dX11_init_185 : decode cX11_init 185 = .ok (.aload_n 0, 1) := by decide +kernel
theorem dX11_init_186 : decode cX11_init 186 = .ok (.bipush 6, 2) := by decide +kernel
theorem dX11_init_188 : decode cX11_init 188 = .ok (.anewarray 107, 3) := by decide +kernel
theorem dX11_init_191 : decode cX11_init 191 = .ok (.putfield 109, 3) := by decide +kernel
theorem dX11_init_194 : decode cX11_init 194 = .ok (.iconst 0, 1) := by decide +kernel
theorem dX11_init_195 : decode cX11_init 195 = .ok (.istore_n 1, 1) := by decide +kernel
theorem dX11_init_196 : decode cX11_init 196 = .ok (.iload_n 1, 1) := by decide +kernel
theorem dX11_init_197 : decode cX11_init 197 = .ok (.bipush 6, 2) := by decide +kernel
theorem dX11_init_199 : decode cX11_init 199 = .ok (.if_icmp .ge 22, 3) := by decide +kernel
theorem dX11_init_202 : decode cX11_init 202 = .ok (.aload_n 0, 1) := by decide +kernel
theorem dX11_init_203 : decode cX11_init 203 = .ok (.getfield 109, 3) := by decide +kernel
theorem dX11_init_206 : decode cX11_init 206 = .ok (.iload_n 1, 1) := by decide +kernel
theorem dX11_init_207 : decode cX11_init 207 = .ok (.new 107, 3) := by decide +kernel
theorem dX11_init_210 : decode cX11_init 210 = .ok (.dup, 1) := by decide +kernel
theorem dX11_init_211 : decode cX11_init 211 = .ok (.invokespecial 113, 3) := by decide +kernel
theorem dX11_init_214 : decode cX11_init 214 = .ok (.aastore, 1) := by decide +kernel
theorem dX11_init_215 : decode cX11_init 215 = .ok (.iinc 1 1, 3) := by decide +kernel
theorem dX11_init_218 : decode cX11_init 218 = .ok (.goto (-22), 3) := by decide +kernel
theorem dX11_init_221 : decode cX11_init 221 = .ok (.return_, 1) := by decide +kernel
theorem dX11_person_0 : decode cX11_person 0 = .ok (.iload_n 1, 1) := by decide +kernel
theorem dX11_person_1 : decode cX11_person 1 = .ok (.ifCond .lt 30, 3) := by decide +kernel
theorem dX11_person_4 : decode cX11_person 4 = .ok (.iload_n 1, 1) := by decide +kernel
theorem dX11_person_5 : decode cX11_person 5 = .ok (.iconst 5, 1) := by decide +kernel
theorem dX11_person_6 : decode cX11_person 6 = .ok (.if_icmp .ge 25, 3) := by decide +kernel
theorem dX11_person_9 : decode cX11_person 9 = .ok (.iload_n 2, 1) := by decide +kernel
theorem dX11_person_10 : decode cX11_person 10 = .ok (.iconst 1, 1) := by decide +kernel
theorem dX11_person_11 : decode cX11_person 11 = .ok (.if_icmp .lt 20, 3) := by decide +kernel
theorem dX11_person_14 : decode cX11_person 14 = .ok (.iload_n 2, 1) := by decide +kernel
theorem dX11_person_15 : decode cX11_person 15 = .ok (.bipush 20, 2) := by decide +kernel
theorem dX11_person_17 : decode cX11_person 17 = .ok (.if_icmp .gt 14, 3) := by decide +kernel
theorem dX11_person_20 : decode cX11_person 20 = .ok (.iload_n 3, 1) := by decide +kernel
theorem dX11_person_21 : decode cX11_person 21 = .ok (.iconst 1, 1) := by decide +kernel
theorem dX11_person_22 : decode cX11_person 22 = .ok (.if_icmp .lt 9, 3) := by decide +kernel
theorem dX11_person_25 : decode cX11_person 25 = .ok (.iload_n 3, 1) := by decide +kernel
theorem dX11_person_26 : decode cX11_person 26 = .ok (.bipush 9, 2) := by decide +kernel
theorem dX11_person_28 : decode cX11_person 28 = .ok (.if_icmp .le 6, 3) := by decide +kernel
theorem dX11_person_31 : decode cX11_person 31 = .ok (.bipush (-2), 2) := by decide +kernel
theorem dX11_person_33 : decode cX11_person 33 = .ok (.ireturn, 1) := by decide +kernel
theorem dX11_person_34 : decode cX11_person 34 = .ok (.aload_n 0, 1) := by decide +kernel
theorem dX11_person_35 : decode cX11_person 35 = .ok (.getfield 15, 3) := by decide +kernel
theorem dX11_person_38 : decode cX11_person 38 = .ok (.bipush 15, 2) := by decide +kernel
theorem dX11_person_40 : decode cX11_person 40 = .ok (.if_icmp .lt 6, 3) := by decide +kernel
theorem dX11_person_43 : decode cX11_person 43 = .ok (.bipush (-4), 2) := by decide +kernel
theorem dX11_person_45 : decode cX11_person 45 = .ok (.ireturn, 1) := by decide +kernel
theorem dX11_person_46 : decode cX11_person 46 = .ok (.aload_n 0, 1) := by decide +kernel
theorem dX11_person_47 : decode cX11_person 47 = .ok (.getfield 15, 3) := by decide +kernel
theorem dX11_person_50 : decode cX11_person 50 = .ok (.istore 4, 2) := by decide +kernel
theorem dX11_person_52 : decode cX11_person 52 = .ok (.aload_n 0, 1) := by decide +kernel
theorem dX11_person_53 : decode cX11_person 53 = .ok (.getfield 11, 3) := by decide +kernel
theorem dX11_person_56 : decode cX11_person 56 = .ok (.iload 4, 2) := by decide +kernel
theorem dX11_person_58 : decode cX11_person 58 = .ok (.new 9, 3) := by decide +kernel
theorem dX11_person_61 : decode cX11_person 61 = .ok (.dup, 1) := by decide +kernel
theorem dX11_person_62 : decode cX11_person 62 = .ok (.iload 4, 2) := by decide +kernel
theorem dX11_person_64 : decode cX11_person 64 = .ok (.iload_n 1, 1) := by decide +kernel
theorem dX11_person_65 : decode cX11_person 65 = .ok (.iload_n 2, 1) := by decide +kernel
theorem dX11_person_66 : decode cX11_person 66 = .ok (.iload_n 3, 1) := by decide +kernel
theorem dX11_person_67 : decode cX11_person 67 = .ok (.invokespecial 114, 3) := by decide +kernel
theorem dX11_person_70 : decode cX11_person 70 = .ok (.aastore, 1) := by decide +kernel
theorem dX11_person_71 : decode cX11_person 71 = .ok (.aload_n 0, 1) := by decide +kernel
theorem dX11_person_72 : decode cX11_person 72 = .ok (.dup, 1) := by decide +kernel
theorem dX11_person_73 : decode cX11_person 73 = .ok (.getfield 15, 3) := by decide +kernel
theorem dX11_person_76 : decode cX11_person 76 = .ok (.iconst 1, 1) := by decide +kernel
theorem dX11_person_77 : decode cX11_person 77 = .ok (.iadd, 1) := by decide +kernel
theorem dX11_person_78 : decode cX11_person 78 = .ok (.putfield 15, 3) := by decide +kernel
theorem dX11_person_81 : decode cX11_person 81 = .ok (.iload 4, 2) := by decide +kernel
theorem dX11_person_83 : decode cX11_person 83 = .ok (.ireturn, 1) := by decide +kernel
theorem dX11_ring_0 : decode cX11_ring 0 = .ok (.iload_n 1, 1) := by decide +kernel
theorem dX11_ring_1 : decode cX11_ring 1 = .ok (.iconst 3, 1) := by decide +kernel
theorem dX11_ring_2 : decode cX11_ring 2 = .ok (.if_icmp .lt 9, 3) := by decide +kernel
theorem dX11_ring_5 : decode cX11_ring 5 = .ok (.iload_n 1, 1) := by decide +kernel
theorem dX11_ring_6 : decode cX11_ring 6 = .ok (.bipush 9, 2) := by decide +kernel
theorem dX11_ring_8 : decode cX11_ring 8 = .ok (.if_icmp .le 6, 3) := by decide +kernel
theorem dX11_ring_11 : decode cX11_ring 11 = .ok (.bipush (-2), 2) := by decide +kernel
theorem dX11_ring_13 : decode cX11_ring 13 = .ok (.ireturn, 1) := by decide +kernel
theorem dX11_ring_14 : decode cX11_ring 14 = .ok (.aload_n 0, 1) := by decide +kernel
theorem dX11_ring_15 : decode cX11_ring 15 = .ok (.getfield 40, 3) := by decide +kernel
theorem dX11_ring_18 : decode cX11_ring 18 = .ok (.ifCond .eq 6, 3) := by decide +kernel
theorem dX11_ring_21 : decode cX11_ring 21 = .ok (.bipush (-3), 2) := by decide +kernel
theorem dX11_ring_23 : decode cX11_ring 23 = .ok (.ireturn, 1) := by decide +kernel
theorem dX11_ring_24 : decode cX11_ring 24 = .ok (.aload_n 0, 1) := by decide +kernel
theorem dX11_ring_25 : decode cX11_ring 25 = .ok (.getfield 36, 3) := by decide +kernel
theorem dX11_ring_28 : decode cX11_ring 28 = .ok (.iload_n 1, 1) := by decide +kernel
theorem dX11_ring_29 : decode cX11_ring 29 = .ok (.invokevirtual 117, 3) := by decide +kernel
theorem dX11_ring_32 : decode cX11_ring 32 = .ok (.aload_n 0, 1) := by decide +kernel
theorem dX11_ring_33 : decode cX11_ring 33 = .ok (.getfield 26, 3) := by decide +kernel
theorem dX11_ring_36 : decode cX11_ring 36 = .ok (.bipush (-5), 2) := by decide +kernel
theorem dX11_ring_38 : decode cX11_ring 38 = .ok (.invokestatic 120, 3) := by decide +kernel
theorem dX11_ring_41 : decode cX11_ring 41 = .ok (.aload_n 0, 1) := by decide +kernel
theorem dX11_ring_42 : decode cX11_ring 42 = .ok (.getfield 30, 3) := by decide +kernel
theorem dX11_ring_45 : decode cX11_ring 45 = .ok (.iconst 0, 1) := by decide +kernel
theorem dX11_ring_46 : decode cX11_ring 46 = .ok (.invokestatic 120, 3) := by decide +kernel
theorem dX11_ring_49 : decode cX11_ring 49 = .ok (.aload_n 0, 1) := by decide +kernel
theorem dX11_ring_50 : decode cX11_ring 50 = .ok (.getfield 49, 3) := by decide +kernel
theorem dX11_ring_53 : decode cX11_ring 53 = .ok (.invokevirtual 126, 3) := by decide +kernel
theorem dX11_ring_56 : decode cX11_ring 56 = .ok (.aload_n 0, 1) := by decide +kernel
theorem dX11_ring_57 : decode cX11_ring 57 = .ok (.getfield 56, 3) := by decide +kernel
theorem dX11_ring_60 : decode cX11_ring 60 = .ok (.iload_n 1, 1) := by decide +kernel
theorem dX11_ring_61 : decode cX11_ring 61 = .ok (.aload_n 0, 1) := by decide +kernel
theorem dX11_ring_62 : decode cX11_ring 62 = .ok (.getfield 30, 3) := by decide +kernel
theorem dX11_ring_65 : decode cX11_ring 65 = .ok (.invokevirtual 129, 3) := by decide +kernel
theorem dX11_ring_68 : decode cX11_ring 68 = .ok (.iconst 1, 1) := by decide +kernel
theorem dX11_ring_69 : decode cX11_ring 69 = .ok (.ireturn, 1) := by decide +kernel
theorem dX11_stand_0 : decode cX11_stand 0 = .ok (.aload_n 0, 1) := by decide +kernel
theorem dX11_stand_1 : decode cX11_stand 1 = .ok (.iload_n 2, 1) := by decide +kernel
theorem dX11_stand_2 : decode cX11_stand 2 = .ok (.invokevirtual 133, 3) := by decide +kernel
theorem dX11_stand_5 : decode cX11_stand 5 = .ok (.astore_n 3, 1) := by decide +kernel
theorem dX11_stand_6 : decode cX11_stand 6 = .ok (.aload_n 0, 1) := by decide +kernel
theorem dX11_stand_7 : decode cX11_stand 7 = .ok (.iload_n 1, 1) := by decide +kernel
theorem dX11_stand_8 : decode cX11_stand 8 = .ok (.invokevirtual 137, 3) := by decide +kernel
theorem dX11_stand_11 : decode cX11_stand 11 = .ok (.ifCond .eq 7, 3) := by decide +kernel
theorem dX11_stand_14 : decode cX11_stand 14 = .ok (.aload_n 3, 1) := by decide +kernel
theorem dX11_stand_15 : decode cX11_stand 15 = .ok (.ifnonnull 5, 3) := by decide +kernel
theorem dX11_stand_18 : decode cX11_stand 18 = .ok (.iconst (-1), 1) := by decide +kernel
theorem dX11_stand_19 : decode cX11_stand 19 = .ok (.ireturn, 1) := by decide +kernel
theorem dX11_stand_20 : decode cX11_stand 20 = .ok (.aload_n 0, 1) := by decide +kernel
theorem dX11_stand_21 : decode cX11_stand 21 = .ok (.getfield 40, 3) := by decide +kernel
theorem dX11_stand_24 : decode cX11_stand 24 = .ok (.ifCond .ne 11, 3) := by decide +kernel
theorem dX11_stand_27 : decode cX11_stand 27 = .ok (.aload_n 0, 1) := by decide +kernel
theorem dX11_stand_28 : decode cX11_stand 28 = .ok (.iload_n 2, 1) := by decide +kernel
theorem dX11_stand_29 : decode cX11_stand 29 = .ok (.invokevirtual 141, 3) := by decide +kernel
theorem dX11_stand_32 : decode cX11_stand 32 = .ok (.ifCond .eq 6, 3) := by decide +kernel
theorem dX11_stand_35 : decode cX11_stand 35 = .ok (.bipush (-3), 2) := by decide +kernel
theorem dX11_stand_37 : decode cX11_stand 37 = .ok (.ireturn, 1) := by decide +kernel
theorem dX11_stand_38 : decode cX11_stand 38 = .ok (.aload_n 3, 1) := by decide +kernel
theorem dX11_stand_39 : decode cX11_stand 39 = .ok (.getfield 144, 3) := by decide +kernel
theorem dX11_stand_42 : decode cX11_stand 42 = .ok (.iconst 4, 1) := by decide +kernel
theorem dX11_stand_43 : decode cX11_stand 43 = .ok (.if_icmp .ne 6, 3) := by decide +kernel
theorem dX11_stand_46 : decode cX11_stand 46 = .ok (.bipush (-12), 2) := by decide +kernel
theorem dX11_stand_48 : decode cX11_stand 48 = .ok (.ireturn, 1) := by decide +kernel
theorem dX11_stand_49 : decode cX11_stand 49 = .ok (.aload_n 0, 1) := by decide +kernel
theorem dX11_stand_50 : decode cX11_stand 50 = .ok (.getfield 26, 3) := by decide +kernel
theorem dX11_stand_53 : decode cX11_stand 53 = .ok (.iload_n 1, 1) := by decide +kernel
theorem dX11_stand_54 : decode cX11_stand 54 = .ok (.iaload, 1) := by decide +kernel
theorem dX11_stand_55 : decode cX11_stand 55 = .ok (.istore 4, 2) := by decide +kernel
theorem dX11_stand_57 : decode cX11_stand 57 = .ok (.aload_n 0, 1) := by decide +kernel
theorem dX11_stand_58 : decode cX11_stand 58 = .ok (.getfield 26, 3) := by decide +kernel
theorem dX11_stand_61 : decode cX11_stand 61 = .ok (.iload_n 1, 1) := by decide +kernel
theorem dX11_stand_62 : decode cX11_stand 62 = .ok (.iload_n 2, 1) := by decide +kernel
theorem dX11_stand_63 : decode cX11_stand 63 = .ok (.iastore, 1) := by decide +kernel
theorem dX11_stand_64 : decode cX11_stand 64 = .ok (.iload 4, 2) := by decide +kernel
theorem dX11_stand_66 : decode cX11_stand 66 = .ok (.ireturn, 1) := by decide +kernel
theorem dX11_ribbon_0 : decode cX11_ribbon 0 = .ok (.aload_n 0, 1) := by decide +kernel
theorem dX11_ribbon_1 : decode cX11_ribbon 1 = .ok (.iload_n 1, 1) := by decide +kernel
theorem dX11_ribbon_2 : decode cX11_ribbon 2 = .ok (.invokevirtual 137, 3) := by decide +kernel
theorem dX11_ribbon_5 : decode cX11_ribbon 5 = .ok (.ifCond .ne 5, 3) := by decide +kernel
theorem dX11_ribbon_8 : decode cX11_ribbon 8 = .ok (.iconst (-1), 1) := by decide +kernel
theorem dX11_ribbon_9 : decode cX11_ribbon 9 = .ok (.ireturn, 1) := by decide +kernel
theorem dX11_ribbon_10 : decode cX11_ribbon 10 = .ok (.iload_n 2, 1) := by decide +kernel
theorem dX11_ribbon_11 : decode cX11_ribbon 11 = .ok (.invokestatic 147, 3) := by decide +kernel
theorem dX11_ribbon_14 : decode cX11_ribbon 14 = .ok (.ifCond .eq 13, 3) := by decide +kernel
theorem dX11_ribbon_17 : decode cX11_ribbon 17 = .ok (.iload_n 3, 1) := by decide +kernel
theorem dX11_ribbon_18 : decode cX11_ribbon 18 = .ok (.ifCond .lt 9, 3) := by decide +kernel
theorem dX11_ribbon_21 : decode cX11_ribbon 21 = .ok (.iload_n 3, 1) := by decide +kernel
theorem dX11_ribbon_22 : decode cX11_ribbon 22 = .ok (.ldc 150, 2) := by decide +kernel
theorem dX11_ribbon_24 : decode cX11_ribbon 24 = .ok (.if_icmp .le 6, 3) := by decide +kernel
theorem dX11_ribbon_27 : decode cX11_ribbon 27 = .ok (.bipush (-2), 2) := by decide +kernel
theorem dX11_ribbon_29 : decode cX11_ribbon 29 = .ok (.ireturn, 1) := by decide +kernel
theorem dX11_ribbon_30 : decode cX11_ribbon 30 = .ok (.aload_n 0, 1) := by decide +kernel
theorem dX11_ribbon_31 : decode cX11_ribbon 31 = .ok (.getfield 40, 3) := by decide +kernel
theorem dX11_ribbon_34 : decode cX11_ribbon 34 = .ok (.ifCond .eq 6, 3) := by decide +kernel
theorem dX11_ribbon_37 : decode cX11_ribbon 37 = .ok (.bipush (-3), 2) := by decide +kernel
theorem dX11_ribbon_39 : decode cX11_ribbon 39 = .ok (.ireturn, 1) := by decide +kernel
theorem dX11_ribbon_40 : decode cX11_ribbon 40 = .ok (.aload_n 0, 1) := by decide +kernel
theorem dX11_ribbon_41 : decode cX11_ribbon 41 = .ok (.getfield 30, 3) := by decide +kernel
theorem dX11_ribbon_44 : decode cX11_ribbon 44 = .ok (.iload_n 1, 1) := by decide +kernel
theorem dX11_ribbon_45 : decode cX11_ribbon 45 = .ok (.iload_n 2, 1) := by decide +kernel
theorem dX11_ribbon_46 : decode cX11_ribbon 46 = .ok (.iastore, 1) := by decide +kernel
theorem dX11_ribbon_47 : decode cX11_ribbon 47 = .ok (.aload_n 0, 1) := by decide +kernel
theorem dX11_ribbon_48 : decode cX11_ribbon 48 = .ok (.getfield 36, 3) := by decide +kernel
theorem dX11_ribbon_51 : decode cX11_ribbon 51 = .ok (.getfield 151, 3) := by decide +kernel
theorem dX11_ribbon_54 : decode cX11_ribbon 54 = .ok (.iload_n 1, 1) := by decide +kernel
theorem dX11_ribbon_55 : decode cX11_ribbon 55 = .ok (.iload_n 3, 1) := by decide +kernel
theorem dX11_ribbon_56 : decode cX11_ribbon 56 = .ok (.iastore, 1) := by decide +kernel
theorem dX11_ribbon_57 : decode cX11_ribbon 57 = .ok (.iconst 1, 1) := by decide +kernel
theorem dX11_ribbon_58 : decode cX11_ribbon 58 = .ok (.ireturn, 1) := by decide +kernel
theorem dX11_at_0 : decode cX11_at 0 = .ok (.aload_n 0, 1) := by decide +kernel
theorem dX11_at_1 : decode cX11_at 1 = .ok (.iload_n 1, 1) := by decide +kernel
theorem dX11_at_2 : decode cX11_at 2 = .ok (.invokevirtual 137, 3) := by decide +kernel
theorem dX11_at_5 : decode cX11_at 5 = .ok (.ifCond .ne 6, 3) := by decide +kernel
theorem dX11_at_8 : decode cX11_at 8 = .ok (.bipush (-6), 2) := by decide +kernel
theorem dX11_at_10 : decode cX11_at 10 = .ok (.ireturn, 1) := by decide +kernel
theorem dX11_at_11 : decode cX11_at 11 = .ok (.aload_n 0, 1) := by decide +kernel
theorem dX11_at_12 : decode cX11_at 12 = .ok (.getfield 36, 3) := by decide +kernel
theorem dX11_at_15 : decode cX11_at 15 = .ok (.getfield 154, 3) := by decide +kernel
theorem dX11_at_18 : decode cX11_at 18 = .ok (.iload_n 1, 1) := by decide +kernel
theorem dX11_at_19 : decode cX11_at 19 = .ok (.iaload, 1) := by decide +kernel
theorem dX11_at_20 : decode cX11_at 20 = .ok (.istore_n 3, 1) := by decide +kernel
theorem dX11_at_21 : decode cX11_at 21 = .ok (.iload_n 2, 1) := by decide +kernel
theorem dX11_at_22 : decode cX11_at 22 = .ok (.tableswitch 56 0 3 #[30, 37, 44, 54], 30) := by decide +kernel
theorem dX11_at_52 : decode cX11_at 52 = .ok (.aload_n 0, 1) := by decide +kernel
theorem dX11_at_53 : decode cX11_at 53 = .ok (.getfield 26, 3) := by decide +kernel
theorem dX11_at_56 : decode cX11_at 56 = .ok (.iload_n 3, 1) := by decide +kernel
theorem dX11_at_57 : decode cX11_at 57 = .ok (.iaload, 1) := by decide +kernel
theorem dX11_at_58 : decode cX11_at 58 = .ok (.ireturn, 1) := by decide +kernel
theorem dX11_at_59 : decode cX11_at 59 = .ok (.aload_n 0, 1) := by decide +kernel
theorem dX11_at_60 : decode cX11_at 60 = .ok (.getfield 30, 3) := by decide +kernel
theorem dX11_at_63 : decode cX11_at 63 = .ok (.iload_n 3, 1) := by decide +kernel
theorem dX11_at_64 : decode cX11_at 64 = .ok (.iaload, 1) := by decide +kernel
theorem dX11_at_65 : decode cX11_at 65 = .ok (.ireturn, 1) := by decide +kernel
theorem dX11_at_66 : decode cX11_at 66 = .ok (.aload_n 0, 1) := by decide +kernel
theorem dX11_at_67 : decode cX11_at 67 = .ok (.getfield 36, 3) := by decide +kernel
theorem dX11_at_70 : decode cX11_at 70 = .ok (.getfield 151, 3) := by decide +kernel
theorem dX11_at_73 : decode cX11_at 73 = .ok (.iload_n 3, 1) := by decide +kernel
theorem dX11_at_74 : decode cX11_at 74 = .ok (.iaload, 1) := by decide +kernel
theorem dX11_at_75 : decode cX11_at 75 = .ok (.ireturn, 1) := by decide +kernel
theorem dX11_at_76 : decode cX11_at 76 = .ok (.iload_n 3, 1) := by decide +kernel
theorem dX11_at_77 : decode cX11_at 77 = .ok (.ireturn, 1) := by decide +kernel
theorem dX11_at_78 : decode cX11_at 78 = .ok (.bipush (-6), 2) := by decide +kernel
theorem dX11_at_80 : decode cX11_at 80 = .ok (.ireturn, 1) := by decide +kernel
theorem dX11_begin_0 : decode cX11_begin 0 = .ok (.aload_n 0, 1) := by decide +kernel
theorem dX11_begin_1 : decode cX11_begin 1 = .ok (.getfield 40, 3) := by decide +kernel
theorem dX11_begin_4 : decode cX11_begin 4 = .ok (.ifCond .ne 22, 3) := by decide +kernel
theorem dX11_begin_7 : decode cX11_begin 7 = .ok (.aload_n 0, 1) := by decide +kernel
theorem dX11_begin_8 : decode cX11_begin 8 = .ok (.getfield 36, 3) := by decide +kernel
theorem dX11_begin_11 : decode cX11_begin 11 = .ok (.getfield 157, 3) := by decide +kernel
theorem dX11_begin_14 : decode cX11_begin 14 = .ok (.ifCond .eq 12, 3) := by decide +kernel
theorem dX11_begin_17 : decode cX11_begin 17 = .ok (.aload_n 0, 1) := by decide +kernel
theorem dX11_begin_18 : decode cX11_begin 18 = .ok (.bipush (-5), 2) := by decide +kernel
theorem dX11_begin_20 : decode cX11_begin 20 = .ok (.invokevirtual 141, 3) := by decide +kernel
theorem dX11_begin_23 : decode cX11_begin 23 = .ok (.ifCond .eq 6, 3) := by decide +kernel
theorem dX11_begin_26 : decode cX11_begin 26 = .ok (.bipush (-3), 2) := by decide +kernel
theorem dX11_begin_28 : decode cX11_begin 28 = .ok (.ireturn, 1) := by decide +kernel
theorem dX11_begin_29 : decode cX11_begin 29 = .ok (.aload_n 0, 1) := by decide +kernel
theorem dX11_begin_30 : decode cX11_begin 30 = .ok (.getfield 36, 3) := by decide +kernel
theorem dX11_begin_33 : decode cX11_begin 33 = .ok (.invokevirtual 160, 3) := by decide +kernel
theorem dX11_begin_36 : decode cX11_begin 36 = .ok (.aload_n 0, 1) := by decide +kernel
theorem dX11_begin_37 : decode cX11_begin 37 = .ok (.getfield 49, 3) := by decide +kernel
theorem dX11_begin_40 : decode cX11_begin 40 = .ok (.invokevirtual 126, 3) := by decide +kernel
theorem dX11_begin_43 : decode cX11_begin 43 = .ok (.aload_n 0, 1) := by decide +kernel
theorem dX11_begin_44 : decode cX11_begin 44 = .ok (.getfield 56, 3) := by decide +kernel
theorem dX11_begin_47 : decode cX11_begin 47 = .ok (.aload_n 0, 1) := by decide +kernel
theorem dX11_begin_48 : decode cX11_begin 48 = .ok (.getfield 36, 3) := by decide +kernel
theorem dX11_begin_51 : decode cX11_begin 51 = .ok (.getfield 157, 3) := by decide +kernel
theorem dX11_begin_54 : decode cX11_begin 54 = .ok (.aload_n 0, 1) := by decide +kernel
theorem dX11_begin_55 : decode cX11_begin 55 = .ok (.getfield 30, 3) := by decide +kernel
theorem dX11_begin_58 : decode cX11_begin 58 = .ok (.invokevirtual 129, 3) := by decide +kernel
theorem dX11_begin_61 : decode cX11_begin 61 = .ok (.aload_n 0, 1) := by decide +kernel
theorem dX11_begin_62 : decode cX11_begin 62 = .ok (.getfield 67, 3) := by decide +kernel
theorem dX11_begin_65 : decode cX11_begin 65 = .ok (.aload_n 0, 1) := by decide +kernel
theorem dX11_begin_66 : decode cX11_begin 66 = .ok (.getfield 36, 3) := by decide +kernel
theorem dX11_begin_69 : decode cX11_begin 69 = .ok (.invokevirtual 163, 3) := by decide +kernel
theorem dX11_begin_72 : decode cX11_begin 72 = .ok (.aload_n 0, 1) := by decide +kernel
theorem dX11_begin_73 : decode cX11_begin 73 = .ok (.iconst 1, 1) := by decide +kernel
theorem dX11_begin_74 : decode cX11_begin 74 = .ok (.putfield 40, 3) := by decide +kernel
theorem dX11_begin_77 : decode cX11_begin 77 = .ok (.aload_n 0, 1) := by decide +kernel
theorem dX11_begin_78 : decode cX11_begin 78 = .ok (.getfield 36, 3) := by decide +kernel
theorem dX11_begin_81 : decode cX11_begin 81 = .ok (.getfield 157, 3) := by decide +kernel
theorem dX11_begin_84 : decode cX11_begin 84 = .ok (.ireturn, 1) := by decide +kernel
theorem dX11_end_0 : decode cX11_end 0 = .ok (.aload_n 0, 1) := by decide +kernel
theorem dX11_end_1 : decode cX11_end 1 = .ok (.getfield 40, 3) := by decide +kernel
theorem dX11_end_4 : decode cX11_end 4 = .ok (.ifCond .ne 6, 3) := by decide +kernel
theorem dX11_end_7 : decode cX11_end 7 = .ok (.bipush (-3), 2) := by decide +kernel
theorem dX11_end_9 : decode cX11_end 9 = .ok (.ireturn, 1) := by decide +kernel
theorem dX11_end_10 : decode cX11_end 10 = .ok (.aload_n 0, 1) := by decide +kernel
theorem dX11_end_11 : decode cX11_end 11 = .ok (.getfield 36, 3) := by decide +kernel
theorem dX11_end_14 : decode cX11_end 14 = .ok (.aload_n 0, 1) := by decide +kernel
theorem dX11_end_15 : decode cX11_end 15 = .ok (.getfield 26, 3) := by decide +kernel
theorem dX11_end_18 : decode cX11_end 18 = .ok (.invokevirtual 167, 3) := by decide +kernel
theorem dX11_end_21 : decode cX11_end 21 = .ok (.aload_n 0, 1) := by decide +kernel
theorem dX11_end_22 : decode cX11_end 22 = .ok (.getfield 36, 3) := by decide +kernel
theorem dX11_end_25 : decode cX11_end 25 = .ok (.aload_n 0, 1) := by decide +kernel
theorem dX11_end_26 : decode cX11_end 26 = .ok (.getfield 30, 3) := by decide +kernel
theorem dX11_end_29 : decode cX11_end 29 = .ok (.invokevirtual 167, 3) := by decide +kernel
theorem dX11_end_32 : decode cX11_end 32 = .ok (.aload_n 0, 1) := by decide +kernel
theorem dX11_end_33 : decode cX11_end 33 = .ok (.getfield 36, 3) := by decide +kernel
theorem dX11_end_36 : decode cX11_end 36 = .ok (.aload_n 0, 1) := by decide +kernel
theorem dX11_end_37 : decode cX11_end 37 = .ok (.getfield 36, 3) := by decide +kernel
theorem dX11_end_40 : decode cX11_end 40 = .ok (.getfield 151, 3) := by decide +kernel
theorem dX11_end_43 : decode cX11_end 43 = .ok (.invokevirtual 167, 3) := by decide +kernel
theorem dX11_end_46 : decode cX11_end 46 = .ok (.aload_n 0, 1) := by decide +kernel
theorem dX11_end_47 : decode cX11_end 47 = .ok (.getfield 36, 3) := by decide +kernel
theorem dX11_end_50 : decode cX11_end 50 = .ok (.invokevirtual 171, 3) := by decide +kernel
theorem dX11_end_53 : decode cX11_end 53 = .ok (.aload_n 0, 1) := by decide +kernel
theorem dX11_end_54 : decode cX11_end 54 = .ok (.iconst 0, 1) := by decide +kernel
theorem dX11_end_55 : decode cX11_end 55 = .ok (.putfield 40, 3) := by decide +kernel
theorem dX11_end_58 : decode cX11_end 58 = .ok (.aload_n 0, 1) := by decide +kernel
theorem dX11_end_59 : decode cX11_end 59 = .ok (.getfield 49, 3) := by decide +kernel
theorem dX11_end_62 : decode cX11_end 62 = .ok (.getfield 174, 3) := by decide +kernel
theorem dX11_end_65 : decode cX11_end 65 = .ok (.ireturn, 1) := by decide +kernel
theorem dX11_pass_0 : decode cX11_pass 0 = .ok (.aload_n 0, 1) := by decide +kernel
theorem dX11_pass_1 : decode cX11_pass 1 = .ok (.iload_n 1, 1) := by decide +kernel
theorem dX11_pass_2 : decode cX11_pass 2 = .ok (.invokevirtual 137, 3) := by decide +kernel
theorem dX11_pass_5 : decode cX11_pass 5 = .ok (.ifCond .ne 5, 3) := by decide +kernel
theorem dX11_pass_8 : decode cX11_pass 8 = .ok (.iconst (-1), 1) := by decide +kernel
theorem dX11_pass_9 : decode cX11_pass 9 = .ok (.ireturn, 1) := by decide +kernel
theorem dX11_pass_10 : decode cX11_pass 10 = .ok (.iload_n 2, 1) := by decide +kernel
theorem dX11_pass_11 : decode cX11_pass 11 = .ok (.ifCond .eq 11, 3) := by decide +kernel
theorem dX11_pass_14 : decode cX11_pass 14 = .ok (.iload_n 2, 1) := by decide +kernel
theorem dX11_pass_15 : decode cX11_pass 15 = .ok (.iconst 1, 1) := by decide +kernel
theorem dX11_pass_16 : decode cX11_pass 16 = .ok (.if_icmp .eq 6, 3) := by decide +kernel
theorem dX11_pass_19 : decode cX11_pass 19 = .ok (.bipush (-2), 2) := by decide +kernel
theorem dX11_pass_21 : decode cX11_pass 21 = .ok (.ireturn, 1) := by decide +kernel
theorem dX11_pass_22 : decode cX11_pass 22 = .ok (.aload_n 0, 1) := by decide +kernel
theorem dX11_pass_23 : decode cX11_pass 23 = .ok (.bipush 10, 2) := by decide +kernel
theorem dX11_pass_25 : decode cX11_pass 25 = .ok (.iload_n 1, 1) := by decide +kernel
theorem dX11_pass_26 : decode cX11_pass 26 = .ok (.imul, 1) := by decide +kernel
theorem dX11_pass_27 : decode cX11_pass 27 = .ok (.iload_n 2, 1) := by decide +kernel
theorem dX11_pass_28 : decode cX11_pass 28 = .ok (.iadd, 1) := by decide +kernel
theorem dX11_pass_29 : decode cX11_pass 29 = .ok (.invokevirtual 177, 3) := by decide +kernel
theorem dX11_pass_32 : decode cX11_pass 32 = .ok (.ireturn, 1) := by decide +kernel
theorem dX11_walk_0 : decode cX11_walk 0 = .ok (.iload_n 1, 1) := by decide +kernel
theorem dX11_walk_1 : decode cX11_walk 1 = .ok (.ifCond .eq 11, 3) := by decide +kernel
theorem dX11_walk_4 : decode cX11_walk 4 = .ok (.iload_n 1, 1) := by decide +kernel
theorem dX11_walk_5 : decode cX11_walk 5 = .ok (.iconst 1, 1) := by decide +kernel
theorem dX11_walk_6 : decode cX11_walk 6 = .ok (.if_icmp .eq 6, 3) := by decide +kernel
theorem dX11_walk_9 : decode cX11_walk 9 = .ok (.bipush (-2), 2) := by decide +kernel
theorem dX11_walk_11 : decode cX11_walk 11 = .ok (.ireturn, 1) := by decide +kernel
theorem dX11_walk_12 : decode cX11_walk 12 = .ok (.aload_n 0, 1) := by decide +kernel
theorem dX11_walk_13 : decode cX11_walk 13 = .ok (.bipush 100, 2) := by decide +kernel
theorem dX11_walk_15 : decode cX11_walk 15 = .ok (.iload_n 1, 1) := by decide +kernel
theorem dX11_walk_16 : decode cX11_walk 16 = .ok (.iadd, 1) := by decide +kernel
theorem dX11_walk_17 : decode cX11_walk 17 = .ok (.invokevirtual 177, 3) := by decide +kernel
theorem dX11_walk_20 : decode cX11_walk 20 = .ok (.ireturn, 1) := by decide +kernel
theorem dX11_girth_0 : decode cX11_girth 0 = .ok (.aload_n 0, 1) := by decide +kernel
theorem dX11_girth_1 : decode cX11_girth 1 = .ok (.getfield 36, 3) := by decide +kernel
theorem dX11_girth_4 : decode cX11_girth 4 = .ok (.invokevirtual 181, 3) := by decide +kernel
theorem dX11_girth_7 : decode cX11_girth 7 = .ok (.ireturn, 1) := by decide +kernel
theorem dX11_step_0 : decode cX11_step 0 = .ok (.aload_n 0, 1) := by decide +kernel
theorem dX11_step_1 : decode cX11_step 1 = .ok (.getfield 49, 3) := by decide +kernel
theorem dX11_step_4 : decode cX11_step 4 = .ok (.iload_n 1, 1) := by decide +kernel
theorem dX11_step_5 : decode cX11_step 5 = .ok (.invokevirtual 185, 3) := by decide +kernel
theorem dX11_step_8 : decode cX11_step 8 = .ok (.ireturn, 1) := by decide +kernel
theorem dX11_rows_0 : decode cX11_rows 0 = .ok (.aload_n 0, 1) := by decide +kernel
theorem dX11_rows_1 : decode cX11_rows 1 = .ok (.getfield 56, 3) := by decide +kernel
theorem dX11_rows_4 : decode cX11_rows 4 = .ok (.getfield 188, 3) := by decide +kernel
theorem dX11_rows_7 : decode cX11_rows 7 = .ok (.ireturn, 1) := by decide +kernel
theorem dX11_cloth_0 : decode cX11_cloth 0 = .ok (.aload_n 0, 1) := by decide +kernel
theorem dX11_cloth_1 : decode cX11_cloth 1 = .ok (.getfield 56, 3) := by decide +kernel
theorem dX11_cloth_4 : decode cX11_cloth 4 = .ok (.iload_n 1, 1) := by decide +kernel
theorem dX11_cloth_5 : decode cX11_cloth 5 = .ok (.iload_n 2, 1) := by decide +kernel
theorem dX11_cloth_6 : decode cX11_cloth 6 = .ok (.invokevirtual 191, 3) := by decide +kernel
theorem dX11_cloth_9 : decode cX11_cloth 9 = .ok (.ifCond .ne 5, 3) := by decide +kernel
theorem dX11_cloth_12 : decode cX11_cloth 12 = .ok (.iconst (-1), 1) := by decide +kernel
theorem dX11_cloth_13 : decode cX11_cloth 13 = .ok (.ireturn, 1) := by decide +kernel
theorem dX11_cloth_14 : decode cX11_cloth 14 = .ok (.iload_n 3, 1) := by decide +kernel
theorem dX11_cloth_15 : decode cX11_cloth 15 = .ok (.tableswitch 55 0 2 #[25, 35, 45], 25) := by decide +kernel
theorem dX11_cloth_40 : decode cX11_cloth 40 = .ok (.aload_n 0, 1) := by decide +kernel
theorem dX11_cloth_41 : decode cX11_cloth 41 = .ok (.getfield 56, 3) := by decide +kernel
theorem dX11_cloth_44 : decode cX11_cloth 44 = .ok (.iload_n 1, 1) := by decide +kernel
theorem dX11_cloth_45 : decode cX11_cloth 45 = .ok (.iload_n 2, 1) := by decide +kernel
theorem dX11_cloth_46 : decode cX11_cloth 46 = .ok (.invokevirtual 195, 3) := by decide +kernel
theorem dX11_cloth_49 : decode cX11_cloth 49 = .ok (.ireturn, 1) := by decide +kernel
theorem dX11_cloth_50 : decode cX11_cloth 50 = .ok (.aload_n 0, 1) := by decide +kernel
theorem dX11_cloth_51 : decode cX11_cloth 51 = .ok (.getfield 56, 3) := by decide +kernel
theorem dX11_cloth_54 : decode cX11_cloth 54 = .ok (.iload_n 1, 1) := by decide +kernel
theorem dX11_cloth_55 : decode cX11_cloth 55 = .ok (.iload_n 2, 1) := by decide +kernel
theorem dX11_cloth_56 : decode cX11_cloth 56 = .ok (.invokevirtual 199, 3) := by decide +kernel
theorem dX11_cloth_59 : decode cX11_cloth 59 = .ok (.ireturn, 1) := by decide +kernel
theorem dX11_cloth_60 : decode cX11_cloth 60 = .ok (.aload_n 0, 1) := by decide +kernel
theorem dX11_cloth_61 : decode cX11_cloth 61 = .ok (.getfield 56, 3) := by decide +kernel
theorem dX11_cloth_64 : decode cX11_cloth 64 = .ok (.iload_n 1, 1) := by decide +kernel
theorem dX11_cloth_65 : decode cX11_cloth 65 = .ok (.iload_n 2, 1) := by decide +kernel
theorem dX11_cloth_66 : decode cX11_cloth 66 = .ok (.invokevirtual 202, 3) := by decide +kernel
theorem dX11_cloth_69 : decode cX11_cloth 69 = .ok (.ireturn, 1) := by decide +kernel
theorem dX11_cloth_70 : decode cX11_cloth 70 = .ok (.iconst (-1), 1) := by decide +kernel
theorem dX11_cloth_71 : decode cX11_cloth 71 = .ok (.ireturn, 1) := by decide +kernel
theorem dX11_beat_0 : decode cX11_beat 0 = .ok (.aload_n 0, 1) := by decide +kernel
theorem dX11_beat_1 : decode cX11_beat 1 = .ok (.getfield 56, 3) := by decide +kernel
theorem dX11_beat_4 : decode cX11_beat 4 = .ok (.getfield 188, 3) := by decide +kernel
theorem dX11_beat_7 : decode cX11_beat 7 = .ok (.ifCond .ne 6, 3) := by decide +kernel
theorem dX11_beat_10 : decode cX11_beat 10 = .ok (.bipush (-3), 2) := by decide +kernel
theorem dX11_beat_12 : decode cX11_beat 12 = .ok (.ireturn, 1) := by decide +kernel
theorem dX11_beat_13 : decode cX11_beat 13 = .ok (.aload_n 0, 1) := by decide +kernel
theorem dX11_beat_14 : decode cX11_beat 14 = .ok (.getfield 56, 3) := by decide +kernel
theorem dX11_beat_17 : decode cX11_beat 17 = .ok (.invokevirtual 205, 3) := by decide +kernel
theorem dX11_beat_20 : decode cX11_beat 20 = .ok (.ireturn, 1) := by decide +kernel
theorem dX11_picture_0 : decode cX11_picture 0 = .ok (.iload_n 1, 1) := by decide +kernel
theorem dX11_picture_1 : decode cX11_picture 1 = .ok (.ifCond .lt 19, 3) := by decide +kernel
theorem dX11_picture_4 : decode cX11_picture 4 = .ok (.iload_n 1, 1) := by decide +kernel
theorem dX11_picture_5 : decode cX11_picture 5 = .ok (.bipush 100, 2) := by decide +kernel
theorem dX11_picture_7 : decode cX11_picture 7 = .ok (.if_icmp .ge 13, 3) := by decide +kernel
theorem dX11_picture_10 : decode cX11_picture 10 = .ok (.iload_n 2, 1) := by decide +kernel
theorem dX11_picture_11 : decode cX11_picture 11 = .ok (.ifCond .lt 9, 3) := by decide +kernel
theorem dX11_picture_14 : decode cX11_picture 14 = .ok (.iload_n 2, 1) := by decide +kernel
theorem dX11_picture_15 : decode cX11_picture 15 = .ok (.bipush 9, 2) := by decide +kernel
theorem dX11_picture_17 : decode cX11_picture 17 = .ok (.if_icmp .lt 5, 3) := by decide +kernel
theorem dX11_picture_20 : decode cX11_picture 20 = .ok (.iconst (-1), 1) := by decide +kernel
theorem dX11_picture_21 : decode cX11_picture 21 = .ok (.ireturn, 1) := by decide +kernel
theorem dX11_picture_22 : decode cX11_picture 22 = .ok (.iload_n 3, 1) := by decide +kernel
theorem dX11_picture_23 : decode cX11_picture 23 = .ok (.invokestatic 147, 3) := by decide +kernel
theorem dX11_picture_26 : decode cX11_picture 26 = .ok (.ifCond .ne 6, 3) := by decide +kernel
theorem dX11_picture_29 : decode cX11_picture 29 = .ok (.bipush (-2), 2) := by decide +kernel
theorem dX11_picture_31 : decode cX11_picture 31 = .ok (.ireturn, 1) := by decide +kernel
theorem dX11_picture_32 : decode cX11_picture 32 = .ok (.aload_n 0, 1) := by decide +kernel
theorem dX11_picture_33 : decode cX11_picture 33 = .ok (.getfield 63, 3) := by decide +kernel
theorem dX11_picture_36 : decode cX11_picture 36 = .ok (.iload_n 1, 1) := by decide +kernel
theorem dX11_picture_37 : decode cX11_picture 37 = .ok (.iload_n 2, 1) := by decide +kernel
theorem dX11_picture_38 : decode cX11_picture 38 = .ok (.iload_n 3, 1) := by decide +kernel
theorem dX11_picture_39 : decode cX11_picture 39 = .ok (.invokevirtual 208, 3) := by decide +kernel
theorem dX11_picture_42 : decode cX11_picture 42 = .ok (.ifCond .eq 13, 3) := by decide +kernel
theorem dX11_picture_45 : decode cX11_picture 45 = .ok (.aload_n 0, 1) := by decide +kernel
theorem dX11_picture_46 : decode cX11_picture 46 = .ok (.getfield 63, 3) := by decide +kernel
theorem dX11_picture_49 : decode cX11_picture 49 = .ok (.getfield 212, 3) := by decide +kernel
theorem dX11_picture_52 : decode cX11_picture 52 = .ok (.goto 5, 3) := by decide +kernel
theorem dX11_picture_55 : decode cX11_picture 55 = .ok (.bipush (-4), 2) := by decide +kernel
theorem dX11_picture_57 : decode cX11_picture 57 = .ok (.ireturn, 1) := by decide +kernel
theorem dX11_pictureless_0 : decode cX11_pictureless 0 = .ok (.aload_n 0, 1) := by decide +kernel
theorem dX11_pictureless_1 : decode cX11_pictureless 1 = .ok (.getfield 63, 3) := by decide +kernel
theorem dX11_pictureless_4 : decode cX11_pictureless 4 = .ok (.getfield 212, 3) := by decide +kernel
theorem dX11_pictureless_7 : decode cX11_pictureless 7 = .ok (.istore_n 1, 1) := by decide +kernel
theorem dX11_pictureless_8 : decode cX11_pictureless 8 = .ok (.aload_n 0, 1) := by decide +kernel
theorem dX11_pictureless_9 : decode cX11_pictureless 9 = .ok (.getfield 63, 3) := by decide +kernel
theorem dX11_pictureless_12 : decode cX11_pictureless 12 = .ok (.iconst 0, 1) := by decide +kernel
theorem dX11_pictureless_13 : decode cX11_pictureless 13 = .ok (.putfield 212, 3) := by decide +kernel
theorem dX11_pictureless_16 : decode cX11_pictureless 16 = .ok (.iload_n 1, 1) := by decide +kernel
theorem dX11_pictureless_17 : decode cX11_pictureless 17 = .ok (.ireturn, 1) := by decide +kernel
theorem dX11_wrong_0 : decode cX11_wrong 0 = .ok (.aload_n 0, 1) := by decide +kernel
theorem dX11_wrong_1 : decode cX11_wrong 1 = .ok (.getfield 63, 3) := by decide +kernel
theorem dX11_wrong_4 : decode cX11_wrong 4 = .ok (.aload_n 0, 1) := by decide +kernel
theorem dX11_wrong_5 : decode cX11_wrong 5 = .ok (.getfield 56, 3) := by decide +kernel
theorem dX11_wrong_8 : decode cX11_wrong 8 = .ok (.invokevirtual 213, 3) := by decide +kernel
theorem dX11_wrong_11 : decode cX11_wrong 11 = .ok (.ireturn, 1) := by decide +kernel
theorem dX11_colours_0 : decode cX11_colours 0 = .ok (.iload_n 2, 1) := by decide +kernel
theorem dX11_colours_1 : decode cX11_colours 1 = .ok (.iconst (-1), 1) := by decide +kernel
theorem dX11_colours_2 : decode cX11_colours 2 = .ok (.if_icmp .eq 13, 3) := by decide +kernel
theorem dX11_colours_5 : decode cX11_colours 5 = .ok (.aload_n 0, 1) := by decide +kernel
theorem dX11_colours_6 : decode cX11_colours 6 = .ok (.iload_n 2, 1) := by decide +kernel
theorem dX11_colours_7 : decode cX11_colours 7 = .ok (.invokevirtual 137, 3) := by decide +kernel
theorem dX11_colours_10 : decode cX11_colours 10 = .ok (.ifCond .ne 5, 3) := by decide +kernel
theorem dX11_colours_13 : decode cX11_colours 13 = .ok (.iconst (-1), 1) := by decide +kernel
theorem dX11_colours_14 : decode cX11_colours 14 = .ok (.ireturn, 1) := by decide +kernel
theorem dX11_colours_15 : decode cX11_colours 15 = .ok (.iload_n 1, 1) := by decide +kernel
theorem dX11_colours_16 : decode cX11_colours 16 = .ok (.iconst 1, 1) := by decide +kernel
theorem dX11_colours_17 : decode cX11_colours 17 = .ok (.if_icmp .lt 8, 3) := by decide +kernel
theorem dX11_colours_20 : decode cX11_colours 20 = .ok (.iload_n 1, 1) := by decide +kernel
theorem dX11_colours_21 : decode cX11_colours 21 = .ok (.iconst 4, 1) := by decide +kernel
theorem dX11_colours_22 : decode cX11_colours 22 = .ok (.if_icmp .le 6, 3) := by decide +kernel
theorem dX11_colours_25 : decode cX11_colours 25 = .ok (.bipush (-2), 2) := by decide +kernel
theorem dX11_colours_27 : decode cX11_colours 27 = .ok (.ireturn, 1) := by decide +kernel
theorem dX11_colours_28 : decode cX11_colours 28 = .ok (.aload_n 0, 1) := by decide +kernel
theorem dX11_colours_29 : decode cX11_colours 29 = .ok (.getfield 56, 3) := by decide +kernel
theorem dX11_colours_32 : decode cX11_colours 32 = .ok (.getfield 188, 3) := by decide +kernel
theorem dX11_colours_35 : decode cX11_colours 35 = .ok (.ifCond .eq 15, 3) := by decide +kernel
theorem dX11_colours_38 : decode cX11_colours 38 = .ok (.aload_n 0, 1) := by decide +kernel
theorem dX11_colours_39 : decode cX11_colours 39 = .ok (.getfield 36, 3) := by decide +kernel
theorem dX11_colours_42 : decode cX11_colours 42 = .ok (.getfield 157, 3) := by decide +kernel
theorem dX11_colours_45 : decode cX11_colours 45 = .ok (.bipush 6, 2) := by decide +kernel
theorem dX11_colours_47 : decode cX11_colours 47 = .ok (.if_icmp .le 6, 3) := by decide +kernel
theorem dX11_colours_50 : decode cX11_colours 50 = .ok (.bipush (-3), 2) := by decide +kernel
theorem dX11_colours_52 : decode cX11_colours 52 = .ok (.ireturn, 1) := by decide +kernel
theorem dX11_colours_53 : decode cX11_colours 53 = .ok (.aload_n 0, 1) := by decide +kernel
theorem dX11_colours_54 : decode cX11_colours 54 = .ok (.getfield 63, 3) := by decide +kernel
theorem dX11_colours_57 : decode cX11_colours 57 = .ok (.aload_n 0, 1) := by decide +kernel
theorem dX11_colours_58 : decode cX11_colours 58 = .ok (.getfield 56, 3) := by decide +kernel
theorem dX11_colours_61 : decode cX11_colours 61 = .ok (.iload_n 1, 1) := by decide +kernel
theorem dX11_colours_62 : decode cX11_colours 62 = .ok (.invokevirtual 217, 3) := by decide +kernel
theorem dX11_colours_65 : decode cX11_colours 65 = .ok (.iload_n 2, 1) := by decide +kernel
theorem dX11_colours_66 : decode cX11_colours 66 = .ok (.iconst (-1), 1) := by decide +kernel
theorem dX11_colours_67 : decode cX11_colours 67 = .ok (.if_icmp .ne 13, 3) := by decide +kernel
theorem dX11_colours_70 : decode cX11_colours 70 = .ok (.aload_n 0, 1) := by decide +kernel
theorem dX11_colours_71 : decode cX11_colours 71 = .ok (.getfield 63, 3) := by decide +kernel
theorem dX11_colours_74 : decode cX11_colours 74 = .ok (.getfield 221, 3) := by decide +kernel
theorem dX11_colours_77 : decode cX11_colours 77 = .ok (.goto 12, 3) := by decide +kernel
theorem dX11_colours_80 : decode cX11_colours 80 = .ok (.aload_n 0, 1) := by decide +kernel
theorem dX11_colours_81 : decode cX11_colours 81 = .ok (.getfield 63, 3) := by decide +kernel
theorem dX11_colours_84 : decode cX11_colours 84 = .ok (.getfield 224, 3) := by decide +kernel
theorem dX11_colours_87 : decode cX11_colours 87 = .ok (.iload_n 2, 1) := by decide +kernel
theorem dX11_colours_88 : decode cX11_colours 88 = .ok (.iaload, 1) := by decide +kernel
theorem dX11_colours_89 : decode cX11_colours 89 = .ok (.ireturn, 1) := by decide +kernel
theorem dX11_form_0 : decode cX11_form 0 = .ok (.aload_n 0, 1) := by decide +kernel
theorem dX11_form_1 : decode cX11_form 1 = .ok (.iload_n 1, 1) := by decide +kernel
theorem dX11_form_2 : decode cX11_form 2 = .ok (.invokevirtual 227, 3) := by decide +kernel
theorem dX11_form_5 : decode cX11_form 5 = .ok (.astore_n 3, 1) := by decide +kernel
theorem dX11_form_6 : decode cX11_form 6 = .ok (.aload_n 3, 1) := by decide +kernel
theorem dX11_form_7 : decode cX11_form 7 = .ok (.ifnull 9, 3) := by decide +kernel
theorem dX11_form_10 : decode cX11_form 10 = .ok (.iload_n 2, 1) := by decide +kernel
theorem dX11_form_11 : decode cX11_form 11 = .ok (.bipush (-2), 2) := by decide +kernel
theorem dX11_form_13 : decode cX11_form 13 = .ok (.if_icmp .ge 6, 3) := by decide +kernel
theorem dX11_form_16 : decode cX11_form 16 = .ok (.bipush (-99), 2) := by decide +kernel
theorem dX11_form_18 : decode cX11_form 18 = .ok (.ireturn, 1) := by decide +kernel
theorem dX11_form_19 : decode cX11_form 19 = .ok (.aload_n 0, 1) := by decide +kernel
theorem dX11_form_20 : decode cX11_form 20 = .ok (.getfield 36, 3) := by decide +kernel
theorem dX11_form_23 : decode cX11_form 23 = .ok (.getfield 157, 3) := by decide +kernel
theorem dX11_form_26 : decode cX11_form 26 = .ok (.ifCond .ne 6, 3) := by decide +kernel
theorem dX11_form_29 : decode cX11_form 29 = .ok (.bipush (-98), 2) := by decide +kernel
theorem dX11_form_31 : decode cX11_form 31 = .ok (.ireturn, 1) := by decide +kernel
theorem dX11_form_32 : decode cX11_form 32 = .ok (.aload_n 0, 1) := by decide +kernel
theorem dX11_form_33 : decode cX11_form 33 = .ok (.getfield 86, 3) := by decide +kernel
theorem dX11_form_36 : decode cX11_form 36 = .ok (.aload_n 3, 1) := by decide +kernel
theorem dX11_form_37 : decode cX11_form 37 = .ok (.aload_n 0, 1) := by decide +kernel
theorem dX11_form_38 : decode cX11_form 38 = .ok (.getfield 36, 3) := by decide +kernel
theorem dX11_form_41 : decode cX11_form 41 = .ok (.getfield 157, 3) := by decide +kernel
theorem dX11_form_44 : decode cX11_form 44 = .ok (.invokevirtual 231, 3) := by decide +kernel
theorem dX11_form_47 : decode cX11_form 47 = .ok (.ifCond .ne 6, 3) := by decide +kernel
theorem dX11_form_50 : decode cX11_form 50 = .ok (.bipush (-97), 2) := by decide +kernel
theorem dX11_form_52 : decode cX11_form 52 = .ok (.ireturn, 1) := by decide +kernel
theorem dX11_form_53 : decode cX11_form 53 = .ok (.iload_n 2, 1) := by decide +kernel
theorem dX11_form_54 : decode cX11_form 54 = .ok (.bipush (-2), 2) := by decide +kernel
theorem dX11_form_56 : decode cX11_form 56 = .ok (.if_icmp .ne 11, 3) := by decide +kernel
theorem dX11_form_59 : decode cX11_form 59 = .ok (.aload_n 0, 1) := by decide +kernel
theorem dX11_form_60 : decode cX11_form 60 = .ok (.getfield 86, 3) := by decide +kernel
theorem dX11_form_63 : decode cX11_form 63 = .ok (.getfield 235, 3) := by decide +kernel
theorem dX11_form_66 : decode cX11_form 66 = .ok (.ireturn, 1) := by decide +kernel
theorem dX11_form_67 : decode cX11_form 67 = .ok (.iload_n 2, 1) := by decide +kernel
theorem dX11_form_68 : decode cX11_form 68 = .ok (.iconst (-1), 1) := by decide +kernel
theorem dX11_form_69 : decode cX11_form 69 = .ok (.if_icmp .ne 11, 3) := by decide +kernel
theorem dX11_form_72 : decode cX11_form 72 = .ok (.aload_n 0, 1) := by decide +kernel
theorem dX11_form_73 : decode cX11_form 73 = .ok (.getfield 86, 3) := by decide +kernel
theorem dX11_form_76 : decode cX11_form 76 = .ok (.getfield 238, 3) := by decide +kernel
theorem dX11_form_79 : decode cX11_form 79 = .ok (.ireturn, 1) := by decide +kernel
theorem dX11_form_80 : decode cX11_form 80 = .ok (.iload_n 2, 1) := by decide +kernel
theorem dX11_form_81 : decode cX11_form 81 = .ok (.aload_n 0, 1) := by decide +kernel
theorem dX11_form_82 : decode cX11_form 82 = .ok (.getfield 86, 3) := by decide +kernel
theorem dX11_form_85 : decode cX11_form 85 = .ok (.getfield 238, 3) := by decide +kernel
theorem dX11_form_88 : decode cX11_form 88 = .ok (.if_icmp .ge 15, 3) := by decide +kernel
theorem dX11_form_91 : decode cX11_form 91 = .ok (.aload_n 0, 1) := by decide +kernel
theorem dX11_form_92 : decode cX11_form 92 = .ok (.getfield 86, 3) := by decide +kernel
theorem dX11_form_95 : decode cX11_form 95 = .ok (.getfield 239, 3) := by decide +kernel
theorem dX11_form_98 : decode cX11_form 98 = .ok (.iload_n 2, 1) := by decide +kernel
theorem dX11_form_99 : decode cX11_form 99 = .ok (.iaload, 1) := by decide +kernel
theorem dX11_form_100 : decode cX11_form 100 = .ok (.goto 5, 3) := by decide +kernel
theorem dX11_form_103 : decode cX11_form 103 = .ok (.bipush (-99), 2) := by decide +kernel
theorem dX11_form_105 : decode cX11_form 105 = .ok (.ireturn, 1) := by decide +kernel
theorem dX11_akin_0 : decode cX11_akin 0 = .ok (.aload_n 0, 1) := by decide +kernel
theorem dX11_akin_1 : decode cX11_akin 1 = .ok (.iload_n 1, 1) := by decide +kernel
theorem dX11_akin_2 : decode cX11_akin 2 = .ok (.invokevirtual 227, 3) := by decide +kernel
theorem dX11_akin_5 : decode cX11_akin 5 = .ok (.astore_n 3, 1) := by decide +kernel
theorem dX11_akin_6 : decode cX11_akin 6 = .ok (.aload_n 0, 1) := by decide +kernel
theorem dX11_akin_7 : decode cX11_akin 7 = .ok (.iload_n 2, 1) := by decide +kernel
theorem dX11_akin_8 : decode cX11_akin 8 = .ok (.invokevirtual 227, 3) := by decide +kernel
theorem dX11_akin_11 : decode cX11_akin 11 = .ok (.astore 4, 2) := by decide +kernel
theorem dX11_akin_13 : decode cX11_akin 13 = .ok (.aload_n 3, 1) := by decide +kernel
theorem dX11_akin_14 : decode cX11_akin 14 = .ok (.ifnull 8, 3) := by decide +kernel
theorem dX11_akin_17 : decode cX11_akin 17 = .ok (.aload 4, 2) := by decide +kernel
theorem dX11_akin_19 : decode cX11_akin 19 = .ok (.ifnonnull 5, 3) := by decide +kernel
theorem dX11_akin_22 : decode cX11_akin 22 = .ok (.iconst (-1), 1) := by decide +kernel
theorem dX11_akin_23 : decode cX11_akin 23 = .ok (.ireturn, 1) := by decide +kernel
theorem dX11_akin_24 : decode cX11_akin 24 = .ok (.aload_n 0, 1) := by decide +kernel
theorem dX11_akin_25 : decode cX11_akin 25 = .ok (.getfield 36, 3) := by decide +kernel
theorem dX11_akin_28 : decode cX11_akin 28 = .ok (.getfield 157, 3) := by decide +kernel
theorem dX11_akin_31 : decode cX11_akin 31 = .ok (.ifCond .eq 40, 3) := by decide +kernel
theorem dX11_akin_34 : decode cX11_akin 34 = .ok (.aload_n 0, 1) := by decide +kernel
theorem dX11_akin_35 : decode cX11_akin 35 = .ok (.getfield 86, 3) := by decide +kernel
theorem dX11_akin_38 : decode cX11_akin 38 = .ok (.aload_n 3, 1) := by decide +kernel
theorem dX11_akin_39 : decode cX11_akin 39 = .ok (.aload_n 0, 1) := by decide +kernel
theorem dX11_akin_40 : decode cX11_akin 40 = .ok (.getfield 36, 3) := by decide +kernel
theorem dX11_akin_43 : decode cX11_akin 43 = .ok (.getfield 157, 3) := by decide +kernel
theorem dX11_akin_46 : decode cX11_akin 46 = .ok (.invokevirtual 231, 3) := by decide +kernel
theorem dX11_akin_49 : decode cX11_akin 49 = .ok (.ifCond .eq 22, 3) := by decide +kernel
theorem dX11_akin_52 : decode cX11_akin 52 = .ok (.aload_n 0, 1) := by decide +kernel
theorem dX11_akin_53 : decode cX11_akin 53 = .ok (.getfield 90, 3) := by decide +kernel
theorem dX11_akin_56 : decode cX11_akin 56 = .ok (.aload 4, 2) := by decide +kernel
theorem dX11_akin_58 : decode cX11_akin 58 = .ok (.aload_n 0, 1) := by decide +kernel
theorem dX11_akin_59 : decode cX11_akin 59 = .ok (.getfield 36, 3) := by decide +kernel
theorem dX11_akin_62 : decode cX11_akin 62 = .ok (.getfield 157, 3) := by decide +kernel
theorem dX11_akin_65 : decode cX11_akin 65 = .ok (.invokevirtual 231, 3) := by decide +kernel
theorem dX11_akin_68 : decode cX11_akin 68 = .ok (.ifCond .ne 6, 3) := by decide +kernel
theorem dX11_akin_71 : decode cX11_akin 71 = .ok (.bipush (-3), 2) := by decide +kernel
theorem dX11_akin_73 : decode cX11_akin 73 = .ok (.ireturn, 1) := by decide +kernel
theorem dX11_akin_74 : decode cX11_akin 74 = .ok (.aload_n 0, 1) := by decide +kernel
theorem dX11_akin_75 : decode cX11_akin 75 = .ok (.getfield 86, 3) := by decide +kernel
theorem dX11_akin_78 : decode cX11_akin 78 = .ok (.aload_n 0, 1) := by decide +kernel
theorem dX11_akin_79 : decode cX11_akin 79 = .ok (.getfield 90, 3) := by decide +kernel
theorem dX11_akin_82 : decode cX11_akin 82 = .ok (.invokevirtual 242, 3) := by decide +kernel
theorem dX11_akin_85 : decode cX11_akin 85 = .ok (.ifCond .eq 7, 3) := by decide +kernel
theorem dX11_akin_88 : decode cX11_akin 88 = .ok (.iconst 1, 1) := by decide +kernel
theorem dX11_akin_89 : decode cX11_akin 89 = .ok (.goto 4, 3) := by decide +kernel
theorem dX11_akin_92 : decode cX11_akin 92 = .ok (.iconst 0, 1) := by decide +kernel
theorem dX11_akin_93 : decode cX11_akin 93 = .ok (.ireturn, 1) := by decide +kernel
theorem dX11_feed_0 : decode cX11_feed 0 = .ok (.iload_n 2, 1) := by decide +kernel
theorem dX11_feed_1 : decode cX11_feed 1 = .ok (.ifCond .lt 8, 3) := by decide +kernel
theorem dX11_feed_4 : decode cX11_feed 4 = .ok (.iload_n 2, 1) := by decide +kernel
theorem dX11_feed_5 : decode cX11_feed 5 = .ok (.iconst 4, 1) := by decide +kernel
theorem dX11_feed_6 : decode cX11_feed 6 = .ok (.if_icmp .le 6, 3) := by decide +kernel
theorem dX11_feed_9 : decode cX11_feed 9 = .ok (.bipush (-2), 2) := by decide +kernel
theorem dX11_feed_11 : decode cX11_feed 11 = .ok (.ireturn, 1) := by decide +kernel
theorem dX11_feed_12 : decode cX11_feed 12 = .ok (.aload_n 0, 1) := by decide +kernel
theorem dX11_feed_13 : decode cX11_feed 13 = .ok (.getfield 79, 3) := by decide +kernel
theorem dX11_feed_16 : decode cX11_feed 16 = .ok (.iload_n 1, 1) := by decide +kernel
theorem dX11_feed_17 : decode cX11_feed 17 = .ok (.iload_n 2, 1) := by decide +kernel
theorem dX11_feed_18 : decode cX11_feed 18 = .ok (.invokevirtual 246, 3) := by decide +kernel
theorem dX11_feed_21 : decode cX11_feed 21 = .ok (.ifCond .eq 13, 3) := by decide +kernel
theorem dX11_feed_24 : decode cX11_feed 24 = .ok (.aload_n 0, 1) := by decide +kernel
theorem dX11_feed_25 : decode cX11_feed 25 = .ok (.getfield 79, 3) := by decide +kernel
theorem dX11_feed_28 : decode cX11_feed 28 = .ok (.getfield 249, 3) := by decide +kernel
theorem dX11_feed_31 : decode cX11_feed 31 = .ok (.goto 5, 3) := by decide +kernel
theorem dX11_feed_34 : decode cX11_feed 34 = .ok (.bipush (-4), 2) := by decide +kernel
theorem dX11_feed_36 : decode cX11_feed 36 = .ok (.ireturn, 1) := by decide +kernel
theorem dX11_figure_0 : decode cX11_figure 0 = .ok (.aload_n 0, 1) := by decide +kernel
theorem dX11_figure_1 : decode cX11_figure 1 = .ok (.getfield 79, 3) := by decide +kernel
theorem dX11_figure_4 : decode cX11_figure 4 = .ok (.getfield 252, 3) := by decide +kernel
theorem dX11_figure_7 : decode cX11_figure 7 = .ok (.bipush 10, 2) := by decide +kernel
theorem dX11_figure_9 : decode cX11_figure 9 = .ok (.if_icmp .lt 6, 3) := by decide +kernel
theorem dX11_figure_12 : decode cX11_figure 12 = .ok (.bipush (-4), 2) := by decide +kernel
theorem dX11_figure_14 : decode cX11_figure 14 = .ok (.ireturn, 1) := by decide +kernel
theorem dX11_figure_15 : decode cX11_figure 15 = .ok (.aload_n 0, 1) := by decide +kernel
theorem dX11_figure_16 : decode cX11_figure 16 = .ok (.getfield 79, 3) := by decide +kernel
theorem dX11_figure_19 : decode cX11_figure 19 = .ok (.invokevirtual 255, 3) := by decide +kernel
theorem dX11_figure_22 : decode cX11_figure 22 = .ok (.istore_n 1, 1) := by decide +kernel
theorem dX11_figure_23 : decode cX11_figure 23 = .ok (.aload_n 0, 1) := by decide +kernel
theorem dX11_figure_24 : decode cX11_figure 24 = .ok (.getfield 79, 3) := by decide +kernel
theorem dX11_figure_27 : decode cX11_figure 27 = .ok (.iconst 0, 1) := by decide +kernel
theorem dX11_figure_28 : decode cX11_figure 28 = .ok (.putfield 249, 3) := by decide +kernel
theorem dX11_figure_31 : decode cX11_figure 31 = .ok (.iload_n 1, 1) := by decide +kernel
theorem dX11_figure_32 : decode cX11_figure 32 = .ok (.ifCond .lt 8, 3) := by decide +kernel
theorem dX11_figure_35 : decode cX11_figure 35 = .ok (.bipush (-10), 2) := by decide +kernel
theorem dX11_figure_37 : decode cX11_figure 37 = .ok (.iload_n 1, 1) := by decide +kernel
theorem dX11_figure_38 : decode cX11_figure 38 = .ok (.isub, 1) := by decide +kernel
theorem dX11_figure_39 : decode cX11_figure 39 = .ok (.ireturn, 1) := by decide +kernel
theorem dX11_figure_40 : decode cX11_figure 40 = .ok (.aload_n 0, 1) := by decide +kernel
theorem dX11_figure_41 : decode cX11_figure 41 = .ok (.getfield 79, 3) := by decide +kernel
theorem dX11_figure_44 : decode cX11_figure 44 = .ok (.getfield 258, 3) := by decide +kernel
theorem dX11_figure_47 : decode cX11_figure 47 = .ok (.ifCond .eq 6, 3) := by decide +kernel
theorem dX11_figure_50 : decode cX11_figure 50 = .ok (.bipush (-2), 2) := by decide +kernel
theorem dX11_figure_52 : decode cX11_figure 52 = .ok (.ireturn, 1) := by decide +kernel
theorem dX11_figure_53 : decode cX11_figure 53 = .ok (.aload_n 0, 1) := by decide +kernel
theorem dX11_figure_54 : decode cX11_figure 54 = .ok (.getfield 79, 3) := by decide +kernel
theorem dX11_figure_57 : decode cX11_figure 57 = .ok (.invokevirtual 261, 3) := by decide +kernel
theorem dX11_figure_60 : decode cX11_figure 60 = .ok (.ireturn, 1) := by decide +kernel
theorem dX11_told_0 : decode cX11_told 0 = .ok (.aload_n 0, 1) := by decide +kernel
theorem dX11_told_1 : decode cX11_told 1 = .ok (.getfield 79, 3) := by decide +kernel
theorem dX11_told_4 : decode cX11_told 4 = .ok (.iload_n 1, 1) := by decide +kernel
theorem dX11_told_5 : decode cX11_told 5 = .ok (.invokevirtual 264, 3) := by decide +kernel
theorem dX11_told_8 : decode cX11_told 8 = .ok (.astore_n 3, 1) := by decide +kernel
theorem dX11_told_9 : decode cX11_told 9 = .ok (.aload_n 3, 1) := by decide +kernel
theorem dX11_told_10 : decode cX11_told 10 = .ok (.ifnonnull 5, 3) := by decide +kernel
theorem dX11_told_13 : decode cX11_told 13 = .ok (.iconst (-1), 1) := by decide +kernel
theorem dX11_told_14 : decode cX11_told 14 = .ok (.ireturn, 1) := by decide +kernel
theorem dX11_told_15 : decode cX11_told 15 = .ok (.iload_n 2, 1) := by decide +kernel
theorem dX11_told_16 : decode cX11_told 16 = .ok (.iconst (-1), 1) := by decide +kernel
theorem dX11_told_17 : decode cX11_told 17 = .ok (.if_icmp .ne 10, 3) := by decide +kernel
theorem dX11_told_20 : decode cX11_told 20 = .ok (.aload_n 3, 1) := by decide +kernel
theorem dX11_told_21 : decode cX11_told 21 = .ok (.getfield 174, 3) := by decide +kernel
theorem dX11_told_24 : decode cX11_told 24 = .ok (.goto 8, 3) := by decide +kernel
theorem dX11_told_27 : decode cX11_told 27 = .ok (.aload_n 3, 1) := by decide +kernel
theorem dX11_told_28 : decode cX11_told 28 = .ok (.iload_n 2, 1) := by decide +kernel
theorem dX11_told_29 : decode cX11_told 29 = .ok (.invokevirtual 185, 3) := by decide +kernel
theorem dX11_told_32 : decode cX11_told 32 = .ok (.ireturn, 1) := by decide +kernel
theorem dX11_dance_0 : decode cX11_dance 0 = .ok (.aload_n 0, 1) := by decide +kernel
theorem dX11_dance_1 : decode cX11_dance 1 = .ok (.getfield 79, 3) := by decide +kernel
theorem dX11_dance_4 : decode cX11_dance 4 = .ok (.iload_n 1, 1) := by decide +kernel
theorem dX11_dance_5 : decode cX11_dance 5 = .ok (.invokevirtual 264, 3) := by decide +kernel
theorem dX11_dance_8 : decode cX11_dance 8 = .ok (.astore_n 2, 1) := by decide +kernel
theorem dX11_dance_9 : decode cX11_dance 9 = .ok (.aload_n 2, 1) := by decide +kernel
theorem dX11_dance_10 : decode cX11_dance 10 = .ok (.ifnonnull 5, 3) := by decide +kernel
theorem dX11_dance_13 : decode cX11_dance 13 = .ok (.iconst (-1), 1) := by decide +kernel
theorem dX11_dance_14 : decode cX11_dance 14 = .ok (.ireturn, 1) := by decide +kernel
theorem dX11_dance_15 : decode cX11_dance 15 = .ok (.aload_n 0, 1) := by decide +kernel
theorem dX11_dance_16 : decode cX11_dance 16 = .ok (.getfield 40, 3) := by decide +kernel
theorem dX11_dance_19 : decode cX11_dance 19 = .ok (.ifCond .ne 6, 3) := by decide +kernel
theorem dX11_dance_22 : decode cX11_dance 22 = .ok (.bipush (-3), 2) := by decide +kernel
theorem dX11_dance_24 : decode cX11_dance 24 = .ok (.ireturn, 1) := by decide +kernel
theorem dX11_dance_25 : decode cX11_dance 25 = .ok (.iconst 0, 1) := by decide +kernel
theorem dX11_dance_26 : decode cX11_dance 26 = .ok (.istore_n 3, 1) := by decide +kernel
theorem dX11_dance_27 : decode cX11_dance 27 = .ok (.iload_n 3, 1) := by decide +kernel
theorem dX11_dance_28 : decode cX11_dance 28 = .ok (.aload_n 2, 1) := by decide +kernel
theorem dX11_dance_29 : decode cX11_dance 29 = .ok (.getfield 174, 3) := by decide +kernel
theorem dX11_dance_32 : decode cX11_dance 32 = .ok (.if_icmp .ge 22, 3) := by decide +kernel
theorem dX11_dance_35 : decode cX11_dance 35 = .ok (.aload_n 0, 1) := by decide +kernel
theorem dX11_dance_36 : decode cX11_dance 36 = .ok (.aload_n 2, 1) := by decide +kernel
theorem dX11_dance_37 : decode cX11_dance 37 = .ok (.getfield 267, 3) := by decide +kernel
theorem dX11_dance_40 : decode cX11_dance 40 = .ok (.iload_n 3, 1) := by decide +kernel
theorem dX11_dance_41 : decode cX11_dance 41 = .ok (.iaload, 1) := by decide +kernel
theorem dX11_dance_42 : decode cX11_dance 42 = .ok (.invokevirtual 177, 3) := by decide +kernel
theorem dX11_dance_45 : decode cX11_dance 45 = .ok (.ifCond .lt 9, 3) := by decide +kernel
theorem dX11_dance_48 : decode cX11_dance 48 = .ok (.iinc 3 1, 3) := by decide +kernel
theorem dX11_dance_51 : decode cX11_dance 51 = .ok (.goto (-24), 3) := by decide +kernel
theorem dX11_dance_54 : decode cX11_dance 54 = .ok (.iload_n 3, 1) := by decide +kernel
theorem dX11_dance_55 : decode cX11_dance 55 = .ok (.ireturn, 1) := by decide +kernel
theorem dX11_right_0 : decode cX11_right 0 = .ok (.aload_n 0, 1) := by decide +kernel
theorem dX11_right_1 : decode cX11_right 1 = .ok (.getfield 79, 3) := by decide +kernel
theorem dX11_right_4 : decode cX11_right 4 = .ok (.iload_n 1, 1) := by decide +kernel
theorem dX11_right_5 : decode cX11_right 5 = .ok (.invokevirtual 264, 3) := by decide +kernel
theorem dX11_right_8 : decode cX11_right 8 = .ok (.astore_n 2, 1) := by decide +kernel
theorem dX11_right_9 : decode cX11_right 9 = .ok (.aload_n 2, 1) := by decide +kernel
theorem dX11_right_10 : decode cX11_right 10 = .ok (.ifnonnull 5, 3) := by decide +kernel
theorem dX11_right_13 : decode cX11_right 13 = .ok (.iconst (-1), 1) := by decide +kernel
theorem dX11_right_14 : decode cX11_right 14 = .ok (.ireturn, 1) := by decide +kernel
theorem dX11_right_15 : decode cX11_right 15 = .ok (.aload_n 0, 1) := by decide +kernel
theorem dX11_right_16 : decode cX11_right 16 = .ok (.getfield 40, 3) := by decide +kernel
theorem dX11_right_19 : decode cX11_right 19 = .ok (.ifCond .ne 6, 3) := by decide +kernel
theorem dX11_right_22 : decode cX11_right 22 = .ok (.bipush (-3), 2) := by decide +kernel
theorem dX11_right_24 : decode cX11_right 24 = .ok (.ireturn, 1) := by decide +kernel
theorem dX11_right_25 : decode cX11_right 25 = .ok (.aload_n 0, 1) := by decide +kernel
theorem dX11_right_26 : decode cX11_right 26 = .ok (.getfield 73, 3) := by decide +kernel
theorem dX11_right_29 : decode cX11_right 29 = .ok (.aload_n 0, 1) := by decide +kernel
theorem dX11_right_30 : decode cX11_right 30 = .ok (.getfield 67, 3) := by decide +kernel
theorem dX11_right_33 : decode cX11_right 33 = .ok (.invokevirtual 163, 3) := by decide +kernel
theorem dX11_right_36 : decode cX11_right 36 = .ok (.aload_n 0, 1) := by decide +kernel
theorem dX11_right_37 : decode cX11_right 37 = .ok (.aload_n 0, 1) := by decide +kernel
theorem dX11_right_38 : decode cX11_right 38 = .ok (.getfield 73, 3) := by decide +kernel
theorem dX11_right_41 : decode cX11_right 41 = .ok (.aload_n 2, 1) := by decide +kernel
theorem dX11_right_42 : decode cX11_right 42 = .ok (.iconst 0, 1) := by decide +kernel
theorem dX11_right_43 : decode cX11_right 43 = .ok (.invokevirtual 270, 3) := by decide +kernel
theorem dX11_right_46 : decode cX11_right 46 = .ok (.ifCond .eq 7, 3) := by decide +kernel
theorem dX11_right_49 : decode cX11_right 49 = .ok (.iconst 1, 1) := by decide +kernel
theorem dX11_right_50 : decode cX11_right 50 = .ok (.goto 4, 3) := by decide +kernel
theorem dX11_right_53 : decode cX11_right 53 = .ok (.iconst 0, 1) := by decide +kernel
theorem dX11_right_54 : decode cX11_right 54 = .ok (.ireturn, 1) := by decide +kernel
theorem dX11_slips_0 : decode cX11_slips 0 = .ok (.aload_n 0, 1) := by decide +kernel
theorem dX11_slips_1 : decode cX11_slips 1 = .ok (.getfield 79, 3) := by decide +kernel
theorem dX11_slips_4 : decode cX11_slips 4 = .ok (.iload_n 1, 1) := by decide +kernel
theorem dX11_slips_5 : decode cX11_slips 5 = .ok (.invokevirtual 264, 3) := by decide +kernel
theorem dX11_slips_8 : decode cX11_slips 8 = .ok (.astore_n 3, 1) := by decide +kernel
theorem dX11_slips_9 : decode cX11_slips 9 = .ok (.aload_n 3, 1) := by decide +kernel
theorem dX11_slips_10 : decode cX11_slips 10 = .ok (.ifnull 8, 3) := by decide +kernel
theorem dX11_slips_13 : decode cX11_slips 13 = .ok (.iload_n 2, 1) := by decide +kernel
theorem dX11_slips_14 : decode cX11_slips 14 = .ok (.iconst (-1), 1) := by decide +kernel
theorem dX11_slips_15 : decode cX11_slips 15 = .ok (.if_icmp .ge 5, 3) := by decide +kernel
theorem dX11_slips_18 : decode cX11_slips 18 = .ok (.iconst (-1), 1) := by decide +kernel
theorem dX11_slips_19 : decode cX11_slips 19 = .ok (.ireturn, 1) := by decide +kernel
theorem dX11_slips_20 : decode cX11_slips 20 = .ok (.aload_n 0, 1) := by decide +kernel
theorem dX11_slips_21 : decode cX11_slips 21 = .ok (.getfield 40, 3) := by decide +kernel
theorem dX11_slips_24 : decode cX11_slips 24 = .ok (.ifCond .ne 6, 3) := by decide +kernel
theorem dX11_slips_27 : decode cX11_slips 27 = .ok (.bipush (-3), 2) := by decide +kernel
theorem dX11_slips_29 : decode cX11_slips 29 = .ok (.ireturn, 1) := by decide +kernel
theorem dX11_slips_30 : decode cX11_slips 30 = .ok (.aload_n 0, 1) := by decide +kernel
theorem dX11_slips_31 : decode cX11_slips 31 = .ok (.aload_n 3, 1) := by decide +kernel
theorem dX11_slips_32 : decode cX11_slips 32 = .ok (.iload_n 2, 1) := by decide +kernel
theorem dX11_slips_33 : decode cX11_slips 33 = .ok (.invokevirtual 274, 3) := by decide +kernel
theorem dX11_slips_36 : decode cX11_slips 36 = .ok (.ireturn, 1) := by decide +kernel
theorem dX11_fewest_0 : decode cX11_fewest 0 = .ok (.aload_n 0, 1) := by decide +kernel
theorem dX11_fewest_1 : decode cX11_fewest 1 = .ok (.iload_n 1, 1) := by decide +kernel
theorem dX11_fewest_2 : decode cX11_fewest 2 = .ok (.invokevirtual 278, 3) := by decide +kernel
theorem dX11_fewest_5 : decode cX11_fewest 5 = .ok (.astore_n 3, 1) := by decide +kernel
theorem dX11_fewest_6 : decode cX11_fewest 6 = .ok (.aload_n 3, 1) := by decide +kernel
theorem dX11_fewest_7 : decode cX11_fewest 7 = .ok (.ifnull 8, 3) := by decide +kernel
theorem dX11_fewest_10 : decode cX11_fewest 10 = .ok (.iload_n 2, 1) := by decide +kernel
theorem dX11_fewest_11 : decode cX11_fewest 11 = .ok (.iconst (-1), 1) := by decide +kernel
theorem dX11_fewest_12 : decode cX11_fewest 12 = .ok (.if_icmp .ge 5, 3) := by decide +kernel
theorem dX11_fewest_15 : decode cX11_fewest 15 = .ok (.iconst (-1), 1) := by decide +kernel
theorem dX11_fewest_16 : decode cX11_fewest 16 = .ok (.ireturn, 1) := by decide +kernel
theorem dX11_fewest_17 : decode cX11_fewest 17 = .ok (.aload_n 0, 1) := by decide +kernel
theorem dX11_fewest_18 : decode cX11_fewest 18 = .ok (.getfield 36, 3) := by decide +kernel
theorem dX11_fewest_21 : decode cX11_fewest 21 = .ok (.getfield 157, 3) := by decide +kernel
theorem dX11_fewest_24 : decode cX11_fewest 24 = .ok (.istore 4, 2) := by decide +kernel
theorem dX11_fewest_26 : decode cX11_fewest 26 = .ok (.iload 4, 2) := by decide +kernel
theorem dX11_fewest_28 : decode cX11_fewest 28 = .ok (.ifCond .eq 10, 3) := by decide +kernel
theorem dX11_fewest_31 : decode cX11_fewest 31 = .ok (.iload 4, 2) := by decide +kernel
theorem dX11_fewest_33 : decode cX11_fewest 33 = .ok (.bipush 7, 2) := by decide +kernel
theorem dX11_fewest_35 : decode cX11_fewest 35 = .ok (.if_icmp .le 6, 3) := by decide +kernel
theorem dX11_fewest_38 : decode cX11_fewest 38 = .ok (.bipush (-3), 2) := by decide +kernel
theorem dX11_fewest_40 : decode cX11_fewest 40 = .ok (.ireturn, 1) := by decide +kernel
theorem dX11_fewest_41 : decode cX11_fewest 41 = .ok (.aload_n 3, 1) := by decide +kernel
theorem dX11_fewest_42 : decode cX11_fewest 42 = .ok (.getfield 282, 3) := by decide +kernel
theorem dX11_fewest_45 : decode cX11_fewest 45 = .ok (.iconst (-1), 1) := by decide +kernel
theorem dX11_fewest_46 : decode cX11_fewest 46 = .ok (.if_icmp .ne 6, 3) := by decide +kernel
theorem dX11_fewest_49 : decode cX11_fewest 49 = .ok (.bipush (-11), 2) := by decide +kernel
theorem dX11_fewest_51 : decode cX11_fewest 51 = .ok (.ireturn, 1) := by decide +kernel
theorem dX11_fewest_52 : decode cX11_fewest 52 = .ok (.aload_n 3, 1) := by decide +kernel
theorem dX11_fewest_53 : decode cX11_fewest 53 = .ok (.getfield 282, 3) := by decide +kernel
theorem dX11_fewest_56 : decode cX11_fewest 56 = .ok (.ifCond .eq 6, 3) := by decide +kernel
theorem dX11_fewest_59 : decode cX11_fewest 59 = .ok (.bipush (-12), 2) := by decide +kernel
theorem dX11_fewest_61 : decode cX11_fewest 61 = .ok (.ireturn, 1) := by decide +kernel
theorem dX11_fewest_62 : decode cX11_fewest 62 = .ok (.aload_n 3, 1) := by decide +kernel
theorem dX11_fewest_63 : decode cX11_fewest 63 = .ok (.getfield 285, 3) := by decide +kernel
theorem dX11_fewest_66 : decode cX11_fewest 66 = .ok (.iload 4, 2) := by decide +kernel
theorem dX11_fewest_68 : decode cX11_fewest 68 = .ok (.if_icmp .ge 6, 3) := by decide +kernel
theorem dX11_fewest_71 : decode cX11_fewest 71 = .ok (.bipush (-13), 2) := by decide +kernel
theorem dX11_fewest_73 : decode cX11_fewest 73 = .ok (.ireturn, 1) := by decide +kernel
theorem dX11_fewest_74 : decode cX11_fewest 74 = .ok (.aload_n 0, 1) := by decide +kernel
theorem dX11_fewest_75 : decode cX11_fewest 75 = .ok (.getfield 96, 3) := by decide +kernel
theorem dX11_fewest_78 : decode cX11_fewest 78 = .ok (.aload_n 0, 1) := by decide +kernel
theorem dX11_fewest_79 : decode cX11_fewest 79 = .ok (.getfield 36, 3) := by decide +kernel
theorem dX11_fewest_82 : decode cX11_fewest 82 = .ok (.aload_n 3, 1) := by decide +kernel
theorem dX11_fewest_83 : decode cX11_fewest 83 = .ok (.getfield 286, 3) := by decide +kernel
theorem dX11_fewest_86 : decode cX11_fewest 86 = .ok (.invokevirtual 289, 3) := by decide +kernel
theorem dX11_fewest_89 : decode cX11_fewest 89 = .ok (.ifCond .ne 6, 3) := by decide +kernel
theorem dX11_fewest_92 : decode cX11_fewest 92 = .ok (.bipush (-2), 2) := by decide +kernel
theorem dX11_fewest_94 : decode cX11_fewest 94 = .ok (.ireturn, 1) := by decide +kernel
theorem dX11_fewest_95 : decode cX11_fewest 95 = .ok (.aload_n 0, 1) := by decide +kernel
theorem dX11_fewest_96 : decode cX11_fewest 96 = .ok (.getfield 96, 3) := by decide +kernel
theorem dX11_fewest_99 : decode cX11_fewest 99 = .ok (.iload 4, 2) := by decide +kernel
theorem dX11_fewest_101 : decode cX11_fewest 101 = .ok (.invokevirtual 293, 3) := by decide +kernel
theorem dX11_fewest_104 : decode cX11_fewest 104 = .ok (.iload_n 2, 1) := by decide +kernel
theorem dX11_fewest_105 : decode cX11_fewest 105 = .ok (.iconst (-1), 1) := by decide +kernel
theorem dX11_fewest_106 : decode cX11_fewest 106 = .ok (.if_icmp .ne 11, 3) := by decide +kernel
theorem dX11_fewest_109 : decode cX11_fewest 109 = .ok (.aload_n 0, 1) := by decide +kernel
theorem dX11_fewest_110 : decode cX11_fewest 110 = .ok (.getfield 96, 3) := by decide +kernel
theorem dX11_fewest_113 : decode cX11_fewest 113 = .ok (.getfield 296, 3) := by decide +kernel
theorem dX11_fewest_116 : decode cX11_fewest 116 = .ok (.ireturn, 1) := by decide +kernel
theorem dX11_fewest_117 : decode cX11_fewest 117 = .ok (.iload_n 2, 1) := by decide +kernel
theorem dX11_fewest_118 : decode cX11_fewest 118 = .ok (.aload_n 0, 1) := by decide +kernel
theorem dX11_fewest_119 : decode cX11_fewest 119 = .ok (.getfield 96, 3) := by decide +kernel
theorem dX11_fewest_122 : decode cX11_fewest 122 = .ok (.getfield 296, 3) := by decide +kernel
theorem dX11_fewest_125 : decode cX11_fewest 125 = .ok (.if_icmp .ge 15, 3) := by decide +kernel
theorem dX11_fewest_128 : decode cX11_fewest 128 = .ok (.aload_n 0, 1) := by decide +kernel
theorem dX11_fewest_129 : decode cX11_fewest 129 = .ok (.getfield 96, 3) := by decide +kernel
theorem dX11_fewest_132 : decode cX11_fewest 132 = .ok (.getfield 297, 3) := by decide +kernel
theorem dX11_fewest_135 : decode cX11_fewest 135 = .ok (.iload_n 2, 1) := by decide +kernel
theorem dX11_fewest_136 : decode cX11_fewest 136 = .ok (.iaload, 1) := by decide +kernel
theorem dX11_fewest_137 : decode cX11_fewest 137 = .ok (.goto 4, 3) := by decide +kernel
theorem dX11_fewest_140 : decode cX11_fewest 140 = .ok (.iconst (-1), 1) := by decide +kernel
theorem dX11_fewest_141 : decode cX11_fewest 141 = .ok (.ireturn, 1) := by decide +kernel
theorem dX11_set_0 : decode cX11_set 0 = .ok (.aload_n 0, 1) := by decide +kernel
theorem dX11_set_1 : decode cX11_set 1 = .ok (.iload_n 1, 1) := by decide +kernel
theorem dX11_set_2 : decode cX11_set 2 = .ok (.invokevirtual 300, 3) := by decide +kernel
theorem dX11_set_5 : decode cX11_set 5 = .ok (.istore_n 3, 1) := by decide +kernel
theorem dX11_set_6 : decode cX11_set 6 = .ok (.iload_n 3, 1) := by decide +kernel
theorem dX11_set_7 : decode cX11_set 7 = .ok (.ifCond .eq 5, 3) := by decide +kernel
theorem dX11_set_10 : decode cX11_set 10 = .ok (.iload_n 3, 1) := by decide +kernel
theorem dX11_set_11 : decode cX11_set 11 = .ok (.ireturn, 1) := by decide +kernel
theorem dX11_set_12 : decode cX11_set 12 = .ok (.iload_n 2, 1) := by decide +kernel
theorem dX11_set_13 : decode cX11_set 13 = .ok (.iconst (-1), 1) := by decide +kernel
theorem dX11_set_14 : decode cX11_set 14 = .ok (.if_icmp .lt 14, 3) := by decide +kernel
theorem dX11_set_17 : decode cX11_set 17 = .ok (.iload_n 2, 1) := by decide +kernel
theorem dX11_set_18 : decode cX11_set 18 = .ok (.aload_n 0, 1) := by decide +kernel
theorem dX11_set_19 : decode cX11_set 19 = .ok (.getfield 36, 3) := by decide +kernel
theorem dX11_set_22 : decode cX11_set 22 = .ok (.getfield 157, 3) := by decide +kernel
theorem dX11_set_25 : decode cX11_set 25 = .ok (.if_icmp .lt 5, 3) := by decide +kernel
theorem dX11_set_28 : decode cX11_set 28 = .ok (.iconst (-1), 1) := by decide +kernel
theorem dX11_set_29 : decode cX11_set 29 = .ok (.ireturn, 1) := by decide +kernel
theorem dX11_set_30 : decode cX11_set 30 = .ok (.iload_n 2, 1) := by decide +kernel
theorem dX11_set_31 : decode cX11_set 31 = .ok (.iconst (-1), 1) := by decide +kernel
theorem dX11_set_32 : decode cX11_set 32 = .ok (.if_icmp .ne 13, 3) := by decide +kernel
theorem dX11_set_35 : decode cX11_set 35 = .ok (.aload_n 0, 1) := by decide +kernel
theorem dX11_set_36 : decode cX11_set 36 = .ok (.getfield 103, 3) := by decide +kernel
theorem dX11_set_39 : decode cX11_set 39 = .ok (.getfield 303, 3) := by decide +kernel
theorem dX11_set_42 : decode cX11_set 42 = .ok (.goto 11, 3) := by decide +kernel
theorem dX11_set_45 : decode cX11_set 45 = .ok (.aload_n 0, 1) := by decide +kernel
theorem dX11_set_46 : decode cX11_set 46 = .ok (.getfield 103, 3) := by decide +kernel
theorem dX11_set_49 : decode cX11_set 49 = .ok (.iload_n 2, 1) := by decide +kernel
theorem dX11_set_50 : decode cX11_set 50 = .ok (.invokevirtual 306, 3) := by decide +kernel
theorem dX11_set_53 : decode cX11_set 53 = .ok (.ireturn, 1) := by decide +kernel
theorem dX11_spent_0 : decode cX11_spent 0 = .ok (.aload_n 0, 1) := by decide +kernel
theorem dX11_spent_1 : decode cX11_spent 1 = .ok (.getfield 79, 3) := by decide +kernel
theorem dX11_spent_4 : decode cX11_spent 4 = .ok (.iload_n 2, 1) := by decide +kernel
theorem dX11_spent_5 : decode cX11_spent 5 = .ok (.invokevirtual 264, 3) := by decide +kernel
theorem dX11_spent_8 : decode cX11_spent 8 = .ok (.astore_n 3, 1) := by decide +kernel
theorem dX11_spent_9 : decode cX11_spent 9 = .ok (.aload_n 3, 1) := by decide +kernel
theorem dX11_spent_10 : decode cX11_spent 10 = .ok (.ifnonnull 5, 3) := by decide +kernel
theorem dX11_spent_13 : decode cX11_spent 13 = .ok (.iconst (-1), 1) := by decide +kernel
theorem dX11_spent_14 : decode cX11_spent 14 = .ok (.ireturn, 1) := by decide +kernel
theorem dX11_spent_15 : decode cX11_spent 15 = .ok (.aload_n 0, 1) := by decide +kernel
theorem dX11_spent_16 : decode cX11_spent 16 = .ok (.iload_n 1, 1) := by decide +kernel
theorem dX11_spent_17 : decode cX11_spent 17 = .ok (.invokevirtual 300, 3) := by decide +kernel
theorem dX11_spent_20 : decode cX11_spent 20 = .ok (.istore 4, 2) := by decide +kernel
theorem dX11_spent_22 : decode cX11_spent 22 = .ok (.iload 4, 2) := by decide +kernel
theorem dX11_spent_24 : decode cX11_spent 24 = .ok (.ifCond .eq 6, 3) := by decide +kernel
theorem dX11_spent_27 : decode cX11_spent 27 = .ok (.iload 4, 2) := by decide +kernel
theorem dX11_spent_29 : decode cX11_spent 29 = .ok (.ireturn, 1) := by decide +kernel
theorem dX11_spent_30 : decode cX11_spent 30 = .ok (.aload_n 0, 1) := by decide +kernel
theorem dX11_spent_31 : decode cX11_spent 31 = .ok (.getfield 103, 3) := by decide +kernel
theorem dX11_spent_34 : decode cX11_spent 34 = .ok (.aload_n 3, 1) := by decide +kernel
theorem dX11_spent_35 : decode cX11_spent 35 = .ok (.invokevirtual 309, 3) := by decide +kernel
theorem dX11_spent_38 : decode cX11_spent 38 = .ok (.ireturn, 1) := by decide +kernel
theorem dX11_act_0 : decode cX11_act 0 = .ok (.aload_n 0, 1) := by decide +kernel
theorem dX11_act_1 : decode cX11_act 1 = .ok (.iload_n 1, 1) := by decide +kernel
theorem dX11_act_2 : decode cX11_act 2 = .ok (.invokevirtual 133, 3) := by decide +kernel
theorem dX11_act_5 : decode cX11_act 5 = .ok (.astore 4, 2) := by decide +kernel
theorem dX11_act_7 : decode cX11_act 7 = .ok (.aload_n 0, 1) := by decide +kernel
theorem dX11_act_8 : decode cX11_act 8 = .ok (.getfield 22, 3) := by decide +kernel
theorem dX11_act_11 : decode cX11_act 11 = .ok (.iconst 0, 1) := by decide +kernel
theorem dX11_act_12 : decode cX11_act 12 = .ok (.putfield 313, 3) := by decide +kernel
theorem dX11_act_15 : decode cX11_act 15 = .ok (.aload 4, 2) := by decide +kernel
theorem dX11_act_17 : decode cX11_act 17 = .ok (.ifnull 12, 3) := by decide +kernel
theorem dX11_act_20 : decode cX11_act 20 = .ok (.iload_n 2, 1) := by decide +kernel
theorem dX11_act_21 : decode cX11_act 21 = .ok (.ifCond .lt 8, 3) := by decide +kernel
theorem dX11_act_24 : decode cX11_act 24 = .ok (.iload_n 2, 1) := by decide +kernel
theorem dX11_act_25 : decode cX11_act 25 = .ok (.iconst 3, 1) := by decide +kernel
theorem dX11_act_26 : decode cX11_act 26 = .ok (.if_icmp .lt 5, 3) := by decide +kernel
theorem dX11_act_29 : decode cX11_act 29 = .ok (.iconst 0, 1) := by decide +kernel
theorem dX11_act_30 : decode cX11_act 30 = .ok (.ireturn, 1) := by decide +kernel
theorem dX11_act_31 : decode cX11_act 31 = .ok (.aload_n 0, 1) := by decide +kernel
theorem dX11_act_32 : decode cX11_act 32 = .ok (.getfield 22, 3) := by decide +kernel
theorem dX11_act_35 : decode cX11_act 35 = .ok (.aload 4, 2) := by decide +kernel
theorem dX11_act_37 : decode cX11_act 37 = .ok (.iload_n 2, 1) := by decide +kernel
theorem dX11_act_38 : decode cX11_act 38 = .ok (.iload_n 3, 1) := by decide +kernel
theorem dX11_act_39 : decode cX11_act 39 = .ok (.invokevirtual 316, 3) := by decide +kernel
theorem dX11_act_42 : decode cX11_act 42 = .ok (.ireturn, 1) := by decide +kernel
theorem dX11_trace_0 : decode cX11_trace 0 = .ok (.aload_n 0, 1) := by decide +kernel
theorem dX11_trace_1 : decode cX11_trace 1 = .ok (.getfield 22, 3) := by decide +kernel
theorem dX11_trace_4 : decode cX11_trace 4 = .ok (.iload_n 1, 1) := by decide +kernel
theorem dX11_trace_5 : decode cX11_trace 5 = .ok (.invokevirtual 320, 3) := by decide +kernel
theorem dX11_trace_8 : decode cX11_trace 8 = .ok (.ireturn, 1) := by decide +kernel
theorem dX11_taken_0 : decode cX11_taken 0 = .ok (.iload_n 2, 1) := by decide +kernel
theorem dX11_taken_1 : decode cX11_taken 1 = .ok (.ifCond .lt 8, 3) := by decide +kernel
theorem dX11_taken_4 : decode cX11_taken 4 = .ok (.iload_n 2, 1) := by decide +kernel
theorem dX11_taken_5 : decode cX11_taken 5 = .ok (.iconst 5, 1) := by decide +kernel
theorem dX11_taken_6 : decode cX11_taken 6 = .ok (.if_icmp .lt 6, 3) := by decide +kernel
