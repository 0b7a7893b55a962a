theorem dX0_init_0 : decode cX0_init 0 = .ok (.aload_n 0, 1) := by decide +kernel
theorem dX0_init_1 : decode cX0_init 1 = .ok (.invokespecial 3, 3) := by decide +kernel
theorem dX0_init_4 : decode cX0_init 4 = .ok (.aload_n 0, 1) := by decide +kernel
theorem dX0_init_5 : decode cX0_init 5 = .ok (.bipush 20, 2) := by decide +kernel
theorem dX0_init_7 : decode cX0_init 7 = .ok (.newarray .int, 2) := by decide +kernel
theorem dX0_init_9 : decode cX0_init 9 = .ok (.putfield 11, 3) := by decide +kernel
theorem dX0_init_12 : decode cX0_init 12 = .ok (.aload_n 0, 1) := by decide +kernel
theorem dX0_init_13 : decode cX0_init 13 = .ok (.iconst 0, 1) := by decide +kernel
theorem dX0_init_14 : decode cX0_init 14 = .ok (.putfield 15, 3) := by decide +kernel
theorem dX0_init_17 : decode cX0_init 17 = .ok (.return_, 1) := by decide +kernel
theorem dX0_traced_0 : decode cX0_traced 0 = .ok (.iload_n 1, 1) := by decide +kernel
theorem dX0_traced_1 : decode cX0_traced 1 = .ok (.ifCond .lt 26, 3) := by decide +kernel
theorem dX0_traced_4 : decode cX0_traced 4 = .ok (.iload_n 1, 1) := by decide +kernel
theorem dX0_traced_5 : decode cX0_traced 5 = .ok (.aload_n 0, 1) := by decide +kernel
theorem dX0_traced_6 : decode cX0_traced 6 = .ok (.getfield 15, 3) := by decide +kernel
theorem dX0_traced_9 : decode cX0_traced 9 = .ok (.if_icmp .ge 18, 3) := by decide +kernel
theorem dX0_traced_12 : decode cX0_traced 12 = .ok (.iload_n 1, 1) := by decide +kernel
theorem dX0_traced_13 : decode cX0_traced 13 = .ok (.bipush 20, 2) := by decide +kernel
theorem dX0_traced_15 : decode cX0_traced 15 = .ok (.if_icmp .ge 12, 3) := by decide +kernel
theorem dX0_traced_18 : decode cX0_traced 18 = .ok (.aload_n 0, 1) := by decide +kernel
theorem dX0_traced_19 : decode cX0_traced 19 = .ok (.getfield 11, 3) := by decide +kernel
theorem dX0_traced_22 : decode cX0_traced 22 = .ok (.iload_n 1, 1) := by decide +kernel
theorem dX0_traced_23 : decode cX0_traced 23 = .ok (.iaload, 1) := by decide +kernel
theorem dX0_traced_24 : decode cX0_traced 24 = .ok (.goto 4, 3) := by decide +kernel
theorem dX0_traced_27 : decode cX0_traced 27 = .ok (.iconst (-1), 1) := by decide +kernel
theorem dX0_traced_28 : decode cX0_traced 28 = .ok (.ireturn, 1) := by decide +kernel
theorem dX0_perform_0 : decode cX0_perform 0 = .ok (.aload_n 0, 1) := by decide +kernel
theorem dX0_perform_1 : decode cX0_perform 1 = .ok (.aload_n 1, 1) := by decide +kernel
theorem dX0_perform_2 : decode cX0_perform 2 = .ok (.aload_n 1, 1) := by decide +kernel
theorem dX0_perform_3 : decode cX0_perform 3 = .ok (.getfield 19, 3) := by decide +kernel
theorem dX0_perform_6 : decode cX0_perform 6 = .ok (.iload_n 2, 1) := by decide +kernel
theorem dX0_perform_7 : decode cX0_perform 7 = .ok (.iload_n 3, 1) := by decide +kernel
theorem dX0_perform_8 : decode cX0_perform 8 = .ok (.iconst 0, 1) := by decide +kernel
theorem dX0_perform_9 : decode cX0_perform 9 = .ok (.invokevirtual 24, 3) := by decide +kernel
theorem dX0_perform_12 : decode cX0_perform 12 = .ok (.ireturn, 1) := by decide +kernel
theorem dX0_ask_0 : decode cX0_ask 0 = .ok (.iload_n 2, 1) := by decide +kernel
theorem dX0_ask_1 : decode cX0_ask 1 = .ok (.istore 6, 2) := by decide +kernel
theorem dX0_ask_3 : decode cX0_ask 3 = .ok (.iconst 0, 1) := by decide +kernel
theorem dX0_ask_4 : decode cX0_ask 4 = .ok (.istore 7, 2) := by decide +kernel
theorem dX0_ask_6 : decode cX0_ask 6 = .ok (.iload 7, 2) := by decide +kernel
theorem dX0_ask_8 : decode cX0_ask 8 = .ok (.iconst 5, 1) := by decide +kernel
theorem dX0_ask_9 : decode cX0_ask 9 = .ok (.if_icmp .ge 35, 3) := by decide +kernel
theorem dX0_ask_12 : decode cX0_ask 12 = .ok (.iload 6, 2) := by decide +kernel
theorem dX0_ask_14 : decode cX0_ask 14 = .ok (.ifCond .le 30, 3) := by decide +kernel
theorem dX0_ask_17 : decode cX0_ask 17 = .ok (.getstatic 28, 3) := by decide +kernel
theorem dX0_ask_20 : decode cX0_ask 20 = .ok (.iconst 3, 1) := by decide +kernel
theorem dX0_ask_21 : decode cX0_ask 21 = .ok (.iload 6, 2) := by decide +kernel
theorem dX0_ask_23 : decode cX0_ask 23 = .ok (.imul, 1) := by decide +kernel
theorem dX0_ask_24 : decode cX0_ask 24 = .ok (.iload_n 3, 1) := by decide +kernel
theorem dX0_ask_25 : decode cX0_ask 25 = .ok (.iadd, 1) := by decide +kernel
theorem dX0_ask_26 : decode cX0_ask 26 = .ok (.iaload, 1) := by decide +kernel
theorem dX0_ask_27 : decode cX0_ask 27 = .ok (.ifCond .ne 17, 3) := by decide +kernel
theorem dX0_ask_30 : decode cX0_ask 30 = .ok (.getstatic 31, 3) := by decide +kernel
theorem dX0_ask_33 : decode cX0_ask 33 = .ok (.iload 6, 2) := by decide +kernel
theorem dX0_ask_35 : decode cX0_ask 35 = .ok (.iaload, 1) := by decide +kernel
theorem dX0_ask_36 : decode cX0_ask 36 = .ok (.istore 6, 2) := by decide +kernel
theorem dX0_ask_38 : decode cX0_ask 38 = .ok (.iinc 7 1, 3) := by decide +kernel
theorem dX0_ask_41 : decode cX0_ask 41 = .ok (.goto (-35), 3) := by decide +kernel
theorem dX0_ask_44 : decode cX0_ask 44 = .ok (.iload 6, 2) := by decide +kernel
theorem dX0_ask_46 : decode cX0_ask 46 = .ok (.ifCond .lt 10, 3) := by decide +kernel
theorem dX0_ask_49 : decode cX0_ask 49 = .ok (.iload 5, 2) := by decide +kernel
theorem dX0_ask_51 : decode cX0_ask 51 = .ok (.bipush 40, 2) := by decide +kernel
theorem dX0_ask_53 : decode cX0_ask 53 = .ok (.if_icmp .le 5, 3) := by decide +kernel
theorem dX0_ask_56 : decode cX0_ask 56 = .ok (.iconst 0, 1) := by decide +kernel
theorem dX0_ask_57 : decode cX0_ask 57 = .ok (.ireturn, 1) := by decide +kernel
theorem dX0_ask_58 : decode cX0_ask 58 = .ok (.getstatic 28, 3) := by decide +kernel
theorem dX0_ask_61 : decode cX0_ask 61 = .ok (.iconst 3, 1) := by decide +kernel
theorem dX0_ask_62 : decode cX0_ask 62 = .ok (.iload 6, 2) := by decide +kernel
theorem dX0_ask_64 : decode cX0_ask 64 = .ok (.imul, 1) := by decide +kernel
theorem dX0_ask_65 : decode cX0_ask 65 = .ok (.iload_n 3, 1) := by decide +kernel
theorem dX0_ask_66 : decode cX0_ask 66 = .ok (.iadd, 1) := by decide +kernel
theorem dX0_ask_67 : decode cX0_ask 67 = .ok (.iaload, 1) := by decide +kernel
theorem dX0_ask_68 : decode cX0_ask 68 = .ok (.istore 7, 2) := by decide +kernel
theorem dX0_ask_70 : decode cX0_ask 70 = .ok (.aload_n 0, 1) := by decide +kernel
theorem dX0_ask_71 : decode cX0_ask 71 = .ok (.iload 7, 2) := by decide +kernel
theorem dX0_ask_73 : decode cX0_ask 73 = .ok (.invokevirtual 34, 3) := by decide +kernel
theorem dX0_ask_76 : decode cX0_ask 76 = .ok (.aload_n 0, 1) := by decide +kernel
theorem dX0_ask_77 : decode cX0_ask 77 = .ok (.aload_n 1, 1) := by decide +kernel
theorem dX0_ask_78 : decode cX0_ask 78 = .ok (.iload 7, 2) := by decide +kernel
theorem dX0_ask_80 : decode cX0_ask 80 = .ok (.getstatic 31, 3) := by decide +kernel
theorem dX0_ask_83 : decode cX0_ask 83 = .ok (.iload 6, 2) := by decide +kernel
theorem dX0_ask_85 : decode cX0_ask 85 = .ok (.iaload, 1) := by decide +kernel
theorem dX0_ask_86 : decode cX0_ask 86 = .ok (.iload 4, 2) := by decide +kernel
theorem dX0_ask_88 : decode cX0_ask 88 = .ok (.iload 5, 2) := by decide +kernel
theorem dX0_ask_90 : decode cX0_ask 90 = .ok (.iconst 1, 1) := by decide +kernel
theorem dX0_ask_91 : decode cX0_ask 91 = .ok (.iadd, 1) := by decide +kernel
theorem dX0_ask_92 : decode cX0_ask 92 = .ok (.invokevirtual 38, 3) := by decide +kernel
theorem dX0_ask_95 : decode cX0_ask 95 = .ok (.ireturn, 1) := by decide +kernel
theorem dX0_note_0 : decode cX0_note 0 = .ok (.aload_n 0, 1) := by decide +kernel
theorem dX0_note_1 : decode cX0_note 1 = .ok (.getfield 15, 3) := by decide +kernel
theorem dX0_note_4 : decode cX0_note 4 = .ok (.bipush 20, 2) := by decide +kernel
theorem dX0_note_6 : decode cX0_note 6 = .ok (.if_icmp .ge 13, 3) := by decide +kernel
theorem dX0_note_9 : decode cX0_note 9 = .ok (.aload_n 0, 1) := by decide +kernel
theorem dX0_note_10 : decode cX0_note 10 = .ok (.getfield 11, 3) := by decide +kernel
theorem dX0_note_13 : decode cX0_note 13 = .ok (.aload_n 0, 1) := by decide +kernel
theorem dX0_note_14 : decode cX0_note 14 = .ok (.getfield 15, 3) := by decide +kernel
theorem dX0_note_17 : decode cX0_note 17 = .ok (.iload_n 1, 1) := by decide +kernel
theorem dX0_note_18 : decode cX0_note 18 = .ok (.iastore, 1) := by decide +kernel
theorem dX0_note_19 : decode cX0_note 19 = .ok (.aload_n 0, 1) := by decide +kernel
theorem dX0_note_20 : decode cX0_note 20 = .ok (.dup, 1) := by decide +kernel
theorem dX0_note_21 : decode cX0_note 21 = .ok (.getfield 15, 3) := by decide +kernel
theorem dX0_note_24 : decode cX0_note 24 = .ok (.iconst 1, 1) := by decide +kernel
theorem dX0_note_25 : decode cX0_note 25 = .ok (.iadd, 1) := by decide +kernel
theorem dX0_note_26 : decode cX0_note 26 = .ok (.putfield 15, 3) := by decide +kernel
theorem dX0_note_29 : decode cX0_note 29 = .ok (.return_, 1) := by decide +kernel
theorem dX0_run_0 : decode cX0_run 0 = .ok (.aload_n 1, 1) := by decide +kernel
theorem dX0_run_1 : decode cX0_run 1 = .ok (.getfield 19, 3) := by decide +kernel
theorem dX0_run_4 : decode cX0_run 4 = .ok (.istore 6, 2) := by decide +kernel
theorem dX0_run_6 : decode cX0_run 6 = .ok (.iload_n 2, 1) := by decide +kernel
theorem dX0_run_7 : decode cX0_run 7 = .ok (.lookupswitch 175 #[(10, 65), (11, 73), (12, 91), (20, 109), (30, 123), (40, 148), (41, 162)], 65) := by decide +kernel
theorem dX0_run_72 : decode cX0_run 72 = .ok (.iload 4, 2) := by decide +kernel
theorem dX0_run_74 : decode cX0_run 74 = .ok (.aload_n 1, 1) := by decide +kernel
theorem dX0_run_75 : decode cX0_run 75 = .ok (.getfield 41, 3) := by decide +kernel
theorem dX0_run_78 : decode cX0_run 78 = .ok (.iadd, 1) := by decide +kernel
theorem dX0_run_79 : decode cX0_run 79 = .ok (.ireturn, 1) := by decide +kernel
theorem dX0_run_80 : decode cX0_run 80 = .ok (.aload_n 0, 1) := by decide +kernel
theorem dX0_run_81 : decode cX0_run 81 = .ok (.aload_n 1, 1) := by decide +kernel
theorem dX0_run_82 : decode cX0_run 82 = .ok (.iload 6, 2) := by decide +kernel
theorem dX0_run_84 : decode cX0_run 84 = .ok (.iconst 0, 1) := by decide +kernel
theorem dX0_run_85 : decode cX0_run 85 = .ok (.iload 4, 2) := by decide +kernel
theorem dX0_run_87 : decode cX0_run 87 = .ok (.iload 5, 2) := by decide +kernel
theorem dX0_run_89 : decode cX0_run 89 = .ok (.invokevirtual 24, 3) := by decide +kernel
theorem dX0_run_92 : decode cX0_run 92 = .ok (.aload_n 1, 1) := by decide +kernel
theorem dX0_run_93 : decode cX0_run 93 = .ok (.getfield 44, 3) := by decide +kernel
theorem dX0_run_96 : decode cX0_run 96 = .ok (.isub, 1) := by decide +kernel
theorem dX0_run_97 : decode cX0_run 97 = .ok (.ireturn, 1) := by decide +kernel
theorem dX0_run_98 : decode cX0_run 98 = .ok (.aload_n 0, 1) := by decide +kernel
theorem dX0_run_99 : decode cX0_run 99 = .ok (.aload_n 1, 1) := by decide +kernel
theorem dX0_run_100 : decode cX0_run 100 = .ok (.iload 6, 2) := by decide +kernel
theorem dX0_run_102 : decode cX0_run 102 = .ok (.iconst 1, 1) := by decide +kernel
theorem dX0_run_103 : decode cX0_run 103 = .ok (.iload 4, 2) := by decide +kernel
theorem dX0_run_105 : decode cX0_run 105 = .ok (.iload 5, 2) := by decide +kernel
theorem dX0_run_107 : decode cX0_run 107 = .ok (.invokevirtual 24, 3) := by decide +kernel
theorem dX0_run_110 : decode cX0_run 110 = .ok (.aload_n 1, 1) := by decide +kernel
theorem dX0_run_111 : decode cX0_run 111 = .ok (.getfield 47, 3) := by decide +kernel
theorem dX0_run_114 : decode cX0_run 114 = .ok (.ixor, 1) := by decide +kernel
theorem dX0_run_115 : decode cX0_run 115 = .ok (.ireturn, 1) := by decide +kernel
theorem dX0_run_116 : decode cX0_run 116 = .ok (.aload_n 0, 1) := by decide +kernel
theorem dX0_run_117 : decode cX0_run 117 = .ok (.aload_n 1, 1) := by decide +kernel
theorem dX0_run_118 : decode cX0_run 118 = .ok (.iload_n 3, 1) := by decide +kernel
theorem dX0_run_119 : decode cX0_run 119 = .ok (.iconst 0, 1) := by decide +kernel
theorem dX0_run_120 : decode cX0_run 120 = .ok (.iload 4, 2) := by decide +kernel
theorem dX0_run_122 : decode cX0_run 122 = .ok (.iload 5, 2) := by decide +kernel
theorem dX0_run_124 : decode cX0_run 124 = .ok (.invokevirtual 24, 3) := by decide +kernel
theorem dX0_run_127 : decode cX0_run 127 = .ok (.iconst 4, 1) := by decide +kernel
theorem dX0_run_128 : decode cX0_run 128 = .ok (.isub, 1) := by decide +kernel
theorem dX0_run_129 : decode cX0_run 129 = .ok (.ireturn, 1) := by decide +kernel
theorem dX0_run_130 : decode cX0_run 130 = .ok (.aload_n 0, 1) := by decide +kernel
theorem dX0_run_131 : decode cX0_run 131 = .ok (.aload_n 1, 1) := by decide +kernel
theorem dX0_run_132 : decode cX0_run 132 = .ok (.iload_n 3, 1) := by decide +kernel
theorem dX0_run_133 : decode cX0_run 133 = .ok (.iconst 1, 1) := by decide +kernel
theorem dX0_run_134 : decode cX0_run 134 = .ok (.iload 4, 2) := by decide +kernel
theorem dX0_run_136 : decode cX0_run 136 = .ok (.iload 5, 2) := by decide +kernel
theorem dX0_run_138 : decode cX0_run 138 = .ok (.invokevirtual 24, 3) := by decide +kernel
theorem dX0_run_141 : decode cX0_run 141 = .ok (.aload_n 0, 1) := by decide +kernel
theorem dX0_run_142 : decode cX0_run 142 = .ok (.aload_n 1, 1) := by decide +kernel
theorem dX0_run_143 : decode cX0_run 143 = .ok (.iload 6, 2) := by decide +kernel
theorem dX0_run_145 : decode cX0_run 145 = .ok (.iconst 0, 1) := by decide +kernel
theorem dX0_run_146 : decode cX0_run 146 = .ok (.iload 4, 2) := by decide +kernel
theorem dX0_run_148 : decode cX0_run 148 = .ok (.iload 5, 2) := by decide +kernel
theorem dX0_run_150 : decode cX0_run 150 = .ok (.invokevirtual 24, 3) := by decide +kernel
theorem dX0_run_153 : decode cX0_run 153 = .ok (.iadd, 1) := by decide +kernel
theorem dX0_run_154 : decode cX0_run 154 = .ok (.ireturn, 1) := by decide +kernel
theorem dX0_run_155 : decode cX0_run 155 = .ok (.aload_n 0, 1) := by decide +kernel
theorem dX0_run_156 : decode cX0_run 156 = .ok (.aload_n 1, 1) := by decide +kernel
theorem dX0_run_157 : decode cX0_run 157 = .ok (.iload_n 3, 1) := by decide +kernel
theorem dX0_run_158 : decode cX0_run 158 = .ok (.iconst 0, 1) := by decide +kernel
theorem dX0_run_159 : decode cX0_run 159 = .ok (.iload 4, 2) := by decide +kernel
theorem dX0_run_161 : decode cX0_run 161 = .ok (.iconst 3, 1) := by decide +kernel
theorem dX0_run_162 : decode cX0_run 162 = .ok (.imul, 1) := by decide +kernel
theorem dX0_run_163 : decode cX0_run 163 = .ok (.iload 5, 2) := by decide +kernel
theorem dX0_run_165 : decode cX0_run 165 = .ok (.invokevirtual 24, 3) := by decide +kernel
theorem dX0_run_168 : decode cX0_run 168 = .ok (.ireturn, 1) := by decide +kernel
theorem dX0_run_169 : decode cX0_run 169 = .ok (.aload_n 0, 1) := by decide +kernel
theorem dX0_run_170 : decode cX0_run 170 = .ok (.aload_n 1, 1) := by decide +kernel
theorem dX0_run_171 : decode cX0_run 171 = .ok (.iload_n 3, 1) := by decide +kernel
theorem dX0_run_172 : decode cX0_run 172 = .ok (.iconst 1, 1) := by decide +kernel
theorem dX0_run_173 : decode cX0_run 173 = .ok (.iload 4, 2) := by decide +kernel
theorem dX0_run_175 : decode cX0_run 175 = .ok (.iload 5, 2) := by decide +kernel
theorem dX0_run_177 : decode cX0_run 177 = .ok (.invokevirtual 24, 3) := by decide +kernel
theorem dX0_run_180 : decode cX0_run 180 = .ok (.ineg, 1) := by decide +kernel
theorem dX0_run_181 : decode cX0_run 181 = .ok (.ireturn, 1) := by decide +kernel
theorem dX0_run_182 : decode cX0_run 182 = .ok (.aload_n 0, 1) := by decide +kernel
theorem dX0_run_183 : decode cX0_run 183 = .ok (.aload_n 1, 1) := by decide +kernel
theorem dX0_run_184 : decode cX0_run 184 = .ok (.iload 6, 2) := by decide +kernel
theorem dX0_run_186 : decode cX0_run 186 = .ok (.iconst 1, 1) := by decide +kernel
theorem dX0_run_187 : decode cX0_run 187 = .ok (.iload 4, 2) := by decide +kernel
theorem dX0_run_189 : decode cX0_run 189 = .ok (.iload 5, 2) := by decide +kernel
theorem dX0_run_191 : decode cX0_run 191 = .ok (.invokevirtual 24, 3) := by decide +kernel
theorem dX0_run_194 : decode cX0_run 194 = .ok (.aload_n 0, 1) := by decide +kernel
theorem dX0_run_195 : decode cX0_run 195 = .ok (.aload_n 1, 1) := by decide +kernel
theorem dX0_run_196 : decode cX0_run 196 = .ok (.iload_n 3, 1) := by decide +kernel
theorem dX0_run_197 : decode cX0_run 197 = .ok (.iconst 2, 1) := by decide +kernel
theorem dX0_run_198 : decode cX0_run 198 = .ok (.iload 4, 2) := by decide +kernel
theorem dX0_run_200 : decode cX0_run 200 = .ok (.iconst 1, 1) := by decide +kernel
theorem dX0_run_201 : decode cX0_run 201 = .ok (.isub, 1) := by decide +kernel
theorem dX0_run_202 : decode cX0_run 202 = .ok (.iload 5, 2) := by decide +kernel
theorem dX0_run_204 : decode cX0_run 204 = .ok (.invokevirtual 24, 3) := by decide +kernel
theorem dX0_run_207 : decode cX0_run 207 = .ok (.iadd, 1) := by decide +kernel
theorem dX0_run_208 : decode cX0_run 208 = .ok (.ireturn, 1) := by decide +kernel
theorem dX1_init_0 : decode cX1_init 0 = .ok (.aload_n 0, 1) := by decide +kernel
theorem dX1_init_1 : decode cX1_init 1 = .ok (.invokespecial 3, 3) := by decide +kernel
theorem dX1_init_4 : decode cX1_init 4 = .ok (.aload_n 0, 1) := by decide +kernel
theorem dX1_init_5 : decode cX1_init 5 = .ok (.iconst 0, 1) := by decide +kernel
theorem dX1_init_6 : decode cX1_init 6 = .ok (.putfield 9, 3) := by decide +kernel
theorem dX1_init_9 : decode cX1_init 9 = .ok (.aload_n 0, 1) := by decide +kernel
theorem dX1_init_10 : decode cX1_init 10 = .ok (.iconst 0, 1) := by decide +kernel
theorem dX1_init_11 : decode cX1_init 11 = .ok (.putfield 15, 3) := by decide +kernel
theorem dX1_init_14 : decode cX1_init 14 = .ok (.aload_n 0, 1) := by decide +kernel
theorem dX1_init_15 : decode cX1_init 15 = .ok (.sipush 900, 3) := by decide +kernel
theorem dX1_init_18 : decode cX1_init 18 = .ok (.newarray .int, 2) := by decide +kernel
theorem dX1_init_20 : decode cX1_init 20 = .ok (.putfield 18, 3) := by decide +kernel
theorem dX1_init_23 : decode cX1_init 23 = .ok (.aload_n 0, 1) := by decide +kernel
theorem dX1_init_24 : decode cX1_init 24 = .ok (.sipush 900, 3) := by decide +kernel
theorem dX1_init_27 : decode cX1_init 27 = .ok (.newarray .int, 2) := by decide +kernel
theorem dX1_init_29 : decode cX1_init 29 = .ok (.putfield 22, 3) := by decide +kernel
theorem dX1_init_32 : decode cX1_init 32 = .ok (.aload_n 0, 1) := by decide +kernel
theorem dX1_init_33 : decode cX1_init 33 = .ok (.sipush 900, 3) := by decide +kernel
theorem dX1_init_36 : decode cX1_init 36 = .ok (.newarray .int, 2) := by decide +kernel
theorem dX1_init_38 : decode cX1_init 38 = .ok (.putfield 25, 3) := by decide +kernel
theorem dX1_init_41 : decode cX1_init 41 = .ok (.aload_n 0, 1) := by decide +kernel
theorem dX1_init_42 : decode cX1_init 42 = .ok (.bipush 9, 2) := by decide +kernel
theorem dX1_init_44 : decode cX1_init 44 = .ok (.newarray .int, 2) := by decide +kernel
theorem dX1_init_46 : decode cX1_init 46 = .ok (.putfield 28, 3) := by decide +kernel
theorem dX1_init_49 : decode cX1_init 49 = .ok (.return_, 1) := by decide +kernel
theorem dX1_open_0 : decode cX1_open 0 = .ok (.aload_n 0, 1) := by decide +kernel
theorem dX1_open_1 : decode cX1_open 1 = .ok (.iload_n 1, 1) := by decide +kernel
theorem dX1_open_2 : decode cX1_open 2 = .ok (.putfield 9, 3) := by decide +kernel
theorem dX1_open_5 : decode cX1_open 5 = .ok (.aload_n 0, 1) := by decide +kernel
theorem dX1_open_6 : decode cX1_open 6 = .ok (.iconst 0, 1) := by decide +kernel
theorem dX1_open_7 : decode cX1_open 7 = .ok (.putfield 15, 3) := by decide +kernel
theorem dX1_open_10 : decode cX1_open 10 = .ok (.aload_n 2, 1) := by decide +kernel
theorem dX1_open_11 : decode cX1_open 11 = .ok (.iconst 0, 1) := by decide +kernel
theorem dX1_open_12 : decode cX1_open 12 = .ok (.aload_n 0, 1) := by decide +kernel
theorem dX1_open_13 : decode cX1_open 13 = .ok (.getfield 28, 3) := by decide +kernel
theorem dX1_open_16 : decode cX1_open 16 = .ok (.iconst 0, 1) := by decide +kernel
theorem dX1_open_17 : decode cX1_open 17 = .ok (.bipush 9, 2) := by decide +kernel
theorem dX1_open_19 : decode cX1_open 19 = .ok (.invokestatic 31, 3) := by decide +kernel
theorem dX1_open_22 : decode cX1_open 22 = .ok (.return_, 1) := by decide +kernel
theorem dX1_has_0 : decode cX1_has 0 = .ok (.iload_n 1, 1) := by decide +kernel
theorem dX1_has_1 : decode cX1_has 1 = .ok (.ifCond .lt 27, 3) := by decide +kernel
theorem dX1_has_4 : decode cX1_has 4 = .ok (.iload_n 1, 1) := by decide +kernel
theorem dX1_has_5 : decode cX1_has 5 = .ok (.aload_n 0, 1) := by decide +kernel
theorem dX1_has_6 : decode cX1_has 6 = .ok (.getfield 15, 3) := by decide +kernel
theorem dX1_has_9 : decode cX1_has 9 = .ok (.if_icmp .ge 19, 3) := by decide +kernel
theorem dX1_has_12 : decode cX1_has 12 = .ok (.iload_n 2, 1) := by decide +kernel
theorem dX1_has_13 : decode cX1_has 13 = .ok (.ifCond .lt 15, 3) := by decide +kernel
theorem dX1_has_16 : decode cX1_has 16 = .ok (.iload_n 2, 1) := by decide +kernel
theorem dX1_has_17 : decode cX1_has 17 = .ok (.aload_n 0, 1) := by decide +kernel
theorem dX1_has_18 : decode cX1_has 18 = .ok (.getfield 9, 3) := by decide +kernel
theorem dX1_has_21 : decode cX1_has 21 = .ok (.if_icmp .ge 7, 3) := by decide +kernel
theorem dX1_has_24 : decode cX1_has 24 = .ok (.iconst 1, 1) := by decide +kernel
theorem dX1_has_25 : decode cX1_has 25 = .ok (.goto 4, 3) := by decide +kernel
theorem dX1_has_28 : decode cX1_has 28 = .ok (.iconst 0, 1) := by decide +kernel
theorem dX1_has_29 : decode cX1_has 29 = .ok (.ireturn, 1) := by decide +kernel
theorem dX1_lay_0 : decode cX1_lay 0 = .ok (.aload_n 0, 1) := by decide +kernel
theorem dX1_lay_1 : decode cX1_lay 1 = .ok (.getfield 15, 3) := by decide +kernel
theorem dX1_lay_4 : decode cX1_lay 4 = .ok (.bipush 100, 2) := by decide +kernel
theorem dX1_lay_6 : decode cX1_lay 6 = .ok (.if_icmp .lt 4, 3) := by decide +kernel
theorem dX1_lay_9 : decode cX1_lay 9 = .ok (.return_, 1) := by decide +kernel
theorem dX1_lay_10 : decode cX1_lay 10 = .ok (.aload_n 1, 1) := by decide +kernel
theorem dX1_lay_11 : decode cX1_lay 11 = .ok (.getfield 37, 3) := by decide +kernel
theorem dX1_lay_14 : decode cX1_lay 14 = .ok (.iconst 0, 1) := by decide +kernel
theorem dX1_lay_15 : decode cX1_lay 15 = .ok (.aload_n 0, 1) := by decide +kernel
theorem dX1_lay_16 : decode cX1_lay 16 = .ok (.getfield 18, 3) := by decide +kernel
theorem dX1_lay_19 : decode cX1_lay 19 = .ok (.bipush 9, 2) := by decide +kernel
theorem dX1_lay_21 : decode cX1_lay 21 = .ok (.aload_n 0, 1) := by decide +kernel
theorem dX1_lay_22 : decode cX1_lay 22 = .ok (.getfield 15, 3) := by decide +kernel
theorem dX1_lay_25 : decode cX1_lay 25 = .ok (.imul, 1) := by decide +kernel
theorem dX1_lay_26 : decode cX1_lay 26 = .ok (.aload_n 0, 1) := by decide +kernel
theorem dX1_lay_27 : decode cX1_lay 27 = .ok (.getfield 9, 3) := by decide +kernel
theorem dX1_lay_30 : decode cX1_lay 30 = .ok (.invokestatic 31, 3) := by decide +kernel
theorem dX1_lay_33 : decode cX1_lay 33 = .ok (.aload_n 1, 1) := by decide +kernel
theorem dX1_lay_34 : decode cX1_lay 34 = .ok (.getfield 42, 3) := by decide +kernel
theorem dX1_lay_37 : decode cX1_lay 37 = .ok (.iconst 0, 1) := by decide +kernel
theorem dX1_lay_38 : decode cX1_lay 38 = .ok (.aload_n 0, 1) := by decide +kernel
theorem dX1_lay_39 : decode cX1_lay 39 = .ok (.getfield 22, 3) := by decide +kernel
theorem dX1_lay_42 : decode cX1_lay 42 = .ok (.bipush 9, 2) := by decide +kernel
theorem dX1_lay_44 : decode cX1_lay 44 = .ok (.aload_n 0, 1) := by decide +kernel
theorem dX1_lay_45 : decode cX1_lay 45 = .ok (.getfield 15, 3) := by decide +kernel
theorem dX1_lay_48 : decode cX1_lay 48 = .ok (.imul, 1) := by decide +kernel
theorem dX1_lay_49 : decode cX1_lay 49 = .ok (.aload_n 0, 1) := by decide +kernel
theorem dX1_lay_50 : decode cX1_lay 50 = .ok (.getfield 9, 3) := by decide +kernel
theorem dX1_lay_53 : decode cX1_lay 53 = .ok (.invokestatic 31, 3) := by decide +kernel
theorem dX1_lay_56 : decode cX1_lay 56 = .ok (.iconst 0, 1) := by decide +kernel
theorem dX1_lay_57 : decode cX1_lay 57 = .ok (.istore_n 2, 1) := by decide +kernel
theorem dX1_lay_58 : decode cX1_lay 58 = .ok (.iload_n 2, 1) := by decide +kernel
theorem dX1_lay_59 : decode cX1_lay 59 = .ok (.aload_n 0, 1) := by decide +kernel
theorem dX1_lay_60 : decode cX1_lay 60 = .ok (.getfield 9, 3) := by decide +kernel
theorem dX1_lay_63 : decode cX1_lay 63 = .ok (.if_icmp .ge 32, 3) := by decide +kernel
theorem dX1_lay_66 : decode cX1_lay 66 = .ok (.aload_n 0, 1) := by decide +kernel
theorem dX1_lay_67 : decode cX1_lay 67 = .ok (.getfield 25, 3) := by decide +kernel
theorem dX1_lay_70 : decode cX1_lay 70 = .ok (.bipush 9, 2) := by decide +kernel
theorem dX1_lay_72 : decode cX1_lay 72 = .ok (.aload_n 0, 1) := by decide +kernel
theorem dX1_lay_73 : decode cX1_lay 73 = .ok (.getfield 15, 3) := by decide +kernel
theorem dX1_lay_76 : decode cX1_lay 76 = .ok (.imul, 1) := by decide +kernel
theorem dX1_lay_77 : decode cX1_lay 77 = .ok (.iload_n 2, 1) := by decide +kernel
theorem dX1_lay_78 : decode cX1_lay 78 = .ok (.iadd, 1) := by decide +kernel
theorem dX1_lay_79 : decode cX1_lay 79 = .ok (.aload_n 0, 1) := by decide +kernel
theorem dX1_lay_80 : decode cX1_lay 80 = .ok (.aload_n 0, 1) := by decide +kernel
theorem dX1_lay_81 : decode cX1_lay 81 = .ok (.getfield 15, 3) := by decide +kernel
theorem dX1_lay_84 : decode cX1_lay 84 = .ok (.iload_n 2, 1) := by decide +kernel
theorem dX1_lay_85 : decode cX1_lay 85 = .ok (.invokevirtual 43, 3) := by decide +kernel
theorem dX1_lay_88 : decode cX1_lay 88 = .ok (.iastore, 1) := by decide +kernel
theorem dX1_lay_89 : decode cX1_lay 89 = .ok (.iinc 2 1, 3) := by decide +kernel
theorem dX1_lay_92 : decode cX1_lay 92 = .ok (.goto (-34), 3) := by decide +kernel
theorem dX1_lay_95 : decode cX1_lay 95 = .ok (.aload_n 0, 1) := by decide +kernel
theorem dX1_lay_96 : decode cX1_lay 96 = .ok (.dup, 1) := by decide +kernel
theorem dX1_lay_97 : decode cX1_lay 97 = .ok (.getfield 15, 3) := by decide +kernel
theorem dX1_lay_100 : decode cX1_lay 100 = .ok (.iconst 1, 1) := by decide +kernel
theorem dX1_lay_101 : decode cX1_lay 101 = .ok (.iadd, 1) := by decide +kernel
theorem dX1_lay_102 : decode cX1_lay 102 = .ok (.putfield 15, 3) := by decide +kernel
theorem dX1_lay_105 : decode cX1_lay 105 = .ok (.return_, 1) := by decide +kernel
theorem dX1_isRowOf_0 : decode cX1_isRowOf 0 = .ok (.aload_n 1, 1) := by decide +kernel
theorem dX1_isRowOf_1 : decode cX1_isRowOf 1 = .ok (.getfield 47, 3) := by decide +kernel
theorem dX1_isRowOf_4 : decode cX1_isRowOf 4 = .ok (.iconst 1, 1) := by decide +kernel
theorem dX1_isRowOf_5 : decode cX1_isRowOf 5 = .ok (.isub, 1) := by decide +kernel
theorem dX1_isRowOf_6 : decode cX1_isRowOf 6 = .ok (.istore_n 2, 1) := by decide +kernel
theorem dX1_isRowOf_7 : decode cX1_isRowOf 7 = .ok (.iload_n 2, 1) := by decide +kernel
theorem dX1_isRowOf_8 : decode cX1_isRowOf 8 = .ok (.ifCond .lt 11, 3) := by decide +kernel
theorem dX1_isRowOf_11 : decode cX1_isRowOf 11 = .ok (.iload_n 2, 1) := by decide +kernel
theorem dX1_isRowOf_12 : decode cX1_isRowOf 12 = .ok (.aload_n 0, 1) := by decide +kernel
theorem dX1_isRowOf_13 : decode cX1_isRowOf 13 = .ok (.getfield 15, 3) := by decide +kernel
theorem dX1_isRowOf_16 : decode cX1_isRowOf 16 = .ok (.if_icmp .lt 5, 3) := by decide +kernel
theorem dX1_isRowOf_19 : decode cX1_isRowOf 19 = .ok (.iconst 0, 1) := by decide +kernel
theorem dX1_isRowOf_20 : decode cX1_isRowOf 20 = .ok (.ireturn, 1) := by decide +kernel
theorem dX1_isRowOf_21 : decode cX1_isRowOf 21 = .ok (.iconst 0, 1) := by decide +kernel
theorem dX1_isRowOf_22 : decode cX1_isRowOf 22 = .ok (.istore_n 3, 1) := by decide +kernel
theorem dX1_isRowOf_23 : decode cX1_isRowOf 23 = .ok (.iload_n 3, 1) := by decide +kernel
theorem dX1_isRowOf_24 : decode cX1_isRowOf 24 = .ok (.aload_n 0, 1) := by decide +kernel
theorem dX1_isRowOf_25 : decode cX1_isRowOf 25 = .ok (.getfield 9, 3) := by decide +kernel
theorem dX1_isRowOf_28 : decode cX1_isRowOf 28 = .ok (.if_icmp .ge 41, 3) := by decide +kernel
theorem dX1_isRowOf_31 : decode cX1_isRowOf 31 = .ok (.aload_n 0, 1) := by decide +kernel
theorem dX1_isRowOf_32 : decode cX1_isRowOf 32 = .ok (.iload_n 2, 1) := by decide +kernel
theorem dX1_isRowOf_33 : decode cX1_isRowOf 33 = .ok (.iload_n 3, 1) := by decide +kernel
theorem dX1_isRowOf_34 : decode cX1_isRowOf 34 = .ok (.invokevirtual 48, 3) := by decide +kernel
theorem dX1_isRowOf_37 : decode cX1_isRowOf 37 = .ok (.aload_n 1, 1) := by decide +kernel
theorem dX1_isRowOf_38 : decode cX1_isRowOf 38 = .ok (.getfield 37, 3) := by decide +kernel
theorem dX1_isRowOf_41 : decode cX1_isRowOf 41 = .ok (.iload_n 3, 1) := by decide +kernel
theorem dX1_isRowOf_42 : decode cX1_isRowOf 42 = .ok (.iaload, 1) := by decide +kernel
theorem dX1_isRowOf_43 : decode cX1_isRowOf 43 = .ok (.if_icmp .ne 18, 3) := by decide +kernel
theorem dX1_isRowOf_46 : decode cX1_isRowOf 46 = .ok (.aload_n 0, 1) := by decide +kernel
theorem dX1_isRowOf_47 : decode cX1_isRowOf 47 = .ok (.iload_n 2, 1) := by decide +kernel
theorem dX1_isRowOf_48 : decode cX1_isRowOf 48 = .ok (.iload_n 3, 1) := by decide +kernel
theorem dX1_isRowOf_49 : decode cX1_isRowOf 49 = .ok (.invokevirtual 51, 3) := by decide +kernel
theorem dX1_isRowOf_52 : decode cX1_isRowOf 52 = .ok (.aload_n 1, 1) := by decide +kernel
theorem dX1_isRowOf_53 : decode cX1_isRowOf 53 = .ok (.getfield 42, 3) := by decide +kernel
theorem dX1_isRowOf_56 : decode cX1_isRowOf 56 = .ok (.iload_n 3, 1) := by decide +kernel
theorem dX1_isRowOf_57 : decode cX1_isRowOf 57 = .ok (.iaload, 1) := by decide +kernel
theorem dX1_isRowOf_58 : decode cX1_isRowOf 58 = .ok (.if_icmp .eq 5, 3) := by decide +kernel
theorem dX1_isRowOf_61 : decode cX1_isRowOf 61 = .ok (.iconst 0, 1) := by decide +kernel
theorem dX1_isRowOf_62 : decode cX1_isRowOf 62 = .ok (.ireturn, 1) := by decide +kernel
theorem dX1_isRowOf_63 : decode cX1_isRowOf 63 = .ok (.iinc 3 1, 3) := by decide +kernel
theorem dX1_isRowOf_66 : decode cX1_isRowOf 66 = .ok (.goto (-43), 3) := by decide +kernel
theorem dX1_isRowOf_69 : decode cX1_isRowOf 69 = .ok (.iconst 1, 1) := by decide +kernel
theorem dX1_isRowOf_70 : decode cX1_isRowOf 70 = .ok (.ireturn, 1) := by decide +kernel
theorem dX1_ribbonAt_0 : decode cX1_ribbonAt 0 = .ok (.aload_n 0, 1) := by decide +kernel
theorem dX1_ribbonAt_1 : decode cX1_ribbonAt 1 = .ok (.getfield 18, 3) := by decide +kernel
theorem dX1_ribbonAt_4 : decode cX1_ribbonAt 4 = .ok (.bipush 9, 2) := by decide +kernel
theorem dX1_ribbonAt_6 : decode cX1_ribbonAt 6 = .ok (.iload_n 1, 1) := by decide +kernel
theorem dX1_ribbonAt_7 : decode cX1_ribbonAt 7 = .ok (.imul, 1) := by decide +kernel
theorem dX1_ribbonAt_8 : decode cX1_ribbonAt 8 = .ok (.iload_n 2, 1) := by decide +kernel
theorem dX1_ribbonAt_9 : decode cX1_ribbonAt 9 = .ok (.iadd, 1) := by decide +kernel
theorem dX1_ribbonAt_10 : decode cX1_ribbonAt 10 = .ok (.iaload, 1) := by decide +kernel
theorem dX1_ribbonAt_11 : decode cX1_ribbonAt 11 = .ok (.ireturn, 1) := by decide +kernel
theorem dX1_markAt_0 : decode cX1_markAt 0 = .ok (.aload_n 0, 1) := by decide +kernel
theorem dX1_markAt_1 : decode cX1_markAt 1 = .ok (.getfield 22, 3) := by decide +kernel
theorem dX1_markAt_4 : decode cX1_markAt 4 = .ok (.bipush 9, 2) := by decide +kernel
theorem dX1_markAt_6 : decode cX1_markAt 6 = .ok (.iload_n 1, 1) := by decide +kernel
theorem dX1_markAt_7 : decode cX1_markAt 7 = .ok (.imul, 1) := by decide +kernel
theorem dX1_markAt_8 : decode cX1_markAt 8 = .ok (.iload_n 2, 1) := by decide +kernel
theorem dX1_markAt_9 : decode cX1_markAt 9 = .ok (.iadd, 1) := by decide +kernel
theorem dX1_markAt_10 : decode cX1_markAt 10 = .ok (.iaload, 1) := by decide +kernel
theorem dX1_markAt_11 : decode cX1_markAt 11 = .ok (.ireturn, 1) := by decide +kernel
theorem dX1_ribbonOnTop_0 : decode cX1_ribbonOnTop 0 = .ok (.aload_n 0, 1) := by decide +kernel
theorem dX1_ribbonOnTop_1 : decode cX1_ribbonOnTop 1 = .ok (.iload_n 1, 1) := by decide +kernel
theorem dX1_ribbonOnTop_2 : decode cX1_ribbonOnTop 2 = .ok (.iload_n 2, 1) := by decide +kernel
theorem dX1_ribbonOnTop_3 : decode cX1_ribbonOnTop 3 = .ok (.invokevirtual 51, 3) := by decide +kernel
theorem dX1_ribbonOnTop_6 : decode cX1_ribbonOnTop 6 = .ok (.iconst 1, 1) := by decide +kernel
theorem dX1_ribbonOnTop_7 : decode cX1_ribbonOnTop 7 = .ok (.if_icmp .ne 24, 3) := by decide +kernel
theorem dX1_ribbonOnTop_10 : decode cX1_ribbonOnTop 10 = .ok (.aload_n 0, 1) := by decide +kernel
theorem dX1_ribbonOnTop_11 : decode cX1_ribbonOnTop 11 = .ok (.iload_n 1, 1) := by decide +kernel
theorem dX1_ribbonOnTop_12 : decode cX1_ribbonOnTop 12 = .ok (.iload_n 2, 1) := by decide +kernel
theorem dX1_ribbonOnTop_13 : decode cX1_ribbonOnTop 13 = .ok (.aload_n 0, 1) := by decide +kernel
theorem dX1_ribbonOnTop_14 : decode cX1_ribbonOnTop 14 = .ok (.getfield 9, 3) := by decide +kernel
theorem dX1_ribbonOnTop_17 : decode cX1_ribbonOnTop 17 = .ok (.invokestatic 54, 3) := by decide +kernel
theorem dX1_ribbonOnTop_20 : decode cX1_ribbonOnTop 20 = .ok (.invokevirtual 51, 3) := by decide +kernel
theorem dX1_ribbonOnTop_23 : decode cX1_ribbonOnTop 23 = .ok (.iconst 2, 1) := by decide +kernel
theorem dX1_ribbonOnTop_24 : decode cX1_ribbonOnTop 24 = .ok (.if_icmp .eq 7, 3) := by decide +kernel
theorem dX1_ribbonOnTop_27 : decode cX1_ribbonOnTop 27 = .ok (.iconst 1, 1) := by decide +kernel
theorem dX1_ribbonOnTop_28 : decode cX1_ribbonOnTop 28 = .ok (.goto 4, 3) := by decide +kernel
theorem dX1_ribbonOnTop_31 : decode cX1_ribbonOnTop 31 = .ok (.iconst 0, 1) := by decide +kernel
theorem dX1_ribbonOnTop_32 : decode cX1_ribbonOnTop 32 = .ok (.istore_n 3, 1) := by decide +kernel
theorem dX1_ribbonOnTop_33 : decode cX1_ribbonOnTop 33 = .ok (.aload_n 0, 1) := by decide +kernel
theorem dX1_ribbonOnTop_34 : decode cX1_ribbonOnTop 34 = .ok (.iload_n 1, 1) := by decide +kernel
theorem dX1_ribbonOnTop_35 : decode cX1_ribbonOnTop 35 = .ok (.iload_n 3, 1) := by decide +kernel
theorem dX1_ribbonOnTop_36 : decode cX1_ribbonOnTop 36 = .ok (.ifCond .eq 14, 3) := by decide +kernel
theorem dX1_ribbonOnTop_39 : decode cX1_ribbonOnTop 39 = .ok (.iload_n 2, 1) := by decide +kernel
theorem dX1_ribbonOnTop_40 : decode cX1_ribbonOnTop 40 = .ok (.aload_n 0, 1) := by decide +kernel
theorem dX1_ribbonOnTop_41 : decode cX1_ribbonOnTop 41 = .ok (.getfield 9, 3) := by decide +kernel
theorem dX1_ribbonOnTop_44 : decode cX1_ribbonOnTop 44 = .ok (.invokestatic 57, 3) := by decide +kernel
theorem dX1_ribbonOnTop_47 : decode cX1_ribbonOnTop 47 = .ok (.goto 4, 3) := by decide +kernel
theorem dX1_ribbonOnTop_50 : decode cX1_ribbonOnTop 50 = .ok (.iload_n 2, 1) := by decide +kernel
theorem dX1_ribbonOnTop_51 : decode cX1_ribbonOnTop 51 = .ok (.invokevirtual 48, 3) := by decide +kernel
theorem dX1_ribbonOnTop_54 : decode cX1_ribbonOnTop 54 = .ok (.ireturn, 1) := by decide +kernel
theorem dX1_topRibbon_0 : decode cX1_topRibbon 0 = .ok (.aload_n 0, 1) := by decide +kernel
theorem dX1_topRibbon_1 : decode cX1_topRibbon 1 = .ok (.getfield 25, 3) := by decide +kernel
theorem dX1_topRibbon_4 : decode cX1_topRibbon 4 = .ok (.bipush 9, 2) := by decide +kernel
theorem dX1_topRibbon_6 : decode cX1_topRibbon 6 = .ok (.iload_n 1, 1) := by decide +kernel
theorem dX1_topRibbon_7 : decode cX1_topRibbon 7 = .ok (.imul, 1) := by decide +kernel
theorem dX1_topRibbon_8 : decode cX1_topRibbon 8 = .ok (.iload_n 2, 1) := by decide +kernel
theorem dX1_topRibbon_9 : decode cX1_topRibbon 9 = .ok (.iadd, 1) := by decide +kernel
theorem dX1_topRibbon_10 : decode cX1_topRibbon 10 = .ok (.iaload, 1) := by decide +kernel
theorem dX1_topRibbon_11 : decode cX1_topRibbon 11 = .ok (.ireturn, 1) := by decide +kernel
theorem dX1_topAt_0 : decode cX1_topAt 0 = .ok (.aload_n 0, 1) := by decide +kernel
theorem dX1_topAt_1 : decode cX1_topAt 1 = .ok (.getfield 28, 3) := by decide +kernel
theorem dX1_topAt_4 : decode cX1_topAt 4 = .ok (.aload_n 0, 1) := by decide +kernel
theorem dX1_topAt_5 : decode cX1_topAt 5 = .ok (.iload_n 1, 1) := by decide +kernel
theorem dX1_topAt_6 : decode cX1_topAt 6 = .ok (.iload_n 2, 1) := by decide +kernel
theorem dX1_topAt_7 : decode cX1_topAt 7 = .ok (.invokevirtual 60, 3) := by decide +kernel
theorem dX1_topAt_10 : decode cX1_topAt 10 = .ok (.iaload, 1) := by decide +kernel
theorem dX1_topAt_11 : decode cX1_topAt 11 = .ok (.ireturn, 1) := by decide +kernel
theorem dX1_leastBeat_0 : decode cX1_leastBeat 0 = .ok (.iconst 1, 1) := by decide +kernel
theorem dX1_leastBeat_1 : decode cX1_leastBeat 1 = .ok (.istore_n 1, 1) := by decide +kernel
theorem dX1_leastBeat_2 : decode cX1_leastBeat 2 = .ok (.iload_n 1, 1) := by decide +kernel
theorem dX1_leastBeat_3 : decode cX1_leastBeat 3 = .ok (.aload_n 0, 1) := by decide +kernel
theorem dX1_leastBeat_4 : decode cX1_leastBeat 4 = .ok (.getfield 15, 3) := by decide +kernel
theorem dX1_leastBeat_7 : decode cX1_leastBeat 7 = .ok (.if_icmp .ge 19, 3) := by decide +kernel
theorem dX1_leastBeat_10 : decode cX1_leastBeat 10 = .ok (.aload_n 0, 1) := by decide +kernel
theorem dX1_leastBeat_11 : decode cX1_leastBeat 11 = .ok (.iload_n 1, 1) := by decide +kernel
theorem dX1_leastBeat_12 : decode cX1_leastBeat 12 = .ok (.invokevirtual 63, 3) := by decide +kernel
theorem dX1_leastBeat_15 : decode cX1_leastBeat 15 = .ok (.ifCond .eq 5, 3) := by decide +kernel
theorem dX1_leastBeat_18 : decode cX1_leastBeat 18 = .ok (.iload_n 1, 1) := by decide +kernel
theorem dX1_leastBeat_19 : decode cX1_leastBeat 19 = .ok (.ireturn, 1) := by decide +kernel
theorem dX1_leastBeat_20 : decode cX1_leastBeat 20 = .ok (.iinc 1 1, 3) := by decide +kernel
theorem dX1_leastBeat_23 : decode cX1_leastBeat 23 = .ok (.goto (-21), 3) := by decide +kernel
theorem dX1_leastBeat_26 : decode cX1_leastBeat 26 = .ok (.aload_n 0, 1) := by decide +kernel
theorem dX1_leastBeat_27 : decode cX1_leastBeat 27 = .ok (.getfield 15, 3) := by decide +kernel
theorem dX1_leastBeat_30 : decode cX1_leastBeat 30 = .ok (.ireturn, 1) := by decide +kernel
theorem dX1_beatsBy_0 : decode cX1_beatsBy 0 = .ok (.iload_n 1, 1) := by decide +kernel
theorem dX1_beatsBy_1 : decode cX1_beatsBy 1 = .ok (.istore_n 2, 1) := by decide +kernel
theorem dX1_beatsBy_2 : decode cX1_beatsBy 2 = .ok (.iload_n 2, 1) := by decide +kernel
theorem dX1_beatsBy_3 : decode cX1_beatsBy 3 = .ok (.aload_n 0, 1) := by decide +kernel
theorem dX1_beatsBy_4 : decode cX1_beatsBy 4 = .ok (.getfield 15, 3) := by decide +kernel
theorem dX1_beatsBy_7 : decode cX1_beatsBy 7 = .ok (.if_icmp .ge 22, 3) := by decide +kernel
theorem dX1_beatsBy_10 : decode cX1_beatsBy 10 = .ok (.aload_n 0, 1) := by decide +kernel
theorem dX1_beatsBy_11 : decode cX1_beatsBy 11 = .ok (.iload_n 2, 1) := by decide +kernel
theorem dX1_beatsBy_12 : decode cX1_beatsBy 12 = .ok (.iload_n 2, 1) := by decide +kernel
theorem dX1_beatsBy_13 : decode cX1_beatsBy 13 = .ok (.iload_n 1, 1) := by decide +kernel
theorem dX1_beatsBy_14 : decode cX1_beatsBy 14 = .ok (.isub, 1) := by decide +kernel
theorem dX1_beatsBy_15 : decode cX1_beatsBy 15 = .ok (.invokevirtual 67, 3) := by decide +kernel
theorem dX1_beatsBy_18 : decode cX1_beatsBy 18 = .ok (.ifCond .ne 5, 3) := by decide +kernel
theorem dX1_beatsBy_21 : decode cX1_beatsBy 21 = .ok (.iconst 0, 1) := by decide +kernel
theorem dX1_beatsBy_22 : decode cX1_beatsBy 22 = .ok (.ireturn, 1) := by decide +kernel
theorem dX1_beatsBy_23 : decode cX1_beatsBy 23 = .ok (.iinc 2 1, 3) := by decide +kernel
theorem dX1_beatsBy_26 : decode cX1_beatsBy 26 = .ok (.goto (-24), 3) := by decide +kernel
theorem dX1_beatsBy_29 : decode cX1_beatsBy 29 = .ok (.iconst 1, 1) := by decide +kernel
theorem dX1_beatsBy_30 : decode cX1_beatsBy 30 = .ok (.ireturn, 1) := by decide +kernel
theorem dX1_areLike_0 : decode cX1_areLike 0 = .ok (.iconst 0, 1) := by decide +kernel
theorem dX1_areLike_1 : decode cX1_areLike 1 = .ok (.istore_n 3, 1) := by decide +kernel
theorem dX1_areLike_2 : decode cX1_areLike 2 = .ok (.iload_n 3, 1) := by decide +kernel
theorem dX1_areLike_3 : decode cX1_areLike 3 = .ok (.aload_n 0, 1) := by decide +kernel
theorem dX1_areLike_4 : decode cX1_areLike 4 = .ok (.getfield 9, 3) := by decide +kernel
theorem dX1_areLike_7 : decode cX1_areLike 7 = .ok (.if_icmp .ge 26, 3) := by decide +kernel
theorem dX1_areLike_10 : decode cX1_areLike 10 = .ok (.aload_n 0, 1) := by decide +kernel
theorem dX1_areLike_11 : decode cX1_areLike 11 = .ok (.iload_n 1, 1) := by decide +kernel
theorem dX1_areLike_12 : decode cX1_areLike 12 = .ok (.iload_n 3, 1) := by decide +kernel
theorem dX1_areLike_13 : decode cX1_areLike 13 = .ok (.invokevirtual 71, 3) := by decide +kernel
theorem dX1_areLike_16 : decode cX1_areLike 16 = .ok (.aload_n 0, 1) := by decide +kernel
theorem dX1_areLike_17 : decode cX1_areLike 17 = .ok (.iload_n 2, 1) := by decide +kernel
theorem dX1_areLike_18 : decode cX1_areLike 18 = .ok (.iload_n 3, 1) := by decide +kernel
theorem dX1_areLike_19 : decode cX1_areLike 19 = .ok (.invokevirtual 71, 3) := by decide +kernel
theorem dX1_areLike_22 : decode cX1_areLike 22 = .ok (.if_icmp .eq 5, 3) := by decide +kernel
theorem dX1_areLike_25 : decode cX1_areLike 25 = .ok (.iconst 0, 1) := by decide +kernel
theorem dX1_areLike_26 : decode cX1_areLike 26 = .ok (.ireturn, 1) := by decide +kernel
theorem dX1_areLike_27 : decode cX1_areLike 27 = .ok (.iinc 3 1, 3) := by decide +kernel
theorem dX1_areLike_30 : decode cX1_areLike 30 = .ok (.goto (-28), 3) := by decide +kernel
theorem dX1_areLike_33 : decode cX1_areLike 33 = .ok (.iconst 1, 1) := by decide +kernel
theorem dX1_areLike_34 : decode cX1_areLike 34 = .ok (.ireturn, 1) := by decide +kernel
theorem dX2_init_0 : decode cX2_init 0 = .ok (.aload_n 0, 1) := by decide +kernel
theorem dX2_init_1 : decode cX2_init 1 = .ok (.invokespecial 3, 3) := by decide +kernel
theorem dX2_init_4 : decode cX2_init 4 = .ok (.aload_n 0, 1) := by decide +kernel
theorem dX2_init_5 : decode cX2_init 5 = .ok (.iconst 0, 1) := by decide +kernel
theorem dX2_init_6 : decode cX2_init 6 = .ok (.putfield 9, 3) := by decide +kernel
theorem dX2_init_9 : decode cX2_init 9 = .ok (.aload_n 0, 1) := by decide +kernel
theorem dX2_init_10 : decode cX2_init 10 = .ok (.iconst 0, 1) := by decide +kernel
theorem dX2_init_11 : decode cX2_init 11 = .ok (.putfield 15, 3) := by decide +kernel
theorem dX2_init_14 : decode cX2_init 14 = .ok (.aload_n 0, 1) := by decide +kernel
theorem dX2_init_15 : decode cX2_init 15 = .ok (.iconst 0, 1) := by decide +kernel
theorem dX2_init_16 : decode cX2_init 16 = .ok (.putfield 18, 3) := by decide +kernel
theorem dX2_init_19 : decode cX2_init 19 = .ok (.aload_n 0, 1) := by decide +kernel
theorem dX2_init_20 : decode cX2_init 20 = .ok (.bipush 9, 2) := by decide +kernel
theorem dX2_init_22 : decode cX2_init 22 = .ok (.newarray .int, 2) := by decide +kernel
theorem dX2_init_24 : decode cX2_init 24 = .ok (.putfield 21, 3) := by decide +kernel
theorem dX2_init_27 : decode cX2_init 27 = .ok (.aload_n 0, 1) := by decide +kernel
theorem dX2_init_28 : decode cX2_init 28 = .ok (.bipush 9, 2) := by decide +kernel
theorem dX2_init_30 : decode cX2_init 30 = .ok (.newarray .int, 2) := by decide +kernel
theorem dX2_init_32 : decode cX2_init 32 = .ok (.putfield 25, 3) := by decide +kernel
theorem dX2_init_35 : decode cX2_init 35 = .ok (.aload_n 0, 1) := by decide +kernel
theorem dX2_init_36 : decode cX2_init 36 = .ok (.bipush 9, 2) := by decide +kernel
theorem dX2_init_38 : decode cX2_init 38 = .ok (.newarray .int, 2) := by decide +kernel
theorem dX2_init_40 : decode cX2_init 40 = .ok (.putfield 28, 3) := by decide +kernel
theorem dX2_init_43 : decode cX2_init 43 = .ok (.aload_n 0, 1) := by decide +kernel
theorem dX2_init_44 : decode cX2_init 44 = .ok (.bipush 9, 2) := by decide +kernel
theorem dX2_init_46 : decode cX2_init 46 = .ok (.newarray .int, 2) := by decide +kernel
theorem dX2_init_48 : decode cX2_init 48 = .ok (.putfield 31, 3) := by decide +kernel
theorem dX2_init_51 : decode cX2_init 51 = .ok (.return_, 1) := by decide +kernel
theorem dX2_lay_0 : decode cX2_lay 0 = .ok (.aload_n 0, 1) := by decide +kernel
theorem dX2_lay_1 : decode cX2_lay 1 = .ok (.iload_n 1, 1) := by decide +kernel
theorem dX2_lay_2 : decode cX2_lay 2 = .ok (.putfield 9, 3) := by decide +kernel
theorem dX2_lay_5 : decode cX2_lay 5 = .ok (.aload_n 0, 1) := by decide +kernel
theorem dX2_lay_6 : decode cX2_lay 6 = .ok (.getfield 25, 3) := by decide +kernel
theorem dX2_lay_9 : decode cX2_lay 9 = .ok (.iconst 0, 1) := by decide +kernel
theorem dX2_lay_10 : decode cX2_lay 10 = .ok (.invokestatic 34, 3) := by decide +kernel
theorem dX2_lay_13 : decode cX2_lay 13 = .ok (.aload_n 0, 1) := by decide +kernel
theorem dX2_lay_14 : decode cX2_lay 14 = .ok (.invokevirtual 40, 3) := by decide +kernel
theorem dX2_lay_17 : decode cX2_lay 17 = .ok (.return_, 1) := by decide +kernel
theorem dX2_restart_0 : decode cX2_restart 0 = .ok (.aload_n 0, 1) := by decide +kernel
theorem dX2_restart_1 : decode cX2_restart 1 = .ok (.iconst 0, 1) := by decide +kernel
theorem dX2_restart_2 : decode cX2_restart 2 = .ok (.putfield 15, 3) := by decide +kernel
theorem dX2_restart_5 : decode cX2_restart 5 = .ok (.aload_n 0, 1) := by decide +kernel
theorem dX2_restart_6 : decode cX2_restart 6 = .ok (.iconst 0, 1) := by decide +kernel
theorem dX2_restart_7 : decode cX2_restart 7 = .ok (.putfield 18, 3) := by decide +kernel
theorem dX2_restart_10 : decode cX2_restart 10 = .ok (.aload_n 0, 1) := by decide +kernel
theorem dX2_restart_11 : decode cX2_restart 11 = .ok (.invokevirtual 43, 3) := by decide +kernel
theorem dX2_restart_14 : decode cX2_restart 14 = .ok (.aload_n 0, 1) := by decide +kernel
theorem dX2_restart_15 : decode cX2_restart 15 = .ok (.invokevirtual 46, 3) := by decide +kernel
theorem dX2_restart_18 : decode cX2_restart 18 = .ok (.return_, 1) := by decide +kernel
theorem dX2_callByPlaces_0 : decode cX2_callByPlaces 0 = .ok (.iconst 0, 1) := by decide +kernel
theorem dX2_callByPlaces_1 : decode cX2_callByPlaces 1 = .ok (.istore_n 1, 1) := by decide +kernel
theorem dX2_callByPlaces_2 : decode cX2_callByPlaces 2 = .ok (.iload_n 1, 1) := by decide +kernel
theorem dX2_callByPlaces_3 : decode cX2_callByPlaces 3 = .ok (.bipush 9, 2) := by decide +kernel
theorem dX2_callByPlaces_5 : decode cX2_callByPlaces 5 = .ok (.if_icmp .ge 16, 3) := by decide +kernel
theorem dX2_callByPlaces_8 : decode cX2_callByPlaces 8 = .ok (.aload_n 0, 1) := by decide +kernel
theorem dX2_callByPlaces_9 : decode cX2_callByPlaces 9 = .ok (.getfield 21, 3) := by decide +kernel
theorem dX2_callByPlaces_12 : decode cX2_callByPlaces 12 = .ok (.iload_n 1, 1) := by decide +kernel
theorem dX2_callByPlaces_13 : decode cX2_callByPlaces 13 = .ok (.iload_n 1, 1) := by decide +kernel
theorem dX2_callByPlaces_14 : decode cX2_callByPlaces 14 = .ok (.iastore, 1) := by decide +kernel
theorem dX2_callByPlaces_15 : decode cX2_callByPlaces 15 = .ok (.iinc 1 1, 3) := by decide +kernel
theorem dX2_callByPlaces_18 : decode cX2_callByPlaces 18 = .ok (.goto (-16), 3) := by decide +kernel
theorem dX2_callByPlaces_21 : decode cX2_callByPlaces 21 = .ok (.return_, 1) := by decide +kernel
theorem dX2_unmark_0 : decode cX2_unmark 0 = .ok (.aload_n 0, 1) := by decide +kernel
theorem dX2_unmark_1 : decode cX2_unmark 1 = .ok (.getfield 28, 3) := by decide +kernel
theorem dX2_unmark_4 : decode cX2_unmark 4 = .ok (.iconst 0, 1) := by decide +kernel
theorem dX2_unmark_5 : decode cX2_unmark 5 = .ok (.invokestatic 34, 3) := by decide +kernel
theorem dX2_unmark_8 : decode cX2_unmark 8 = .ok (.return_, 1) := by decide +kernel
theorem dX2_copy_0 : decode cX2_copy 0 = .ok (.aload_n 0, 1) := by decide +kernel
theorem dX2_copy_1 : decode cX2_copy 1 = .ok (.aload_n 1, 1) := by decide +kernel
theorem dX2_copy_2 : decode cX2_copy 2 = .ok (.getfield 9, 3) := by decide +kernel
theorem dX2_copy_5 : decode cX2_copy 5 = .ok (.putfield 9, 3) := by decide +kernel
theorem dX2_copy_8 : decode cX2_copy 8 = .ok (.aload_n 0, 1) := by decide +kernel
theorem dX2_copy_9 : decode cX2_copy 9 = .ok (.aload_n 1, 1) := by decide +kernel
theorem dX2_copy_10 : decode cX2_copy 10 = .ok (.getfield 15, 3) := by decide +kernel
theorem dX2_copy_13 : decode cX2_copy 13 = .ok (.putfield 15, 3) := by decide +kernel
theorem dX2_copy_16 : decode cX2_copy 16 = .ok (.aload_n 0, 1) := by decide +kernel
theorem dX2_copy_17 : decode cX2_copy 17 = .ok (.aload_n 1, 1) := by decide +kernel
theorem dX2_copy_18 : decode cX2_copy 18 = .ok (.getfield 18, 3) := by decide +kernel
theorem dX2_copy_21 : decode cX2_copy 21 = .ok (.putfield 18, 3) := by decide +kernel
theorem dX2_copy_24 : decode cX2_copy 24 = .ok (.aload_n 1, 1) := by decide +kernel
theorem dX2_copy_25 : decode cX2_copy 25 = .ok (.getfield 21, 3) := by decide +kernel
theorem dX2_copy_28 : decode cX2_copy 28 = .ok (.iconst 0, 1) := by decide +kernel
theorem dX2_copy_29 : decode cX2_copy 29 = .ok (.aload_n 0, 1) := by decide +kernel
theorem dX2_copy_30 : decode cX2_copy 30 = .ok (.getfield 21, 3) := by decide +kernel
theorem dX2_copy_33 : decode cX2_copy 33 = .ok (.iconst 0, 1) := by decide +kernel
theorem dX2_copy_34 : decode cX2_copy 34 = .ok (.bipush 9, 2) := by decide +kernel
theorem dX2_copy_36 : decode cX2_copy 36 = .ok (.invokestatic 49, 3) := by decide +kernel
theorem dX2_copy_39 : decode cX2_copy 39 = .ok (.aload_n 1, 1) := by decide +kernel
theorem dX2_copy_40 : decode cX2_copy 40 = .ok (.getfield 25, 3) := by decide +kernel
theorem dX2_copy_43 : decode cX2_copy 43 = .ok (.iconst 0, 1) := by decide +kernel
theorem dX2_copy_44 : decode cX2_copy 44 = .ok (.aload_n 0, 1) := by decide +kernel
theorem dX2_copy_45 : decode cX2_copy 45 = .ok (.getfield 25, 3) := by decide +kernel
theorem dX2_copy_48 : decode cX2_copy 48 = .ok (.iconst 0, 1) := by decide +kernel
theorem dX2_copy_49 : decode cX2_copy 49 = .ok (.bipush 9, 2) := by decide +kernel
theorem dX2_copy_51 : decode cX2_copy 51 = .ok (.invokestatic 49, 3) := by decide +kernel
theorem dX2_copy_54 : decode cX2_copy 54 = .ok (.aload_n 1, 1) := by decide +kernel
theorem dX2_copy_55 : decode cX2_copy 55 = .ok (.getfield 28, 3) := by decide +kernel
theorem dX2_copy_58 : decode cX2_copy 58 = .ok (.iconst 0, 1) := by decide +kernel
theorem dX2_copy_59 : decode cX2_copy 59 = .ok (.aload_n 0, 1) := by decide +kernel
theorem dX2_copy_60 : decode cX2_copy 60 = .ok (.getfield 28, 3) := by decide +kernel
theorem dX2_copy_63 : decode cX2_copy 63 = .ok (.iconst 0, 1) := by decide +kernel
theorem dX2_copy_64 : decode cX2_copy 64 = .ok (.bipush 9, 2) := by decide +kernel
theorem dX2_copy_66 : decode cX2_copy 66 = .ok (.invokestatic 49, 3) := by decide +kernel
theorem dX2_copy_69 : decode cX2_copy 69 = .ok (.return_, 1) := by decide +kernel
theorem dX2_bringToPlaces_0 : decode cX2_bringToPlaces 0 = .ok (.iconst 0, 1) := by decide +kernel
theorem dX2_bringToPlaces_1 : decode cX2_bringToPlaces 1 = .ok (.istore_n 2, 1) := by decide +kernel
theorem dX2_bringToPlaces_2 : decode cX2_bringToPlaces 2 = .ok (.iload_n 2, 1) := by decide +kernel
theorem dX2_bringToPlaces_3 : decode cX2_bringToPlaces 3 = .ok (.aload_n 0, 1) := by decide +kernel
theorem dX2_bringToPlaces_4 : decode cX2_bringToPlaces 4 = .ok (.getfield 9, 3) := by decide +kernel
theorem dX2_bringToPlaces_7 : decode cX2_bringToPlaces 7 = .ok (.if_icmp .ge 23, 3) := by decide +kernel
theorem dX2_bringToPlaces_10 : decode cX2_bringToPlaces 10 = .ok (.aload_n 0, 1) := by decide +kernel
theorem dX2_bringToPlaces_11 : decode cX2_bringToPlaces 11 = .ok (.getfield 31, 3) := by decide +kernel
theorem dX2_bringToPlaces_14 : decode cX2_bringToPlaces 14 = .ok (.iload_n 2, 1) := by decide +kernel
theorem dX2_bringToPlaces_15 : decode cX2_bringToPlaces 15 = .ok (.aload_n 1, 1) := by decide +kernel
theorem dX2_bringToPlaces_16 : decode cX2_bringToPlaces 16 = .ok (.aload_n 0, 1) := by decide +kernel
theorem dX2_bringToPlaces_17 : decode cX2_bringToPlaces 17 = .ok (.getfield 21, 3) := by decide +kernel
theorem dX2_bringToPlaces_20 : decode cX2_bringToPlaces 20 = .ok (.iload_n 2, 1) := by decide +kernel
theorem dX2_bringToPlaces_21 : decode cX2_bringToPlaces 21 = .ok (.iaload, 1) := by decide +kernel
theorem dX2_bringToPlaces_22 : decode cX2_bringToPlaces 22 = .ok (.iaload, 1) := by decide +kernel
theorem dX2_bringToPlaces_23 : decode cX2_bringToPlaces 23 = .ok (.iastore, 1) := by decide +kernel
theorem dX2_bringToPlaces_24 : decode cX2_bringToPlaces 24 = .ok (.iinc 2 1, 3) := by decide +kernel
theorem dX2_bringToPlaces_27 : decode cX2_bringToPlaces 27 = .ok (.goto (-25), 3) := by decide +kernel
theorem dX2_bringToPlaces_30 : decode cX2_bringToPlaces 30 = .ok (.aload_n 0, 1) := by decide +kernel
theorem dX2_bringToPlaces_31 : decode cX2_bringToPlaces 31 = .ok (.getfield 31, 3) := by decide +kernel
theorem dX2_bringToPlaces_34 : decode cX2_bringToPlaces 34 = .ok (.iconst 0, 1) := by decide +kernel
theorem dX2_bringToPlaces_35 : decode cX2_bringToPlaces 35 = .ok (.aload_n 1, 1) := by decide +kernel
theorem dX2_bringToPlaces_36 : decode cX2_bringToPlaces 36 = .ok (.iconst 0, 1) := by decide +kernel
theorem dX2_bringToPlaces_37 : decode cX2_bringToPlaces 37 = .ok (.aload_n 0, 1) := by decide +kernel
theorem dX2_bringToPlaces_38 : decode cX2_bringToPlaces 38 = .ok (.getfield 9, 3) := by decide +kernel
theorem dX2_bringToPlaces_41 : decode cX2_bringToPlaces 41 = .ok (.invokestatic 49, 3) := by decide +kernel
theorem dX2_bringToPlaces_44 : decode cX2_bringToPlaces 44 = .ok (.return_, 1) := by decide +kernel
theorem dX2_girthNow_0 : decode cX2_girthNow 0 = .ok (.bipush 10, 2) := by decide +kernel
theorem dX2_girthNow_2 : decode cX2_girthNow 2 = .ok (.aload_n 0, 1) := by decide +kernel
theorem dX2_girthNow_3 : decode cX2_girthNow 3 = .ok (.getfield 18, 3) := by decide +kernel
theorem dX2_girthNow_6 : decode cX2_girthNow 6 = .ok (.iconst 3, 1) := by decide +kernel
theorem dX2_girthNow_7 : decode cX2_girthNow 7 = .ok (.idiv, 1) := by decide +kernel
theorem dX2_girthNow_8 : decode cX2_girthNow 8 = .ok (.iadd, 1) := by decide +kernel
theorem dX2_girthNow_9 : decode cX2_girthNow 9 = .ok (.ireturn, 1) := by decide +kernel
theorem dX2_take_0 : decode cX2_take 0 = .ok (.iload_n 1, 1) := by decide +kernel
theorem dX2_take_1 : decode cX2_take 1 = .ok (.bipush 100, 2) := by decide +kernel
theorem dX2_take_3 : decode cX2_take 3 = .ok (.if_icmp .lt 19, 3) := by decide +kernel
theorem dX2_take_6 : decode cX2_take 6 = .ok (.aload_n 0, 1) := by decide +kernel
theorem dX2_take_7 : decode cX2_take 7 = .ok (.iload_n 1, 1) := by decide +kernel
theorem dX2_take_8 : decode cX2_take 8 = .ok (.bipush 100, 2) := by decide +kernel
theorem dX2_take_10 : decode cX2_take 10 = .ok (.if_icmp .ne 7, 3) := by decide +kernel
theorem dX2_take_13 : decode cX2_take 13 = .ok (.iconst 1, 1) := by decide +kernel
theorem dX2_take_14 : decode cX2_take 14 = .ok (.goto 4, 3) := by decide +kernel
theorem dX2_take_17 : decode cX2_take 17 = .ok (.iconst 0, 1) := by decide +kernel
theorem dX2_take_18 : decode cX2_take 18 = .ok (.invokevirtual 55, 3) := by decide +kernel
theorem dX2_take_21 : decode cX2_take 21 = .ok (.ireturn, 1) := by decide +kernel
theorem dX2_take_22 : decode cX2_take 22 = .ok (.aload_n 0, 1) := by decide +kernel
theorem dX2_take_23 : decode cX2_take 23 = .ok (.iload_n 1, 1) := by decide +kernel
theorem dX2_take_24 : decode cX2_take 24 = .ok (.bipush 10, 2) := by decide +kernel
theorem dX2_take_26 : decode cX2_take 26 = .ok (.idiv, 1) := by decide +kernel
theorem dX2_take_27 : decode cX2_take 27 = .ok (.iload_n 1, 1) := by decide +kernel
theorem dX2_take_28 : decode cX2_take 28 = .ok (.bipush 10, 2) := by decide +kernel
theorem dX2_take_30 : decode cX2_take 30 = .ok (.irem, 1) := by decide +kernel
theorem dX2_take_31 : decode cX2_take 31 = .ok (.invokevirtual 59, 3) := by decide +kernel
theorem dX2_take_34 : decode cX2_take 34 = .ok (.ireturn, 1) := by decide +kernel
theorem dX2_takePass_0 : decode cX2_takePass 0 = .ok (.iload_n 1, 1) := by decide +kernel
theorem dX2_takePass_1 : decode cX2_takePass 1 = .ok (.ifCond .lt 11, 3) := by decide +kernel
theorem dX2_takePass_4 : decode cX2_takePass 4 = .ok (.iload_n 1, 1) := by decide +kernel
theorem dX2_takePass_5 : decode cX2_takePass 5 = .ok (.aload_n 0, 1) := by decide +kernel
theorem dX2_takePass_6 : decode cX2_takePass 6 = .ok (.getfield 9, 3) := by decide +kernel
theorem dX2_takePass_9 : decode cX2_takePass 9 = .ok (.if_icmp .lt 6, 3) := by decide +kernel
theorem dX2_takePass_12 : decode cX2_takePass 12 = .ok (.bipush (-3), 2) := by decide +kernel
theorem dX2_takePass_14 : decode cX2_takePass 14 = .ok (.ireturn, 1) := by decide +kernel
theorem dX2_takePass_15 : decode cX2_takePass 15 = .ok (.iload_n 1, 1) := by decide +kernel
theorem dX2_takePass_16 : decode cX2_takePass 16 = .ok (.aload_n 0, 1) := by decide +kernel
theorem dX2_takePass_17 : decode cX2_takePass 17 = .ok (.getfield 9, 3) := by decide +kernel
theorem dX2_takePass_20 : decode cX2_takePass 20 = .ok (.invokestatic 63, 3) := by decide +kernel
theorem dX2_takePass_23 : decode cX2_takePass 23 = .ok (.istore_n 3, 1) := by decide +kernel
theorem dX2_takePass_24 : decode cX2_takePass 24 = .ok (.aload_n 0, 1) := by decide +kernel
theorem dX2_takePass_25 : decode cX2_takePass 25 = .ok (.getfield 21, 3) := by decide +kernel
theorem dX2_takePass_28 : decode cX2_takePass 28 = .ok (.iload_n 1, 1) := by decide +kernel
theorem dX2_takePass_29 : decode cX2_takePass 29 = .ok (.iaload, 1) := by decide +kernel
theorem dX2_takePass_30 : decode cX2_takePass 30 = .ok (.istore 4, 2) := by decide +kernel
theorem dX2_takePass_32 : decode cX2_takePass 32 = .ok (.aload_n 0, 1) := by decide +kernel
theorem dX2_takePass_33 : decode cX2_takePass 33 = .ok (.getfield 21, 3) := by decide +kernel
theorem dX2_takePass_36 : decode cX2_takePass 36 = .ok (.iload_n 3, 1) := by decide +kernel
theorem dX2_takePass_37 : decode cX2_takePass 37 = .ok (.iaload, 1) := by decide +kernel
theorem dX2_takePass_38 : decode cX2_takePass 38 = .ok (.istore 5, 2) := by decide +kernel
theorem dX2_takePass_40 : decode cX2_takePass 40 = .ok (.iload_n 2, 1) := by decide +kernel
theorem dX2_takePass_41 : decode cX2_takePass 41 = .ok (.ifCond .ne 7, 3) := by decide +kernel
theorem dX2_takePass_44 : decode cX2_takePass 44 = .ok (.iconst 1, 1) := by decide +kernel
theorem dX2_takePass_45 : decode cX2_takePass 45 = .ok (.goto 4, 3) := by decide +kernel
theorem dX2_takePass_48 : decode cX2_takePass 48 = .ok (.iconst 2, 1) := by decide +kernel
theorem dX2_takePass_49 : decode cX2_takePass 49 = .ok (.istore 6, 2) := by decide +kernel
theorem dX2_takePass_51 : decode cX2_takePass 51 = .ok (.iconst 3, 1) := by decide +kernel
theorem dX2_takePass_52 : decode cX2_takePass 52 = .ok (.iload 6, 2) := by decide +kernel
theorem dX2_takePass_54 : decode cX2_takePass 54 = .ok (.isub, 1) := by decide +kernel
theorem dX2_takePass_55 : decode cX2_takePass 55 = .ok (.istore 7, 2) := by decide +kernel
theorem dX2_takePass_57 : decode cX2_takePass 57 = .ok (.aload_n 0, 1) := by decide +kernel
theorem dX2_takePass_58 : decode cX2_takePass 58 = .ok (.getfield 25, 3) := by decide +kernel
theorem dX2_takePass_61 : decode cX2_takePass 61 = .ok (.iload 4, 2) := by decide +kernel
theorem dX2_takePass_63 : decode cX2_takePass 63 = .ok (.iaload, 1) := by decide +kernel
theorem dX2_takePass_64 : decode cX2_takePass 64 = .ok (.iload 6, 2) := by decide +kernel
theorem dX2_takePass_66 : decode cX2_takePass 66 = .ok (.if_icmp .lt 15, 3) := by decide +kernel
theorem dX2_takePass_69 : decode cX2_takePass 69 = .ok (.aload_n 0, 1) := by decide +kernel
theorem dX2_takePass_70 : decode cX2_takePass 70 = .ok (.getfield 25, 3) := by decide +kernel
theorem dX2_takePass_73 : decode cX2_takePass 73 = .ok (.iload 5, 2) := by decide +kernel
theorem dX2_takePass_75 : decode cX2_takePass 75 = .ok (.iaload, 1) := by decide +kernel
theorem dX2_takePass_76 : decode cX2_takePass 76 = .ok (.iload 7, 2) := by decide +kernel
theorem dX2_takePass_78 : decode cX2_takePass 78 = .ok (.if_icmp .ge 6, 3) := by decide +kernel
theorem dX2_takePass_81 : decode cX2_takePass 81 = .ok (.bipush (-3), 2) := by decide +kernel
theorem dX2_takePass_83 : decode cX2_takePass 83 = .ok (.ireturn, 1) := by decide +kernel
theorem dX2_takePass_84 : decode cX2_takePass 84 = .ok (.aload_n 0, 1) := by decide +kernel
theorem dX2_takePass_85 : decode cX2_takePass 85 = .ok (.getfield 15, 3) := by decide +kernel
theorem dX2_takePass_88 : decode cX2_takePass 88 = .ok (.sipush 300, 3) := by decide +kernel
theorem dX2_takePass_91 : decode cX2_takePass 91 = .ok (.if_icmp .lt 6, 3) := by decide +kernel
theorem dX2_takePass_94 : decode cX2_takePass 94 = .ok (.bipush (-4), 2) := by decide +kernel
theorem dX2_takePass_96 : decode cX2_takePass 96 = .ok (.ireturn, 1) := by decide +kernel
theorem dX2_takePass_97 : decode cX2_takePass 97 = .ok (.aload_n 0, 1) := by decide +kernel
theorem dX2_takePass_98 : decode cX2_takePass 98 = .ok (.dup, 1) := by decide +kernel
theorem dX2_takePass_99 : decode cX2_takePass 99 = .ok (.getfield 15, 3) := by decide +kernel
theorem dX2_takePass_102 : decode cX2_takePass 102 = .ok (.iconst 1, 1) := by decide +kernel
theorem dX2_takePass_103 : decode cX2_takePass 103 = .ok (.iadd, 1) := by decide +kernel
theorem dX2_takePass_104 : decode cX2_takePass 104 = .ok (.putfield 15, 3) := by decide +kernel
theorem dX2_takePass_107 : decode cX2_takePass 107 = .ok (.aload_n 0, 1) := by decide +kernel
theorem dX2_takePass_108 : decode cX2_takePass 108 = .ok (.getfield 25, 3) := by decide +kernel
theorem dX2_takePass_111 : decode cX2_takePass 111 = .ok (.iload 4, 2) := by decide +kernel
theorem dX2_takePass_113 : decode cX2_takePass 113 = .ok (.dup2, 1) := by decide +kernel
theorem dX2_takePass_114 : decode cX2_takePass 114 = .ok (.iaload, 1) := by decide +kernel
theorem dX2_takePass_115 : decode cX2_takePass 115 = .ok (.iload 6, 2) := by decide +kernel
theorem dX2_takePass_117 : decode cX2_takePass 117 = .ok (.isub, 1) := by decide +kernel
theorem dX2_takePass_118 : decode cX2_takePass 118 = .ok (.iastore, 1) := by decide +kernel
theorem dX2_takePass_119 : decode cX2_takePass 119 = .ok (.aload_n 0, 1) := by decide +kernel
theorem dX2_takePass_120 : decode cX2_takePass 120 = .ok (.getfield 25, 3) := by decide +kernel
theorem dX2_takePass_123 : decode cX2_takePass 123 = .ok (.iload 5, 2) := by decide +kernel
theorem dX2_takePass_125 : decode cX2_takePass 125 = .ok (.dup2, 1) := by decide +kernel
theorem dX2_takePass_126 : decode cX2_takePass 126 = .ok (.iaload, 1) := by decide +kernel
theorem dX2_takePass_127 : decode cX2_takePass 127 = .ok (.iload 7, 2) := by decide +kernel
theorem dX2_takePass_129 : decode cX2_takePass 129 = .ok (.isub, 1) := by decide +kernel
theorem dX2_takePass_130 : decode cX2_takePass 130 = .ok (.iastore, 1) := by decide +kernel
theorem dX2_takePass_131 : decode cX2_takePass 131 = .ok (.aload_n 0, 1) := by decide +kernel
theorem dX2_takePass_132 : decode cX2_takePass 132 = .ok (.getfield 21, 3) := by decide +kernel
theorem dX2_takePass_135 : decode cX2_takePass 135 = .ok (.iload_n 1, 1) := by decide +kernel
theorem dX2_takePass_136 : decode cX2_takePass 136 = .ok (.iload 5, 2) := by decide +kernel
theorem dX2_takePass_138 : decode cX2_takePass 138 = .ok (.iastore, 1) := by decide +kernel
theorem dX2_takePass_139 : decode cX2_takePass 139 = .ok (.aload_n 0, 1) := by decide +kernel
theorem dX2_takePass_140 : decode cX2_takePass 140 = .ok (.getfield 21, 3) := by decide +kernel
theorem dX2_takePass_143 : decode cX2_takePass 143 = .ok (.iload_n 3, 1) := by decide +kernel
theorem dX2_takePass_144 : decode cX2_takePass 144 = .ok (.iload 4, 2) := by decide +kernel
theorem dX2_takePass_146 : decode cX2_takePass 146 = .ok (.iastore, 1) := by decide +kernel
theorem dX2_takePass_147 : decode cX2_takePass 147 = .ok (.aload_n 0, 1) := by decide +kernel
theorem dX2_takePass_148 : decode cX2_takePass 148 = .ok (.getfield 28, 3) := by decide +kernel
theorem dX2_takePass_151 : decode cX2_takePass 151 = .ok (.iload_n 1, 1) := by decide +kernel
theorem dX2_takePass_152 : decode cX2_takePass 152 = .ok (.iload_n 2, 1) := by decide +kernel
theorem dX2_takePass_153 : decode cX2_takePass 153 = .ok (.iconst 1, 1) := by decide +kernel
theorem dX2_takePass_154 : decode cX2_takePass 154 = .ok (.iadd, 1) := by decide +kernel
theorem dX2_takePass_155 : decode cX2_takePass 155 = .ok (.iastore, 1) := by decide +kernel
theorem dX2_takePass_156 : decode cX2_takePass 156 = .ok (.iconst 0, 1) := by decide +kernel
theorem dX2_takePass_157 : decode cX2_takePass 157 = .ok (.ireturn, 1) := by decide +kernel
theorem dX2_takeWalk_0 : decode cX2_takeWalk 0 = .ok (.aload_n 0, 1) := by decide +kernel
theorem dX2_takeWalk_1 : decode cX2_takeWalk 1 = .ok (.invokevirtual 66, 3) := by decide +kernel
theorem dX2_takeWalk_4 : decode cX2_takeWalk 4 = .ok (.istore_n 2, 1) := by decide +kernel
theorem dX2_takeWalk_5 : decode cX2_takeWalk 5 = .ok (.iconst 0, 1) := by decide +kernel
theorem dX2_takeWalk_6 : decode cX2_takeWalk 6 = .ok (.istore_n 3, 1) := by decide +kernel
theorem dX2_takeWalk_7 : decode cX2_takeWalk 7 = .ok (.iload_n 3, 1) := by decide +kernel
theorem dX2_takeWalk_8 : decode cX2_takeWalk 8 = .ok (.aload_n 0, 1) := by decide +kernel
theorem dX2_takeWalk_9 : decode cX2_takeWalk 9 = .ok (.getfield 9, 3) := by decide +kernel
theorem dX2_takeWalk_12 : decode cX2_takeWalk 12 = .ok (.if_icmp .ge 22, 3) := by decide +kernel
theorem dX2_takeWalk_15 : decode cX2_takeWalk 15 = .ok (.aload_n 0, 1) := by decide +kernel
theorem dX2_takeWalk_16 : decode cX2_takeWalk 16 = .ok (.getfield 25, 3) := by decide +kernel
theorem dX2_takeWalk_19 : decode cX2_takeWalk 19 = .ok (.iload_n 3, 1) := by decide +kernel
theorem dX2_takeWalk_20 : decode cX2_takeWalk 20 = .ok (.iaload, 1) := by decide +kernel
theorem dX2_takeWalk_21 : decode cX2_takeWalk 21 = .ok (.iload_n 2, 1) := by decide +kernel
theorem dX2_takeWalk_22 : decode cX2_takeWalk 22 = .ok (.if_icmp .ge 6, 3) := by decide +kernel
theorem dX2_takeWalk_25 : decode cX2_takeWalk 25 = .ok (.bipush (-3), 2) := by decide +kernel
theorem dX2_takeWalk_27 : decode cX2_takeWalk 27 = .ok (.ireturn, 1) := by decide +kernel
theorem dX2_takeWalk_28 : decode cX2_takeWalk 28 = .ok (.iinc 3 1, 3) := by decide +kernel
theorem dX2_takeWalk_31 : decode cX2_takeWalk 31 = .ok (.goto (-24), 3) := by decide +kernel
theorem dX2_takeWalk_34 : decode cX2_takeWalk 34 = .ok (.aload_n 0, 1) := by decide +kernel
theorem dX2_takeWalk_35 : decode cX2_takeWalk 35 = .ok (.getfield 15, 3) := by decide +kernel
theorem dX2_takeWalk_38 : decode cX2_takeWalk 38 = .ok (.sipush 300, 3) := by decide +kernel
theorem dX2_takeWalk_41 : decode cX2_takeWalk 41 = .ok (.if_icmp .ge 12, 3) := by decide +kernel
theorem dX2_takeWalk_44 : decode cX2_takeWalk 44 = .ok (.aload_n 0, 1) := by decide +kernel
theorem dX2_takeWalk_45 : decode cX2_takeWalk 45 = .ok (.getfield 18, 3) := by decide +kernel
theorem dX2_takeWalk_48 : decode cX2_takeWalk 48 = .ok (.bipush 100, 2) := by decide +kernel
theorem dX2_takeWalk_50 : decode cX2_takeWalk 50 = .ok (.if_icmp .lt 6, 3) := by decide +kernel
theorem dX2_takeWalk_53 : decode cX2_takeWalk 53 = .ok (.bipush (-4), 2) := by decide +kernel
theorem dX2_takeWalk_55 : decode cX2_takeWalk 55 = .ok (.ireturn, 1) := by decide +kernel
theorem dX2_takeWalk_56 : decode cX2_takeWalk 56 = .ok (.aload_n 0, 1) := by decide +kernel
theorem dX2_takeWalk_57 : decode cX2_takeWalk 57 = .ok (.dup, 1) := by decide +kernel
theorem dX2_takeWalk_58 : decode cX2_takeWalk 58 = .ok (.getfield 15, 3) := by decide +kernel
theorem dX2_takeWalk_61 : decode cX2_takeWalk 61 = .ok (.iconst 1, 1) := by decide +kernel
theorem dX2_takeWalk_62 : decode cX2_takeWalk 62 = .ok (.iadd, 1) := by decide +kernel
theorem dX2_takeWalk_63 : decode cX2_takeWalk 63 = .ok (.putfield 15, 3) := by decide +kernel
theorem dX2_takeWalk_66 : decode cX2_takeWalk 66 = .ok (.aload_n 0, 1) := by decide +kernel
theorem dX2_takeWalk_67 : decode cX2_takeWalk 67 = .ok (.dup, 1) := by decide +kernel
theorem dX2_takeWalk_68 : decode cX2_takeWalk 68 = .ok (.getfield 18, 3) := by decide +kernel
theorem dX2_takeWalk_71 : decode cX2_takeWalk 71 = .ok (.iconst 1, 1) := by decide +kernel
theorem dX2_takeWalk_72 : decode cX2_takeWalk 72 = .ok (.iadd, 1) := by decide +kernel
theorem dX2_takeWalk_73 : decode cX2_takeWalk 73 = .ok (.putfield 18, 3) := by decide +kernel
theorem dX2_takeWalk_76 : decode cX2_takeWalk 76 = .ok (.iconst 0, 1) := by decide +kernel
theorem dX2_takeWalk_77 : decode cX2_takeWalk 77 = .ok (.istore_n 3, 1) := by decide +kernel
theorem dX2_takeWalk_78 : decode cX2_takeWalk 78 = .ok (.iload_n 3, 1) := by decide +kernel
theorem dX2_takeWalk_79 : decode cX2_takeWalk 79 = .ok (.aload_n 0, 1) := by decide +kernel
theorem dX2_takeWalk_80 : decode cX2_takeWalk 80 = .ok (.getfield 9, 3) := by decide +kernel
theorem dX2_takeWalk_83 : decode cX2_takeWalk 83 = .ok (.if_icmp .ge 64, 3) := by decide +kernel
theorem dX2_takeWalk_86 : decode cX2_takeWalk 86 = .ok (.aload_n 0, 1) := by decide +kernel
theorem dX2_takeWalk_87 : decode cX2_takeWalk 87 = .ok (.getfield 25, 3) := by decide +kernel
theorem dX2_takeWalk_90 : decode cX2_takeWalk 90 = .ok (.iload_n 3, 1) := by decide +kernel
theorem dX2_takeWalk_91 : decode cX2_takeWalk 91 = .ok (.dup2, 1) := by decide +kernel
theorem dX2_takeWalk_92 : decode cX2_takeWalk 92 = .ok (.iaload, 1) := by decide +kernel
theorem dX2_takeWalk_93 : decode cX2_takeWalk 93 = .ok (.iload_n 2, 1) := by decide +kernel
theorem dX2_takeWalk_94 : decode cX2_takeWalk 94 = .ok (.isub, 1) := by decide +kernel
theorem dX2_takeWalk_95 : decode cX2_takeWalk 95 = .ok (.iastore, 1) := by decide +kernel
theorem dX2_takeWalk_96 : decode cX2_takeWalk 96 = .ok (.iload_n 1, 1) := by decide +kernel
theorem dX2_takeWalk_97 : decode cX2_takeWalk 97 = .ok (.ifCond .eq 25, 3) := by decide +kernel
theorem dX2_takeWalk_100 : decode cX2_takeWalk 100 = .ok (.aload_n 0, 1) := by decide +kernel
theorem dX2_takeWalk_101 : decode cX2_takeWalk 101 = .ok (.getfield 31, 3) := by decide +kernel
theorem dX2_takeWalk_104 : decode cX2_takeWalk 104 = .ok (.iload_n 3, 1) := by decide +kernel
theorem dX2_takeWalk_105 : decode cX2_takeWalk 105 = .ok (.aload_n 0, 1) := by decide +kernel
theorem dX2_takeWalk_106 : decode cX2_takeWalk 106 = .ok (.getfield 9, 3) := by decide +kernel
theorem dX2_takeWalk_109 : decode cX2_takeWalk 109 = .ok (.invokestatic 63, 3) := by decide +kernel
theorem dX2_takeWalk_112 : decode cX2_takeWalk 112 = .ok (.aload_n 0, 1) := by decide +kernel
theorem dX2_takeWalk_113 : decode cX2_takeWalk 113 = .ok (.getfield 21, 3) := by decide +kernel
theorem dX2_takeWalk_116 : decode cX2_takeWalk 116 = .ok (.iload_n 3, 1) := by decide +kernel
theorem dX2_takeWalk_117 : decode cX2_takeWalk 117 = .ok (.iaload, 1) := by decide +kernel
theorem dX2_takeWalk_118 : decode cX2_takeWalk 118 = .ok (.iastore, 1) := by decide +kernel
theorem dX2_takeWalk_119 : decode cX2_takeWalk 119 = .ok (.goto 22, 3) := by decide +kernel
theorem dX2_takeWalk_122 : decode cX2_takeWalk 122 = .ok (.aload_n 0, 1) := by decide +kernel
theorem dX2_takeWalk_123 : decode cX2_takeWalk 123 = .ok (.getfield 31, 3) := by decide +kernel
theorem dX2_takeWalk_126 : decode cX2_takeWalk 126 = .ok (.iload_n 3, 1) := by decide +kernel
theorem dX2_takeWalk_127 : decode cX2_takeWalk 127 = .ok (.aload_n 0, 1) := by decide +kernel
theorem dX2_takeWalk_128 : decode cX2_takeWalk 128 = .ok (.getfield 21, 3) := by decide +kernel
theorem dX2_takeWalk_131 : decode cX2_takeWalk 131 = .ok (.iload_n 3, 1) := by decide +kernel
theorem dX2_takeWalk_132 : decode cX2_takeWalk 132 = .ok (.aload_n 0, 1) := by decide +kernel
theorem dX2_takeWalk_133 : decode cX2_takeWalk 133 = .ok (.getfield 9, 3) := by decide +kernel
theorem dX2_takeWalk_136 : decode cX2_takeWalk 136 = .ok (.invokestatic 63, 3) := by decide +kernel
theorem dX2_takeWalk_139 : decode cX2_takeWalk 139 = .ok (.iaload, 1) := by decide +kernel
theorem dX2_takeWalk_140 : decode cX2_takeWalk 140 = .ok (.iastore, 1) := by decide +kernel
theorem dX2_takeWalk_141 : decode cX2_takeWalk 141 = .ok (.iinc 3 1, 3) := by decide +kernel
theorem dX2_takeWalk_144 : decode cX2_takeWalk 144 = .ok (.goto (-66), 3) := by decide +kernel
theorem dX2_takeWalk_147 : decode cX2_takeWalk 147 = .ok (.aload_n 0, 1) := by decide +kernel
theorem dX2_takeWalk_148 : decode cX2_takeWalk 148 = .ok (.getfield 31, 3) := by decide +kernel
theorem dX2_takeWalk_151 : decode cX2_takeWalk 151 = .ok (.iconst 0, 1) := by decide +kernel
theorem dX2_takeWalk_152 : decode cX2_takeWalk 152 = .ok (.aload_n 0, 1) := by decide +kernel
theorem dX2_takeWalk_153 : decode cX2_takeWalk 153 = .ok (.getfield 21, 3) := by decide +kernel
theorem dX2_takeWalk_156 : decode cX2_takeWalk 156 = .ok (.iconst 0, 1) := by decide +kernel
theorem dX2_takeWalk_157 : decode cX2_takeWalk 157 = .ok (.aload_n 0, 1) := by decide +kernel
theorem dX2_takeWalk_158 : decode cX2_takeWalk 158 = .ok (.getfield 9, 3) := by decide +kernel
theorem dX2_takeWalk_161 : decode cX2_takeWalk 161 = .ok (.invokestatic 49, 3) := by decide +kernel
theorem dX2_takeWalk_164 : decode cX2_takeWalk 164 = .ok (.iconst 0, 1) := by decide +kernel
theorem dX2_takeWalk_165 : decode cX2_takeWalk 165 = .ok (.ireturn, 1) := by decide +kernel
theorem dX3_init_0 : decode cX3_init 0 = .ok (.aload_n 0, 1) := by decide +kernel
theorem dX3_init_1 : decode cX3_init 1 = .ok (.invokespecial 3, 3) := by decide +kernel
theorem dX3_init_4 : decode cX3_init 4 = .ok (.aload_n 0, 1) := by decide +kernel
theorem dX3_init_5 : decode cX3_init 5 = .ok (.iconst 0, 1) := by decide +kernel
theorem dX3_init_6 : decode cX3_init 6 = .ok (.putfield 9, 3) := by decide +kernel
theorem dX3_init_9 : decode cX3_init 9 = .ok (.aload_n 0, 1) := by decide +kernel
theorem dX3_init_10 : decode cX3_init 10 = .ok (.iconst 0, 1) := by decide +kernel
theorem dX3_init_11 : decode cX3_init 11 = .ok (.putfield 15, 3) := by decide +kernel
theorem dX3_init_14 : decode cX3_init 14 = .ok (.aload_n 0, 1) := by decide +kernel
theorem dX3_init_15 : decode cX3_init 15 = .ok (.sipush 300, 3) := by decide +kernel
theorem dX3_init_18 : decode cX3_init 18 = .ok (.newarray .int, 2) := by decide +kernel
theorem dX3_init_20 : decode cX3_init 20 = .ok (.putfield 18, 3) := by decide +kernel
theorem dX3_init_23 : decode cX3_init 23 = .ok (.aload_n 0, 1) := by decide +kernel
theorem dX3_init_24 : decode cX3_init 24 = .ok (.sipush 300, 3) := by decide +kernel
theorem dX3_init_27 : decode cX3_init 27 = .ok (.newarray .int, 2) := by decide +kernel
theorem dX3_init_29 : decode cX3_init 29 = .ok (.putfield 22, 3) := by decide +kernel
theorem dX3_init_32 : decode cX3_init 32 = .ok (.aload_n 0, 1) := by decide +kernel
theorem dX3_init_33 : decode cX3_init 33 = .ok (.iconst 0, 1) := by decide +kernel
theorem dX3_init_34 : decode cX3_init 34 = .ok (.putfield 25, 3) := by decide +kernel
theorem dX3_init_37 : decode cX3_init 37 = .ok (.aload_n 0, 1) := by decide +kernel
theorem dX3_init_38 : decode cX3_init 38 = .ok (.sipush 300, 3) := by decide +kernel
theorem dX3_init_41 : decode cX3_init 41 = .ok (.newarray .int, 2) := by decide +kernel
theorem dX3_init_43 : decode cX3_init 43 = .ok (.putfield 28, 3) := by decide +kernel
theorem dX3_init_46 : decode cX3_init 46 = .ok (.aload_n 0, 1) := by decide +kernel
theorem dX3_init_47 : decode cX3_init 47 = .ok (.bipush 9, 2) := by decide +kernel
theorem dX3_init_49 : decode cX3_init 49 = .ok (.newarray .int, 2) := by decide +kernel
theorem dX3_init_51 : decode cX3_init 51 = .ok (.putfield 31, 3) := by decide +kernel
theorem dX3_init_54 : decode cX3_init 54 = .ok (.return_, 1) := by decide +kernel
theorem dX3_cutDown_0 : decode cX3_cutDown 0 = .ok (.aload_n 0, 1) := by decide +kernel
theorem dX3_cutDown_1 : decode cX3_cutDown 1 = .ok (.iconst 0, 1) := by decide +kernel
theorem dX3_cutDown_2 : decode cX3_cutDown 2 = .ok (.putfield 9, 3) := by decide +kernel
theorem dX3_cutDown_5 : decode cX3_cutDown 5 = .ok (.aload_n 0, 1) := by decide +kernel
theorem dX3_cutDown_6 : decode cX3_cutDown 6 = .ok (.iconst 0, 1) := by decide +kernel
theorem dX3_cutDown_7 : decode cX3_cutDown 7 = .ok (.putfield 25, 3) := by decide +kernel
theorem dX3_cutDown_10 : decode cX3_cutDown 10 = .ok (.aload_n 0, 1) := by decide +kernel
theorem dX3_cutDown_11 : decode cX3_cutDown 11 = .ok (.getfield 31, 3) := by decide +kernel
theorem dX3_cutDown_14 : decode cX3_cutDown 14 = .ok (.iconst (-1), 1) := by decide +kernel
theorem dX3_cutDown_15 : decode cX3_cutDown 15 = .ok (.invokestatic 34, 3) := by decide +kernel
theorem dX3_cutDown_18 : decode cX3_cutDown 18 = .ok (.iconst 0, 1) := by decide +kernel
theorem dX3_cutDown_19 : decode cX3_cutDown 19 = .ok (.istore_n 3, 1) := by decide +kernel
theorem dX3_cutDown_20 : decode cX3_cutDown 20 = .ok (.iload_n 3, 1) := by decide +kernel
theorem dX3_cutDown_21 : decode cX3_cutDown 21 = .ok (.aload_n 1, 1) := by decide +kernel
theorem dX3_cutDown_22 : decode cX3_cutDown 22 = .ok (.getfield 40, 3) := by decide +kernel
theorem dX3_cutDown_25 : decode cX3_cutDown 25 = .ok (.if_icmp .ge 86, 3) := by decide +kernel
theorem dX3_cutDown_28 : decode cX3_cutDown 28 = .ok (.aload_n 1, 1) := by decide +kernel
theorem dX3_cutDown_29 : decode cX3_cutDown 29 = .ok (.getfield 43, 3) := by decide +kernel
theorem dX3_cutDown_32 : decode cX3_cutDown 32 = .ok (.iload_n 3, 1) := by decide +kernel
theorem dX3_cutDown_33 : decode cX3_cutDown 33 = .ok (.iaload, 1) := by decide +kernel
theorem dX3_cutDown_34 : decode cX3_cutDown 34 = .ok (.istore 4, 2) := by decide +kernel
theorem dX3_cutDown_36 : decode cX3_cutDown 36 = .ok (.iload 4, 2) := by decide +kernel
theorem dX3_cutDown_38 : decode cX3_cutDown 38 = .ok (.bipush 100, 2) := by decide +kernel
theorem dX3_cutDown_40 : decode cX3_cutDown 40 = .ok (.if_icmp .lt 27, 3) := by decide +kernel
theorem dX3_cutDown_43 : decode cX3_cutDown 43 = .ok (.aload_n 0, 1) := by decide +kernel
theorem dX3_cutDown_44 : decode cX3_cutDown 44 = .ok (.dup, 1) := by decide +kernel
theorem dX3_cutDown_45 : decode cX3_cutDown 45 = .ok (.getfield 9, 3) := by decide +kernel
theorem dX3_cutDown_48 : decode cX3_cutDown 48 = .ok (.iload 4, 2) := by decide +kernel
theorem dX3_cutDown_50 : decode cX3_cutDown 50 = .ok (.bipush 100, 2) := by decide +kernel
theorem dX3_cutDown_52 : decode cX3_cutDown 52 = .ok (.if_icmp .ne 7, 3) := by decide +kernel
theorem dX3_cutDown_55 : decode cX3_cutDown 55 = .ok (.iconst 1, 1) := by decide +kernel
theorem dX3_cutDown_56 : decode cX3_cutDown 56 = .ok (.goto 4, 3) := by decide +kernel
theorem dX3_cutDown_59 : decode cX3_cutDown 59 = .ok (.iconst (-1), 1) := by decide +kernel
theorem dX3_cutDown_60 : decode cX3_cutDown 60 = .ok (.iadd, 1) := by decide +kernel
theorem dX3_cutDown_61 : decode cX3_cutDown 61 = .ok (.putfield 9, 3) := by decide +kernel
theorem dX3_cutDown_64 : decode cX3_cutDown 64 = .ok (.goto 41, 3) := by decide +kernel
theorem dX3_cutDown_67 : decode cX3_cutDown 67 = .ok (.iload 4, 2) := by decide +kernel
theorem dX3_cutDown_69 : decode cX3_cutDown 69 = .ok (.bipush 10, 2) := by decide +kernel
theorem dX3_cutDown_71 : decode cX3_cutDown 71 = .ok (.idiv, 1) := by decide +kernel
theorem dX3_cutDown_72 : decode cX3_cutDown 72 = .ok (.iload_n 2, 1) := by decide +kernel
theorem dX3_cutDown_73 : decode cX3_cutDown 73 = .ok (.if_icmp .ge 30, 3) := by decide +kernel
theorem dX3_cutDown_76 : decode cX3_cutDown 76 = .ok (.aload_n 0, 1) := by decide +kernel
theorem dX3_cutDown_77 : decode cX3_cutDown 77 = .ok (.iload 4, 2) := by decide +kernel
theorem dX3_cutDown_79 : decode cX3_cutDown 79 = .ok (.bipush 10, 2) := by decide +kernel
theorem dX3_cutDown_81 : decode cX3_cutDown 81 = .ok (.idiv, 1) := by decide +kernel
theorem dX3_cutDown_82 : decode cX3_cutDown 82 = .ok (.aload_n 0, 1) := by decide +kernel
theorem dX3_cutDown_83 : decode cX3_cutDown 83 = .ok (.getfield 9, 3) := by decide +kernel
theorem dX3_cutDown_86 : decode cX3_cutDown 86 = .ok (.isub, 1) := by decide +kernel
theorem dX3_cutDown_87 : decode cX3_cutDown 87 = .ok (.iload_n 2, 1) := by decide +kernel
theorem dX3_cutDown_88 : decode cX3_cutDown 88 = .ok (.invokestatic 46, 3) := by decide +kernel
theorem dX3_cutDown_91 : decode cX3_cutDown 91 = .ok (.iload 4, 2) := by decide +kernel
theorem dX3_cutDown_93 : decode cX3_cutDown 93 = .ok (.bipush 10, 2) := by decide +kernel
theorem dX3_cutDown_95 : decode cX3_cutDown 95 = .ok (.irem, 1) := by decide +kernel
theorem dX3_cutDown_96 : decode cX3_cutDown 96 = .ok (.iload_n 2, 1) := by decide +kernel
theorem dX3_cutDown_97 : decode cX3_cutDown 97 = .ok (.invokevirtual 52, 3) := by decide +kernel
theorem dX3_cutDown_100 : decode cX3_cutDown 100 = .ok (.goto 5, 3) := by decide +kernel
theorem dX3_cutDown_103 : decode cX3_cutDown 103 = .ok (.iconst 0, 1) := by decide +kernel
theorem dX3_cutDown_104 : decode cX3_cutDown 104 = .ok (.ireturn, 1) := by decide +kernel
theorem dX3_cutDown_105 : decode cX3_cutDown 105 = .ok (.iinc 3 1, 3) := by decide +kernel
theorem dX3_cutDown_108 : decode cX3_cutDown 108 = .ok (.goto (-88), 3) := by decide +kernel
theorem dX3_cutDown_111 : decode cX3_cutDown 111 = .ok (.aload_n 0, 1) := by decide +kernel
theorem dX3_cutDown_112 : decode cX3_cutDown 112 = .ok (.invokevirtual 56, 3) := by decide +kernel
theorem dX3_cutDown_115 : decode cX3_cutDown 115 = .ok (.aload_n 0, 1) := by decide +kernel
theorem dX3_cutDown_116 : decode cX3_cutDown 116 = .ok (.iload_n 2, 1) := by decide +kernel
theorem dX3_cutDown_117 : decode cX3_cutDown 117 = .ok (.invokevirtual 59, 3) := by decide +kernel
theorem dX3_cutDown_120 : decode cX3_cutDown 120 = .ok (.iconst 1, 1) := by decide +kernel
theorem dX3_cutDown_121 : decode cX3_cutDown 121 = .ok (.ireturn, 1) := by decide +kernel
theorem dX3_meet_0 : decode cX3_meet 0 = .ok (.aload_n 0, 1) := by decide +kernel
theorem dX3_meet_1 : decode cX3_meet 1 = .ok (.getfield 31, 3) := by decide +kernel
theorem dX3_meet_4 : decode cX3_meet 4 = .ok (.iload_n 1, 1) := by decide +kernel
theorem dX3_meet_5 : decode cX3_meet 5 = .ok (.iaload, 1) := by decide +kernel
theorem dX3_meet_6 : decode cX3_meet 6 = .ok (.istore 4, 2) := by decide +kernel
theorem dX3_meet_8 : decode cX3_meet 8 = .ok (.iload 4, 2) := by decide +kernel
theorem dX3_meet_10 : decode cX3_meet 10 = .ok (.ifCond .lt 69, 3) := by decide +kernel
theorem dX3_meet_13 : decode cX3_meet 13 = .ok (.aload_n 0, 1) := by decide +kernel
theorem dX3_meet_14 : decode cX3_meet 14 = .ok (.getfield 22, 3) := by decide +kernel
theorem dX3_meet_17 : decode cX3_meet 17 = .ok (.iload 4, 2) := by decide +kernel
theorem dX3_meet_19 : decode cX3_meet 19 = .ok (.iaload, 1) := by decide +kernel
theorem dX3_meet_20 : decode cX3_meet 20 = .ok (.bipush 10, 2) := by decide +kernel
theorem dX3_meet_22 : decode cX3_meet 22 = .ok (.irem, 1) := by decide +kernel
theorem dX3_meet_23 : decode cX3_meet 23 = .ok (.iload_n 2, 1) := by decide +kernel
theorem dX3_meet_24 : decode cX3_meet 24 = .ok (.if_icmp .eq 55, 3) := by decide +kernel
theorem dX3_meet_27 : decode cX3_meet 27 = .ok (.aload_n 0, 1) := by decide +kernel
theorem dX3_meet_28 : decode cX3_meet 28 = .ok (.getfield 31, 3) := by decide +kernel
theorem dX3_meet_31 : decode cX3_meet 31 = .ok (.iload_n 1, 1) := by decide +kernel
theorem dX3_meet_32 : decode cX3_meet 32 = .ok (.iload_n 3, 1) := by decide +kernel
theorem dX3_meet_33 : decode cX3_meet 33 = .ok (.invokestatic 63, 3) := by decide +kernel
theorem dX3_meet_36 : decode cX3_meet 36 = .ok (.iaload, 1) := by decide +kernel
theorem dX3_meet_37 : decode cX3_meet 37 = .ok (.iload 4, 2) := by decide +kernel
theorem dX3_meet_39 : decode cX3_meet 39 = .ok (.if_icmp .ge 40, 3) := by decide +kernel
theorem dX3_meet_42 : decode cX3_meet 42 = .ok (.aload_n 0, 1) := by decide +kernel
theorem dX3_meet_43 : decode cX3_meet 43 = .ok (.getfield 31, 3) := by decide +kernel
theorem dX3_meet_46 : decode cX3_meet 46 = .ok (.iload_n 1, 1) := by decide +kernel
theorem dX3_meet_47 : decode cX3_meet 47 = .ok (.iload_n 3, 1) := by decide +kernel
theorem dX3_meet_48 : decode cX3_meet 48 = .ok (.invokestatic 66, 3) := by decide +kernel
theorem dX3_meet_51 : decode cX3_meet 51 = .ok (.iaload, 1) := by decide +kernel
theorem dX3_meet_52 : decode cX3_meet 52 = .ok (.iload 4, 2) := by decide +kernel
theorem dX3_meet_54 : decode cX3_meet 54 = .ok (.if_icmp .ge 25, 3) := by decide +kernel
theorem dX3_meet_57 : decode cX3_meet 57 = .ok (.aload_n 0, 1) := by decide +kernel
theorem dX3_meet_58 : decode cX3_meet 58 = .ok (.getfield 31, 3) := by decide +kernel
theorem dX3_meet_61 : decode cX3_meet 61 = .ok (.iload_n 1, 1) := by decide +kernel
theorem dX3_meet_62 : decode cX3_meet 62 = .ok (.aload_n 0, 1) := by decide +kernel
theorem dX3_meet_63 : decode cX3_meet 63 = .ok (.getfield 28, 3) := by decide +kernel
theorem dX3_meet_66 : decode cX3_meet 66 = .ok (.iload 4, 2) := by decide +kernel
theorem dX3_meet_68 : decode cX3_meet 68 = .ok (.iaload, 1) := by decide +kernel
theorem dX3_meet_69 : decode cX3_meet 69 = .ok (.iastore, 1) := by decide +kernel
theorem dX3_meet_70 : decode cX3_meet 70 = .ok (.aload_n 0, 1) := by decide +kernel
theorem dX3_meet_71 : decode cX3_meet 71 = .ok (.getfield 22, 3) := by decide +kernel
theorem dX3_meet_74 : decode cX3_meet 74 = .ok (.iload 4, 2) := by decide +kernel
theorem dX3_meet_76 : decode cX3_meet 76 = .ok (.iconst (-1), 1) := by decide +kernel
theorem dX3_meet_77 : decode cX3_meet 77 = .ok (.iastore, 1) := by decide +kernel
theorem dX3_meet_78 : decode cX3_meet 78 = .ok (.return_, 1) := by decide +kernel
theorem dX3_meet_79 : decode cX3_meet 79 = .ok (.aload_n 0, 1) := by decide +kernel
theorem dX3_meet_80 : decode cX3_meet 80 = .ok (.getfield 22, 3) := by decide +kernel
theorem dX3_meet_83 : decode cX3_meet 83 = .ok (.aload_n 0, 1) := by decide +kernel
theorem dX3_meet_84 : decode cX3_meet 84 = .ok (.getfield 25, 3) := by decide +kernel
theorem dX3_meet_87 : decode cX3_meet 87 = .ok (.bipush 10, 2) := by decide +kernel
theorem dX3_meet_89 : decode cX3_meet 89 = .ok (.iload_n 1, 1) := by decide +kernel
theorem dX3_meet_90 : decode cX3_meet 90 = .ok (.imul, 1) := by decide +kernel
theorem dX3_meet_91 : decode cX3_meet 91 = .ok (.iload_n 2, 1) := by decide +kernel
theorem dX3_meet_92 : decode cX3_meet 92 = .ok (.iadd, 1) := by decide +kernel
theorem dX3_meet_93 : decode cX3_meet 93 = .ok (.iastore, 1) := by decide +kernel
theorem dX3_meet_94 : decode cX3_meet 94 = .ok (.aload_n 0, 1) := by decide +kernel
theorem dX3_meet_95 : decode cX3_meet 95 = .ok (.getfield 28, 3) := by decide +kernel
theorem dX3_meet_98 : decode cX3_meet 98 = .ok (.aload_n 0, 1) := by decide +kernel
theorem dX3_meet_99 : decode cX3_meet 99 = .ok (.getfield 25, 3) := by decide +kernel
theorem dX3_meet_102 : decode cX3_meet 102 = .ok (.iload 4, 2) := by decide +kernel
theorem dX3_meet_104 : decode cX3_meet 104 = .ok (.iastore, 1) := by decide +kernel
theorem dX3_meet_105 : decode cX3_meet 105 = .ok (.aload_n 0, 1) := by decide +kernel
theorem dX3_meet_106 : decode cX3_meet 106 = .ok (.getfield 31, 3) := by decide +kernel
theorem dX3_meet_109 : decode cX3_meet 109 = .ok (.iload_n 1, 1) := by decide +kernel
theorem dX3_meet_110 : decode cX3_meet 110 = .ok (.aload_n 0, 1) := by decide +kernel
theorem dX3_meet_111 : decode cX3_meet 111 = .ok (.getfield 25, 3) := by decide +kernel
theorem dX3_meet_114 : decode cX3_meet 114 = .ok (.iastore, 1) := by decide +kernel
theorem dX3_meet_115 : decode cX3_meet 115 = .ok (.aload_n 0, 1) := by decide +kernel
theorem dX3_meet_116 : decode cX3_meet 116 = .ok (.dup, 1) := by decide +kernel
theorem dX3_meet_117 : decode cX3_meet 117 = .ok (.getfield 25, 3) := by decide +kernel
theorem dX3_meet_120 : decode cX3_meet 120 = .ok (.iconst 1, 1) := by decide +kernel
theorem dX3_meet_121 : decode cX3_meet 121 = .ok (.iadd, 1) := by decide +kernel
theorem dX3_meet_122 : decode cX3_meet 122 = .ok (.putfield 25, 3) := by decide +kernel
theorem dX3_meet_125 : decode cX3_meet 125 = .ok (.return_, 1) := by decide +kernel
theorem dX3_linkForward_0 : decode cX3_linkForward 0 = .ok (.aload_n 0, 1) := by decide +kernel
theorem dX3_linkForward_1 : decode cX3_linkForward 1 = .ok (.getfield 31, 3) := by decide +kernel
theorem dX3_linkForward_4 : decode cX3_linkForward 4 = .ok (.sipush 300, 3) := by decide +kernel
theorem dX3_linkForward_7 : decode cX3_linkForward 7 = .ok (.invokestatic 34, 3) := by decide +kernel
theorem dX3_linkForward_10 : decode cX3_linkForward 10 = .ok (.aload_n 0, 1) := by decide +kernel
theorem dX3_linkForward_11 : decode cX3_linkForward 11 = .ok (.getfield 25, 3) := by decide +kernel
theorem dX3_linkForward_14 : decode cX3_linkForward 14 = .ok (.iconst 1, 1) := by decide +kernel
theorem dX3_linkForward_15 : decode cX3_linkForward 15 = .ok (.isub, 1) := by decide +kernel
theorem dX3_linkForward_16 : decode cX3_linkForward 16 = .ok (.istore_n 1, 1) := by decide +kernel
theorem dX3_linkForward_17 : decode cX3_linkForward 17 = .ok (.iload_n 1, 1) := by decide +kernel
theorem dX3_linkForward_18 : decode cX3_linkForward 18 = .ok (.ifCond .lt 47, 3) := by decide +kernel
theorem dX3_linkForward_21 : decode cX3_linkForward 21 = .ok (.aload_n 0, 1) := by decide +kernel
theorem dX3_linkForward_22 : decode cX3_linkForward 22 = .ok (.getfield 22, 3) := by decide +kernel
theorem dX3_linkForward_25 : decode cX3_linkForward 25 = .ok (.iload_n 1, 1) := by decide +kernel
theorem dX3_linkForward_26 : decode cX3_linkForward 26 = .ok (.iaload, 1) := by decide +kernel
theorem dX3_linkForward_27 : decode cX3_linkForward 27 = .ok (.ifCond .lt 32, 3) := by decide +kernel
theorem dX3_linkForward_30 : decode cX3_linkForward 30 = .ok (.aload_n 0, 1) := by decide +kernel
theorem dX3_linkForward_31 : decode cX3_linkForward 31 = .ok (.getfield 22, 3) := by decide +kernel
theorem dX3_linkForward_34 : decode cX3_linkForward 34 = .ok (.iload_n 1, 1) := by decide +kernel
theorem dX3_linkForward_35 : decode cX3_linkForward 35 = .ok (.iaload, 1) := by decide +kernel
theorem dX3_linkForward_36 : decode cX3_linkForward 36 = .ok (.bipush 10, 2) := by decide +kernel
theorem dX3_linkForward_38 : decode cX3_linkForward 38 = .ok (.idiv, 1) := by decide +kernel
theorem dX3_linkForward_39 : decode cX3_linkForward 39 = .ok (.istore_n 2, 1) := by decide +kernel
theorem dX3_linkForward_40 : decode cX3_linkForward 40 = .ok (.aload_n 0, 1) := by decide +kernel
theorem dX3_linkForward_41 : decode cX3_linkForward 41 = .ok (.getfield 28, 3) := by decide +kernel
theorem dX3_linkForward_44 : decode cX3_linkForward 44 = .ok (.iload_n 1, 1) := by decide +kernel
theorem dX3_linkForward_45 : decode cX3_linkForward 45 = .ok (.aload_n 0, 1) := by decide +kernel
theorem dX3_linkForward_46 : decode cX3_linkForward 46 = .ok (.getfield 31, 3) := by decide +kernel
theorem dX3_linkForward_49 : decode cX3_linkForward 49 = .ok (.iload_n 2, 1) := by decide +kernel
theorem dX3_linkForward_50 : decode cX3_linkForward 50 = .ok (.iaload, 1) := by decide +kernel
theorem dX3_linkForward_51 : decode cX3_linkForward 51 = .ok (.iastore, 1) := by decide +kernel
theorem dX3_linkForward_52 : decode cX3_linkForward 52 = .ok (.aload_n 0, 1) := by decide +kernel
theorem dX3_linkForward_53 : decode cX3_linkForward 53 = .ok (.getfield 31, 3) := by decide +kernel
theorem dX3_linkForward_56 : decode cX3_linkForward 56 = .ok (.iload_n 2, 1) := by decide +kernel
theorem dX3_linkForward_57 : decode cX3_linkForward 57 = .ok (.iload_n 1, 1) := by decide +kernel
theorem dX3_linkForward_58 : decode cX3_linkForward 58 = .ok (.iastore, 1) := by decide +kernel
theorem dX3_linkForward_59 : decode cX3_linkForward 59 = .ok (.iinc 1 (-1), 3) := by decide +kernel
theorem dX3_linkForward_62 : decode cX3_linkForward 62 = .ok (.goto (-45), 3) := by decide +kernel
theorem dX3_linkForward_65 : decode cX3_linkForward 65 = .ok (.return_, 1) := by decide +kernel
theorem dX3_putInOrder_0 : decode cX3_putInOrder 0 = .ok (.aload_n 0, 1) := by decide +kernel
theorem dX3_putInOrder_1 : decode cX3_putInOrder 1 = .ok (.iconst 0, 1) := by decide +kernel
theorem dX3_putInOrder_2 : decode cX3_putInOrder 2 = .ok (.putfield 15, 3) := by decide +kernel
theorem dX3_putInOrder_5 : decode cX3_putInOrder 5 = .ok (.iconst 0, 1) := by decide +kernel
theorem dX3_putInOrder_6 : decode cX3_putInOrder 6 = .ok (.istore_n 2, 1) := by decide +kernel
theorem dX3_putInOrder_7 : decode cX3_putInOrder 7 = .ok (.iload_n 2, 1) := by decide +kernel
theorem dX3_putInOrder_8 : decode cX3_putInOrder 8 = .ok (.aload_n 0, 1) := by decide +kernel
theorem dX3_putInOrder_9 : decode cX3_putInOrder 9 = .ok (.getfield 25, 3) := by decide +kernel
theorem dX3_putInOrder_12 : decode cX3_putInOrder 12 = .ok (.if_icmp .ge 68, 3) := by decide +kernel
theorem dX3_putInOrder_15 : decode cX3_putInOrder 15 = .ok (.aload_n 0, 1) := by decide +kernel
theorem dX3_putInOrder_16 : decode cX3_putInOrder 16 = .ok (.iload_n 1, 1) := by decide +kernel
theorem dX3_putInOrder_17 : decode cX3_putInOrder 17 = .ok (.invokevirtual 69, 3) := by decide +kernel
theorem dX3_putInOrder_20 : decode cX3_putInOrder 20 = .ok (.istore_n 3, 1) := by decide +kernel
theorem dX3_putInOrder_21 : decode cX3_putInOrder 21 = .ok (.iload_n 3, 1) := by decide +kernel
theorem dX3_putInOrder_22 : decode cX3_putInOrder 22 = .ok (.iload_n 1, 1) := by decide +kernel
theorem dX3_putInOrder_23 : decode cX3_putInOrder 23 = .ok (.if_icmp .lt 4, 3) := by decide +kernel
theorem dX3_putInOrder_26 : decode cX3_putInOrder 26 = .ok (.return_, 1) := by decide +kernel
theorem dX3_putInOrder_27 : decode cX3_putInOrder 27 = .ok (.aload_n 0, 1) := by decide +kernel
theorem dX3_putInOrder_28 : decode cX3_putInOrder 28 = .ok (.getfield 31, 3) := by decide +kernel
theorem dX3_putInOrder_31 : decode cX3_putInOrder 31 = .ok (.iload_n 3, 1) := by decide +kernel
theorem dX3_putInOrder_32 : decode cX3_putInOrder 32 = .ok (.iaload, 1) := by decide +kernel
theorem dX3_putInOrder_33 : decode cX3_putInOrder 33 = .ok (.istore 4, 2) := by decide +kernel
theorem dX3_putInOrder_35 : decode cX3_putInOrder 35 = .ok (.aload_n 0, 1) := by decide +kernel
theorem dX3_putInOrder_36 : decode cX3_putInOrder 36 = .ok (.getfield 18, 3) := by decide +kernel
theorem dX3_putInOrder_39 : decode cX3_putInOrder 39 = .ok (.aload_n 0, 1) := by decide +kernel
theorem dX3_putInOrder_40 : decode cX3_putInOrder 40 = .ok (.getfield 15, 3) := by decide +kernel
theorem dX3_putInOrder_43 : decode cX3_putInOrder 43 = .ok (.aload_n 0, 1) := by decide +kernel
theorem dX3_putInOrder_44 : decode cX3_putInOrder 44 = .ok (.getfield 22, 3) := by decide +kernel
theorem dX3_putInOrder_47 : decode cX3_putInOrder 47 = .ok (.iload 4, 2) := by decide +kernel
theorem dX3_putInOrder_49 : decode cX3_putInOrder 49 = .ok (.iaload, 1) := by decide +kernel
theorem dX3_putInOrder_50 : decode cX3_putInOrder 50 = .ok (.iastore, 1) := by decide +kernel
theorem dX3_putInOrder_51 : decode cX3_putInOrder 51 = .ok (.aload_n 0, 1) := by decide +kernel
theorem dX3_putInOrder_52 : decode cX3_putInOrder 52 = .ok (.dup, 1) := by decide +kernel
theorem dX3_putInOrder_53 : decode cX3_putInOrder 53 = .ok (.getfield 15, 3) := by decide +kernel
theorem dX3_putInOrder_56 : decode cX3_putInOrder 56 = .ok (.iconst 1, 1) := by decide +kernel
theorem dX3_putInOrder_57 : decode cX3_putInOrder 57 = .ok (.iadd, 1) := by decide +kernel
theorem dX3_putInOrder_58 : decode cX3_putInOrder 58 = .ok (.putfield 15, 3) := by decide +kernel
theorem dX3_putInOrder_61 : decode cX3_putInOrder 61 = .ok (.aload_n 0, 1) := by decide +kernel
theorem dX3_putInOrder_62 : decode cX3_putInOrder 62 = .ok (.getfield 31, 3) := by decide +kernel
theorem dX3_putInOrder_65 : decode cX3_putInOrder 65 = .ok (.iload_n 3, 1) := by decide +kernel
theorem dX3_putInOrder_66 : decode cX3_putInOrder 66 = .ok (.aload_n 0, 1) := by decide +kernel
theorem dX3_putInOrder_67 : decode cX3_putInOrder 67 = .ok (.getfield 28, 3) := by decide +kernel
theorem dX3_putInOrder_70 : decode cX3_putInOrder 70 = .ok (.iload 4, 2) := by decide +kernel
theorem dX3_putInOrder_72 : decode cX3_putInOrder 72 = .ok (.iaload, 1) := by decide +kernel
theorem dX3_putInOrder_73 : decode cX3_putInOrder 73 = .ok (.iastore, 1) := by decide +kernel
theorem dX3_putInOrder_74 : decode cX3_putInOrder 74 = .ok (.iinc 2 1, 3) := by decide +kernel
theorem dX3_putInOrder_77 : decode cX3_putInOrder 77 = .ok (.goto (-70), 3) := by decide +kernel
theorem dX3_putInOrder_80 : decode cX3_putInOrder 80 = .ok (.return_, 1) := by decide +kernel
theorem dX3_leastFree_0 : decode cX3_leastFree 0 = .ok (.iconst 0, 1) := by decide +kernel
theorem dX3_leastFree_1 : decode cX3_leastFree 1 = .ok (.istore_n 2, 1) := by decide +kernel
theorem dX3_leastFree_2 : decode cX3_leastFree 2 = .ok (.iload_n 2, 1) := by decide +kernel
theorem dX3_leastFree_3 : decode cX3_leastFree 3 = .ok (.iload_n 1, 1) := by decide +kernel
theorem dX3_leastFree_4 : decode cX3_leastFree 4 = .ok (.if_icmp .ge 53, 3) := by decide +kernel
theorem dX3_leastFree_7 : decode cX3_leastFree 7 = .ok (.aload_n 0, 1) := by decide +kernel
theorem dX3_leastFree_8 : decode cX3_leastFree 8 = .ok (.getfield 31, 3) := by decide +kernel
theorem dX3_leastFree_11 : decode cX3_leastFree 11 = .ok (.iload_n 2, 1) := by decide +kernel
theorem dX3_leastFree_12 : decode cX3_leastFree 12 = .ok (.iaload, 1) := by decide +kernel
theorem dX3_leastFree_13 : decode cX3_leastFree 13 = .ok (.istore_n 3, 1) := by decide +kernel
theorem dX3_leastFree_14 : decode cX3_leastFree 14 = .ok (.iload_n 3, 1) := by decide +kernel
theorem dX3_leastFree_15 : decode cX3_leastFree 15 = .ok (.sipush 300, 3) := by decide +kernel
theorem dX3_leastFree_18 : decode cX3_leastFree 18 = .ok (.if_icmp .ge 33, 3) := by decide +kernel
theorem dX3_leastFree_21 : decode cX3_leastFree 21 = .ok (.aload_n 0, 1) := by decide +kernel
theorem dX3_leastFree_22 : decode cX3_leastFree 22 = .ok (.getfield 31, 3) := by decide +kernel
theorem dX3_leastFree_25 : decode cX3_leastFree 25 = .ok (.iload_n 2, 1) := by decide +kernel
theorem dX3_leastFree_26 : decode cX3_leastFree 26 = .ok (.iload_n 1, 1) := by decide +kernel
theorem dX3_leastFree_27 : decode cX3_leastFree 27 = .ok (.invokestatic 63, 3) := by decide +kernel
theorem dX3_leastFree_30 : decode cX3_leastFree 30 = .ok (.iaload, 1) := by decide +kernel
theorem dX3_leastFree_31 : decode cX3_leastFree 31 = .ok (.iload_n 3, 1) := by decide +kernel
theorem dX3_leastFree_32 : decode cX3_leastFree 32 = .ok (.if_icmp .le 19, 3) := by decide +kernel
theorem dX3_leastFree_35 : decode cX3_leastFree 35 = .ok (.aload_n 0, 1) := by decide +kernel
theorem dX3_leastFree_36 : decode cX3_leastFree 36 = .ok (.getfield 31, 3) := by decide +kernel
theorem dX3_leastFree_39 : decode cX3_leastFree 39 = .ok (.iload_n 2, 1) := by decide +kernel
theorem dX3_leastFree_40 : decode cX3_leastFree 40 = .ok (.iload_n 1, 1) := by decide +kernel
theorem dX3_leastFree_41 : decode cX3_leastFree 41 = .ok (.invokestatic 66, 3) := by decide +kernel
theorem dX3_leastFree_44 : decode cX3_leastFree 44 = .ok (.iaload, 1) := by decide +kernel
theorem dX3_leastFree_45 : decode cX3_leastFree 45 = .ok (.iload_n 3, 1) := by decide +kernel
theorem dX3_leastFree_46 : decode cX3_leastFree 46 = .ok (.if_icmp .le 5, 3) := by decide +kernel
theorem dX3_leastFree_49 : decode cX3_leastFree 49 = .ok (.iload_n 2, 1) := by decide +kernel
theorem dX3_leastFree_50 : decode cX3_leastFree 50 = .ok (.ireturn, 1) := by decide +kernel
theorem dX3_leastFree_51 : decode cX3_leastFree 51 = .ok (.iinc 2 1, 3) := by decide +kernel
theorem dX3_leastFree_54 : decode cX3_leastFree 54 = .ok (.goto (-52), 3) := by decide +kernel
theorem dX3_leastFree_57 : decode cX3_leastFree 57 = .ok (.iload_n 1, 1) := by decide +kernel
theorem dX3_leastFree_58 : decode cX3_leastFree 58 = .ok (.ireturn, 1) := by decide +kernel
theorem dX3_isLike_0 : decode cX3_isLike 0 = .ok (.aload_n 0, 1) := by decide +kernel
theorem dX3_isLike_1 : decode cX3_isLike 1 = .ok (.getfield 9, 3) := by decide +kernel
theorem dX3_isLike_4 : decode cX3_isLike 4 = .ok (.aload_n 1, 1) := by decide +kernel
theorem dX3_isLike_5 : decode cX3_isLike 5 = .ok (.getfield 9, 3) := by decide +kernel
theorem dX3_isLike_8 : decode cX3_isLike 8 = .ok (.if_icmp .ne 14, 3) := by decide +kernel
theorem dX3_isLike_11 : decode cX3_isLike 11 = .ok (.aload_n 0, 1) := by decide +kernel
theorem dX3_isLike_12 : decode cX3_isLike 12 = .ok (.getfield 15, 3) := by decide +kernel
theorem dX3_isLike_15 : decode cX3_isLike 15 = .ok (.aload_n 1, 1) := by decide +kernel
theorem dX3_isLike_16 : decode cX3_isLike 16 = .ok (.getfield 15, 3) := by decide +kernel
theorem dX3_isLike_19 : decode cX3_isLike 19 = .ok (.if_icmp .eq 5, 3) := by decide +kernel
theorem dX3_isLike_22 : decode cX3_isLike 22 = .ok (.iconst 0, 1) := by decide +kernel
theorem dX3_isLike_23 : decode cX3_isLike 23 = .ok (.ireturn, 1) := by decide +kernel
theorem dX3_isLike_24 : decode cX3_isLike 24 = .ok (.iconst 0, 1) := by decide +kernel
theorem dX3_isLike_25 : decode cX3_isLike 25 = .ok (.istore_n 2, 1) := by decide +kernel
theorem dX3_isLike_26 : decode cX3_isLike 26 = .ok (.iload_n 2, 1) := by decide +kernel
theorem dX3_isLike_27 : decode cX3_isLike 27 = .ok (.aload_n 0, 1) := by decide +kernel
theorem dX3_isLike_28 : decode cX3_isLike 28 = .ok (.getfield 15, 3) := by decide +kernel
theorem dX3_isLike_31 : decode cX3_isLike 31 = .ok (.if_icmp .ge 26, 3) := by decide +kernel
theorem dX3_isLike_34 : decode cX3_isLike 34 = .ok (.aload_n 0, 1) := by decide +kernel
theorem dX3_isLike_35 : decode cX3_isLike 35 = .ok (.getfield 18, 3) := by decide +kernel
theorem dX3_isLike_38 : decode cX3_isLike 38 = .ok (.iload_n 2, 1) := by decide +kernel
theorem dX3_isLike_39 : decode cX3_isLike 39 = .ok (.iaload, 1) := by decide +kernel
theorem dX3_isLike_40 : decode cX3_isLike 40 = .ok (.aload_n 1, 1) := by decide +kernel
theorem dX3_isLike_41 : decode cX3_isLike 41 = .ok (.getfield 18, 3) := by decide +kernel
theorem dX3_isLike_44 : decode cX3_isLike 44 = .ok (.iload_n 2, 1) := by decide +kernel
theorem dX3_isLike_45 : decode cX3_isLike 45 = .ok (.iaload, 1) := by decide +kernel
theorem dX3_isLike_46 : decode cX3_isLike 46 = .ok (.if_icmp .eq 5, 3) := by decide +kernel
theorem dX3_isLike_49 : decode cX3_isLike 49 = .ok (.iconst 0, 1) := by decide +kernel
theorem dX3_isLike_50 : decode cX3_isLike 50 = .ok (.ireturn, 1) := by decide +kernel
theorem dX3_isLike_51 : decode cX3_isLike 51 = .ok (.iinc 2 1, 3) := by decide +kernel
theorem dX3_isLike_54 : decode cX3_isLike 54 = .ok (.goto (-28), 3) := by decide +kernel
theorem dX3_isLike_57 : decode cX3_isLike 57 = .ok (.iconst 1, 1) := by decide +kernel
theorem dX3_isLike_58 : decode cX3_isLike 58 = .ok (.ireturn, 1) := by decide +kernel
theorem dX4_init_0 : decode cX4_init 0 = .ok (.aload_n 0, 1) := by decide +kernel
theorem dX4_init_1 : decode cX4_init 1 = .ok (.invokespecial 3, 3) := by decide +kernel
theorem dX4_init_4 : decode cX4_init 4 = .ok (.aload_n 0, 1) := by decide +kernel
theorem dX4_init_5 : decode cX4_init 5 = .ok (.bipush 9, 2) := by decide +kernel
theorem dX4_init_7 : decode cX4_init 7 = .ok (.newarray .int, 2) := by decide +kernel
theorem dX4_init_9 : decode cX4_init 9 = .ok (.putfield 9, 3) := by decide +kernel
theorem dX4_init_12 : decode cX4_init 12 = .ok (.aload_n 0, 1) := by decide +kernel
theorem dX4_init_13 : decode cX4_init 13 = .ok (.bipush 9, 2) := by decide +kernel
theorem dX4_init_15 : decode cX4_init 15 = .ok (.newarray .int, 2) := by decide +kernel
theorem dX4_init_17 : decode cX4_init 17 = .ok (.putfield 15, 3) := by decide +kernel
theorem dX4_init_20 : decode cX4_init 20 = .ok (.aload_n 0, 1) := by decide +kernel
theorem dX4_init_21 : decode cX4_init 21 = .ok (.bipush 9, 2) := by decide +kernel
theorem dX4_init_23 : decode cX4_init 23 = .ok (.newarray .int, 2) := by decide +kernel
theorem dX4_init_25 : decode cX4_init 25 = .ok (.putfield 18, 3) := by decide +kernel
theorem dX4_init_28 : decode cX4_init 28 = .ok (.aload_n 0, 1) := by decide +kernel
theorem dX4_init_29 : decode cX4_init 29 = .ok (.bipush 40, 2) := by decide +kernel
theorem dX4_init_31 : decode cX4_init 31 = .ok (.newarray .int, 2) := by decide +kernel
theorem dX4_init_33 : decode cX4_init 33 = .ok (.putfield 21, 3) := by decide +kernel
theorem dX4_init_36 : decode cX4_init 36 = .ok (.aload_n 0, 1) := by decide +kernel
theorem dX4_init_37 : decode cX4_init 37 = .ok (.iconst 0, 1) := by decide +kernel
theorem dX4_init_38 : decode cX4_init 38 = .ok (.putfield 24, 3) := by decide +kernel
theorem dX4_init_41 : decode cX4_init 41 = .ok (.return_, 1) := by decide +kernel
theorem dX4_ask_0 : decode cX4_ask 0 = .ok (.aload_n 0, 1) := by decide +kernel
theorem dX4_ask_1 : decode cX4_ask 1 = .ok (.getfield 9, 3) := by decide +kernel
theorem dX4_ask_4 : decode cX4_ask 4 = .ok (.iconst (-1), 1) := by decide +kernel
theorem dX4_ask_5 : decode cX4_ask 5 = .ok (.invokestatic 28, 3) := by decide +kernel
theorem dX4_ask_8 : decode cX4_ask 8 = .ok (.iconst 0, 1) := by decide +kernel
theorem dX4_ask_9 : decode cX4_ask 9 = .ok (.istore_n 3, 1) := by decide +kernel
theorem dX4_ask_10 : decode cX4_ask 10 = .ok (.iload_n 3, 1) := by decide +kernel
theorem dX4_ask_11 : decode cX4_ask 11 = .ok (.aload_n 1, 1) := by decide +kernel
theorem dX4_ask_12 : decode cX4_ask 12 = .ok (.getfield 34, 3) := by decide +kernel
theorem dX4_ask_15 : decode cX4_ask 15 = .ok (.if_icmp .ge 49, 3) := by decide +kernel
theorem dX4_ask_18 : decode cX4_ask 18 = .ok (.aload_n 2, 1) := by decide +kernel
theorem dX4_ask_19 : decode cX4_ask 19 = .ok (.iload_n 3, 1) := by decide +kernel
theorem dX4_ask_20 : decode cX4_ask 20 = .ok (.iaload, 1) := by decide +kernel
theorem dX4_ask_21 : decode cX4_ask 21 = .ok (.istore 4, 2) := by decide +kernel
theorem dX4_ask_23 : decode cX4_ask 23 = .ok (.iload 4, 2) := by decide +kernel
theorem dX4_ask_25 : decode cX4_ask 25 = .ok (.ifCond .lt 23, 3) := by decide +kernel
theorem dX4_ask_28 : decode cX4_ask 28 = .ok (.iload 4, 2) := by decide +kernel
theorem dX4_ask_30 : decode cX4_ask 30 = .ok (.aload_n 1, 1) := by decide +kernel
theorem dX4_ask_31 : decode cX4_ask 31 = .ok (.getfield 34, 3) := by decide +kernel
theorem dX4_ask_34 : decode cX4_ask 34 = .ok (.if_icmp .ge 14, 3) := by decide +kernel
theorem dX4_ask_37 : decode cX4_ask 37 = .ok (.aload_n 0, 1) := by decide +kernel
theorem dX4_ask_38 : decode cX4_ask 38 = .ok (.getfield 9, 3) := by decide +kernel
theorem dX4_ask_41 : decode cX4_ask 41 = .ok (.iload 4, 2) := by decide +kernel
theorem dX4_ask_43 : decode cX4_ask 43 = .ok (.iaload, 1) := by decide +kernel
theorem dX4_ask_44 : decode cX4_ask 44 = .ok (.iconst (-1), 1) := by decide +kernel
theorem dX4_ask_45 : decode cX4_ask 45 = .ok (.if_icmp .eq 5, 3) := by decide +kernel
theorem dX4_ask_48 : decode cX4_ask 48 = .ok (.iconst 0, 1) := by decide +kernel
theorem dX4_ask_49 : decode cX4_ask 49 = .ok (.ireturn, 1) := by decide +kernel
theorem dX4_ask_50 : decode cX4_ask 50 = .ok (.aload_n 0, 1) := by decide +kernel
