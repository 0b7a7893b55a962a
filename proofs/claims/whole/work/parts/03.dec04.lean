theorem dX12_end_85 : decode cX12_end 85 = .ok (.iaload, 1) := by decide +kernel
theorem dX12_end_86 : decode cX12_end 86 = .ok (.iastore, 1) := by decide +kernel
theorem dX12_end_87 : decode cX12_end 87 = .ok (.aload_n 0, 1) := by decide +kernel
theorem dX12_end_88 : decode cX12_end 88 = .ok (.getfield 35, 3) := by decide +kernel
theorem dX12_end_91 : decode cX12_end 91 = .ok (.iload_n 1, 1) := by decide +kernel
theorem dX12_end_92 : decode cX12_end 92 = .ok (.aload_n 0, 1) := by decide +kernel
theorem dX12_end_93 : decode cX12_end 93 = .ok (.getfield 51, 3) := by decide +kernel
theorem dX12_end_96 : decode cX12_end 96 = .ok (.iload_n 1, 1) := by decide +kernel
theorem dX12_end_97 : decode cX12_end 97 = .ok (.iaload, 1) := by decide +kernel
theorem dX12_end_98 : decode cX12_end 98 = .ok (.iastore, 1) := by decide +kernel
theorem dX12_end_99 : decode cX12_end 99 = .ok (.aload_n 0, 1) := by decide +kernel
theorem dX12_end_100 : decode cX12_end 100 = .ok (.getfield 29, 3) := by decide +kernel
theorem dX12_end_103 : decode cX12_end 103 = .ok (.iload_n 1, 1) := by decide +kernel
theorem dX12_end_104 : decode cX12_end 104 = .ok (.iload_n 1, 1) := by decide +kernel
theorem dX12_end_105 : decode cX12_end 105 = .ok (.iastore, 1) := by decide +kernel
theorem dX12_end_106 : decode cX12_end 106 = .ok (.iinc 1 1, 3) := by decide +kernel
theorem dX12_end_109 : decode cX12_end 109 = .ok (.goto (-42), 3) := by decide +kernel
theorem dX12_end_112 : decode cX12_end 112 = .ok (.aload_n 0, 1) := by decide +kernel
theorem dX12_end_113 : decode cX12_end 113 = .ok (.getfield 54, 3) := by decide +kernel
theorem dX12_end_116 : decode cX12_end 116 = .ok (.ireturn, 1) := by decide +kernel
theorem dX12_after_0 : decode cX12_after 0 = .ok (.iload_n 1, 1) := by decide +kernel
theorem dX12_after_1 : decode cX12_after 1 = .ok (.iconst 1, 1) := by decide +kernel
theorem dX12_after_2 : decode cX12_after 2 = .ok (.iadd, 1) := by decide +kernel
theorem dX12_after_3 : decode cX12_after 3 = .ok (.aload_n 0, 1) := by decide +kernel
theorem dX12_after_4 : decode cX12_after 4 = .ok (.getfield 13, 3) := by decide +kernel
theorem dX12_after_7 : decode cX12_after 7 = .ok (.if_icmp .ne 7, 3) := by decide +kernel
theorem dX12_after_10 : decode cX12_after 10 = .ok (.iconst 0, 1) := by decide +kernel
theorem dX12_after_11 : decode cX12_after 11 = .ok (.goto 6, 3) := by decide +kernel
theorem dX12_after_14 : decode cX12_after 14 = .ok (.iload_n 1, 1) := by decide +kernel
theorem dX12_after_15 : decode cX12_after 15 = .ok (.iconst 1, 1) := by decide +kernel
theorem dX12_after_16 : decode cX12_after 16 = .ok (.iadd, 1) := by decide +kernel
theorem dX12_after_17 : decode cX12_after 17 = .ok (.ireturn, 1) := by decide +kernel
theorem dX12_ahead_0 : decode cX12_ahead 0 = .ok (.iload_n 1, 1) := by decide +kernel
theorem dX12_ahead_1 : decode cX12_ahead 1 = .ok (.ifCond .ne 12, 3) := by decide +kernel
theorem dX12_ahead_4 : decode cX12_ahead 4 = .ok (.aload_n 0, 1) := by decide +kernel
theorem dX12_ahead_5 : decode cX12_ahead 5 = .ok (.getfield 13, 3) := by decide +kernel
theorem dX12_ahead_8 : decode cX12_ahead 8 = .ok (.iconst 1, 1) := by decide +kernel
theorem dX12_ahead_9 : decode cX12_ahead 9 = .ok (.isub, 1) := by decide +kernel
theorem dX12_ahead_10 : decode cX12_ahead 10 = .ok (.goto 6, 3) := by decide +kernel
theorem dX12_ahead_13 : decode cX12_ahead 13 = .ok (.iload_n 1, 1) := by decide +kernel
theorem dX12_ahead_14 : decode cX12_ahead 14 = .ok (.iconst 1, 1) := by decide +kernel
theorem dX12_ahead_15 : decode cX12_ahead 15 = .ok (.isub, 1) := by decide +kernel
theorem dX12_ahead_16 : decode cX12_ahead 16 = .ok (.ireturn, 1) := by decide +kernel
theorem dX12_girth_0 : decode cX12_girth 0 = .ok (.bipush 10, 2) := by decide +kernel
theorem dX12_girth_2 : decode cX12_girth 2 = .ok (.aload_n 0, 1) := by decide +kernel
theorem dX12_girth_3 : decode cX12_girth 3 = .ok (.getfield 57, 3) := by decide +kernel
theorem dX12_girth_6 : decode cX12_girth 6 = .ok (.iconst 3, 1) := by decide +kernel
theorem dX12_girth_7 : decode cX12_girth 7 = .ok (.idiv, 1) := by decide +kernel
theorem dX12_girth_8 : decode cX12_girth 8 = .ok (.iadd, 1) := by decide +kernel
theorem dX12_girth_9 : decode cX12_girth 9 = .ok (.ireturn, 1) := by decide +kernel
theorem dX12_pass_0 : decode cX12_pass 0 = .ok (.aload_n 0, 1) := by decide +kernel
theorem dX12_pass_1 : decode cX12_pass 1 = .ok (.iload_n 1, 1) := by decide +kernel
theorem dX12_pass_2 : decode cX12_pass 2 = .ok (.invokevirtual 199, 3) := by decide +kernel
theorem dX12_pass_5 : decode cX12_pass 5 = .ok (.ifCond .ne 5, 3) := by decide +kernel
theorem dX12_pass_8 : decode cX12_pass 8 = .ok (.iconst (-1), 1) := by decide +kernel
theorem dX12_pass_9 : decode cX12_pass 9 = .ok (.ireturn, 1) := by decide +kernel
theorem dX12_pass_10 : decode cX12_pass 10 = .ok (.aload_n 0, 1) := by decide +kernel
theorem dX12_pass_11 : decode cX12_pass 11 = .ok (.iload_n 2, 1) := by decide +kernel
theorem dX12_pass_12 : decode cX12_pass 12 = .ok (.iconst 0, 1) := by decide +kernel
theorem dX12_pass_13 : decode cX12_pass 13 = .ok (.iconst 1, 1) := by decide +kernel
theorem dX12_pass_14 : decode cX12_pass 14 = .ok (.invokevirtual 195, 3) := by decide +kernel
theorem dX12_pass_17 : decode cX12_pass 17 = .ok (.ifCond .ne 6, 3) := by decide +kernel
theorem dX12_pass_20 : decode cX12_pass 20 = .ok (.bipush (-2), 2) := by decide +kernel
theorem dX12_pass_22 : decode cX12_pass 22 = .ok (.ireturn, 1) := by decide +kernel
theorem dX12_pass_23 : decode cX12_pass 23 = .ok (.aload_n 0, 1) := by decide +kernel
theorem dX12_pass_24 : decode cX12_pass 24 = .ok (.getfield 44, 3) := by decide +kernel
theorem dX12_pass_27 : decode cX12_pass 27 = .ok (.ifCond .ne 6, 3) := by decide +kernel
theorem dX12_pass_30 : decode cX12_pass 30 = .ok (.bipush (-3), 2) := by decide +kernel
theorem dX12_pass_32 : decode cX12_pass 32 = .ok (.ireturn, 1) := by decide +kernel
theorem dX12_pass_33 : decode cX12_pass 33 = .ok (.aload_n 0, 1) := by decide +kernel
theorem dX12_pass_34 : decode cX12_pass 34 = .ok (.iload_n 1, 1) := by decide +kernel
theorem dX12_pass_35 : decode cX12_pass 35 = .ok (.invokevirtual 207, 3) := by decide +kernel
theorem dX12_pass_38 : decode cX12_pass 38 = .ok (.istore_n 3, 1) := by decide +kernel
theorem dX12_pass_39 : decode cX12_pass 39 = .ok (.iload_n 2, 1) := by decide +kernel
theorem dX12_pass_40 : decode cX12_pass 40 = .ok (.ifCond .ne 12, 3) := by decide +kernel
theorem dX12_pass_43 : decode cX12_pass 43 = .ok (.aload_n 0, 1) := by decide +kernel
theorem dX12_pass_44 : decode cX12_pass 44 = .ok (.getfield 29, 3) := by decide +kernel
theorem dX12_pass_47 : decode cX12_pass 47 = .ok (.iload_n 1, 1) := by decide +kernel
theorem dX12_pass_48 : decode cX12_pass 48 = .ok (.iaload, 1) := by decide +kernel
theorem dX12_pass_49 : decode cX12_pass 49 = .ok (.goto 9, 3) := by decide +kernel
theorem dX12_pass_52 : decode cX12_pass 52 = .ok (.aload_n 0, 1) := by decide +kernel
theorem dX12_pass_53 : decode cX12_pass 53 = .ok (.getfield 29, 3) := by decide +kernel
theorem dX12_pass_56 : decode cX12_pass 56 = .ok (.iload_n 3, 1) := by decide +kernel
theorem dX12_pass_57 : decode cX12_pass 57 = .ok (.iaload, 1) := by decide +kernel
theorem dX12_pass_58 : decode cX12_pass 58 = .ok (.istore 4, 2) := by decide +kernel
theorem dX12_pass_60 : decode cX12_pass 60 = .ok (.iload_n 2, 1) := by decide +kernel
theorem dX12_pass_61 : decode cX12_pass 61 = .ok (.ifCond .ne 12, 3) := by decide +kernel
theorem dX12_pass_64 : decode cX12_pass 64 = .ok (.aload_n 0, 1) := by decide +kernel
theorem dX12_pass_65 : decode cX12_pass 65 = .ok (.getfield 29, 3) := by decide +kernel
theorem dX12_pass_68 : decode cX12_pass 68 = .ok (.iload_n 3, 1) := by decide +kernel
theorem dX12_pass_69 : decode cX12_pass 69 = .ok (.iaload, 1) := by decide +kernel
theorem dX12_pass_70 : decode cX12_pass 70 = .ok (.goto 9, 3) := by decide +kernel
theorem dX12_pass_73 : decode cX12_pass 73 = .ok (.aload_n 0, 1) := by decide +kernel
theorem dX12_pass_74 : decode cX12_pass 74 = .ok (.getfield 29, 3) := by decide +kernel
theorem dX12_pass_77 : decode cX12_pass 77 = .ok (.iload_n 1, 1) := by decide +kernel
theorem dX12_pass_78 : decode cX12_pass 78 = .ok (.iaload, 1) := by decide +kernel
theorem dX12_pass_79 : decode cX12_pass 79 = .ok (.istore 5, 2) := by decide +kernel
theorem dX12_pass_81 : decode cX12_pass 81 = .ok (.aload_n 0, 1) := by decide +kernel
theorem dX12_pass_82 : decode cX12_pass 82 = .ok (.getfield 35, 3) := by decide +kernel
theorem dX12_pass_85 : decode cX12_pass 85 = .ok (.iload 4, 2) := by decide +kernel
theorem dX12_pass_87 : decode cX12_pass 87 = .ok (.iaload, 1) := by decide +kernel
theorem dX12_pass_88 : decode cX12_pass 88 = .ok (.iconst 1, 1) := by decide +kernel
theorem dX12_pass_89 : decode cX12_pass 89 = .ok (.if_icmp .lt 14, 3) := by decide +kernel
theorem dX12_pass_92 : decode cX12_pass 92 = .ok (.aload_n 0, 1) := by decide +kernel
theorem dX12_pass_93 : decode cX12_pass 93 = .ok (.getfield 35, 3) := by decide +kernel
theorem dX12_pass_96 : decode cX12_pass 96 = .ok (.iload 5, 2) := by decide +kernel
theorem dX12_pass_98 : decode cX12_pass 98 = .ok (.iaload, 1) := by decide +kernel
theorem dX12_pass_99 : decode cX12_pass 99 = .ok (.iconst 2, 1) := by decide +kernel
theorem dX12_pass_100 : decode cX12_pass 100 = .ok (.if_icmp .ge 6, 3) := by decide +kernel
theorem dX12_pass_103 : decode cX12_pass 103 = .ok (.bipush (-3), 2) := by decide +kernel
theorem dX12_pass_105 : decode cX12_pass 105 = .ok (.ireturn, 1) := by decide +kernel
theorem dX12_pass_106 : decode cX12_pass 106 = .ok (.aload_n 0, 1) := by decide +kernel
theorem dX12_pass_107 : decode cX12_pass 107 = .ok (.getfield 54, 3) := by decide +kernel
theorem dX12_pass_110 : decode cX12_pass 110 = .ok (.sipush 300, 3) := by decide +kernel
theorem dX12_pass_113 : decode cX12_pass 113 = .ok (.if_icmp .ne 6, 3) := by decide +kernel
theorem dX12_pass_116 : decode cX12_pass 116 = .ok (.bipush (-4), 2) := by decide +kernel
theorem dX12_pass_118 : decode cX12_pass 118 = .ok (.ireturn, 1) := by decide +kernel
theorem dX12_pass_119 : decode cX12_pass 119 = .ok (.aload_n 0, 1) := by decide +kernel
theorem dX12_pass_120 : decode cX12_pass 120 = .ok (.getfield 35, 3) := by decide +kernel
theorem dX12_pass_123 : decode cX12_pass 123 = .ok (.iload 4, 2) := by decide +kernel
theorem dX12_pass_125 : decode cX12_pass 125 = .ok (.dup2, 1) := by decide +kernel
theorem dX12_pass_126 : decode cX12_pass 126 = .ok (.iaload, 1) := by decide +kernel
theorem dX12_pass_127 : decode cX12_pass 127 = .ok (.iconst 1, 1) := by decide +kernel
theorem dX12_pass_128 : decode cX12_pass 128 = .ok (.isub, 1) := by decide +kernel
theorem dX12_pass_129 : decode cX12_pass 129 = .ok (.iastore, 1) := by decide +kernel
theorem dX12_pass_130 : decode cX12_pass 130 = .ok (.aload_n 0, 1) := by decide +kernel
theorem dX12_pass_131 : decode cX12_pass 131 = .ok (.getfield 35, 3) := by decide +kernel
theorem dX12_pass_134 : decode cX12_pass 134 = .ok (.iload 5, 2) := by decide +kernel
theorem dX12_pass_136 : decode cX12_pass 136 = .ok (.dup2, 1) := by decide +kernel
theorem dX12_pass_137 : decode cX12_pass 137 = .ok (.iaload, 1) := by decide +kernel
theorem dX12_pass_138 : decode cX12_pass 138 = .ok (.iconst 2, 1) := by decide +kernel
theorem dX12_pass_139 : decode cX12_pass 139 = .ok (.isub, 1) := by decide +kernel
theorem dX12_pass_140 : decode cX12_pass 140 = .ok (.iastore, 1) := by decide +kernel
theorem dX12_pass_141 : decode cX12_pass 141 = .ok (.aload_n 0, 1) := by decide +kernel
theorem dX12_pass_142 : decode cX12_pass 142 = .ok (.getfield 29, 3) := by decide +kernel
theorem dX12_pass_145 : decode cX12_pass 145 = .ok (.iload_n 1, 1) := by decide +kernel
theorem dX12_pass_146 : decode cX12_pass 146 = .ok (.iaload, 1) := by decide +kernel
theorem dX12_pass_147 : decode cX12_pass 147 = .ok (.istore 6, 2) := by decide +kernel
theorem dX12_pass_149 : decode cX12_pass 149 = .ok (.aload_n 0, 1) := by decide +kernel
theorem dX12_pass_150 : decode cX12_pass 150 = .ok (.getfield 29, 3) := by decide +kernel
theorem dX12_pass_153 : decode cX12_pass 153 = .ok (.iload_n 1, 1) := by decide +kernel
theorem dX12_pass_154 : decode cX12_pass 154 = .ok (.aload_n 0, 1) := by decide +kernel
theorem dX12_pass_155 : decode cX12_pass 155 = .ok (.getfield 29, 3) := by decide +kernel
theorem dX12_pass_158 : decode cX12_pass 158 = .ok (.iload_n 3, 1) := by decide +kernel
theorem dX12_pass_159 : decode cX12_pass 159 = .ok (.iaload, 1) := by decide +kernel
theorem dX12_pass_160 : decode cX12_pass 160 = .ok (.iastore, 1) := by decide +kernel
theorem dX12_pass_161 : decode cX12_pass 161 = .ok (.aload_n 0, 1) := by decide +kernel
theorem dX12_pass_162 : decode cX12_pass 162 = .ok (.getfield 29, 3) := by decide +kernel
theorem dX12_pass_165 : decode cX12_pass 165 = .ok (.iload_n 3, 1) := by decide +kernel
theorem dX12_pass_166 : decode cX12_pass 166 = .ok (.iload 6, 2) := by decide +kernel
theorem dX12_pass_168 : decode cX12_pass 168 = .ok (.iastore, 1) := by decide +kernel
theorem dX12_pass_169 : decode cX12_pass 169 = .ok (.aload_n 0, 1) := by decide +kernel
theorem dX12_pass_170 : decode cX12_pass 170 = .ok (.getfield 26, 3) := by decide +kernel
theorem dX12_pass_173 : decode cX12_pass 173 = .ok (.iload_n 1, 1) := by decide +kernel
theorem dX12_pass_174 : decode cX12_pass 174 = .ok (.iaload, 1) := by decide +kernel
theorem dX12_pass_175 : decode cX12_pass 175 = .ok (.istore 7, 2) := by decide +kernel
theorem dX12_pass_177 : decode cX12_pass 177 = .ok (.aload_n 0, 1) := by decide +kernel
theorem dX12_pass_178 : decode cX12_pass 178 = .ok (.getfield 26, 3) := by decide +kernel
theorem dX12_pass_181 : decode cX12_pass 181 = .ok (.iload_n 1, 1) := by decide +kernel
theorem dX12_pass_182 : decode cX12_pass 182 = .ok (.aload_n 0, 1) := by decide +kernel
theorem dX12_pass_183 : decode cX12_pass 183 = .ok (.getfield 26, 3) := by decide +kernel
theorem dX12_pass_186 : decode cX12_pass 186 = .ok (.iload_n 3, 1) := by decide +kernel
theorem dX12_pass_187 : decode cX12_pass 187 = .ok (.iaload, 1) := by decide +kernel
theorem dX12_pass_188 : decode cX12_pass 188 = .ok (.iastore, 1) := by decide +kernel
theorem dX12_pass_189 : decode cX12_pass 189 = .ok (.aload_n 0, 1) := by decide +kernel
theorem dX12_pass_190 : decode cX12_pass 190 = .ok (.getfield 26, 3) := by decide +kernel
theorem dX12_pass_193 : decode cX12_pass 193 = .ok (.iload_n 3, 1) := by decide +kernel
theorem dX12_pass_194 : decode cX12_pass 194 = .ok (.iload 7, 2) := by decide +kernel
theorem dX12_pass_196 : decode cX12_pass 196 = .ok (.iastore, 1) := by decide +kernel
theorem dX12_pass_197 : decode cX12_pass 197 = .ok (.aload_n 0, 1) := by decide +kernel
theorem dX12_pass_198 : decode cX12_pass 198 = .ok (.getfield 63, 3) := by decide +kernel
theorem dX12_pass_201 : decode cX12_pass 201 = .ok (.iload_n 1, 1) := by decide +kernel
theorem dX12_pass_202 : decode cX12_pass 202 = .ok (.iload_n 2, 1) := by decide +kernel
theorem dX12_pass_203 : decode cX12_pass 203 = .ok (.iconst 1, 1) := by decide +kernel
theorem dX12_pass_204 : decode cX12_pass 204 = .ok (.iadd, 1) := by decide +kernel
theorem dX12_pass_205 : decode cX12_pass 205 = .ok (.iastore, 1) := by decide +kernel
theorem dX12_pass_206 : decode cX12_pass 206 = .ok (.aload_n 0, 1) := by decide +kernel
theorem dX12_pass_207 : decode cX12_pass 207 = .ok (.getfield 60, 3) := by decide +kernel
theorem dX12_pass_210 : decode cX12_pass 210 = .ok (.aload_n 0, 1) := by decide +kernel
theorem dX12_pass_211 : decode cX12_pass 211 = .ok (.getfield 54, 3) := by decide +kernel
theorem dX12_pass_214 : decode cX12_pass 214 = .ok (.bipush 10, 2) := by decide +kernel
theorem dX12_pass_216 : decode cX12_pass 216 = .ok (.iload_n 1, 1) := by decide +kernel
theorem dX12_pass_217 : decode cX12_pass 217 = .ok (.imul, 1) := by decide +kernel
theorem dX12_pass_218 : decode cX12_pass 218 = .ok (.iload_n 2, 1) := by decide +kernel
theorem dX12_pass_219 : decode cX12_pass 219 = .ok (.iadd, 1) := by decide +kernel
theorem dX12_pass_220 : decode cX12_pass 220 = .ok (.iastore, 1) := by decide +kernel
theorem dX12_pass_221 : decode cX12_pass 221 = .ok (.aload_n 0, 1) := by decide +kernel
theorem dX12_pass_222 : decode cX12_pass 222 = .ok (.dup, 1) := by decide +kernel
theorem dX12_pass_223 : decode cX12_pass 223 = .ok (.getfield 54, 3) := by decide +kernel
theorem dX12_pass_226 : decode cX12_pass 226 = .ok (.iconst 1, 1) := by decide +kernel
theorem dX12_pass_227 : decode cX12_pass 227 = .ok (.iadd, 1) := by decide +kernel
theorem dX12_pass_228 : decode cX12_pass 228 = .ok (.putfield 54, 3) := by decide +kernel
theorem dX12_pass_231 : decode cX12_pass 231 = .ok (.aload_n 0, 1) := by decide +kernel
theorem dX12_pass_232 : decode cX12_pass 232 = .ok (.getfield 54, 3) := by decide +kernel
theorem dX12_pass_235 : decode cX12_pass 235 = .ok (.ireturn, 1) := by decide +kernel
theorem dX12_turn_0 : decode cX12_turn 0 = .ok (.iload_n 2, 1) := by decide +kernel
theorem dX12_turn_1 : decode cX12_turn 1 = .ok (.ifCond .ne 48, 3) := by decide +kernel
theorem dX12_turn_4 : decode cX12_turn 4 = .ok (.aload_n 1, 1) := by decide +kernel
theorem dX12_turn_5 : decode cX12_turn 5 = .ok (.aload_n 0, 1) := by decide +kernel
theorem dX12_turn_6 : decode cX12_turn 6 = .ok (.getfield 13, 3) := by decide +kernel
theorem dX12_turn_9 : decode cX12_turn 9 = .ok (.iconst 1, 1) := by decide +kernel
theorem dX12_turn_10 : decode cX12_turn 10 = .ok (.isub, 1) := by decide +kernel
theorem dX12_turn_11 : decode cX12_turn 11 = .ok (.iaload, 1) := by decide +kernel
theorem dX12_turn_12 : decode cX12_turn 12 = .ok (.istore_n 3, 1) := by decide +kernel
theorem dX12_turn_13 : decode cX12_turn 13 = .ok (.aload_n 0, 1) := by decide +kernel
theorem dX12_turn_14 : decode cX12_turn 14 = .ok (.getfield 13, 3) := by decide +kernel
theorem dX12_turn_17 : decode cX12_turn 17 = .ok (.iconst 1, 1) := by decide +kernel
theorem dX12_turn_18 : decode cX12_turn 18 = .ok (.isub, 1) := by decide +kernel
theorem dX12_turn_19 : decode cX12_turn 19 = .ok (.istore 4, 2) := by decide +kernel
theorem dX12_turn_21 : decode cX12_turn 21 = .ok (.iload 4, 2) := by decide +kernel
theorem dX12_turn_23 : decode cX12_turn 23 = .ok (.ifCond .le 19, 3) := by decide +kernel
theorem dX12_turn_26 : decode cX12_turn 26 = .ok (.aload_n 1, 1) := by decide +kernel
theorem dX12_turn_27 : decode cX12_turn 27 = .ok (.iload 4, 2) := by decide +kernel
theorem dX12_turn_29 : decode cX12_turn 29 = .ok (.aload_n 1, 1) := by decide +kernel
theorem dX12_turn_30 : decode cX12_turn 30 = .ok (.iload 4, 2) := by decide +kernel
theorem dX12_turn_32 : decode cX12_turn 32 = .ok (.iconst 1, 1) := by decide +kernel
theorem dX12_turn_33 : decode cX12_turn 33 = .ok (.isub, 1) := by decide +kernel
theorem dX12_turn_34 : decode cX12_turn 34 = .ok (.iaload, 1) := by decide +kernel
theorem dX12_turn_35 : decode cX12_turn 35 = .ok (.iastore, 1) := by decide +kernel
theorem dX12_turn_36 : decode cX12_turn 36 = .ok (.iinc 4 (-1), 3) := by decide +kernel
theorem dX12_turn_39 : decode cX12_turn 39 = .ok (.goto (-18), 3) := by decide +kernel
theorem dX12_turn_42 : decode cX12_turn 42 = .ok (.aload_n 1, 1) := by decide +kernel
theorem dX12_turn_43 : decode cX12_turn 43 = .ok (.iconst 0, 1) := by decide +kernel
theorem dX12_turn_44 : decode cX12_turn 44 = .ok (.iload_n 3, 1) := by decide +kernel
theorem dX12_turn_45 : decode cX12_turn 45 = .ok (.iastore, 1) := by decide +kernel
theorem dX12_turn_46 : decode cX12_turn 46 = .ok (.goto 46, 3) := by decide +kernel
theorem dX12_turn_49 : decode cX12_turn 49 = .ok (.aload_n 1, 1) := by decide +kernel
theorem dX12_turn_50 : decode cX12_turn 50 = .ok (.iconst 0, 1) := by decide +kernel
theorem dX12_turn_51 : decode cX12_turn 51 = .ok (.iaload, 1) := by decide +kernel
theorem dX12_turn_52 : decode cX12_turn 52 = .ok (.istore_n 3, 1) := by decide +kernel
theorem dX12_turn_53 : decode cX12_turn 53 = .ok (.iconst 0, 1) := by decide +kernel
theorem dX12_turn_54 : decode cX12_turn 54 = .ok (.istore 4, 2) := by decide +kernel
theorem dX12_turn_56 : decode cX12_turn 56 = .ok (.iload 4, 2) := by decide +kernel
theorem dX12_turn_58 : decode cX12_turn 58 = .ok (.aload_n 0, 1) := by decide +kernel
theorem dX12_turn_59 : decode cX12_turn 59 = .ok (.getfield 13, 3) := by decide +kernel
theorem dX12_turn_62 : decode cX12_turn 62 = .ok (.iconst 1, 1) := by decide +kernel
theorem dX12_turn_63 : decode cX12_turn 63 = .ok (.isub, 1) := by decide +kernel
theorem dX12_turn_64 : decode cX12_turn 64 = .ok (.if_icmp .ge 19, 3) := by decide +kernel
theorem dX12_turn_67 : decode cX12_turn 67 = .ok (.aload_n 1, 1) := by decide +kernel
theorem dX12_turn_68 : decode cX12_turn 68 = .ok (.iload 4, 2) := by decide +kernel
theorem dX12_turn_70 : decode cX12_turn 70 = .ok (.aload_n 1, 1) := by decide +kernel
theorem dX12_turn_71 : decode cX12_turn 71 = .ok (.iload 4, 2) := by decide +kernel
theorem dX12_turn_73 : decode cX12_turn 73 = .ok (.iconst 1, 1) := by decide +kernel
theorem dX12_turn_74 : decode cX12_turn 74 = .ok (.iadd, 1) := by decide +kernel
theorem dX12_turn_75 : decode cX12_turn 75 = .ok (.iaload, 1) := by decide +kernel
theorem dX12_turn_76 : decode cX12_turn 76 = .ok (.iastore, 1) := by decide +kernel
theorem dX12_turn_77 : decode cX12_turn 77 = .ok (.iinc 4 1, 3) := by decide +kernel
theorem dX12_turn_80 : decode cX12_turn 80 = .ok (.goto (-24), 3) := by decide +kernel
theorem dX12_turn_83 : decode cX12_turn 83 = .ok (.aload_n 1, 1) := by decide +kernel
theorem dX12_turn_84 : decode cX12_turn 84 = .ok (.aload_n 0, 1) := by decide +kernel
theorem dX12_turn_85 : decode cX12_turn 85 = .ok (.getfield 13, 3) := by decide +kernel
theorem dX12_turn_88 : decode cX12_turn 88 = .ok (.iconst 1, 1) := by decide +kernel
theorem dX12_turn_89 : decode cX12_turn 89 = .ok (.isub, 1) := by decide +kernel
theorem dX12_turn_90 : decode cX12_turn 90 = .ok (.iload_n 3, 1) := by decide +kernel
theorem dX12_turn_91 : decode cX12_turn 91 = .ok (.iastore, 1) := by decide +kernel
theorem dX12_turn_92 : decode cX12_turn 92 = .ok (.return_, 1) := by decide +kernel
theorem dX12_walk_0 : decode cX12_walk 0 = .ok (.aload_n 0, 1) := by decide +kernel
theorem dX12_walk_1 : decode cX12_walk 1 = .ok (.iload_n 1, 1) := by decide +kernel
theorem dX12_walk_2 : decode cX12_walk 2 = .ok (.iconst 0, 1) := by decide +kernel
theorem dX12_walk_3 : decode cX12_walk 3 = .ok (.iconst 1, 1) := by decide +kernel
theorem dX12_walk_4 : decode cX12_walk 4 = .ok (.invokevirtual 195, 3) := by decide +kernel
theorem dX12_walk_7 : decode cX12_walk 7 = .ok (.ifCond .ne 6, 3) := by decide +kernel
theorem dX12_walk_10 : decode cX12_walk 10 = .ok (.bipush (-2), 2) := by decide +kernel
theorem dX12_walk_12 : decode cX12_walk 12 = .ok (.ireturn, 1) := by decide +kernel
theorem dX12_walk_13 : decode cX12_walk 13 = .ok (.aload_n 0, 1) := by decide +kernel
theorem dX12_walk_14 : decode cX12_walk 14 = .ok (.getfield 44, 3) := by decide +kernel
theorem dX12_walk_17 : decode cX12_walk 17 = .ok (.ifCond .ne 6, 3) := by decide +kernel
theorem dX12_walk_20 : decode cX12_walk 20 = .ok (.bipush (-3), 2) := by decide +kernel
theorem dX12_walk_22 : decode cX12_walk 22 = .ok (.ireturn, 1) := by decide +kernel
theorem dX12_walk_23 : decode cX12_walk 23 = .ok (.aload_n 0, 1) := by decide +kernel
theorem dX12_walk_24 : decode cX12_walk 24 = .ok (.invokevirtual 211, 3) := by decide +kernel
theorem dX12_walk_27 : decode cX12_walk 27 = .ok (.istore_n 2, 1) := by decide +kernel
theorem dX12_walk_28 : decode cX12_walk 28 = .ok (.iconst 0, 1) := by decide +kernel
theorem dX12_walk_29 : decode cX12_walk 29 = .ok (.istore_n 3, 1) := by decide +kernel
theorem dX12_walk_30 : decode cX12_walk 30 = .ok (.iload_n 3, 1) := by decide +kernel
theorem dX12_walk_31 : decode cX12_walk 31 = .ok (.aload_n 0, 1) := by decide +kernel
theorem dX12_walk_32 : decode cX12_walk 32 = .ok (.getfield 13, 3) := by decide +kernel
theorem dX12_walk_35 : decode cX12_walk 35 = .ok (.if_icmp .ge 22, 3) := by decide +kernel
theorem dX12_walk_38 : decode cX12_walk 38 = .ok (.aload_n 0, 1) := by decide +kernel
theorem dX12_walk_39 : decode cX12_walk 39 = .ok (.getfield 35, 3) := by decide +kernel
theorem dX12_walk_42 : decode cX12_walk 42 = .ok (.iload_n 3, 1) := by decide +kernel
theorem dX12_walk_43 : decode cX12_walk 43 = .ok (.iaload, 1) := by decide +kernel
theorem dX12_walk_44 : decode cX12_walk 44 = .ok (.iload_n 2, 1) := by decide +kernel
theorem dX12_walk_45 : decode cX12_walk 45 = .ok (.if_icmp .ge 6, 3) := by decide +kernel
theorem dX12_walk_48 : decode cX12_walk 48 = .ok (.bipush (-3), 2) := by decide +kernel
theorem dX12_walk_50 : decode cX12_walk 50 = .ok (.ireturn, 1) := by decide +kernel
theorem dX12_walk_51 : decode cX12_walk 51 = .ok (.iinc 3 1, 3) := by decide +kernel
theorem dX12_walk_54 : decode cX12_walk 54 = .ok (.goto (-24), 3) := by decide +kernel
theorem dX12_walk_57 : decode cX12_walk 57 = .ok (.aload_n 0, 1) := by decide +kernel
theorem dX12_walk_58 : decode cX12_walk 58 = .ok (.getfield 54, 3) := by decide +kernel
theorem dX12_walk_61 : decode cX12_walk 61 = .ok (.sipush 300, 3) := by decide +kernel
theorem dX12_walk_64 : decode cX12_walk 64 = .ok (.if_icmp .eq 12, 3) := by decide +kernel
theorem dX12_walk_67 : decode cX12_walk 67 = .ok (.aload_n 0, 1) := by decide +kernel
theorem dX12_walk_68 : decode cX12_walk 68 = .ok (.getfield 57, 3) := by decide +kernel
theorem dX12_walk_71 : decode cX12_walk 71 = .ok (.bipush 100, 2) := by decide +kernel
theorem dX12_walk_73 : decode cX12_walk 73 = .ok (.if_icmp .ne 6, 3) := by decide +kernel
theorem dX12_walk_76 : decode cX12_walk 76 = .ok (.bipush (-4), 2) := by decide +kernel
theorem dX12_walk_78 : decode cX12_walk 78 = .ok (.ireturn, 1) := by decide +kernel
theorem dX12_walk_79 : decode cX12_walk 79 = .ok (.iconst 0, 1) := by decide +kernel
theorem dX12_walk_80 : decode cX12_walk 80 = .ok (.istore_n 3, 1) := by decide +kernel
theorem dX12_walk_81 : decode cX12_walk 81 = .ok (.iload_n 3, 1) := by decide +kernel
theorem dX12_walk_82 : decode cX12_walk 82 = .ok (.aload_n 0, 1) := by decide +kernel
theorem dX12_walk_83 : decode cX12_walk 83 = .ok (.getfield 13, 3) := by decide +kernel
theorem dX12_walk_86 : decode cX12_walk 86 = .ok (.if_icmp .ge 19, 3) := by decide +kernel
theorem dX12_walk_89 : decode cX12_walk 89 = .ok (.aload_n 0, 1) := by decide +kernel
theorem dX12_walk_90 : decode cX12_walk 90 = .ok (.getfield 35, 3) := by decide +kernel
theorem dX12_walk_93 : decode cX12_walk 93 = .ok (.iload_n 3, 1) := by decide +kernel
theorem dX12_walk_94 : decode cX12_walk 94 = .ok (.dup2, 1) := by decide +kernel
theorem dX12_walk_95 : decode cX12_walk 95 = .ok (.iaload, 1) := by decide +kernel
theorem dX12_walk_96 : decode cX12_walk 96 = .ok (.iload_n 2, 1) := by decide +kernel
theorem dX12_walk_97 : decode cX12_walk 97 = .ok (.isub, 1) := by decide +kernel
theorem dX12_walk_98 : decode cX12_walk 98 = .ok (.iastore, 1) := by decide +kernel
theorem dX12_walk_99 : decode cX12_walk 99 = .ok (.iinc 3 1, 3) := by decide +kernel
theorem dX12_walk_102 : decode cX12_walk 102 = .ok (.goto (-21), 3) := by decide +kernel
theorem dX12_walk_105 : decode cX12_walk 105 = .ok (.aload_n 0, 1) := by decide +kernel
theorem dX12_walk_106 : decode cX12_walk 106 = .ok (.aload_n 0, 1) := by decide +kernel
theorem dX12_walk_107 : decode cX12_walk 107 = .ok (.getfield 29, 3) := by decide +kernel
theorem dX12_walk_110 : decode cX12_walk 110 = .ok (.iload_n 1, 1) := by decide +kernel
theorem dX12_walk_111 : decode cX12_walk 111 = .ok (.invokevirtual 215, 3) := by decide +kernel
theorem dX12_walk_114 : decode cX12_walk 114 = .ok (.aload_n 0, 1) := by decide +kernel
theorem dX12_walk_115 : decode cX12_walk 115 = .ok (.aload_n 0, 1) := by decide +kernel
theorem dX12_walk_116 : decode cX12_walk 116 = .ok (.getfield 26, 3) := by decide +kernel
theorem dX12_walk_119 : decode cX12_walk 119 = .ok (.iload_n 1, 1) := by decide +kernel
theorem dX12_walk_120 : decode cX12_walk 120 = .ok (.invokevirtual 215, 3) := by decide +kernel
theorem dX12_walk_123 : decode cX12_walk 123 = .ok (.iconst 0, 1) := by decide +kernel
theorem dX12_walk_124 : decode cX12_walk 124 = .ok (.istore_n 3, 1) := by decide +kernel
theorem dX12_walk_125 : decode cX12_walk 125 = .ok (.iload_n 3, 1) := by decide +kernel
theorem dX12_walk_126 : decode cX12_walk 126 = .ok (.aload_n 0, 1) := by decide +kernel
theorem dX12_walk_127 : decode cX12_walk 127 = .ok (.getfield 13, 3) := by decide +kernel
theorem dX12_walk_130 : decode cX12_walk 130 = .ok (.if_icmp .ge 56, 3) := by decide +kernel
theorem dX12_walk_133 : decode cX12_walk 133 = .ok (.aload_n 0, 1) := by decide +kernel
theorem dX12_walk_134 : decode cX12_walk 134 = .ok (.getfield 66, 3) := by decide +kernel
theorem dX12_walk_137 : decode cX12_walk 137 = .ok (.bipush 9, 2) := by decide +kernel
theorem dX12_walk_139 : decode cX12_walk 139 = .ok (.aload_n 0, 1) := by decide +kernel
theorem dX12_walk_140 : decode cX12_walk 140 = .ok (.getfield 57, 3) := by decide +kernel
theorem dX12_walk_143 : decode cX12_walk 143 = .ok (.imul, 1) := by decide +kernel
theorem dX12_walk_144 : decode cX12_walk 144 = .ok (.iload_n 3, 1) := by decide +kernel
theorem dX12_walk_145 : decode cX12_walk 145 = .ok (.iadd, 1) := by decide +kernel
theorem dX12_walk_146 : decode cX12_walk 146 = .ok (.aload_n 0, 1) := by decide +kernel
theorem dX12_walk_147 : decode cX12_walk 147 = .ok (.getfield 29, 3) := by decide +kernel
theorem dX12_walk_150 : decode cX12_walk 150 = .ok (.iload_n 3, 1) := by decide +kernel
theorem dX12_walk_151 : decode cX12_walk 151 = .ok (.iaload, 1) := by decide +kernel
theorem dX12_walk_152 : decode cX12_walk 152 = .ok (.iastore, 1) := by decide +kernel
theorem dX12_walk_153 : decode cX12_walk 153 = .ok (.aload_n 0, 1) := by decide +kernel
theorem dX12_walk_154 : decode cX12_walk 154 = .ok (.getfield 69, 3) := by decide +kernel
theorem dX12_walk_157 : decode cX12_walk 157 = .ok (.bipush 9, 2) := by decide +kernel
theorem dX12_walk_159 : decode cX12_walk 159 = .ok (.aload_n 0, 1) := by decide +kernel
theorem dX12_walk_160 : decode cX12_walk 160 = .ok (.getfield 57, 3) := by decide +kernel
theorem dX12_walk_163 : decode cX12_walk 163 = .ok (.imul, 1) := by decide +kernel
theorem dX12_walk_164 : decode cX12_walk 164 = .ok (.iload_n 3, 1) := by decide +kernel
theorem dX12_walk_165 : decode cX12_walk 165 = .ok (.iadd, 1) := by decide +kernel
theorem dX12_walk_166 : decode cX12_walk 166 = .ok (.aload_n 0, 1) := by decide +kernel
theorem dX12_walk_167 : decode cX12_walk 167 = .ok (.getfield 63, 3) := by decide +kernel
theorem dX12_walk_170 : decode cX12_walk 170 = .ok (.iload_n 3, 1) := by decide +kernel
theorem dX12_walk_171 : decode cX12_walk 171 = .ok (.iaload, 1) := by decide +kernel
theorem dX12_walk_172 : decode cX12_walk 172 = .ok (.iastore, 1) := by decide +kernel
theorem dX12_walk_173 : decode cX12_walk 173 = .ok (.aload_n 0, 1) := by decide +kernel
theorem dX12_walk_174 : decode cX12_walk 174 = .ok (.getfield 63, 3) := by decide +kernel
theorem dX12_walk_177 : decode cX12_walk 177 = .ok (.iload_n 3, 1) := by decide +kernel
theorem dX12_walk_178 : decode cX12_walk 178 = .ok (.iconst 0, 1) := by decide +kernel
theorem dX12_walk_179 : decode cX12_walk 179 = .ok (.iastore, 1) := by decide +kernel
theorem dX12_walk_180 : decode cX12_walk 180 = .ok (.iinc 3 1, 3) := by decide +kernel
theorem dX12_walk_183 : decode cX12_walk 183 = .ok (.goto (-58), 3) := by decide +kernel
theorem dX12_walk_186 : decode cX12_walk 186 = .ok (.aload_n 0, 1) := by decide +kernel
theorem dX12_walk_187 : decode cX12_walk 187 = .ok (.dup, 1) := by decide +kernel
theorem dX12_walk_188 : decode cX12_walk 188 = .ok (.getfield 57, 3) := by decide +kernel
theorem dX12_walk_191 : decode cX12_walk 191 = .ok (.iconst 1, 1) := by decide +kernel
theorem dX12_walk_192 : decode cX12_walk 192 = .ok (.iadd, 1) := by decide +kernel
theorem dX12_walk_193 : decode cX12_walk 193 = .ok (.putfield 57, 3) := by decide +kernel
theorem dX12_walk_196 : decode cX12_walk 196 = .ok (.aload_n 0, 1) := by decide +kernel
theorem dX12_walk_197 : decode cX12_walk 197 = .ok (.getfield 60, 3) := by decide +kernel
theorem dX12_walk_200 : decode cX12_walk 200 = .ok (.aload_n 0, 1) := by decide +kernel
theorem dX12_walk_201 : decode cX12_walk 201 = .ok (.getfield 54, 3) := by decide +kernel
theorem dX12_walk_204 : decode cX12_walk 204 = .ok (.bipush 100, 2) := by decide +kernel
theorem dX12_walk_206 : decode cX12_walk 206 = .ok (.iload_n 1, 1) := by decide +kernel
theorem dX12_walk_207 : decode cX12_walk 207 = .ok (.iadd, 1) := by decide +kernel
theorem dX12_walk_208 : decode cX12_walk 208 = .ok (.iastore, 1) := by decide +kernel
theorem dX12_walk_209 : decode cX12_walk 209 = .ok (.aload_n 0, 1) := by decide +kernel
theorem dX12_walk_210 : decode cX12_walk 210 = .ok (.dup, 1) := by decide +kernel
theorem dX12_walk_211 : decode cX12_walk 211 = .ok (.getfield 54, 3) := by decide +kernel
theorem dX12_walk_214 : decode cX12_walk 214 = .ok (.iconst 1, 1) := by decide +kernel
theorem dX12_walk_215 : decode cX12_walk 215 = .ok (.iadd, 1) := by decide +kernel
theorem dX12_walk_216 : decode cX12_walk 216 = .ok (.putfield 54, 3) := by decide +kernel
theorem dX12_walk_219 : decode cX12_walk 219 = .ok (.aload_n 0, 1) := by decide +kernel
theorem dX12_walk_220 : decode cX12_walk 220 = .ok (.getfield 54, 3) := by decide +kernel
theorem dX12_walk_223 : decode cX12_walk 223 = .ok (.ireturn, 1) := by decide +kernel
theorem dX12_step_0 : decode cX12_step 0 = .ok (.aload_n 0, 1) := by decide +kernel
theorem dX12_step_1 : decode cX12_step 1 = .ok (.iload_n 1, 1) := by decide +kernel
theorem dX12_step_2 : decode cX12_step 2 = .ok (.iconst 0, 1) := by decide +kernel
theorem dX12_step_3 : decode cX12_step 3 = .ok (.aload_n 0, 1) := by decide +kernel
theorem dX12_step_4 : decode cX12_step 4 = .ok (.getfield 54, 3) := by decide +kernel
theorem dX12_step_7 : decode cX12_step 7 = .ok (.iconst 1, 1) := by decide +kernel
theorem dX12_step_8 : decode cX12_step 8 = .ok (.isub, 1) := by decide +kernel
theorem dX12_step_9 : decode cX12_step 9 = .ok (.invokevirtual 195, 3) := by decide +kernel
theorem dX12_step_12 : decode cX12_step 12 = .ok (.ifCond .eq 12, 3) := by decide +kernel
theorem dX12_step_15 : decode cX12_step 15 = .ok (.aload_n 0, 1) := by decide +kernel
theorem dX12_step_16 : decode cX12_step 16 = .ok (.getfield 60, 3) := by decide +kernel
theorem dX12_step_19 : decode cX12_step 19 = .ok (.iload_n 1, 1) := by decide +kernel
theorem dX12_step_20 : decode cX12_step 20 = .ok (.iaload, 1) := by decide +kernel
theorem dX12_step_21 : decode cX12_step 21 = .ok (.goto 4, 3) := by decide +kernel
theorem dX12_step_24 : decode cX12_step 24 = .ok (.iconst (-1), 1) := by decide +kernel
theorem dX12_step_25 : decode cX12_step 25 = .ok (.ireturn, 1) := by decide +kernel
theorem dX12_rows_0 : decode cX12_rows 0 = .ok (.aload_n 0, 1) := by decide +kernel
theorem dX12_rows_1 : decode cX12_rows 1 = .ok (.getfield 57, 3) := by decide +kernel
theorem dX12_rows_4 : decode cX12_rows 4 = .ok (.ireturn, 1) := by decide +kernel
theorem dX12_topRibbon_0 : decode cX12_topRibbon 0 = .ok (.aload_n 0, 1) := by decide +kernel
theorem dX12_topRibbon_1 : decode cX12_topRibbon 1 = .ok (.getfield 69, 3) := by decide +kernel
theorem dX12_topRibbon_4 : decode cX12_topRibbon 4 = .ok (.bipush 9, 2) := by decide +kernel
theorem dX12_topRibbon_6 : decode cX12_topRibbon 6 = .ok (.iload_n 1, 1) := by decide +kernel
theorem dX12_topRibbon_7 : decode cX12_topRibbon 7 = .ok (.imul, 1) := by decide +kernel
theorem dX12_topRibbon_8 : decode cX12_topRibbon 8 = .ok (.iload_n 2, 1) := by decide +kernel
theorem dX12_topRibbon_9 : decode cX12_topRibbon 9 = .ok (.iadd, 1) := by decide +kernel
theorem dX12_topRibbon_10 : decode cX12_topRibbon 10 = .ok (.iaload, 1) := by decide +kernel
theorem dX12_topRibbon_11 : decode cX12_topRibbon 11 = .ok (.iconst 1, 1) := by decide +kernel
theorem dX12_topRibbon_12 : decode cX12_topRibbon 12 = .ok (.if_icmp .ne 40, 3) := by decide +kernel
theorem dX12_topRibbon_15 : decode cX12_topRibbon 15 = .ok (.aload_n 0, 1) := by decide +kernel
theorem dX12_topRibbon_16 : decode cX12_topRibbon 16 = .ok (.getfield 69, 3) := by decide +kernel
theorem dX12_topRibbon_19 : decode cX12_topRibbon 19 = .ok (.bipush 9, 2) := by decide +kernel
theorem dX12_topRibbon_21 : decode cX12_topRibbon 21 = .ok (.iload_n 1, 1) := by decide +kernel
theorem dX12_topRibbon_22 : decode cX12_topRibbon 22 = .ok (.imul, 1) := by decide +kernel
theorem dX12_topRibbon_23 : decode cX12_topRibbon 23 = .ok (.aload_n 0, 1) := by decide +kernel
theorem dX12_topRibbon_24 : decode cX12_topRibbon 24 = .ok (.iload_n 2, 1) := by decide +kernel
theorem dX12_topRibbon_25 : decode cX12_topRibbon 25 = .ok (.invokevirtual 219, 3) := by decide +kernel
theorem dX12_topRibbon_28 : decode cX12_topRibbon 28 = .ok (.iadd, 1) := by decide +kernel
theorem dX12_topRibbon_29 : decode cX12_topRibbon 29 = .ok (.iaload, 1) := by decide +kernel
theorem dX12_topRibbon_30 : decode cX12_topRibbon 30 = .ok (.iconst 2, 1) := by decide +kernel
theorem dX12_topRibbon_31 : decode cX12_topRibbon 31 = .ok (.if_icmp .eq 21, 3) := by decide +kernel
theorem dX12_topRibbon_34 : decode cX12_topRibbon 34 = .ok (.aload_n 0, 1) := by decide +kernel
theorem dX12_topRibbon_35 : decode cX12_topRibbon 35 = .ok (.getfield 66, 3) := by decide +kernel
theorem dX12_topRibbon_38 : decode cX12_topRibbon 38 = .ok (.bipush 9, 2) := by decide +kernel
theorem dX12_topRibbon_40 : decode cX12_topRibbon 40 = .ok (.iload_n 1, 1) := by decide +kernel
theorem dX12_topRibbon_41 : decode cX12_topRibbon 41 = .ok (.imul, 1) := by decide +kernel
theorem dX12_topRibbon_42 : decode cX12_topRibbon 42 = .ok (.aload_n 0, 1) := by decide +kernel
theorem dX12_topRibbon_43 : decode cX12_topRibbon 43 = .ok (.iload_n 2, 1) := by decide +kernel
theorem dX12_topRibbon_44 : decode cX12_topRibbon 44 = .ok (.invokevirtual 207, 3) := by decide +kernel
theorem dX12_topRibbon_47 : decode cX12_topRibbon 47 = .ok (.iadd, 1) := by decide +kernel
theorem dX12_topRibbon_48 : decode cX12_topRibbon 48 = .ok (.iaload, 1) := by decide +kernel
theorem dX12_topRibbon_49 : decode cX12_topRibbon 49 = .ok (.goto 14, 3) := by decide +kernel
theorem dX12_topRibbon_52 : decode cX12_topRibbon 52 = .ok (.aload_n 0, 1) := by decide +kernel
theorem dX12_topRibbon_53 : decode cX12_topRibbon 53 = .ok (.getfield 66, 3) := by decide +kernel
theorem dX12_topRibbon_56 : decode cX12_topRibbon 56 = .ok (.bipush 9, 2) := by decide +kernel
theorem dX12_topRibbon_58 : decode cX12_topRibbon 58 = .ok (.iload_n 1, 1) := by decide +kernel
theorem dX12_topRibbon_59 : decode cX12_topRibbon 59 = .ok (.imul, 1) := by decide +kernel
theorem dX12_topRibbon_60 : decode cX12_topRibbon 60 = .ok (.iload_n 2, 1) := by decide +kernel
theorem dX12_topRibbon_61 : decode cX12_topRibbon 61 = .ok (.iadd, 1) := by decide +kernel
theorem dX12_topRibbon_62 : decode cX12_topRibbon 62 = .ok (.iaload, 1) := by decide +kernel
theorem dX12_topRibbon_63 : decode cX12_topRibbon 63 = .ok (.ireturn, 1) := by decide +kernel
theorem dX12_cloth_0 : decode cX12_cloth 0 = .ok (.aload_n 0, 1) := by decide +kernel
theorem dX12_cloth_1 : decode cX12_cloth 1 = .ok (.iload_n 1, 1) := by decide +kernel
theorem dX12_cloth_2 : decode cX12_cloth 2 = .ok (.iconst 0, 1) := by decide +kernel
theorem dX12_cloth_3 : decode cX12_cloth 3 = .ok (.aload_n 0, 1) := by decide +kernel
theorem dX12_cloth_4 : decode cX12_cloth 4 = .ok (.getfield 57, 3) := by decide +kernel
theorem dX12_cloth_7 : decode cX12_cloth 7 = .ok (.iconst 1, 1) := by decide +kernel
theorem dX12_cloth_8 : decode cX12_cloth 8 = .ok (.isub, 1) := by decide +kernel
theorem dX12_cloth_9 : decode cX12_cloth 9 = .ok (.invokevirtual 195, 3) := by decide +kernel
theorem dX12_cloth_12 : decode cX12_cloth 12 = .ok (.ifCond .eq 21, 3) := by decide +kernel
theorem dX12_cloth_15 : decode cX12_cloth 15 = .ok (.aload_n 0, 1) := by decide +kernel
theorem dX12_cloth_16 : decode cX12_cloth 16 = .ok (.iload_n 2, 1) := by decide +kernel
theorem dX12_cloth_17 : decode cX12_cloth 17 = .ok (.invokevirtual 199, 3) := by decide +kernel
theorem dX12_cloth_20 : decode cX12_cloth 20 = .ok (.ifCond .eq 13, 3) := by decide +kernel
theorem dX12_cloth_23 : decode cX12_cloth 23 = .ok (.aload_n 0, 1) := by decide +kernel
theorem dX12_cloth_24 : decode cX12_cloth 24 = .ok (.iload_n 3, 1) := by decide +kernel
theorem dX12_cloth_25 : decode cX12_cloth 25 = .ok (.iconst 0, 1) := by decide +kernel
theorem dX12_cloth_26 : decode cX12_cloth 26 = .ok (.iconst 2, 1) := by decide +kernel
theorem dX12_cloth_27 : decode cX12_cloth 27 = .ok (.invokevirtual 195, 3) := by decide +kernel
theorem dX12_cloth_30 : decode cX12_cloth 30 = .ok (.ifCond .ne 5, 3) := by decide +kernel
theorem dX12_cloth_33 : decode cX12_cloth 33 = .ok (.iconst (-1), 1) := by decide +kernel
theorem dX12_cloth_34 : decode cX12_cloth 34 = .ok (.ireturn, 1) := by decide +kernel
theorem dX12_cloth_35 : decode cX12_cloth 35 = .ok (.iload_n 3, 1) := by decide +kernel
theorem dX12_cloth_36 : decode cX12_cloth 36 = .ok (.ifCond .ne 17, 3) := by decide +kernel
theorem dX12_cloth_39 : decode cX12_cloth 39 = .ok (.aload_n 0, 1) := by decide +kernel
theorem dX12_cloth_40 : decode cX12_cloth 40 = .ok (.getfield 66, 3) := by decide +kernel
theorem dX12_cloth_43 : decode cX12_cloth 43 = .ok (.bipush 9, 2) := by decide +kernel
theorem dX12_cloth_45 : decode cX12_cloth 45 = .ok (.iload_n 1, 1) := by decide +kernel
theorem dX12_cloth_46 : decode cX12_cloth 46 = .ok (.imul, 1) := by decide +kernel
theorem dX12_cloth_47 : decode cX12_cloth 47 = .ok (.iload_n 2, 1) := by decide +kernel
theorem dX12_cloth_48 : decode cX12_cloth 48 = .ok (.iadd, 1) := by decide +kernel
theorem dX12_cloth_49 : decode cX12_cloth 49 = .ok (.iaload, 1) := by decide +kernel
theorem dX12_cloth_50 : decode cX12_cloth 50 = .ok (.goto 33, 3) := by decide +kernel
theorem dX12_cloth_53 : decode cX12_cloth 53 = .ok (.iload_n 3, 1) := by decide +kernel
theorem dX12_cloth_54 : decode cX12_cloth 54 = .ok (.iconst 1, 1) := by decide +kernel
theorem dX12_cloth_55 : decode cX12_cloth 55 = .ok (.if_icmp .ne 17, 3) := by decide +kernel
theorem dX12_cloth_58 : decode cX12_cloth 58 = .ok (.aload_n 0, 1) := by decide +kernel
theorem dX12_cloth_59 : decode cX12_cloth 59 = .ok (.getfield 69, 3) := by decide +kernel
theorem dX12_cloth_62 : decode cX12_cloth 62 = .ok (.bipush 9, 2) := by decide +kernel
theorem dX12_cloth_64 : decode cX12_cloth 64 = .ok (.iload_n 1, 1) := by decide +kernel
theorem dX12_cloth_65 : decode cX12_cloth 65 = .ok (.imul, 1) := by decide +kernel
theorem dX12_cloth_66 : decode cX12_cloth 66 = .ok (.iload_n 2, 1) := by decide +kernel
theorem dX12_cloth_67 : decode cX12_cloth 67 = .ok (.iadd, 1) := by decide +kernel
theorem dX12_cloth_68 : decode cX12_cloth 68 = .ok (.iaload, 1) := by decide +kernel
theorem dX12_cloth_69 : decode cX12_cloth 69 = .ok (.goto 14, 3) := by decide +kernel
theorem dX12_cloth_72 : decode cX12_cloth 72 = .ok (.aload_n 0, 1) := by decide +kernel
theorem dX12_cloth_73 : decode cX12_cloth 73 = .ok (.getfield 41, 3) := by decide +kernel
theorem dX12_cloth_76 : decode cX12_cloth 76 = .ok (.aload_n 0, 1) := by decide +kernel
theorem dX12_cloth_77 : decode cX12_cloth 77 = .ok (.iload_n 1, 1) := by decide +kernel
theorem dX12_cloth_78 : decode cX12_cloth 78 = .ok (.iload_n 2, 1) := by decide +kernel
theorem dX12_cloth_79 : decode cX12_cloth 79 = .ok (.invokevirtual 222, 3) := by decide +kernel
theorem dX12_cloth_82 : decode cX12_cloth 82 = .ok (.iaload, 1) := by decide +kernel
theorem dX12_cloth_83 : decode cX12_cloth 83 = .ok (.ireturn, 1) := by decide +kernel
theorem dX12_areLike_0 : decode cX12_areLike 0 = .ok (.iconst 1, 1) := by decide +kernel
theorem dX12_areLike_1 : decode cX12_areLike 1 = .ok (.istore_n 3, 1) := by decide +kernel
theorem dX12_areLike_2 : decode cX12_areLike 2 = .ok (.iconst 0, 1) := by decide +kernel
theorem dX12_areLike_3 : decode cX12_areLike 3 = .ok (.istore 4, 2) := by decide +kernel
theorem dX12_areLike_5 : decode cX12_areLike 5 = .ok (.iload 4, 2) := by decide +kernel
theorem dX12_areLike_7 : decode cX12_areLike 7 = .ok (.aload_n 0, 1) := by decide +kernel
theorem dX12_areLike_8 : decode cX12_areLike 8 = .ok (.getfield 13, 3) := by decide +kernel
theorem dX12_areLike_11 : decode cX12_areLike 11 = .ok (.if_icmp .ge 46, 3) := by decide +kernel
theorem dX12_areLike_14 : decode cX12_areLike 14 = .ok (.iload_n 3, 1) := by decide +kernel
theorem dX12_areLike_15 : decode cX12_areLike 15 = .ok (.ifCond .eq 34, 3) := by decide +kernel
theorem dX12_areLike_18 : decode cX12_areLike 18 = .ok (.aload_n 0, 1) := by decide +kernel
theorem dX12_areLike_19 : decode cX12_areLike 19 = .ok (.getfield 41, 3) := by decide +kernel
theorem dX12_areLike_22 : decode cX12_areLike 22 = .ok (.aload_n 0, 1) := by decide +kernel
theorem dX12_areLike_23 : decode cX12_areLike 23 = .ok (.iload_n 1, 1) := by decide +kernel
theorem dX12_areLike_24 : decode cX12_areLike 24 = .ok (.iload 4, 2) := by decide +kernel
theorem dX12_areLike_26 : decode cX12_areLike 26 = .ok (.invokevirtual 222, 3) := by decide +kernel
theorem dX12_areLike_29 : decode cX12_areLike 29 = .ok (.iaload, 1) := by decide +kernel
theorem dX12_areLike_30 : decode cX12_areLike 30 = .ok (.aload_n 0, 1) := by decide +kernel
theorem dX12_areLike_31 : decode cX12_areLike 31 = .ok (.getfield 41, 3) := by decide +kernel
theorem dX12_areLike_34 : decode cX12_areLike 34 = .ok (.aload_n 0, 1) := by decide +kernel
theorem dX12_areLike_35 : decode cX12_areLike 35 = .ok (.iload_n 2, 1) := by decide +kernel
theorem dX12_areLike_36 : decode cX12_areLike 36 = .ok (.iload 4, 2) := by decide +kernel
theorem dX12_areLike_38 : decode cX12_areLike 38 = .ok (.invokevirtual 222, 3) := by decide +kernel
theorem dX12_areLike_41 : decode cX12_areLike 41 = .ok (.iaload, 1) := by decide +kernel
theorem dX12_areLike_42 : decode cX12_areLike 42 = .ok (.if_icmp .ne 7, 3) := by decide +kernel
theorem dX12_areLike_45 : decode cX12_areLike 45 = .ok (.iconst 1, 1) := by decide +kernel
theorem dX12_areLike_46 : decode cX12_areLike 46 = .ok (.goto 4, 3) := by decide +kernel
theorem dX12_areLike_49 : decode cX12_areLike 49 = .ok (.iconst 0, 1) := by decide +kernel
theorem dX12_areLike_50 : decode cX12_areLike 50 = .ok (.istore_n 3, 1) := by decide +kernel
theorem dX12_areLike_51 : decode cX12_areLike 51 = .ok (.iinc 4 1, 3) := by decide +kernel
theorem dX12_areLike_54 : decode cX12_areLike 54 = .ok (.goto (-49), 3) := by decide +kernel
theorem dX12_areLike_57 : decode cX12_areLike 57 = .ok (.iload_n 3, 1) := by decide +kernel
theorem dX12_areLike_58 : decode cX12_areLike 58 = .ok (.ireturn, 1) := by decide +kernel
theorem dX12_beat_0 : decode cX12_beat 0 = .ok (.aload_n 0, 1) := by decide +kernel
theorem dX12_beat_1 : decode cX12_beat 1 = .ok (.getfield 57, 3) := by decide +kernel
theorem dX12_beat_4 : decode cX12_beat 4 = .ok (.ifCond .ne 6, 3) := by decide +kernel
theorem dX12_beat_7 : decode cX12_beat 7 = .ok (.bipush (-3), 2) := by decide +kernel
theorem dX12_beat_9 : decode cX12_beat 9 = .ok (.ireturn, 1) := by decide +kernel
theorem dX12_beat_10 : decode cX12_beat 10 = .ok (.iconst 1, 1) := by decide +kernel
theorem dX12_beat_11 : decode cX12_beat 11 = .ok (.istore_n 1, 1) := by decide +kernel
theorem dX12_beat_12 : decode cX12_beat 12 = .ok (.iload_n 1, 1) := by decide +kernel
theorem dX12_beat_13 : decode cX12_beat 13 = .ok (.aload_n 0, 1) := by decide +kernel
theorem dX12_beat_14 : decode cX12_beat 14 = .ok (.getfield 57, 3) := by decide +kernel
theorem dX12_beat_17 : decode cX12_beat 17 = .ok (.if_icmp .ge 54, 3) := by decide +kernel
theorem dX12_beat_20 : decode cX12_beat 20 = .ok (.iconst 1, 1) := by decide +kernel
theorem dX12_beat_21 : decode cX12_beat 21 = .ok (.istore_n 2, 1) := by decide +kernel
theorem dX12_beat_22 : decode cX12_beat 22 = .ok (.iload_n 1, 1) := by decide +kernel
theorem dX12_beat_23 : decode cX12_beat 23 = .ok (.istore_n 3, 1) := by decide +kernel
theorem dX12_beat_24 : decode cX12_beat 24 = .ok (.iload_n 3, 1) := by decide +kernel
theorem dX12_beat_25 : decode cX12_beat 25 = .ok (.aload_n 0, 1) := by decide +kernel
theorem dX12_beat_26 : decode cX12_beat 26 = .ok (.getfield 57, 3) := by decide +kernel
theorem dX12_beat_29 : decode cX12_beat 29 = .ok (.if_icmp .ge 30, 3) := by decide +kernel
theorem dX12_beat_32 : decode cX12_beat 32 = .ok (.iload_n 2, 1) := by decide +kernel
theorem dX12_beat_33 : decode cX12_beat 33 = .ok (.ifCond .eq 18, 3) := by decide +kernel
theorem dX12_beat_36 : decode cX12_beat 36 = .ok (.aload_n 0, 1) := by decide +kernel
theorem dX12_beat_37 : decode cX12_beat 37 = .ok (.iload_n 3, 1) := by decide +kernel
theorem dX12_beat_38 : decode cX12_beat 38 = .ok (.iload_n 3, 1) := by decide +kernel
theorem dX12_beat_39 : decode cX12_beat 39 = .ok (.iload_n 1, 1) := by decide +kernel
theorem dX12_beat_40 : decode cX12_beat 40 = .ok (.isub, 1) := by decide +kernel
theorem dX12_beat_41 : decode cX12_beat 41 = .ok (.invokevirtual 226, 3) := by decide +kernel
theorem dX12_beat_44 : decode cX12_beat 44 = .ok (.ifCond .eq 7, 3) := by decide +kernel
theorem dX12_beat_47 : decode cX12_beat 47 = .ok (.iconst 1, 1) := by decide +kernel
theorem dX12_beat_48 : decode cX12_beat 48 = .ok (.goto 4, 3) := by decide +kernel
theorem dX12_beat_51 : decode cX12_beat 51 = .ok (.iconst 0, 1) := by decide +kernel
theorem dX12_beat_52 : decode cX12_beat 52 = .ok (.istore_n 2, 1) := by decide +kernel
theorem dX12_beat_53 : decode cX12_beat 53 = .ok (.iinc 3 1, 3) := by decide +kernel
theorem dX12_beat_56 : decode cX12_beat 56 = .ok (.goto (-32), 3) := by decide +kernel
theorem dX12_beat_59 : decode cX12_beat 59 = .ok (.iload_n 2, 1) := by decide +kernel
theorem dX12_beat_60 : decode cX12_beat 60 = .ok (.ifCond .eq 5, 3) := by decide +kernel
theorem dX12_beat_63 : decode cX12_beat 63 = .ok (.iload_n 1, 1) := by decide +kernel
theorem dX12_beat_64 : decode cX12_beat 64 = .ok (.ireturn, 1) := by decide +kernel
theorem dX12_beat_65 : decode cX12_beat 65 = .ok (.iinc 1 1, 3) := by decide +kernel
theorem dX12_beat_68 : decode cX12_beat 68 = .ok (.goto (-56), 3) := by decide +kernel
theorem dX12_beat_71 : decode cX12_beat 71 = .ok (.aload_n 0, 1) := by decide +kernel
theorem dX12_beat_72 : decode cX12_beat 72 = .ok (.getfield 57, 3) := by decide +kernel
theorem dX12_beat_75 : decode cX12_beat 75 = .ok (.ireturn, 1) := by decide +kernel
theorem dX12_picture_0 : decode cX12_picture 0 = .ok (.aload_n 0, 1) := by decide +kernel
theorem dX12_picture_1 : decode cX12_picture 1 = .ok (.iload_n 1, 1) := by decide +kernel
theorem dX12_picture_2 : decode cX12_picture 2 = .ok (.iconst 0, 1) := by decide +kernel
theorem dX12_picture_3 : decode cX12_picture 3 = .ok (.bipush 99, 2) := by decide +kernel
theorem dX12_picture_5 : decode cX12_picture 5 = .ok (.invokevirtual 195, 3) := by decide +kernel
theorem dX12_picture_8 : decode cX12_picture 8 = .ok (.ifCond .eq 14, 3) := by decide +kernel
theorem dX12_picture_11 : decode cX12_picture 11 = .ok (.aload_n 0, 1) := by decide +kernel
theorem dX12_picture_12 : decode cX12_picture 12 = .ok (.iload_n 2, 1) := by decide +kernel
theorem dX12_picture_13 : decode cX12_picture 13 = .ok (.iconst 0, 1) := by decide +kernel
theorem dX12_picture_14 : decode cX12_picture 14 = .ok (.bipush 8, 2) := by decide +kernel
theorem dX12_picture_16 : decode cX12_picture 16 = .ok (.invokevirtual 195, 3) := by decide +kernel
theorem dX12_picture_19 : decode cX12_picture 19 = .ok (.ifCond .ne 5, 3) := by decide +kernel
theorem dX12_picture_22 : decode cX12_picture 22 = .ok (.iconst (-1), 1) := by decide +kernel
theorem dX12_picture_23 : decode cX12_picture 23 = .ok (.ireturn, 1) := by decide +kernel
theorem dX12_picture_24 : decode cX12_picture 24 = .ok (.aload_n 0, 1) := by decide +kernel
theorem dX12_picture_25 : decode cX12_picture 25 = .ok (.iload_n 3, 1) := by decide +kernel
theorem dX12_picture_26 : decode cX12_picture 26 = .ok (.iconst 0, 1) := by decide +kernel
theorem dX12_picture_27 : decode cX12_picture 27 = .ok (.bipush 7, 2) := by decide +kernel
theorem dX12_picture_29 : decode cX12_picture 29 = .ok (.invokevirtual 195, 3) := by decide +kernel
theorem dX12_picture_32 : decode cX12_picture 32 = .ok (.ifCond .ne 6, 3) := by decide +kernel
theorem dX12_picture_35 : decode cX12_picture 35 = .ok (.bipush (-2), 2) := by decide +kernel
theorem dX12_picture_37 : decode cX12_picture 37 = .ok (.ireturn, 1) := by decide +kernel
theorem dX12_picture_38 : decode cX12_picture 38 = .ok (.aload_n 0, 1) := by decide +kernel
theorem dX12_picture_39 : decode cX12_picture 39 = .ok (.getfield 72, 3) := by decide +kernel
theorem dX12_picture_42 : decode cX12_picture 42 = .ok (.bipush 40, 2) := by decide +kernel
theorem dX12_picture_44 : decode cX12_picture 44 = .ok (.if_icmp .ne 6, 3) := by decide +kernel
theorem dX12_picture_47 : decode cX12_picture 47 = .ok (.bipush (-4), 2) := by decide +kernel
theorem dX12_picture_49 : decode cX12_picture 49 = .ok (.ireturn, 1) := by decide +kernel
theorem dX12_picture_50 : decode cX12_picture 50 = .ok (.aload_n 0, 1) := by decide +kernel
theorem dX12_picture_51 : decode cX12_picture 51 = .ok (.getfield 75, 3) := by decide +kernel
theorem dX12_picture_54 : decode cX12_picture 54 = .ok (.aload_n 0, 1) := by decide +kernel
theorem dX12_picture_55 : decode cX12_picture 55 = .ok (.getfield 72, 3) := by decide +kernel
theorem dX12_picture_58 : decode cX12_picture 58 = .ok (.iload_n 1, 1) := by decide +kernel
theorem dX12_picture_59 : decode cX12_picture 59 = .ok (.iastore, 1) := by decide +kernel
theorem dX12_picture_60 : decode cX12_picture 60 = .ok (.aload_n 0, 1) := by decide +kernel
theorem dX12_picture_61 : decode cX12_picture 61 = .ok (.getfield 78, 3) := by decide +kernel
theorem dX12_picture_64 : decode cX12_picture 64 = .ok (.aload_n 0, 1) := by decide +kernel
theorem dX12_picture_65 : decode cX12_picture 65 = .ok (.getfield 72, 3) := by decide +kernel
theorem dX12_picture_68 : decode cX12_picture 68 = .ok (.iload_n 2, 1) := by decide +kernel
theorem dX12_picture_69 : decode cX12_picture 69 = .ok (.iastore, 1) := by decide +kernel
theorem dX12_picture_70 : decode cX12_picture 70 = .ok (.aload_n 0, 1) := by decide +kernel
theorem dX12_picture_71 : decode cX12_picture 71 = .ok (.getfield 81, 3) := by decide +kernel
theorem dX12_picture_74 : decode cX12_picture 74 = .ok (.aload_n 0, 1) := by decide +kernel
theorem dX12_picture_75 : decode cX12_picture 75 = .ok (.getfield 72, 3) := by decide +kernel
theorem dX12_picture_78 : decode cX12_picture 78 = .ok (.iload_n 3, 1) := by decide +kernel
theorem dX12_picture_79 : decode cX12_picture 79 = .ok (.iastore, 1) := by decide +kernel
theorem dX12_picture_80 : decode cX12_picture 80 = .ok (.aload_n 0, 1) := by decide +kernel
theorem dX12_picture_81 : decode cX12_picture 81 = .ok (.dup, 1) := by decide +kernel
theorem dX12_picture_82 : decode cX12_picture 82 = .ok (.getfield 72, 3) := by decide +kernel
theorem dX12_picture_85 : decode cX12_picture 85 = .ok (.iconst 1, 1) := by decide +kernel
theorem dX12_picture_86 : decode cX12_picture 86 = .ok (.iadd, 1) := by decide +kernel
theorem dX12_picture_87 : decode cX12_picture 87 = .ok (.putfield 72, 3) := by decide +kernel
theorem dX12_picture_90 : decode cX12_picture 90 = .ok (.aload_n 0, 1) := by decide +kernel
theorem dX12_picture_91 : decode cX12_picture 91 = .ok (.getfield 72, 3) := by decide +kernel
theorem dX12_picture_94 : decode cX12_picture 94 = .ok (.ireturn, 1) := by decide +kernel
theorem dX12_pictureless_0 : decode cX12_pictureless 0 = .ok (.aload_n 0, 1) := by decide +kernel
theorem dX12_pictureless_1 : decode cX12_pictureless 1 = .ok (.getfield 72, 3) := by decide +kernel
theorem dX12_pictureless_4 : decode cX12_pictureless 4 = .ok (.istore_n 1, 1) := by decide +kernel
theorem dX12_pictureless_5 : decode cX12_pictureless 5 = .ok (.aload_n 0, 1) := by decide +kernel
theorem dX12_pictureless_6 : decode cX12_pictureless 6 = .ok (.iconst 0, 1) := by decide +kernel
theorem dX12_pictureless_7 : decode cX12_pictureless 7 = .ok (.putfield 72, 3) := by decide +kernel
theorem dX12_pictureless_10 : decode cX12_pictureless 10 = .ok (.iload_n 1, 1) := by decide +kernel
theorem dX12_pictureless_11 : decode cX12_pictureless 11 = .ok (.ireturn, 1) := by decide +kernel
theorem dX12_wrongWith_0 : decode cX12_wrongWith 0 = .ok (.iconst 0, 1) := by decide +kernel
theorem dX12_wrongWith_1 : decode cX12_wrongWith 1 = .ok (.istore_n 2, 1) := by decide +kernel
theorem dX12_wrongWith_2 : decode cX12_wrongWith 2 = .ok (.iconst 0, 1) := by decide +kernel
theorem dX12_wrongWith_3 : decode cX12_wrongWith 3 = .ok (.istore_n 3, 1) := by decide +kernel
theorem dX12_wrongWith_4 : decode cX12_wrongWith 4 = .ok (.iload_n 3, 1) := by decide +kernel
theorem dX12_wrongWith_5 : decode cX12_wrongWith 5 = .ok (.aload_n 0, 1) := by decide +kernel
theorem dX12_wrongWith_6 : decode cX12_wrongWith 6 = .ok (.getfield 72, 3) := by decide +kernel
theorem dX12_wrongWith_9 : decode cX12_wrongWith 9 = .ok (.if_icmp .ge 70, 3) := by decide +kernel
theorem dX12_wrongWith_12 : decode cX12_wrongWith 12 = .ok (.iload_n 2, 1) := by decide +kernel
theorem dX12_wrongWith_13 : decode cX12_wrongWith 13 = .ok (.aload_n 0, 1) := by decide +kernel
theorem dX12_wrongWith_14 : decode cX12_wrongWith 14 = .ok (.getfield 75, 3) := by decide +kernel
theorem dX12_wrongWith_17 : decode cX12_wrongWith 17 = .ok (.iload_n 3, 1) := by decide +kernel
theorem dX12_wrongWith_18 : decode cX12_wrongWith 18 = .ok (.iaload, 1) := by decide +kernel
theorem dX12_wrongWith_19 : decode cX12_wrongWith 19 = .ok (.aload_n 0, 1) := by decide +kernel
theorem dX12_wrongWith_20 : decode cX12_wrongWith 20 = .ok (.getfield 57, 3) := by decide +kernel
theorem dX12_wrongWith_23 : decode cX12_wrongWith 23 = .ok (.if_icmp .ge 43, 3) := by decide +kernel
theorem dX12_wrongWith_26 : decode cX12_wrongWith 26 = .ok (.aload_n 0, 1) := by decide +kernel
theorem dX12_wrongWith_27 : decode cX12_wrongWith 27 = .ok (.getfield 78, 3) := by decide +kernel
theorem dX12_wrongWith_30 : decode cX12_wrongWith 30 = .ok (.iload_n 3, 1) := by decide +kernel
theorem dX12_wrongWith_31 : decode cX12_wrongWith 31 = .ok (.iaload, 1) := by decide +kernel
theorem dX12_wrongWith_32 : decode cX12_wrongWith 32 = .ok (.aload_n 0, 1) := by decide +kernel
theorem dX12_wrongWith_33 : decode cX12_wrongWith 33 = .ok (.getfield 13, 3) := by decide +kernel
theorem dX12_wrongWith_36 : decode cX12_wrongWith 36 = .ok (.if_icmp .ge 30, 3) := by decide +kernel
theorem dX12_wrongWith_39 : decode cX12_wrongWith 39 = .ok (.aload_n 1, 1) := by decide +kernel
theorem dX12_wrongWith_40 : decode cX12_wrongWith 40 = .ok (.aload_n 0, 1) := by decide +kernel
theorem dX12_wrongWith_41 : decode cX12_wrongWith 41 = .ok (.aload_n 0, 1) := by decide +kernel
theorem dX12_wrongWith_42 : decode cX12_wrongWith 42 = .ok (.getfield 75, 3) := by decide +kernel
theorem dX12_wrongWith_45 : decode cX12_wrongWith 45 = .ok (.iload_n 3, 1) := by decide +kernel
theorem dX12_wrongWith_46 : decode cX12_wrongWith 46 = .ok (.iaload, 1) := by decide +kernel
theorem dX12_wrongWith_47 : decode cX12_wrongWith 47 = .ok (.aload_n 0, 1) := by decide +kernel
theorem dX12_wrongWith_48 : decode cX12_wrongWith 48 = .ok (.getfield 78, 3) := by decide +kernel
theorem dX12_wrongWith_51 : decode cX12_wrongWith 51 = .ok (.iload_n 3, 1) := by decide +kernel
theorem dX12_wrongWith_52 : decode cX12_wrongWith 52 = .ok (.iaload, 1) := by decide +kernel
theorem dX12_wrongWith_53 : decode cX12_wrongWith 53 = .ok (.invokevirtual 222, 3) := by decide +kernel
theorem dX12_wrongWith_56 : decode cX12_wrongWith 56 = .ok (.iaload, 1) := by decide +kernel
theorem dX12_wrongWith_57 : decode cX12_wrongWith 57 = .ok (.aload_n 0, 1) := by decide +kernel
theorem dX12_wrongWith_58 : decode cX12_wrongWith 58 = .ok (.getfield 81, 3) := by decide +kernel
theorem dX12_wrongWith_61 : decode cX12_wrongWith 61 = .ok (.iload_n 3, 1) := by decide +kernel
theorem dX12_wrongWith_62 : decode cX12_wrongWith 62 = .ok (.iaload, 1) := by decide +kernel
theorem dX12_wrongWith_63 : decode cX12_wrongWith 63 = .ok (.if_icmp .eq 7, 3) := by decide +kernel
theorem dX12_wrongWith_66 : decode cX12_wrongWith 66 = .ok (.iconst 1, 1) := by decide +kernel
theorem dX12_wrongWith_67 : decode cX12_wrongWith 67 = .ok (.goto 4, 3) := by decide +kernel
theorem dX12_wrongWith_70 : decode cX12_wrongWith 70 = .ok (.iconst 0, 1) := by decide +kernel
theorem dX12_wrongWith_71 : decode cX12_wrongWith 71 = .ok (.iadd, 1) := by decide +kernel
theorem dX12_wrongWith_72 : decode cX12_wrongWith 72 = .ok (.istore_n 2, 1) := by decide +kernel
theorem dX12_wrongWith_73 : decode cX12_wrongWith 73 = .ok (.iinc 3 1, 3) := by decide +kernel
theorem dX12_wrongWith_76 : decode cX12_wrongWith 76 = .ok (.goto (-72), 3) := by decide +kernel
theorem dX12_wrongWith_79 : decode cX12_wrongWith 79 = .ok (.iload_n 2, 1) := by decide +kernel
theorem dX12_wrongWith_80 : decode cX12_wrongWith 80 = .ok (.ireturn, 1) := by decide +kernel
theorem dX12_wrong_0 : decode cX12_wrong 0 = .ok (.aload_n 0, 1) := by decide +kernel
theorem dX12_wrong_1 : decode cX12_wrong 1 = .ok (.aload_n 0, 1) := by decide +kernel
theorem dX12_wrong_2 : decode cX12_wrong 2 = .ok (.getfield 41, 3) := by decide +kernel
theorem dX12_wrong_5 : decode cX12_wrong 5 = .ok (.invokevirtual 230, 3) := by decide +kernel
theorem dX12_wrong_8 : decode cX12_wrong 8 = .ok (.ireturn, 1) := by decide +kernel
theorem dX12_colours_0 : decode cX12_colours 0 = .ok (.aload_n 0, 1) := by decide +kernel
theorem dX12_colours_1 : decode cX12_colours 1 = .ok (.iload_n 2, 1) := by decide +kernel
theorem dX12_colours_2 : decode cX12_colours 2 = .ok (.iconst (-1), 1) := by decide +kernel
theorem dX12_colours_3 : decode cX12_colours 3 = .ok (.aload_n 0, 1) := by decide +kernel
theorem dX12_colours_4 : decode cX12_colours 4 = .ok (.getfield 13, 3) := by decide +kernel
theorem dX12_colours_7 : decode cX12_colours 7 = .ok (.iconst 1, 1) := by decide +kernel
theorem dX12_colours_8 : decode cX12_colours 8 = .ok (.isub, 1) := by decide +kernel
theorem dX12_colours_9 : decode cX12_colours 9 = .ok (.invokevirtual 195, 3) := by decide +kernel
theorem dX12_colours_12 : decode cX12_colours 12 = .ok (.ifCond .ne 5, 3) := by decide +kernel
theorem dX12_colours_15 : decode cX12_colours 15 = .ok (.iconst (-1), 1) := by decide +kernel
theorem dX12_colours_16 : decode cX12_colours 16 = .ok (.ireturn, 1) := by decide +kernel
theorem dX12_colours_17 : decode cX12_colours 17 = .ok (.aload_n 0, 1) := by decide +kernel
theorem dX12_colours_18 : decode cX12_colours 18 = .ok (.iload_n 1, 1) := by decide +kernel
theorem dX12_colours_19 : decode cX12_colours 19 = .ok (.iconst 1, 1) := by decide +kernel
theorem dX12_colours_20 : decode cX12_colours 20 = .ok (.iconst 4, 1) := by decide +kernel
theorem dX12_colours_21 : decode cX12_colours 21 = .ok (.invokevirtual 195, 3) := by decide +kernel
theorem dX12_colours_24 : decode cX12_colours 24 = .ok (.ifCond .ne 6, 3) := by decide +kernel
theorem dX12_colours_27 : decode cX12_colours 27 = .ok (.bipush (-2), 2) := by decide +kernel
theorem dX12_colours_29 : decode cX12_colours 29 = .ok (.ireturn, 1) := by decide +kernel
theorem dX12_colours_30 : decode cX12_colours 30 = .ok (.aload_n 0, 1) := by decide +kernel
theorem dX12_colours_31 : decode cX12_colours 31 = .ok (.getfield 57, 3) := by decide +kernel
theorem dX12_colours_34 : decode cX12_colours 34 = .ok (.ifCond .eq 12, 3) := by decide +kernel
theorem dX12_colours_37 : decode cX12_colours 37 = .ok (.aload_n 0, 1) := by decide +kernel
theorem dX12_colours_38 : decode cX12_colours 38 = .ok (.getfield 13, 3) := by decide +kernel
theorem dX12_colours_41 : decode cX12_colours 41 = .ok (.bipush 6, 2) := by decide +kernel
theorem dX12_colours_43 : decode cX12_colours 43 = .ok (.if_icmp .le 6, 3) := by decide +kernel
theorem dX12_colours_46 : decode cX12_colours 46 = .ok (.bipush (-3), 2) := by decide +kernel
theorem dX12_colours_48 : decode cX12_colours 48 = .ok (.ireturn, 1) := by decide +kernel
theorem dX12_colours_49 : decode cX12_colours 49 = .ok (.iconst 1, 1) := by decide +kernel
theorem dX12_colours_50 : decode cX12_colours 50 = .ok (.istore_n 3, 1) := by decide +kernel
theorem dX12_colours_51 : decode cX12_colours 51 = .ok (.iconst 0, 1) := by decide +kernel
theorem dX12_colours_52 : decode cX12_colours 52 = .ok (.istore 4, 2) := by decide +kernel
theorem dX12_colours_54 : decode cX12_colours 54 = .ok (.iload 4, 2) := by decide +kernel
theorem dX12_colours_56 : decode cX12_colours 56 = .ok (.aload_n 0, 1) := by decide +kernel
theorem dX12_colours_57 : decode cX12_colours 57 = .ok (.getfield 13, 3) := by decide +kernel
theorem dX12_colours_60 : decode cX12_colours 60 = .ok (.if_icmp .ge 13, 3) := by decide +kernel
theorem dX12_colours_63 : decode cX12_colours 63 = .ok (.iload_n 3, 1) := by decide +kernel
theorem dX12_colours_64 : decode cX12_colours 64 = .ok (.iload_n 1, 1) := by decide +kernel
theorem dX12_colours_65 : decode cX12_colours 65 = .ok (.imul, 1) := by decide +kernel
theorem dX12_colours_66 : decode cX12_colours 66 = .ok (.istore_n 3, 1) := by decide +kernel
theorem dX12_colours_67 : decode cX12_colours 67 = .ok (.iinc 4 1, 3) := by decide +kernel
theorem dX12_colours_70 : decode cX12_colours 70 = .ok (.goto (-16), 3) := by decide +kernel
theorem dX12_colours_73 : decode cX12_colours 73 = .ok (.sipush 1000, 3) := by decide +kernel
theorem dX12_colours_76 : decode cX12_colours 76 = .ok (.istore 4, 2) := by decide +kernel
theorem dX12_colours_78 : decode cX12_colours 78 = .ok (.iconst 0, 1) := by decide +kernel
theorem dX12_colours_79 : decode cX12_colours 79 = .ok (.istore 5, 2) := by decide +kernel
theorem dX12_colours_81 : decode cX12_colours 81 = .ok (.iload 5, 2) := by decide +kernel
theorem dX12_colours_83 : decode cX12_colours 83 = .ok (.iload_n 3, 1) := by decide +kernel
theorem dX12_colours_84 : decode cX12_colours 84 = .ok (.if_icmp .ge 105, 3) := by decide +kernel
theorem dX12_colours_87 : decode cX12_colours 87 = .ok (.iload 5, 2) := by decide +kernel
theorem dX12_colours_89 : decode cX12_colours 89 = .ok (.istore 6, 2) := by decide +kernel
theorem dX12_colours_91 : decode cX12_colours 91 = .ok (.aload_n 0, 1) := by decide +kernel
theorem dX12_colours_92 : decode cX12_colours 92 = .ok (.getfield 13, 3) := by decide +kernel
theorem dX12_colours_95 : decode cX12_colours 95 = .ok (.iconst 1, 1) := by decide +kernel
theorem dX12_colours_96 : decode cX12_colours 96 = .ok (.isub, 1) := by decide +kernel
theorem dX12_colours_97 : decode cX12_colours 97 = .ok (.istore 7, 2) := by decide +kernel
theorem dX12_colours_99 : decode cX12_colours 99 = .ok (.iload 7, 2) := by decide +kernel
theorem dX12_colours_101 : decode cX12_colours 101 = .ok (.ifCond .lt 26, 3) := by decide +kernel
theorem dX12_colours_104 : decode cX12_colours 104 = .ok (.aload_n 0, 1) := by decide +kernel
theorem dX12_colours_105 : decode cX12_colours 105 = .ok (.getfield 84, 3) := by decide +kernel
theorem dX12_colours_108 : decode cX12_colours 108 = .ok (.iload 7, 2) := by decide +kernel
theorem dX12_colours_110 : decode cX12_colours 110 = .ok (.iload 6, 2) := by decide +kernel
theorem dX12_colours_112 : decode cX12_colours 112 = .ok (.iload_n 1, 1) := by decide +kernel
theorem dX12_colours_113 : decode cX12_colours 113 = .ok (.irem, 1) := by decide +kernel
theorem dX12_colours_114 : decode cX12_colours 114 = .ok (.iastore, 1) := by decide +kernel
theorem dX12_colours_115 : decode cX12_colours 115 = .ok (.iload 6, 2) := by decide +kernel
theorem dX12_colours_117 : decode cX12_colours 117 = .ok (.iload_n 1, 1) := by decide +kernel
theorem dX12_colours_118 : decode cX12_colours 118 = .ok (.idiv, 1) := by decide +kernel
theorem dX12_colours_119 : decode cX12_colours 119 = .ok (.istore 6, 2) := by decide +kernel
theorem dX12_colours_121 : decode cX12_colours 121 = .ok (.iinc 7 (-1), 3) := by decide +kernel
theorem dX12_colours_124 : decode cX12_colours 124 = .ok (.goto (-25), 3) := by decide +kernel
theorem dX12_colours_127 : decode cX12_colours 127 = .ok (.aload_n 0, 1) := by decide +kernel
theorem dX12_colours_128 : decode cX12_colours 128 = .ok (.aload_n 0, 1) := by decide +kernel
theorem dX12_colours_129 : decode cX12_colours 129 = .ok (.getfield 84, 3) := by decide +kernel
theorem dX12_colours_132 : decode cX12_colours 132 = .ok (.invokevirtual 230, 3) := by decide +kernel
theorem dX12_colours_135 : decode cX12_colours 135 = .ok (.istore 7, 2) := by decide +kernel
theorem dX12_colours_137 : decode cX12_colours 137 = .ok (.iload 7, 2) := by decide +kernel
theorem dX12_colours_139 : decode cX12_colours 139 = .ok (.iload 4, 2) := by decide +kernel
theorem dX12_colours_141 : decode cX12_colours 141 = .ok (.if_icmp .lt 6, 3) := by decide +kernel
theorem dX12_colours_144 : decode cX12_colours 144 = .ok (.goto 39, 3) := by decide +kernel
theorem dX12_colours_147 : decode cX12_colours 147 = .ok (.iload 7, 2) := by decide +kernel
theorem dX12_colours_149 : decode cX12_colours 149 = .ok (.istore 4, 2) := by decide +kernel
theorem dX12_colours_151 : decode cX12_colours 151 = .ok (.iconst 0, 1) := by decide +kernel
theorem dX12_colours_152 : decode cX12_colours 152 = .ok (.istore 8, 2) := by decide +kernel
theorem dX12_colours_154 : decode cX12_colours 154 = .ok (.iload 8, 2) := by decide +kernel
theorem dX12_colours_156 : decode cX12_colours 156 = .ok (.aload_n 0, 1) := by decide +kernel
theorem dX12_colours_157 : decode cX12_colours 157 = .ok (.getfield 13, 3) := by decide +kernel
theorem dX12_colours_160 : decode cX12_colours 160 = .ok (.if_icmp .ge 23, 3) := by decide +kernel
theorem dX12_colours_163 : decode cX12_colours 163 = .ok (.aload_n 0, 1) := by decide +kernel
theorem dX12_colours_164 : decode cX12_colours 164 = .ok (.getfield 87, 3) := by decide +kernel
theorem dX12_colours_167 : decode cX12_colours 167 = .ok (.iload 8, 2) := by decide +kernel
theorem dX12_colours_169 : decode cX12_colours 169 = .ok (.aload_n 0, 1) := by decide +kernel
theorem dX12_colours_170 : decode cX12_colours 170 = .ok (.getfield 84, 3) := by decide +kernel
theorem dX12_colours_173 : decode cX12_colours 173 = .ok (.iload 8, 2) := by decide +kernel
theorem dX12_colours_175 : decode cX12_colours 175 = .ok (.iaload, 1) := by decide +kernel
theorem dX12_colours_176 : decode cX12_colours 176 = .ok (.iastore, 1) := by decide +kernel
theorem dX12_colours_177 : decode cX12_colours 177 = .ok (.iinc 8 1, 3) := by decide +kernel
theorem dX12_colours_180 : decode cX12_colours 180 = .ok (.goto (-26), 3) := by decide +kernel
theorem dX12_colours_183 : decode cX12_colours 183 = .ok (.iinc 5 1, 3) := by decide +kernel
theorem dX12_colours_186 : decode cX12_colours 186 = .ok (.goto (-105), 3) := by decide +kernel
theorem dX12_colours_189 : decode cX12_colours 189 = .ok (.iload_n 2, 1) := by decide +kernel
theorem dX12_colours_190 : decode cX12_colours 190 = .ok (.ifCond .ge 8, 3) := by decide +kernel
theorem dX12_colours_193 : decode cX12_colours 193 = .ok (.iload 4, 2) := by decide +kernel
theorem dX12_colours_195 : decode cX12_colours 195 = .ok (.goto 9, 3) := by decide +kernel
theorem dX12_colours_198 : decode cX12_colours 198 = .ok (.aload_n 0, 1) := by decide +kernel
theorem dX12_colours_199 : decode cX12_colours 199 = .ok (.getfield 87, 3) := by decide +kernel
theorem dX12_colours_202 : decode cX12_colours 202 = .ok (.iload_n 2, 1) := by decide +kernel
theorem dX12_colours_203 : decode cX12_colours 203 = .ok (.iaload, 1) := by decide +kernel
theorem dX12_colours_204 : decode cX12_colours 204 = .ok (.ireturn, 1) := by decide +kernel
theorem dX12_isFigure_0 : decode cX12_isFigure 0 = .ok (.aload_n 0, 1) := by decide +kernel
theorem dX12_isFigure_1 : decode cX12_isFigure 1 = .ok (.iload_n 1, 1) := by decide +kernel
theorem dX12_isFigure_2 : decode cX12_isFigure 2 = .ok (.iconst 0, 1) := by decide +kernel
theorem dX12_isFigure_3 : decode cX12_isFigure 3 = .ok (.aload_n 0, 1) := by decide +kernel
theorem dX12_isFigure_4 : decode cX12_isFigure 4 = .ok (.getfield 90, 3) := by decide +kernel
theorem dX12_isFigure_7 : decode cX12_isFigure 7 = .ok (.iconst 1, 1) := by decide +kernel
theorem dX12_isFigure_8 : decode cX12_isFigure 8 = .ok (.isub, 1) := by decide +kernel
theorem dX12_isFigure_9 : decode cX12_isFigure 9 = .ok (.invokevirtual 195, 3) := by decide +kernel
theorem dX12_isFigure_12 : decode cX12_isFigure 12 = .ok (.ireturn, 1) := by decide +kernel
theorem dX12_feed_0 : decode cX12_feed 0 = .ok (.aload_n 0, 1) := by decide +kernel
theorem dX12_feed_1 : decode cX12_feed 1 = .ok (.iload_n 2, 1) := by decide +kernel
theorem dX12_feed_2 : decode cX12_feed 2 = .ok (.iconst 0, 1) := by decide +kernel
theorem dX12_feed_3 : decode cX12_feed 3 = .ok (.iconst 4, 1) := by decide +kernel
theorem dX12_feed_4 : decode cX12_feed 4 = .ok (.invokevirtual 195, 3) := by decide +kernel
theorem dX12_feed_7 : decode cX12_feed 7 = .ok (.ifCond .ne 6, 3) := by decide +kernel
theorem dX12_feed_10 : decode cX12_feed 10 = .ok (.bipush (-2), 2) := by decide +kernel
theorem dX12_feed_12 : decode cX12_feed 12 = .ok (.ireturn, 1) := by decide +kernel
theorem dX12_feed_13 : decode cX12_feed 13 = .ok (.aload_n 0, 1) := by decide +kernel
theorem dX12_feed_14 : decode cX12_feed 14 = .ok (.getfield 93, 3) := by decide +kernel
theorem dX12_feed_17 : decode cX12_feed 17 = .ok (.iload_n 2, 1) := by decide +kernel
theorem dX12_feed_18 : decode cX12_feed 18 = .ok (.iadd, 1) := by decide +kernel
theorem dX12_feed_19 : decode cX12_feed 19 = .ok (.bipush 80, 2) := by decide +kernel
theorem dX12_feed_21 : decode cX12_feed 21 = .ok (.if_icmp .le 6, 3) := by decide +kernel
theorem dX12_feed_24 : decode cX12_feed 24 = .ok (.bipush (-4), 2) := by decide +kernel
theorem dX12_feed_26 : decode cX12_feed 26 = .ok (.ireturn, 1) := by decide +kernel
theorem dX12_feed_27 : decode cX12_feed 27 = .ok (.iload_n 2, 1) := by decide +kernel
theorem dX12_feed_28 : decode cX12_feed 28 = .ok (.iconst 1, 1) := by decide +kernel
theorem dX12_feed_29 : decode cX12_feed 29 = .ok (.isub, 1) := by decide +kernel
theorem dX12_feed_30 : decode cX12_feed 30 = .ok (.istore_n 3, 1) := by decide +kernel
theorem dX12_feed_31 : decode cX12_feed 31 = .ok (.iload_n 3, 1) := by decide +kernel
theorem dX12_feed_32 : decode cX12_feed 32 = .ok (.ifCond .lt 35, 3) := by decide +kernel
theorem dX12_feed_35 : decode cX12_feed 35 = .ok (.aload_n 0, 1) := by decide +kernel
theorem dX12_feed_36 : decode cX12_feed 36 = .ok (.getfield 102, 3) := by decide +kernel
theorem dX12_feed_39 : decode cX12_feed 39 = .ok (.aload_n 0, 1) := by decide +kernel
theorem dX12_feed_40 : decode cX12_feed 40 = .ok (.getfield 93, 3) := by decide +kernel
theorem dX12_feed_43 : decode cX12_feed 43 = .ok (.iload_n 1, 1) := by decide +kernel
theorem dX12_feed_44 : decode cX12_feed 44 = .ok (.bipush 8, 2) := by decide +kernel
theorem dX12_feed_46 : decode cX12_feed 46 = .ok (.iload_n 3, 1) := by decide +kernel
theorem dX12_feed_47 : decode cX12_feed 47 = .ok (.imul, 1) := by decide +kernel
theorem dX12_feed_48 : decode cX12_feed 48 = .ok (.ishr, 1) := by decide +kernel
theorem dX12_feed_49 : decode cX12_feed 49 = .ok (.i2b, 1) := by decide +kernel
theorem dX12_feed_50 : decode cX12_feed 50 = .ok (.iastore, 1) := by decide +kernel
theorem dX12_feed_51 : decode cX12_feed 51 = .ok (.aload_n 0, 1) := by decide +kernel
theorem dX12_feed_52 : decode cX12_feed 52 = .ok (.dup, 1) := by decide +kernel
theorem dX12_feed_53 : decode cX12_feed 53 = .ok (.getfield 93, 3) := by decide +kernel
theorem dX12_feed_56 : decode cX12_feed 56 = .ok (.iconst 1, 1) := by decide +kernel
theorem dX12_feed_57 : decode cX12_feed 57 = .ok (.iadd, 1) := by decide +kernel
theorem dX12_feed_58 : decode cX12_feed 58 = .ok (.putfield 93, 3) := by decide +kernel
theorem dX12_feed_61 : decode cX12_feed 61 = .ok (.iinc 3 (-1), 3) := by decide +kernel
theorem dX12_feed_64 : decode cX12_feed 64 = .ok (.goto (-33), 3) := by decide +kernel
theorem dX12_feed_67 : decode cX12_feed 67 = .ok (.aload_n 0, 1) := by decide +kernel
theorem dX12_feed_68 : decode cX12_feed 68 = .ok (.getfield 93, 3) := by decide +kernel
theorem dX12_feed_71 : decode cX12_feed 71 = .ok (.ireturn, 1) := by decide +kernel
theorem dX12_add_0 : decode cX12_add 0 = .ok (.aload_n 0, 1) := by decide +kernel
theorem dX12_add_1 : decode cX12_add 1 = .ok (.getfield 96, 3) := by decide +kernel
theorem dX12_add_4 : decode cX12_add 4 = .ok (.bipush 10, 2) := by decide +kernel
theorem dX12_add_6 : decode cX12_add 6 = .ok (.iaload, 1) := by decide +kernel
theorem dX12_add_7 : decode cX12_add 7 = .ok (.sipush 300, 3) := by decide +kernel
theorem dX12_add_10 : decode cX12_add 10 = .ok (.if_icmp .ne 9, 3) := by decide +kernel
theorem dX12_add_13 : decode cX12_add 13 = .ok (.aload_n 0, 1) := by decide +kernel
theorem dX12_add_14 : decode cX12_add 14 = .ok (.iconst 1, 1) := by decide +kernel
theorem dX12_add_15 : decode cX12_add 15 = .ok (.putfield 108, 3) := by decide +kernel
theorem dX12_add_18 : decode cX12_add 18 = .ok (.return_, 1) := by decide +kernel
theorem dX12_add_19 : decode cX12_add 19 = .ok (.aload_n 0, 1) := by decide +kernel
theorem dX12_add_20 : decode cX12_add 20 = .ok (.getfield 99, 3) := by decide +kernel
theorem dX12_add_23 : decode cX12_add 23 = .ok (.sipush 3000, 3) := by decide +kernel
theorem dX12_add_26 : decode cX12_add 26 = .ok (.aload_n 0, 1) := by decide +kernel
theorem dX12_add_27 : decode cX12_add 27 = .ok (.getfield 96, 3) := by decide +kernel
theorem dX12_add_30 : decode cX12_add 30 = .ok (.bipush 10, 2) := by decide +kernel
theorem dX12_add_32 : decode cX12_add 32 = .ok (.iaload, 1) := by decide +kernel
theorem dX12_add_33 : decode cX12_add 33 = .ok (.iadd, 1) := by decide +kernel
theorem dX12_add_34 : decode cX12_add 34 = .ok (.iload_n 1, 1) := by decide +kernel
theorem dX12_add_35 : decode cX12_add 35 = .ok (.iastore, 1) := by decide +kernel
theorem dX12_add_36 : decode cX12_add 36 = .ok (.aload_n 0, 1) := by decide +kernel
theorem dX12_add_37 : decode cX12_add 37 = .ok (.getfield 96, 3) := by decide +kernel
theorem dX12_add_40 : decode cX12_add 40 = .ok (.bipush 10, 2) := by decide +kernel
theorem dX12_add_42 : decode cX12_add 42 = .ok (.dup2, 1) := by decide +kernel
theorem dX12_add_43 : decode cX12_add 43 = .ok (.iaload, 1) := by decide +kernel
theorem dX12_add_44 : decode cX12_add 44 = .ok (.iconst 1, 1) := by decide +kernel
theorem dX12_add_45 : decode cX12_add 45 = .ok (.iadd, 1) := by decide +kernel
theorem dX12_add_46 : decode cX12_add 46 = .ok (.iastore, 1) := by decide +kernel
theorem dX12_add_47 : decode cX12_add 47 = .ok (.return_, 1) := by decide +kernel
theorem dX12_undoing_0 : decode cX12_undoing 0 = .ok (.iload_n 1, 1) := by decide +kernel
theorem dX12_undoing_1 : decode cX12_undoing 1 = .ok (.bipush 100, 2) := by decide +kernel
theorem dX12_undoing_3 : decode cX12_undoing 3 = .ok (.if_icmp .lt 11, 3) := by decide +kernel
theorem dX12_undoing_6 : decode cX12_undoing 6 = .ok (.sipush 201, 3) := by decide +kernel
theorem dX12_undoing_9 : decode cX12_undoing 9 = .ok (.iload_n 1, 1) := by decide +kernel
theorem dX12_undoing_10 : decode cX12_undoing 10 = .ok (.isub, 1) := by decide +kernel
theorem dX12_undoing_11 : decode cX12_undoing 11 = .ok (.goto 6, 3) := by decide +kernel
theorem dX12_undoing_14 : decode cX12_undoing 14 = .ok (.iload_n 1, 1) := by decide +kernel
theorem dX12_undoing_15 : decode cX12_undoing 15 = .ok (.iconst 1, 1) := by decide +kernel
theorem dX12_undoing_16 : decode cX12_undoing 16 = .ok (.ixor, 1) := by decide +kernel
theorem dX12_undoing_17 : decode cX12_undoing 17 = .ok (.ireturn, 1) := by decide +kernel
theorem dX12_undo_0 : decode cX12_undo 0 = .ok (.sipush 3000, 3) := by decide +kernel
theorem dX12_undo_3 : decode cX12_undo 3 = .ok (.iload_n 1, 1) := by decide +kernel
theorem dX12_undo_4 : decode cX12_undo 4 = .ok (.iadd, 1) := by decide +kernel
theorem dX12_undo_5 : decode cX12_undo 5 = .ok (.istore_n 2, 1) := by decide +kernel
theorem dX12_undo_6 : decode cX12_undo 6 = .ok (.sipush 2999, 3) := by decide +kernel
theorem dX12_undo_9 : decode cX12_undo 9 = .ok (.aload_n 0, 1) := by decide +kernel
theorem dX12_undo_10 : decode cX12_undo 10 = .ok (.getfield 96, 3) := by decide +kernel
theorem dX12_undo_13 : decode cX12_undo 13 = .ok (.bipush 10, 2) := by decide +kernel
theorem dX12_undo_15 : decode cX12_undo 15 = .ok (.iaload, 1) := by decide +kernel
theorem dX12_undo_16 : decode cX12_undo 16 = .ok (.iadd, 1) := by decide +kernel
theorem dX12_undo_17 : decode cX12_undo 17 = .ok (.istore_n 3, 1) := by decide +kernel
theorem dX12_undo_18 : decode cX12_undo 18 = .ok (.iload_n 2, 1) := by decide +kernel
theorem dX12_undo_19 : decode cX12_undo 19 = .ok (.iload_n 3, 1) := by decide +kernel
theorem dX12_undo_20 : decode cX12_undo 20 = .ok (.if_icmp .ge 48, 3) := by decide +kernel
theorem dX12_undo_23 : decode cX12_undo 23 = .ok (.aload_n 0, 1) := by decide +kernel
theorem dX12_undo_24 : decode cX12_undo 24 = .ok (.getfield 99, 3) := by decide +kernel
theorem dX12_undo_27 : decode cX12_undo 27 = .ok (.iload_n 2, 1) := by decide +kernel
theorem dX12_undo_28 : decode cX12_undo 28 = .ok (.iaload, 1) := by decide +kernel
theorem dX12_undo_29 : decode cX12_undo 29 = .ok (.istore 4, 2) := by decide +kernel
theorem dX12_undo_31 : decode cX12_undo 31 = .ok (.aload_n 0, 1) := by decide +kernel
theorem dX12_undo_32 : decode cX12_undo 32 = .ok (.getfield 99, 3) := by decide +kernel
theorem dX12_undo_35 : decode cX12_undo 35 = .ok (.iload_n 2, 1) := by decide +kernel
theorem dX12_undo_36 : decode cX12_undo 36 = .ok (.aload_n 0, 1) := by decide +kernel
theorem dX12_undo_37 : decode cX12_undo 37 = .ok (.aload_n 0, 1) := by decide +kernel
theorem dX12_undo_38 : decode cX12_undo 38 = .ok (.getfield 99, 3) := by decide +kernel
theorem dX12_undo_41 : decode cX12_undo 41 = .ok (.iload_n 3, 1) := by decide +kernel
theorem dX12_undo_42 : decode cX12_undo 42 = .ok (.iaload, 1) := by decide +kernel
theorem dX12_undo_43 : decode cX12_undo 43 = .ok (.invokevirtual 234, 3) := by decide +kernel
theorem dX12_undo_46 : decode cX12_undo 46 = .ok (.iastore, 1) := by decide +kernel
theorem dX12_undo_47 : decode cX12_undo 47 = .ok (.aload_n 0, 1) := by decide +kernel
theorem dX12_undo_48 : decode cX12_undo 48 = .ok (.getfield 99, 3) := by decide +kernel
theorem dX12_undo_51 : decode cX12_undo 51 = .ok (.iload_n 3, 1) := by decide +kernel
theorem dX12_undo_52 : decode cX12_undo 52 = .ok (.aload_n 0, 1) := by decide +kernel
theorem dX12_undo_53 : decode cX12_undo 53 = .ok (.iload 4, 2) := by decide +kernel
theorem dX12_undo_55 : decode cX12_undo 55 = .ok (.invokevirtual 234, 3) := by decide +kernel
theorem dX12_undo_58 : decode cX12_undo 58 = .ok (.iastore, 1) := by decide +kernel
theorem dX12_undo_59 : decode cX12_undo 59 = .ok (.iinc 2 1, 3) := by decide +kernel
theorem dX12_undo_62 : decode cX12_undo 62 = .ok (.iinc 3 (-1), 3) := by decide +kernel
theorem dX12_undo_65 : decode cX12_undo 65 = .ok (.goto (-47), 3) := by decide +kernel
theorem dX12_undo_68 : decode cX12_undo 68 = .ok (.iload_n 2, 1) := by decide +kernel
theorem dX12_undo_69 : decode cX12_undo 69 = .ok (.iload_n 3, 1) := by decide +kernel
theorem dX12_undo_70 : decode cX12_undo 70 = .ok (.if_icmp .ne 19, 3) := by decide +kernel
theorem dX12_undo_73 : decode cX12_undo 73 = .ok (.aload_n 0, 1) := by decide +kernel
theorem dX12_undo_74 : decode cX12_undo 74 = .ok (.getfield 99, 3) := by decide +kernel
theorem dX12_undo_77 : decode cX12_undo 77 = .ok (.iload_n 2, 1) := by decide +kernel
theorem dX12_undo_78 : decode cX12_undo 78 = .ok (.aload_n 0, 1) := by decide +kernel
theorem dX12_undo_79 : decode cX12_undo 79 = .ok (.aload_n 0, 1) := by decide +kernel
theorem dX12_undo_80 : decode cX12_undo 80 = .ok (.getfield 99, 3) := by decide +kernel
theorem dX12_undo_83 : decode cX12_undo 83 = .ok (.iload_n 2, 1) := by decide +kernel
theorem dX12_undo_84 : decode cX12_undo 84 = .ok (.iaload, 1) := by decide +kernel
theorem dX12_undo_85 : decode cX12_undo 85 = .ok (.invokevirtual 234, 3) := by decide +kernel
theorem dX12_undo_88 : decode cX12_undo 88 = .ok (.iastore, 1) := by decide +kernel
theorem dX12_undo_89 : decode cX12_undo 89 = .ok (.return_, 1) := by decide +kernel
theorem dX12_repeat_0 : decode cX12_repeat 0 = .ok (.aload_n 0, 1) := by decide +kernel
theorem dX12_repeat_1 : decode cX12_repeat 1 = .ok (.getfield 96, 3) := by decide +kernel
theorem dX12_repeat_4 : decode cX12_repeat 4 = .ok (.bipush 10, 2) := by decide +kernel
theorem dX12_repeat_6 : decode cX12_repeat 6 = .ok (.iaload, 1) := by decide +kernel
theorem dX12_repeat_7 : decode cX12_repeat 7 = .ok (.istore_n 3, 1) := by decide +kernel
theorem dX12_repeat_8 : decode cX12_repeat 8 = .ok (.iconst 1, 1) := by decide +kernel
theorem dX12_repeat_9 : decode cX12_repeat 9 = .ok (.istore 4, 2) := by decide +kernel
theorem dX12_repeat_11 : decode cX12_repeat 11 = .ok (.iload 4, 2) := by decide +kernel
theorem dX12_repeat_13 : decode cX12_repeat 13 = .ok (.iload_n 2, 1) := by decide +kernel
theorem dX12_repeat_14 : decode cX12_repeat 14 = .ok (.if_icmp .ge 46, 3) := by decide +kernel
theorem dX12_repeat_17 : decode cX12_repeat 17 = .ok (.aload_n 0, 1) := by decide +kernel
theorem dX12_repeat_18 : decode cX12_repeat 18 = .ok (.getfield 108, 3) := by decide +kernel
theorem dX12_repeat_21 : decode cX12_repeat 21 = .ok (.ifCond .ne 39, 3) := by decide +kernel
theorem dX12_repeat_24 : decode cX12_repeat 24 = .ok (.iload_n 1, 1) := by decide +kernel
theorem dX12_repeat_25 : decode cX12_repeat 25 = .ok (.istore 5, 2) := by decide +kernel
theorem dX12_repeat_27 : decode cX12_repeat 27 = .ok (.iload 5, 2) := by decide +kernel
theorem dX12_repeat_29 : decode cX12_repeat 29 = .ok (.iload_n 3, 1) := by decide +kernel
theorem dX12_repeat_30 : decode cX12_repeat 30 = .ok (.if_icmp .ge 24, 3) := by decide +kernel
theorem dX12_repeat_33 : decode cX12_repeat 33 = .ok (.aload_n 0, 1) := by decide +kernel
theorem dX12_repeat_34 : decode cX12_repeat 34 = .ok (.aload_n 0, 1) := by decide +kernel
theorem dX12_repeat_35 : decode cX12_repeat 35 = .ok (.getfield 99, 3) := by decide +kernel
theorem dX12_repeat_38 : decode cX12_repeat 38 = .ok (.sipush 3000, 3) := by decide +kernel
theorem dX12_repeat_41 : decode cX12_repeat 41 = .ok (.iload 5, 2) := by decide +kernel
theorem dX12_repeat_43 : decode cX12_repeat 43 = .ok (.iadd, 1) := by decide +kernel
theorem dX12_repeat_44 : decode cX12_repeat 44 = .ok (.iaload, 1) := by decide +kernel
theorem dX12_repeat_45 : decode cX12_repeat 45 = .ok (.invokevirtual 237, 3) := by decide +kernel
theorem dX12_repeat_48 : decode cX12_repeat 48 = .ok (.iinc 5 1, 3) := by decide +kernel
theorem dX12_repeat_51 : decode cX12_repeat 51 = .ok (.goto (-24), 3) := by decide +kernel
theorem dX12_repeat_54 : decode cX12_repeat 54 = .ok (.iinc 4 1, 3) := by decide +kernel
theorem dX12_repeat_57 : decode cX12_repeat 57 = .ok (.goto (-46), 3) := by decide +kernel
theorem dX12_repeat_60 : decode cX12_repeat 60 = .ok (.return_, 1) := by decide +kernel
theorem dX12_next_0 : decode cX12_next 0 = .ok (.aload_n 0, 1) := by decide +kernel
theorem dX12_next_1 : decode cX12_next 1 = .ok (.getfield 105, 3) := by decide +kernel
theorem dX12_next_4 : decode cX12_next 4 = .ok (.aload_n 0, 1) := by decide +kernel
theorem dX12_next_5 : decode cX12_next 5 = .ok (.getfield 93, 3) := by decide +kernel
theorem dX12_next_8 : decode cX12_next 8 = .ok (.if_icmp .ge 15, 3) := by decide +kernel
theorem dX12_next_11 : decode cX12_next 11 = .ok (.aload_n 0, 1) := by decide +kernel
theorem dX12_next_12 : decode cX12_next 12 = .ok (.getfield 102, 3) := by decide +kernel
theorem dX12_next_15 : decode cX12_next 15 = .ok (.aload_n 0, 1) := by decide +kernel
theorem dX12_next_16 : decode cX12_next 16 = .ok (.getfield 105, 3) := by decide +kernel
theorem dX12_next_19 : decode cX12_next 19 = .ok (.iaload, 1) := by decide +kernel
theorem dX12_next_20 : decode cX12_next 20 = .ok (.goto 4, 3) := by decide +kernel
theorem dX12_next_23 : decode cX12_next 23 = .ok (.iconst (-1), 1) := by decide +kernel
theorem dX12_next_24 : decode cX12_next 24 = .ok (.ireturn, 1) := by decide +kernel
theorem dX12_reads_0 : decode cX12_reads 0 = .ok (.aload_n 0, 1) := by decide +kernel
theorem dX12_reads_1 : decode cX12_reads 1 = .ok (.iconst 0, 1) := by decide +kernel
theorem dX12_reads_2 : decode cX12_reads 2 = .ok (.putfield 105, 3) := by decide +kernel
theorem dX12_reads_5 : decode cX12_reads 5 = .ok (.aload_n 0, 1) := by decide +kernel
theorem dX12_reads_6 : decode cX12_reads 6 = .ok (.getfield 96, 3) := by decide +kernel
theorem dX12_reads_9 : decode cX12_reads 9 = .ok (.bipush 10, 2) := by decide +kernel
theorem dX12_reads_11 : decode cX12_reads 11 = .ok (.iconst 0, 1) := by decide +kernel
theorem dX12_reads_12 : decode cX12_reads 12 = .ok (.iastore, 1) := by decide +kernel
theorem dX12_reads_13 : decode cX12_reads 13 = .ok (.aload_n 0, 1) := by decide +kernel
theorem dX12_reads_14 : decode cX12_reads 14 = .ok (.iconst 0, 1) := by decide +kernel
theorem dX12_reads_15 : decode cX12_reads 15 = .ok (.putfield 108, 3) := by decide +kernel
theorem dX12_reads_18 : decode cX12_reads 18 = .ok (.iconst 0, 1) := by decide +kernel
theorem dX12_reads_19 : decode cX12_reads 19 = .ok (.istore_n 1, 1) := by decide +kernel
theorem dX12_reads_20 : decode cX12_reads 20 = .ok (.aload_n 0, 1) := by decide +kernel
theorem dX12_reads_21 : decode cX12_reads 21 = .ok (.getfield 114, 3) := by decide +kernel
theorem dX12_reads_24 : decode cX12_reads 24 = .ok (.iconst 0, 1) := by decide +kernel
theorem dX12_reads_25 : decode cX12_reads 25 = .ok (.iconst 0, 1) := by decide +kernel
theorem dX12_reads_26 : decode cX12_reads 26 = .ok (.iastore, 1) := by decide +kernel
theorem dX12_reads_27 : decode cX12_reads 27 = .ok (.aload_n 0, 1) := by decide +kernel
theorem dX12_reads_28 : decode cX12_reads 28 = .ok (.getfield 105, 3) := by decide +kernel
theorem dX12_reads_31 : decode cX12_reads 31 = .ok (.aload_n 0, 1) := by decide +kernel
theorem dX12_reads_32 : decode cX12_reads 32 = .ok (.getfield 93, 3) := by decide +kernel
theorem dX12_reads_35 : decode cX12_reads 35 = .ok (.if_icmp .ge 333, 3) := by decide +kernel
theorem dX12_reads_38 : decode cX12_reads 38 = .ok (.aload_n 0, 1) := by decide +kernel
theorem dX12_reads_39 : decode cX12_reads 39 = .ok (.invokevirtual 241, 3) := by decide +kernel
theorem dX12_reads_42 : decode cX12_reads 42 = .ok (.istore_n 2, 1) := by decide +kernel
theorem dX12_reads_43 : decode cX12_reads 43 = .ok (.aload_n 0, 1) := by decide +kernel
theorem dX12_reads_44 : decode cX12_reads 44 = .ok (.iload_n 2, 1) := by decide +kernel
theorem dX12_reads_45 : decode cX12_reads 45 = .ok (.bipush 48, 2) := by decide +kernel
theorem dX12_reads_47 : decode cX12_reads 47 = .ok (.bipush 57, 2) := by decide +kernel
theorem dX12_reads_49 : decode cX12_reads 49 = .ok (.invokevirtual 195, 3) := by decide +kernel
theorem dX12_reads_52 : decode cX12_reads 52 = .ok (.ifCond .eq 62, 3) := by decide +kernel
theorem dX12_reads_55 : decode cX12_reads 55 = .ok (.aload_n 0, 1) := by decide +kernel
theorem dX12_reads_56 : decode cX12_reads 56 = .ok (.dup, 1) := by decide +kernel
theorem dX12_reads_57 : decode cX12_reads 57 = .ok (.getfield 105, 3) := by decide +kernel
theorem dX12_reads_60 : decode cX12_reads 60 = .ok (.iconst 1, 1) := by decide +kernel
theorem dX12_reads_61 : decode cX12_reads 61 = .ok (.iadd, 1) := by decide +kernel
theorem dX12_reads_62 : decode cX12_reads 62 = .ok (.putfield 105, 3) := by decide +kernel
theorem dX12_reads_65 : decode cX12_reads 65 = .ok (.aload_n 0, 1) := by decide +kernel
theorem dX12_reads_66 : decode cX12_reads 66 = .ok (.invokevirtual 241, 3) := by decide +kernel
theorem dX12_reads_69 : decode cX12_reads 69 = .ok (.bipush 60, 2) := by decide +kernel
theorem dX12_reads_71 : decode cX12_reads 71 = .ok (.if_icmp .eq 14, 3) := by decide +kernel
theorem dX12_reads_74 : decode cX12_reads 74 = .ok (.aload_n 0, 1) := by decide +kernel
theorem dX12_reads_75 : decode cX12_reads 75 = .ok (.invokevirtual 241, 3) := by decide +kernel
theorem dX12_reads_78 : decode cX12_reads 78 = .ok (.bipush 62, 2) := by decide +kernel
theorem dX12_reads_80 : decode cX12_reads 80 = .ok (.if_icmp .eq 5, 3) := by decide +kernel
theorem dX12_reads_83 : decode cX12_reads 83 = .ok (.iconst 0, 1) := by decide +kernel
theorem dX12_reads_84 : decode cX12_reads 84 = .ok (.ireturn, 1) := by decide +kernel
theorem dX12_reads_85 : decode cX12_reads 85 = .ok (.aload_n 0, 1) := by decide +kernel
theorem dX12_reads_86 : decode cX12_reads 86 = .ok (.bipush 10, 2) := by decide +kernel
theorem dX12_reads_88 : decode cX12_reads 88 = .ok (.iload_n 2, 1) := by decide +kernel
theorem dX12_reads_89 : decode cX12_reads 89 = .ok (.bipush 48, 2) := by decide +kernel
theorem dX12_reads_91 : decode cX12_reads 91 = .ok (.isub, 1) := by decide +kernel
theorem dX12_reads_92 : decode cX12_reads 92 = .ok (.imul, 1) := by decide +kernel
theorem dX12_reads_93 : decode cX12_reads 93 = .ok (.aload_n 0, 1) := by decide +kernel
theorem dX12_reads_94 : decode cX12_reads 94 = .ok (.invokevirtual 241, 3) := by decide +kernel
theorem dX12_reads_97 : decode cX12_reads 97 = .ok (.bipush 60, 2) := by decide +kernel
theorem dX12_reads_99 : decode cX12_reads 99 = .ok (.if_icmp .ne 7, 3) := by decide +kernel
theorem dX12_reads_102 : decode cX12_reads 102 = .ok (.iconst 0, 1) := by decide +kernel
theorem dX12_reads_103 : decode cX12_reads 103 = .ok (.goto 4, 3) := by decide +kernel
theorem dX12_reads_106 : decode cX12_reads 106 = .ok (.iconst 1, 1) := by decide +kernel
theorem dX12_reads_107 : decode cX12_reads 107 = .ok (.iadd, 1) := by decide +kernel
theorem dX12_reads_108 : decode cX12_reads 108 = .ok (.invokevirtual 237, 3) := by decide +kernel
theorem dX12_reads_111 : decode cX12_reads 111 = .ok (.goto 234, 3) := by decide +kernel
theorem dX12_reads_114 : decode cX12_reads 114 = .ok (.iload_n 2, 1) := by decide +kernel
theorem dX12_reads_115 : decode cX12_reads 115 = .ok (.bipush 119, 2) := by decide +kernel
theorem dX12_reads_117 : decode cX12_reads 117 = .ok (.if_icmp .eq 9, 3) := by decide +kernel
theorem dX12_reads_120 : decode cX12_reads 120 = .ok (.iload_n 2, 1) := by decide +kernel
theorem dX12_reads_121 : decode cX12_reads 121 = .ok (.bipush 118, 2) := by decide +kernel
theorem dX12_reads_123 : decode cX12_reads 123 = .ok (.if_icmp .ne 23, 3) := by decide +kernel
theorem dX12_reads_126 : decode cX12_reads 126 = .ok (.aload_n 0, 1) := by decide +kernel
theorem dX12_reads_127 : decode cX12_reads 127 = .ok (.iload_n 2, 1) := by decide +kernel
theorem dX12_reads_128 : decode cX12_reads 128 = .ok (.bipush 119, 2) := by decide +kernel
theorem dX12_reads_130 : decode cX12_reads 130 = .ok (.if_icmp .ne 8, 3) := by decide +kernel
theorem dX12_reads_133 : decode cX12_reads 133 = .ok (.bipush 100, 2) := by decide +kernel
theorem dX12_reads_135 : decode cX12_reads 135 = .ok (.goto 5, 3) := by decide +kernel
theorem dX12_reads_138 : decode cX12_reads 138 = .ok (.bipush 101, 2) := by decide +kernel
theorem dX12_reads_140 : decode cX12_reads 140 = .ok (.invokevirtual 237, 3) := by decide +kernel
theorem dX12_reads_143 : decode cX12_reads 143 = .ok (.goto 202, 3) := by decide +kernel
theorem dX12_reads_146 : decode cX12_reads 146 = .ok (.aload_n 0, 1) := by decide +kernel
theorem dX12_reads_147 : decode cX12_reads 147 = .ok (.iload_n 2, 1) := by decide +kernel
theorem dX12_reads_148 : decode cX12_reads 148 = .ok (.bipush 65, 2) := by decide +kernel
theorem dX12_reads_150 : decode cX12_reads 150 = .ok (.bipush 74, 2) := by decide +kernel
theorem dX12_reads_152 : decode cX12_reads 152 = .ok (.invokevirtual 195, 3) := by decide +kernel
theorem dX12_reads_155 : decode cX12_reads 155 = .ok (.ifCond .eq 57, 3) := by decide +kernel
theorem dX12_reads_158 : decode cX12_reads 158 = .ok (.aload_n 0, 1) := by decide +kernel
theorem dX12_reads_159 : decode cX12_reads 159 = .ok (.iload_n 2, 1) := by decide +kernel
theorem dX12_reads_160 : decode cX12_reads 160 = .ok (.bipush 65, 2) := by decide +kernel
theorem dX12_reads_162 : decode cX12_reads 162 = .ok (.isub, 1) := by decide +kernel
theorem dX12_reads_163 : decode cX12_reads 163 = .ok (.invokevirtual 244, 3) := by decide +kernel
theorem dX12_reads_166 : decode cX12_reads 166 = .ok (.ifCond .eq 46, 3) := by decide +kernel
theorem dX12_reads_169 : decode cX12_reads 169 = .ok (.iconst 0, 1) := by decide +kernel
theorem dX12_reads_170 : decode cX12_reads 170 = .ok (.istore_n 3, 1) := by decide +kernel
theorem dX12_reads_171 : decode cX12_reads 171 = .ok (.iload_n 3, 1) := by decide +kernel
theorem dX12_reads_172 : decode cX12_reads 172 = .ok (.aload_n 0, 1) := by decide +kernel
theorem dX12_reads_173 : decode cX12_reads 173 = .ok (.getfield 96, 3) := by decide +kernel
theorem dX12_reads_176 : decode cX12_reads 176 = .ok (.iload_n 2, 1) := by decide +kernel
theorem dX12_reads_177 : decode cX12_reads 177 = .ok (.bipush 65, 2) := by decide +kernel
theorem dX12_reads_179 : decode cX12_reads 179 = .ok (.isub, 1) := by decide +kernel
theorem dX12_reads_180 : decode cX12_reads 180 = .ok (.iaload, 1) := by decide +kernel
theorem dX12_reads_181 : decode cX12_reads 181 = .ok (.if_icmp .ge 28, 3) := by decide +kernel
theorem dX12_reads_184 : decode cX12_reads 184 = .ok (.aload_n 0, 1) := by decide +kernel
theorem dX12_reads_185 : decode cX12_reads 185 = .ok (.aload_n 0, 1) := by decide +kernel
theorem dX12_reads_186 : decode cX12_reads 186 = .ok (.getfield 99, 3) := by decide +kernel
theorem dX12_reads_189 : decode cX12_reads 189 = .ok (.sipush 300, 3) := by decide +kernel
theorem dX12_reads_192 : decode cX12_reads 192 = .ok (.iload_n 2, 1) := by decide +kernel
theorem dX12_reads_193 : decode cX12_reads 193 = .ok (.bipush 65, 2) := by decide +kernel
theorem dX12_reads_195 : decode cX12_reads 195 = .ok (.isub, 1) := by decide +kernel
theorem dX12_reads_196 : decode cX12_reads 196 = .ok (.imul, 1) := by decide +kernel
theorem dX12_reads_197 : decode cX12_reads 197 = .ok (.iload_n 3, 1) := by decide +kernel
theorem dX12_reads_198 : decode cX12_reads 198 = .ok (.iadd, 1) := by decide +kernel
theorem dX12_reads_199 : decode cX12_reads 199 = .ok (.iaload, 1) := by decide +kernel
theorem dX12_reads_200 : decode cX12_reads 200 = .ok (.invokevirtual 237, 3) := by decide +kernel
theorem dX12_reads_203 : decode cX12_reads 203 = .ok (.iinc 3 1, 3) := by decide +kernel
theorem dX12_reads_206 : decode cX12_reads 206 = .ok (.goto (-35), 3) := by decide +kernel
theorem dX12_reads_209 : decode cX12_reads 209 = .ok (.goto 136, 3) := by decide +kernel
theorem dX12_reads_212 : decode cX12_reads 212 = .ok (.iload_n 2, 1) := by decide +kernel
theorem dX12_reads_213 : decode cX12_reads 213 = .ok (.bipush 40, 2) := by decide +kernel
theorem dX12_reads_215 : decode cX12_reads 215 = .ok (.if_icmp .ne 34, 3) := by decide +kernel
theorem dX12_reads_218 : decode cX12_reads 218 = .ok (.iload_n 1, 1) := by decide +kernel
theorem dX12_reads_219 : decode cX12_reads 219 = .ok (.iconst 4, 1) := by decide +kernel
theorem dX12_reads_220 : decode cX12_reads 220 = .ok (.if_icmp .ge 29, 3) := by decide +kernel
theorem dX12_reads_223 : decode cX12_reads 223 = .ok (.iinc 1 1, 3) := by decide +kernel
theorem dX12_reads_226 : decode cX12_reads 226 = .ok (.aload_n 0, 1) := by decide +kernel
theorem dX12_reads_227 : decode cX12_reads 227 = .ok (.getfield 111, 3) := by decide +kernel
theorem dX12_reads_230 : decode cX12_reads 230 = .ok (.iload_n 1, 1) := by decide +kernel
theorem dX12_reads_231 : decode cX12_reads 231 = .ok (.aload_n 0, 1) := by decide +kernel
theorem dX12_reads_232 : decode cX12_reads 232 = .ok (.getfield 96, 3) := by decide +kernel
theorem dX12_reads_235 : decode cX12_reads 235 = .ok (.bipush 10, 2) := by decide +kernel
theorem dX12_reads_237 : decode cX12_reads 237 = .ok (.iaload, 1) := by decide +kernel
theorem dX12_reads_238 : decode cX12_reads 238 = .ok (.iastore, 1) := by decide +kernel
theorem dX12_reads_239 : decode cX12_reads 239 = .ok (.aload_n 0, 1) := by decide +kernel
theorem dX12_reads_240 : decode cX12_reads 240 = .ok (.getfield 114, 3) := by decide +kernel
theorem dX12_reads_243 : decode cX12_reads 243 = .ok (.iload_n 1, 1) := by decide +kernel
theorem dX12_reads_244 : decode cX12_reads 244 = .ok (.iconst (-1), 1) := by decide +kernel
theorem dX12_reads_245 : decode cX12_reads 245 = .ok (.iastore, 1) := by decide +kernel
theorem dX12_reads_246 : decode cX12_reads 246 = .ok (.goto 99, 3) := by decide +kernel
theorem dX12_reads_249 : decode cX12_reads 249 = .ok (.iload_n 2, 1) := by decide +kernel
theorem dX12_reads_250 : decode cX12_reads 250 = .ok (.bipush 41, 2) := by decide +kernel
theorem dX12_reads_252 : decode cX12_reads 252 = .ok (.if_icmp .ne 91, 3) := by decide +kernel
theorem dX12_reads_255 : decode cX12_reads 255 = .ok (.iload_n 1, 1) := by decide +kernel
theorem dX12_reads_256 : decode cX12_reads 256 = .ok (.ifCond .le 87, 3) := by decide +kernel
theorem dX12_reads_259 : decode cX12_reads 259 = .ok (.aload_n 0, 1) := by decide +kernel
theorem dX12_reads_260 : decode cX12_reads 260 = .ok (.getfield 114, 3) := by decide +kernel
theorem dX12_reads_263 : decode cX12_reads 263 = .ok (.iload_n 1, 1) := by decide +kernel
theorem dX12_reads_264 : decode cX12_reads 264 = .ok (.iaload, 1) := by decide +kernel
theorem dX12_reads_265 : decode cX12_reads 265 = .ok (.ifCond .le 78, 3) := by decide +kernel
theorem dX12_reads_268 : decode cX12_reads 268 = .ok (.aload_n 0, 1) := by decide +kernel
theorem dX12_reads_269 : decode cX12_reads 269 = .ok (.dup, 1) := by decide +kernel
theorem dX12_reads_270 : decode cX12_reads 270 = .ok (.getfield 105, 3) := by decide +kernel
theorem dX12_reads_273 : decode cX12_reads 273 = .ok (.iconst 1, 1) := by decide +kernel
theorem dX12_reads_274 : decode cX12_reads 274 = .ok (.iadd, 1) := by decide +kernel
theorem dX12_reads_275 : decode cX12_reads 275 = .ok (.putfield 105, 3) := by decide +kernel
theorem dX12_reads_278 : decode cX12_reads 278 = .ok (.aload_n 0, 1) := by decide +kernel
theorem dX12_reads_279 : decode cX12_reads 279 = .ok (.aload_n 0, 1) := by decide +kernel
theorem dX12_reads_280 : decode cX12_reads 280 = .ok (.invokevirtual 241, 3) := by decide +kernel
theorem dX12_reads_283 : decode cX12_reads 283 = .ok (.bipush 50, 2) := by decide +kernel
theorem dX12_reads_285 : decode cX12_reads 285 = .ok (.bipush 57, 2) := by decide +kernel
theorem dX12_reads_287 : decode cX12_reads 287 = .ok (.invokevirtual 195, 3) := by decide +kernel
theorem dX12_reads_290 : decode cX12_reads 290 = .ok (.ifCond .eq 23, 3) := by decide +kernel
theorem dX12_reads_293 : decode cX12_reads 293 = .ok (.aload_n 0, 1) := by decide +kernel
theorem dX12_reads_294 : decode cX12_reads 294 = .ok (.aload_n 0, 1) := by decide +kernel
theorem dX12_reads_295 : decode cX12_reads 295 = .ok (.getfield 111, 3) := by decide +kernel
theorem dX12_reads_298 : decode cX12_reads 298 = .ok (.iload_n 1, 1) := by decide +kernel
theorem dX12_reads_299 : decode cX12_reads 299 = .ok (.iaload, 1) := by decide +kernel
theorem dX12_reads_300 : decode cX12_reads 300 = .ok (.aload_n 0, 1) := by decide +kernel
theorem dX12_reads_301 : decode cX12_reads 301 = .ok (.invokevirtual 241, 3) := by decide +kernel
theorem dX12_reads_304 : decode cX12_reads 304 = .ok (.bipush 48, 2) := by decide +kernel
theorem dX12_reads_306 : decode cX12_reads 306 = .ok (.isub, 1) := by decide +kernel
theorem dX12_reads_307 : decode cX12_reads 307 = .ok (.invokevirtual 247, 3) := by decide +kernel
theorem dX12_reads_310 : decode cX12_reads 310 = .ok (.goto 27, 3) := by decide +kernel
theorem dX12_reads_313 : decode cX12_reads 313 = .ok (.aload_n 0, 1) := by decide +kernel
theorem dX12_reads_314 : decode cX12_reads 314 = .ok (.invokevirtual 241, 3) := by decide +kernel
theorem dX12_reads_317 : decode cX12_reads 317 = .ok (.bipush 45, 2) := by decide +kernel
theorem dX12_reads_319 : decode cX12_reads 319 = .ok (.if_icmp .ne 16, 3) := by decide +kernel
theorem dX12_reads_322 : decode cX12_reads 322 = .ok (.aload_n 0, 1) := by decide +kernel
theorem dX12_reads_323 : decode cX12_reads 323 = .ok (.aload_n 0, 1) := by decide +kernel
theorem dX12_reads_324 : decode cX12_reads 324 = .ok (.getfield 111, 3) := by decide +kernel
theorem dX12_reads_327 : decode cX12_reads 327 = .ok (.iload_n 1, 1) := by decide +kernel
theorem dX12_reads_328 : decode cX12_reads 328 = .ok (.iaload, 1) := by decide +kernel
theorem dX12_reads_329 : decode cX12_reads 329 = .ok (.invokevirtual 251, 3) := by decide +kernel
theorem dX12_reads_332 : decode cX12_reads 332 = .ok (.goto 5, 3) := by decide +kernel
theorem dX12_reads_335 : decode cX12_reads 335 = .ok (.iconst 0, 1) := by decide +kernel
theorem dX12_reads_336 : decode cX12_reads 336 = .ok (.ireturn, 1) := by decide +kernel
theorem dX12_reads_337 : decode cX12_reads 337 = .ok (.iinc 1 (-1), 3) := by decide +kernel
theorem dX12_reads_340 : decode cX12_reads 340 = .ok (.goto 5, 3) := by decide +kernel
theorem dX12_reads_343 : decode cX12_reads 343 = .ok (.iconst 0, 1) := by decide +kernel
theorem dX12_reads_344 : decode cX12_reads 344 = .ok (.ireturn, 1) := by decide +kernel
theorem dX12_reads_345 : decode cX12_reads 345 = .ok (.aload_n 0, 1) := by decide +kernel
theorem dX12_reads_346 : decode cX12_reads 346 = .ok (.getfield 114, 3) := by decide +kernel
theorem dX12_reads_349 : decode cX12_reads 349 = .ok (.iload_n 1, 1) := by decide +kernel
theorem dX12_reads_350 : decode cX12_reads 350 = .ok (.dup2, 1) := by decide +kernel
theorem dX12_reads_351 : decode cX12_reads 351 = .ok (.iaload, 1) := by decide +kernel
theorem dX12_reads_352 : decode cX12_reads 352 = .ok (.iconst 1, 1) := by decide +kernel
theorem dX12_reads_353 : decode cX12_reads 353 = .ok (.iadd, 1) := by decide +kernel
theorem dX12_reads_354 : decode cX12_reads 354 = .ok (.iastore, 1) := by decide +kernel
theorem dX12_reads_355 : decode cX12_reads 355 = .ok (.aload_n 0, 1) := by decide +kernel
theorem dX12_reads_356 : decode cX12_reads 356 = .ok (.dup, 1) := by decide +kernel
theorem dX12_reads_357 : decode cX12_reads 357 = .ok (.getfield 105, 3) := by decide +kernel
theorem dX12_reads_360 : decode cX12_reads 360 = .ok (.iconst 1, 1) := by decide +kernel
theorem dX12_reads_361 : decode cX12_reads 361 = .ok (.iadd, 1) := by decide +kernel
theorem dX12_reads_362 : decode cX12_reads 362 = .ok (.putfield 105, 3) := by decide +kernel
theorem dX12_reads_365 : decode cX12_reads 365 = .ok (.goto (-338), 3) := by decide +kernel
theorem dX12_reads_368 : decode cX12_reads 368 = .ok (.iload_n 1, 1) := by decide +kernel
theorem dX12_reads_369 : decode cX12_reads 369 = .ok (.ifCond .ne 16, 3) := by decide +kernel
theorem dX12_reads_372 : decode cX12_reads 372 = .ok (.aload_n 0, 1) := by decide +kernel
theorem dX12_reads_373 : decode cX12_reads 373 = .ok (.getfield 114, 3) := by decide +kernel
theorem dX12_reads_376 : decode cX12_reads 376 = .ok (.iconst 0, 1) := by decide +kernel
theorem dX12_reads_377 : decode cX12_reads 377 = .ok (.iaload, 1) := by decide +kernel
