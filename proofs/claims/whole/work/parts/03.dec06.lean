theorem dX12_findFar_87 : decode cX12_findFar 87 = .ok (.iaload, 1) := by decide +kernel
theorem dX12_findFar_88 : decode cX12_findFar 88 = .ok (.istore 4, 2) := by decide +kernel
theorem dX12_findFar_90 : decode cX12_findFar 90 = .ok (.aload_n 0, 1) := by decide +kernel
theorem dX12_findFar_91 : decode cX12_findFar 91 = .ok (.aload_n 0, 1) := by decide +kernel
theorem dX12_findFar_92 : decode cX12_findFar 92 = .ok (.getfield 153, 3) := by decide +kernel
theorem dX12_findFar_95 : decode cX12_findFar 95 = .ok (.iload_n 2, 1) := by decide +kernel
theorem dX12_findFar_96 : decode cX12_findFar 96 = .ok (.iaload, 1) := by decide +kernel
theorem dX12_findFar_97 : decode cX12_findFar 97 = .ok (.aload_n 0, 1) := by decide +kernel
theorem dX12_findFar_98 : decode cX12_findFar 98 = .ok (.getfield 144, 3) := by decide +kernel
theorem dX12_findFar_101 : decode cX12_findFar 101 = .ok (.invokevirtual 303, 3) := by decide +kernel
theorem dX12_findFar_104 : decode cX12_findFar 104 = .ok (.iinc 2 1, 3) := by decide +kernel
theorem dX12_findFar_107 : decode cX12_findFar 107 = .ok (.iconst 0, 1) := by decide +kernel
theorem dX12_findFar_108 : decode cX12_findFar 108 = .ok (.istore 5, 2) := by decide +kernel
theorem dX12_findFar_110 : decode cX12_findFar 110 = .ok (.iload 5, 2) := by decide +kernel
theorem dX12_findFar_112 : decode cX12_findFar 112 = .ok (.aload_n 0, 1) := by decide +kernel
theorem dX12_findFar_113 : decode cX12_findFar 113 = .ok (.getfield 13, 3) := by decide +kernel
theorem dX12_findFar_116 : decode cX12_findFar 116 = .ok (.if_icmp .ge 71, 3) := by decide +kernel
theorem dX12_findFar_119 : decode cX12_findFar 119 = .ok (.aload_n 0, 1) := by decide +kernel
theorem dX12_findFar_120 : decode cX12_findFar 120 = .ok (.aload_n 0, 1) := by decide +kernel
theorem dX12_findFar_121 : decode cX12_findFar 121 = .ok (.getfield 144, 3) := by decide +kernel
theorem dX12_findFar_124 : decode cX12_findFar 124 = .ok (.iload 5, 2) := by decide +kernel
theorem dX12_findFar_126 : decode cX12_findFar 126 = .ok (.invokevirtual 307, 3) := by decide +kernel
theorem dX12_findFar_129 : decode cX12_findFar 129 = .ok (.aload_n 0, 1) := by decide +kernel
theorem dX12_findFar_130 : decode cX12_findFar 130 = .ok (.aload_n 0, 1) := by decide +kernel
theorem dX12_findFar_131 : decode cX12_findFar 131 = .ok (.getfield 144, 3) := by decide +kernel
theorem dX12_findFar_134 : decode cX12_findFar 134 = .ok (.invokevirtual 300, 3) := by decide +kernel
theorem dX12_findFar_137 : decode cX12_findFar 137 = .ok (.istore 6, 2) := by decide +kernel
theorem dX12_findFar_139 : decode cX12_findFar 139 = .ok (.aload_n 0, 1) := by decide +kernel
theorem dX12_findFar_140 : decode cX12_findFar 140 = .ok (.getfield 150, 3) := by decide +kernel
theorem dX12_findFar_143 : decode cX12_findFar 143 = .ok (.iload 6, 2) := by decide +kernel
theorem dX12_findFar_145 : decode cX12_findFar 145 = .ok (.iaload, 1) := by decide +kernel
theorem dX12_findFar_146 : decode cX12_findFar 146 = .ok (.ifCond .ge 25, 3) := by decide +kernel
theorem dX12_findFar_149 : decode cX12_findFar 149 = .ok (.aload_n 0, 1) := by decide +kernel
theorem dX12_findFar_150 : decode cX12_findFar 150 = .ok (.getfield 150, 3) := by decide +kernel
theorem dX12_findFar_153 : decode cX12_findFar 153 = .ok (.iload 6, 2) := by decide +kernel
theorem dX12_findFar_155 : decode cX12_findFar 155 = .ok (.iload 4, 2) := by decide +kernel
theorem dX12_findFar_157 : decode cX12_findFar 157 = .ok (.iconst 1, 1) := by decide +kernel
theorem dX12_findFar_158 : decode cX12_findFar 158 = .ok (.iadd, 1) := by decide +kernel
theorem dX12_findFar_159 : decode cX12_findFar 159 = .ok (.iastore, 1) := by decide +kernel
theorem dX12_findFar_160 : decode cX12_findFar 160 = .ok (.aload_n 0, 1) := by decide +kernel
theorem dX12_findFar_161 : decode cX12_findFar 161 = .ok (.getfield 153, 3) := by decide +kernel
theorem dX12_findFar_164 : decode cX12_findFar 164 = .ok (.iload_n 3, 1) := by decide +kernel
theorem dX12_findFar_165 : decode cX12_findFar 165 = .ok (.iload 6, 2) := by decide +kernel
theorem dX12_findFar_167 : decode cX12_findFar 167 = .ok (.iastore, 1) := by decide +kernel
theorem dX12_findFar_168 : decode cX12_findFar 168 = .ok (.iinc 3 1, 3) := by decide +kernel
theorem dX12_findFar_171 : decode cX12_findFar 171 = .ok (.aload_n 0, 1) := by decide +kernel
theorem dX12_findFar_172 : decode cX12_findFar 172 = .ok (.aload_n 0, 1) := by decide +kernel
theorem dX12_findFar_173 : decode cX12_findFar 173 = .ok (.getfield 144, 3) := by decide +kernel
theorem dX12_findFar_176 : decode cX12_findFar 176 = .ok (.iload 5, 2) := by decide +kernel
theorem dX12_findFar_178 : decode cX12_findFar 178 = .ok (.invokevirtual 307, 3) := by decide +kernel
theorem dX12_findFar_181 : decode cX12_findFar 181 = .ok (.iinc 5 1, 3) := by decide +kernel
theorem dX12_findFar_184 : decode cX12_findFar 184 = .ok (.goto (-74), 3) := by decide +kernel
theorem dX12_findFar_187 : decode cX12_findFar 187 = .ok (.goto (-115), 3) := by decide +kernel
theorem dX12_findFar_190 : decode cX12_findFar 190 = .ok (.return_, 1) := by decide +kernel
theorem dX12_fewest_0 : decode cX12_fewest 0 = .ok (.aload_n 0, 1) := by decide +kernel
theorem dX12_fewest_1 : decode cX12_fewest 1 = .ok (.iload_n 1, 1) := by decide +kernel
theorem dX12_fewest_2 : decode cX12_fewest 2 = .ok (.invokevirtual 310, 3) := by decide +kernel
theorem dX12_fewest_5 : decode cX12_fewest 5 = .ok (.ifCond .eq 8, 3) := by decide +kernel
theorem dX12_fewest_8 : decode cX12_fewest 8 = .ok (.iload_n 2, 1) := by decide +kernel
theorem dX12_fewest_9 : decode cX12_fewest 9 = .ok (.iconst (-1), 1) := by decide +kernel
theorem dX12_fewest_10 : decode cX12_fewest 10 = .ok (.if_icmp .ge 5, 3) := by decide +kernel
theorem dX12_fewest_13 : decode cX12_fewest 13 = .ok (.iconst (-1), 1) := by decide +kernel
theorem dX12_fewest_14 : decode cX12_fewest 14 = .ok (.ireturn, 1) := by decide +kernel
theorem dX12_fewest_15 : decode cX12_fewest 15 = .ok (.aload_n 0, 1) := by decide +kernel
theorem dX12_fewest_16 : decode cX12_fewest 16 = .ok (.getfield 13, 3) := by decide +kernel
theorem dX12_fewest_19 : decode cX12_fewest 19 = .ok (.ifCond .eq 12, 3) := by decide +kernel
theorem dX12_fewest_22 : decode cX12_fewest 22 = .ok (.aload_n 0, 1) := by decide +kernel
theorem dX12_fewest_23 : decode cX12_fewest 23 = .ok (.getfield 13, 3) := by decide +kernel
theorem dX12_fewest_26 : decode cX12_fewest 26 = .ok (.bipush 7, 2) := by decide +kernel
theorem dX12_fewest_28 : decode cX12_fewest 28 = .ok (.if_icmp .le 6, 3) := by decide +kernel
theorem dX12_fewest_31 : decode cX12_fewest 31 = .ok (.bipush (-3), 2) := by decide +kernel
theorem dX12_fewest_33 : decode cX12_fewest 33 = .ok (.ireturn, 1) := by decide +kernel
theorem dX12_fewest_34 : decode cX12_fewest 34 = .ok (.aload_n 0, 1) := by decide +kernel
theorem dX12_fewest_35 : decode cX12_fewest 35 = .ok (.getfield 183, 3) := by decide +kernel
theorem dX12_fewest_38 : decode cX12_fewest 38 = .ok (.iload_n 1, 1) := by decide +kernel
theorem dX12_fewest_39 : decode cX12_fewest 39 = .ok (.iaload, 1) := by decide +kernel
theorem dX12_fewest_40 : decode cX12_fewest 40 = .ok (.ifCond .ge 6, 3) := by decide +kernel
theorem dX12_fewest_43 : decode cX12_fewest 43 = .ok (.bipush (-11), 2) := by decide +kernel
theorem dX12_fewest_45 : decode cX12_fewest 45 = .ok (.ireturn, 1) := by decide +kernel
theorem dX12_fewest_46 : decode cX12_fewest 46 = .ok (.aload_n 0, 1) := by decide +kernel
theorem dX12_fewest_47 : decode cX12_fewest 47 = .ok (.getfield 183, 3) := by decide +kernel
theorem dX12_fewest_50 : decode cX12_fewest 50 = .ok (.iload_n 1, 1) := by decide +kernel
theorem dX12_fewest_51 : decode cX12_fewest 51 = .ok (.iaload, 1) := by decide +kernel
theorem dX12_fewest_52 : decode cX12_fewest 52 = .ok (.ifCond .eq 6, 3) := by decide +kernel
theorem dX12_fewest_55 : decode cX12_fewest 55 = .ok (.bipush (-12), 2) := by decide +kernel
theorem dX12_fewest_57 : decode cX12_fewest 57 = .ok (.ireturn, 1) := by decide +kernel
theorem dX12_fewest_58 : decode cX12_fewest 58 = .ok (.aload_n 0, 1) := by decide +kernel
theorem dX12_fewest_59 : decode cX12_fewest 59 = .ok (.getfield 186, 3) := by decide +kernel
theorem dX12_fewest_62 : decode cX12_fewest 62 = .ok (.iload_n 1, 1) := by decide +kernel
theorem dX12_fewest_63 : decode cX12_fewest 63 = .ok (.iaload, 1) := by decide +kernel
theorem dX12_fewest_64 : decode cX12_fewest 64 = .ok (.aload_n 0, 1) := by decide +kernel
theorem dX12_fewest_65 : decode cX12_fewest 65 = .ok (.getfield 13, 3) := by decide +kernel
theorem dX12_fewest_68 : decode cX12_fewest 68 = .ok (.if_icmp .ge 6, 3) := by decide +kernel
theorem dX12_fewest_71 : decode cX12_fewest 71 = .ok (.bipush (-13), 2) := by decide +kernel
theorem dX12_fewest_73 : decode cX12_fewest 73 = .ok (.ireturn, 1) := by decide +kernel
theorem dX12_fewest_74 : decode cX12_fewest 74 = .ok (.iconst 0, 1) := by decide +kernel
theorem dX12_fewest_75 : decode cX12_fewest 75 = .ok (.istore_n 3, 1) := by decide +kernel
theorem dX12_fewest_76 : decode cX12_fewest 76 = .ok (.iconst 0, 1) := by decide +kernel
theorem dX12_fewest_77 : decode cX12_fewest 77 = .ok (.istore 4, 2) := by decide +kernel
theorem dX12_fewest_79 : decode cX12_fewest 79 = .ok (.iload 4, 2) := by decide +kernel
theorem dX12_fewest_81 : decode cX12_fewest 81 = .ok (.aload_n 0, 1) := by decide +kernel
theorem dX12_fewest_82 : decode cX12_fewest 82 = .ok (.getfield 13, 3) := by decide +kernel
theorem dX12_fewest_85 : decode cX12_fewest 85 = .ok (.if_icmp .ge 51, 3) := by decide +kernel
theorem dX12_fewest_88 : decode cX12_fewest 88 = .ok (.aload_n 0, 1) := by decide +kernel
theorem dX12_fewest_89 : decode cX12_fewest 89 = .ok (.getfield 189, 3) := by decide +kernel
theorem dX12_fewest_92 : decode cX12_fewest 92 = .ok (.bipush 60, 2) := by decide +kernel
theorem dX12_fewest_94 : decode cX12_fewest 94 = .ok (.iload_n 1, 1) := by decide +kernel
theorem dX12_fewest_95 : decode cX12_fewest 95 = .ok (.imul, 1) := by decide +kernel
theorem dX12_fewest_96 : decode cX12_fewest 96 = .ok (.iload 4, 2) := by decide +kernel
theorem dX12_fewest_98 : decode cX12_fewest 98 = .ok (.iadd, 1) := by decide +kernel
theorem dX12_fewest_99 : decode cX12_fewest 99 = .ok (.iaload, 1) := by decide +kernel
theorem dX12_fewest_100 : decode cX12_fewest 100 = .ok (.istore 5, 2) := by decide +kernel
theorem dX12_fewest_102 : decode cX12_fewest 102 = .ok (.aload_n 0, 1) := by decide +kernel
theorem dX12_fewest_103 : decode cX12_fewest 103 = .ok (.iload 5, 2) := by decide +kernel
theorem dX12_fewest_105 : decode cX12_fewest 105 = .ok (.invokevirtual 199, 3) := by decide +kernel
theorem dX12_fewest_108 : decode cX12_fewest 108 = .ok (.ifCond .ne 6, 3) := by decide +kernel
theorem dX12_fewest_111 : decode cX12_fewest 111 = .ok (.bipush (-2), 2) := by decide +kernel
theorem dX12_fewest_113 : decode cX12_fewest 113 = .ok (.ireturn, 1) := by decide +kernel
theorem dX12_fewest_114 : decode cX12_fewest 114 = .ok (.iload_n 3, 1) := by decide +kernel
theorem dX12_fewest_115 : decode cX12_fewest 115 = .ok (.iconst 1, 1) := by decide +kernel
theorem dX12_fewest_116 : decode cX12_fewest 116 = .ok (.iload 5, 2) := by decide +kernel
theorem dX12_fewest_118 : decode cX12_fewest 118 = .ok (.ishl, 1) := by decide +kernel
theorem dX12_fewest_119 : decode cX12_fewest 119 = .ok (.ior, 1) := by decide +kernel
theorem dX12_fewest_120 : decode cX12_fewest 120 = .ok (.istore_n 3, 1) := by decide +kernel
theorem dX12_fewest_121 : decode cX12_fewest 121 = .ok (.aload_n 0, 1) := by decide +kernel
theorem dX12_fewest_122 : decode cX12_fewest 122 = .ok (.getfield 147, 3) := by decide +kernel
theorem dX12_fewest_125 : decode cX12_fewest 125 = .ok (.iload 4, 2) := by decide +kernel
theorem dX12_fewest_127 : decode cX12_fewest 127 = .ok (.iload 5, 2) := by decide +kernel
theorem dX12_fewest_129 : decode cX12_fewest 129 = .ok (.iastore, 1) := by decide +kernel
theorem dX12_fewest_130 : decode cX12_fewest 130 = .ok (.iinc 4 1, 3) := by decide +kernel
theorem dX12_fewest_133 : decode cX12_fewest 133 = .ok (.goto (-54), 3) := by decide +kernel
theorem dX12_fewest_136 : decode cX12_fewest 136 = .ok (.iload_n 3, 1) := by decide +kernel
theorem dX12_fewest_137 : decode cX12_fewest 137 = .ok (.iconst 1, 1) := by decide +kernel
theorem dX12_fewest_138 : decode cX12_fewest 138 = .ok (.aload_n 0, 1) := by decide +kernel
theorem dX12_fewest_139 : decode cX12_fewest 139 = .ok (.getfield 13, 3) := by decide +kernel
theorem dX12_fewest_142 : decode cX12_fewest 142 = .ok (.ishl, 1) := by decide +kernel
theorem dX12_fewest_143 : decode cX12_fewest 143 = .ok (.iconst 1, 1) := by decide +kernel
theorem dX12_fewest_144 : decode cX12_fewest 144 = .ok (.isub, 1) := by decide +kernel
theorem dX12_fewest_145 : decode cX12_fewest 145 = .ok (.if_icmp .eq 6, 3) := by decide +kernel
theorem dX12_fewest_148 : decode cX12_fewest 148 = .ok (.bipush (-2), 2) := by decide +kernel
theorem dX12_fewest_150 : decode cX12_fewest 150 = .ok (.ireturn, 1) := by decide +kernel
theorem dX12_fewest_151 : decode cX12_fewest 151 = .ok (.aload_n 0, 1) := by decide +kernel
theorem dX12_fewest_152 : decode cX12_fewest 152 = .ok (.invokevirtual 313, 3) := by decide +kernel
theorem dX12_fewest_155 : decode cX12_fewest 155 = .ok (.iconst 0, 1) := by decide +kernel
theorem dX12_fewest_156 : decode cX12_fewest 156 = .ok (.istore 4, 2) := by decide +kernel
theorem dX12_fewest_158 : decode cX12_fewest 158 = .ok (.iload 4, 2) := by decide +kernel
theorem dX12_fewest_160 : decode cX12_fewest 160 = .ok (.aload_n 0, 1) := by decide +kernel
theorem dX12_fewest_161 : decode cX12_fewest 161 = .ok (.getfield 13, 3) := by decide +kernel
theorem dX12_fewest_164 : decode cX12_fewest 164 = .ok (.if_icmp .ge 23, 3) := by decide +kernel
theorem dX12_fewest_167 : decode cX12_fewest 167 = .ok (.aload_n 0, 1) := by decide +kernel
theorem dX12_fewest_168 : decode cX12_fewest 168 = .ok (.getfield 144, 3) := by decide +kernel
theorem dX12_fewest_171 : decode cX12_fewest 171 = .ok (.iload 4, 2) := by decide +kernel
theorem dX12_fewest_173 : decode cX12_fewest 173 = .ok (.aload_n 0, 1) := by decide +kernel
theorem dX12_fewest_174 : decode cX12_fewest 174 = .ok (.getfield 29, 3) := by decide +kernel
theorem dX12_fewest_177 : decode cX12_fewest 177 = .ok (.iload 4, 2) := by decide +kernel
theorem dX12_fewest_179 : decode cX12_fewest 179 = .ok (.iaload, 1) := by decide +kernel
theorem dX12_fewest_180 : decode cX12_fewest 180 = .ok (.iastore, 1) := by decide +kernel
theorem dX12_fewest_181 : decode cX12_fewest 181 = .ok (.iinc 4 1, 3) := by decide +kernel
theorem dX12_fewest_184 : decode cX12_fewest 184 = .ok (.goto (-26), 3) := by decide +kernel
theorem dX12_fewest_187 : decode cX12_fewest 187 = .ok (.aload_n 0, 1) := by decide +kernel
theorem dX12_fewest_188 : decode cX12_fewest 188 = .ok (.iconst 0, 1) := by decide +kernel
theorem dX12_fewest_189 : decode cX12_fewest 189 = .ok (.putfield 159, 3) := by decide +kernel
theorem dX12_fewest_192 : decode cX12_fewest 192 = .ok (.aload_n 0, 1) := by decide +kernel
theorem dX12_fewest_193 : decode cX12_fewest 193 = .ok (.getfield 150, 3) := by decide +kernel
theorem dX12_fewest_196 : decode cX12_fewest 196 = .ok (.aload_n 0, 1) := by decide +kernel
theorem dX12_fewest_197 : decode cX12_fewest 197 = .ok (.aload_n 0, 1) := by decide +kernel
theorem dX12_fewest_198 : decode cX12_fewest 198 = .ok (.getfield 144, 3) := by decide +kernel
theorem dX12_fewest_201 : decode cX12_fewest 201 = .ok (.invokevirtual 300, 3) := by decide +kernel
theorem dX12_fewest_204 : decode cX12_fewest 204 = .ok (.iaload, 1) := by decide +kernel
theorem dX12_fewest_205 : decode cX12_fewest 205 = .ok (.ifCond .le 100, 3) := by decide +kernel
theorem dX12_fewest_208 : decode cX12_fewest 208 = .ok (.aload_n 0, 1) := by decide +kernel
theorem dX12_fewest_209 : decode cX12_fewest 209 = .ok (.getfield 150, 3) := by decide +kernel
theorem dX12_fewest_212 : decode cX12_fewest 212 = .ok (.aload_n 0, 1) := by decide +kernel
theorem dX12_fewest_213 : decode cX12_fewest 213 = .ok (.aload_n 0, 1) := by decide +kernel
theorem dX12_fewest_214 : decode cX12_fewest 214 = .ok (.getfield 144, 3) := by decide +kernel
theorem dX12_fewest_217 : decode cX12_fewest 217 = .ok (.invokevirtual 300, 3) := by decide +kernel
theorem dX12_fewest_220 : decode cX12_fewest 220 = .ok (.iaload, 1) := by decide +kernel
theorem dX12_fewest_221 : decode cX12_fewest 221 = .ok (.istore 4, 2) := by decide +kernel
theorem dX12_fewest_223 : decode cX12_fewest 223 = .ok (.iconst 0, 1) := by decide +kernel
theorem dX12_fewest_224 : decode cX12_fewest 224 = .ok (.istore 5, 2) := by decide +kernel
theorem dX12_fewest_226 : decode cX12_fewest 226 = .ok (.aload_n 0, 1) := by decide +kernel
theorem dX12_fewest_227 : decode cX12_fewest 227 = .ok (.aload_n 0, 1) := by decide +kernel
theorem dX12_fewest_228 : decode cX12_fewest 228 = .ok (.getfield 144, 3) := by decide +kernel
theorem dX12_fewest_231 : decode cX12_fewest 231 = .ok (.iconst 0, 1) := by decide +kernel
theorem dX12_fewest_232 : decode cX12_fewest 232 = .ok (.invokevirtual 307, 3) := by decide +kernel
theorem dX12_fewest_235 : decode cX12_fewest 235 = .ok (.aload_n 0, 1) := by decide +kernel
theorem dX12_fewest_236 : decode cX12_fewest 236 = .ok (.getfield 150, 3) := by decide +kernel
theorem dX12_fewest_239 : decode cX12_fewest 239 = .ok (.aload_n 0, 1) := by decide +kernel
theorem dX12_fewest_240 : decode cX12_fewest 240 = .ok (.aload_n 0, 1) := by decide +kernel
theorem dX12_fewest_241 : decode cX12_fewest 241 = .ok (.getfield 144, 3) := by decide +kernel
theorem dX12_fewest_244 : decode cX12_fewest 244 = .ok (.invokevirtual 300, 3) := by decide +kernel
theorem dX12_fewest_247 : decode cX12_fewest 247 = .ok (.iaload, 1) := by decide +kernel
theorem dX12_fewest_248 : decode cX12_fewest 248 = .ok (.iload 4, 2) := by decide +kernel
theorem dX12_fewest_250 : decode cX12_fewest 250 = .ok (.iconst 1, 1) := by decide +kernel
theorem dX12_fewest_251 : decode cX12_fewest 251 = .ok (.isub, 1) := by decide +kernel
theorem dX12_fewest_252 : decode cX12_fewest 252 = .ok (.if_icmp .eq 29, 3) := by decide +kernel
theorem dX12_fewest_255 : decode cX12_fewest 255 = .ok (.aload_n 0, 1) := by decide +kernel
theorem dX12_fewest_256 : decode cX12_fewest 256 = .ok (.aload_n 0, 1) := by decide +kernel
theorem dX12_fewest_257 : decode cX12_fewest 257 = .ok (.getfield 144, 3) := by decide +kernel
theorem dX12_fewest_260 : decode cX12_fewest 260 = .ok (.iload 5, 2) := by decide +kernel
theorem dX12_fewest_262 : decode cX12_fewest 262 = .ok (.invokevirtual 307, 3) := by decide +kernel
theorem dX12_fewest_265 : decode cX12_fewest 265 = .ok (.iinc 5 1, 3) := by decide +kernel
theorem dX12_fewest_268 : decode cX12_fewest 268 = .ok (.aload_n 0, 1) := by decide +kernel
theorem dX12_fewest_269 : decode cX12_fewest 269 = .ok (.aload_n 0, 1) := by decide +kernel
theorem dX12_fewest_270 : decode cX12_fewest 270 = .ok (.getfield 144, 3) := by decide +kernel
theorem dX12_fewest_273 : decode cX12_fewest 273 = .ok (.iload 5, 2) := by decide +kernel
theorem dX12_fewest_275 : decode cX12_fewest 275 = .ok (.invokevirtual 307, 3) := by decide +kernel
theorem dX12_fewest_278 : decode cX12_fewest 278 = .ok (.goto (-43), 3) := by decide +kernel
theorem dX12_fewest_281 : decode cX12_fewest 281 = .ok (.aload_n 0, 1) := by decide +kernel
theorem dX12_fewest_282 : decode cX12_fewest 282 = .ok (.getfield 156, 3) := by decide +kernel
theorem dX12_fewest_285 : decode cX12_fewest 285 = .ok (.aload_n 0, 1) := by decide +kernel
theorem dX12_fewest_286 : decode cX12_fewest 286 = .ok (.getfield 159, 3) := by decide +kernel
theorem dX12_fewest_289 : decode cX12_fewest 289 = .ok (.iload 5, 2) := by decide +kernel
theorem dX12_fewest_291 : decode cX12_fewest 291 = .ok (.iastore, 1) := by decide +kernel
theorem dX12_fewest_292 : decode cX12_fewest 292 = .ok (.aload_n 0, 1) := by decide +kernel
theorem dX12_fewest_293 : decode cX12_fewest 293 = .ok (.dup, 1) := by decide +kernel
theorem dX12_fewest_294 : decode cX12_fewest 294 = .ok (.getfield 159, 3) := by decide +kernel
theorem dX12_fewest_297 : decode cX12_fewest 297 = .ok (.iconst 1, 1) := by decide +kernel
theorem dX12_fewest_298 : decode cX12_fewest 298 = .ok (.iadd, 1) := by decide +kernel
theorem dX12_fewest_299 : decode cX12_fewest 299 = .ok (.putfield 159, 3) := by decide +kernel
theorem dX12_fewest_302 : decode cX12_fewest 302 = .ok (.goto (-110), 3) := by decide +kernel
theorem dX12_fewest_305 : decode cX12_fewest 305 = .ok (.iload_n 2, 1) := by decide +kernel
theorem dX12_fewest_306 : decode cX12_fewest 306 = .ok (.iconst (-1), 1) := by decide +kernel
theorem dX12_fewest_307 : decode cX12_fewest 307 = .ok (.if_icmp .ne 10, 3) := by decide +kernel
theorem dX12_fewest_310 : decode cX12_fewest 310 = .ok (.aload_n 0, 1) := by decide +kernel
theorem dX12_fewest_311 : decode cX12_fewest 311 = .ok (.getfield 159, 3) := by decide +kernel
theorem dX12_fewest_314 : decode cX12_fewest 314 = .ok (.goto 21, 3) := by decide +kernel
theorem dX12_fewest_317 : decode cX12_fewest 317 = .ok (.iload_n 2, 1) := by decide +kernel
theorem dX12_fewest_318 : decode cX12_fewest 318 = .ok (.aload_n 0, 1) := by decide +kernel
theorem dX12_fewest_319 : decode cX12_fewest 319 = .ok (.getfield 159, 3) := by decide +kernel
theorem dX12_fewest_322 : decode cX12_fewest 322 = .ok (.if_icmp .ge 12, 3) := by decide +kernel
theorem dX12_fewest_325 : decode cX12_fewest 325 = .ok (.aload_n 0, 1) := by decide +kernel
theorem dX12_fewest_326 : decode cX12_fewest 326 = .ok (.getfield 156, 3) := by decide +kernel
theorem dX12_fewest_329 : decode cX12_fewest 329 = .ok (.iload_n 2, 1) := by decide +kernel
theorem dX12_fewest_330 : decode cX12_fewest 330 = .ok (.iaload, 1) := by decide +kernel
theorem dX12_fewest_331 : decode cX12_fewest 331 = .ok (.goto 4, 3) := by decide +kernel
theorem dX12_fewest_334 : decode cX12_fewest 334 = .ok (.iconst (-1), 1) := by decide +kernel
theorem dX12_fewest_335 : decode cX12_fewest 335 = .ok (.ireturn, 1) := by decide +kernel
theorem dX12_findSet_0 : decode cX12_findSet 0 = .ok (.aload_n 0, 1) := by decide +kernel
theorem dX12_findSet_1 : decode cX12_findSet 1 = .ok (.getfield 13, 3) := by decide +kernel
theorem dX12_findSet_4 : decode cX12_findSet 4 = .ok (.ifCond .eq 12, 3) := by decide +kernel
theorem dX12_findSet_7 : decode cX12_findSet 7 = .ok (.aload_n 0, 1) := by decide +kernel
theorem dX12_findSet_8 : decode cX12_findSet 8 = .ok (.getfield 13, 3) := by decide +kernel
theorem dX12_findSet_11 : decode cX12_findSet 11 = .ok (.bipush 7, 2) := by decide +kernel
theorem dX12_findSet_13 : decode cX12_findSet 13 = .ok (.if_icmp .le 6, 3) := by decide +kernel
theorem dX12_findSet_16 : decode cX12_findSet 16 = .ok (.bipush (-3), 2) := by decide +kernel
theorem dX12_findSet_18 : decode cX12_findSet 18 = .ok (.ireturn, 1) := by decide +kernel
theorem dX12_findSet_19 : decode cX12_findSet 19 = .ok (.iload_n 1, 1) := by decide +kernel
theorem dX12_findSet_20 : decode cX12_findSet 20 = .ok (.ifCond .lt 12, 3) := by decide +kernel
theorem dX12_findSet_23 : decode cX12_findSet 23 = .ok (.iload_n 1, 1) := by decide +kernel
theorem dX12_findSet_24 : decode cX12_findSet 24 = .ok (.aload_n 0, 1) := by decide +kernel
theorem dX12_findSet_25 : decode cX12_findSet 25 = .ok (.getfield 7, 3) := by decide +kernel
theorem dX12_findSet_28 : decode cX12_findSet 28 = .ok (.ishr, 1) := by decide +kernel
theorem dX12_findSet_29 : decode cX12_findSet 29 = .ok (.ifCond .eq 6, 3) := by decide +kernel
theorem dX12_findSet_32 : decode cX12_findSet 32 = .ok (.bipush (-2), 2) := by decide +kernel
theorem dX12_findSet_34 : decode cX12_findSet 34 = .ok (.ireturn, 1) := by decide +kernel
theorem dX12_findSet_35 : decode cX12_findSet 35 = .ok (.iconst 0, 1) := by decide +kernel
theorem dX12_findSet_36 : decode cX12_findSet 36 = .ok (.istore_n 2, 1) := by decide +kernel
theorem dX12_findSet_37 : decode cX12_findSet 37 = .ok (.iconst 0, 1) := by decide +kernel
theorem dX12_findSet_38 : decode cX12_findSet 38 = .ok (.istore_n 3, 1) := by decide +kernel
theorem dX12_findSet_39 : decode cX12_findSet 39 = .ok (.iload_n 3, 1) := by decide +kernel
theorem dX12_findSet_40 : decode cX12_findSet 40 = .ok (.aload_n 0, 1) := by decide +kernel
theorem dX12_findSet_41 : decode cX12_findSet 41 = .ok (.getfield 7, 3) := by decide +kernel
theorem dX12_findSet_44 : decode cX12_findSet 44 = .ok (.if_icmp .ge 51, 3) := by decide +kernel
theorem dX12_findSet_47 : decode cX12_findSet 47 = .ok (.iload_n 1, 1) := by decide +kernel
theorem dX12_findSet_48 : decode cX12_findSet 48 = .ok (.iload_n 3, 1) := by decide +kernel
theorem dX12_findSet_49 : decode cX12_findSet 49 = .ok (.ishr, 1) := by decide +kernel
theorem dX12_findSet_50 : decode cX12_findSet 50 = .ok (.iconst 1, 1) := by decide +kernel
theorem dX12_findSet_51 : decode cX12_findSet 51 = .ok (.iand, 1) := by decide +kernel
theorem dX12_findSet_52 : decode cX12_findSet 52 = .ok (.ifCond .ne 6, 3) := by decide +kernel
theorem dX12_findSet_55 : decode cX12_findSet 55 = .ok (.goto 34, 3) := by decide +kernel
theorem dX12_findSet_58 : decode cX12_findSet 58 = .ok (.aload_n 0, 1) := by decide +kernel
theorem dX12_findSet_59 : decode cX12_findSet 59 = .ok (.getfield 16, 3) := by decide +kernel
theorem dX12_findSet_62 : decode cX12_findSet 62 = .ok (.iload_n 3, 1) := by decide +kernel
theorem dX12_findSet_63 : decode cX12_findSet 63 = .ok (.iaload, 1) := by decide +kernel
theorem dX12_findSet_64 : decode cX12_findSet 64 = .ok (.iconst 4, 1) := by decide +kernel
theorem dX12_findSet_65 : decode cX12_findSet 65 = .ok (.if_icmp .eq 11, 3) := by decide +kernel
theorem dX12_findSet_68 : decode cX12_findSet 68 = .ok (.iload_n 2, 1) := by decide +kernel
theorem dX12_findSet_69 : decode cX12_findSet 69 = .ok (.aload_n 0, 1) := by decide +kernel
theorem dX12_findSet_70 : decode cX12_findSet 70 = .ok (.getfield 13, 3) := by decide +kernel
theorem dX12_findSet_73 : decode cX12_findSet 73 = .ok (.if_icmp .ne 6, 3) := by decide +kernel
theorem dX12_findSet_76 : decode cX12_findSet 76 = .ok (.bipush (-2), 2) := by decide +kernel
theorem dX12_findSet_78 : decode cX12_findSet 78 = .ok (.ireturn, 1) := by decide +kernel
theorem dX12_findSet_79 : decode cX12_findSet 79 = .ok (.aload_n 0, 1) := by decide +kernel
theorem dX12_findSet_80 : decode cX12_findSet 80 = .ok (.getfield 165, 3) := by decide +kernel
theorem dX12_findSet_83 : decode cX12_findSet 83 = .ok (.iload_n 2, 1) := by decide +kernel
theorem dX12_findSet_84 : decode cX12_findSet 84 = .ok (.iload_n 3, 1) := by decide +kernel
theorem dX12_findSet_85 : decode cX12_findSet 85 = .ok (.iastore, 1) := by decide +kernel
theorem dX12_findSet_86 : decode cX12_findSet 86 = .ok (.iinc 2 1, 3) := by decide +kernel
theorem dX12_findSet_89 : decode cX12_findSet 89 = .ok (.iinc 3 1, 3) := by decide +kernel
theorem dX12_findSet_92 : decode cX12_findSet 92 = .ok (.goto (-53), 3) := by decide +kernel
theorem dX12_findSet_95 : decode cX12_findSet 95 = .ok (.iload_n 2, 1) := by decide +kernel
theorem dX12_findSet_96 : decode cX12_findSet 96 = .ok (.aload_n 0, 1) := by decide +kernel
theorem dX12_findSet_97 : decode cX12_findSet 97 = .ok (.getfield 13, 3) := by decide +kernel
theorem dX12_findSet_100 : decode cX12_findSet 100 = .ok (.if_icmp .eq 6, 3) := by decide +kernel
theorem dX12_findSet_103 : decode cX12_findSet 103 = .ok (.bipush (-2), 2) := by decide +kernel
theorem dX12_findSet_105 : decode cX12_findSet 105 = .ok (.ireturn, 1) := by decide +kernel
theorem dX12_findSet_106 : decode cX12_findSet 106 = .ok (.iconst 1, 1) := by decide +kernel
theorem dX12_findSet_107 : decode cX12_findSet 107 = .ok (.istore_n 3, 1) := by decide +kernel
theorem dX12_findSet_108 : decode cX12_findSet 108 = .ok (.iconst 2, 1) := by decide +kernel
theorem dX12_findSet_109 : decode cX12_findSet 109 = .ok (.istore 4, 2) := by decide +kernel
theorem dX12_findSet_111 : decode cX12_findSet 111 = .ok (.iload 4, 2) := by decide +kernel
theorem dX12_findSet_113 : decode cX12_findSet 113 = .ok (.aload_n 0, 1) := by decide +kernel
theorem dX12_findSet_114 : decode cX12_findSet 114 = .ok (.getfield 13, 3) := by decide +kernel
theorem dX12_findSet_117 : decode cX12_findSet 117 = .ok (.if_icmp .gt 14, 3) := by decide +kernel
theorem dX12_findSet_120 : decode cX12_findSet 120 = .ok (.iload_n 3, 1) := by decide +kernel
theorem dX12_findSet_121 : decode cX12_findSet 121 = .ok (.iload 4, 2) := by decide +kernel
theorem dX12_findSet_123 : decode cX12_findSet 123 = .ok (.imul, 1) := by decide +kernel
theorem dX12_findSet_124 : decode cX12_findSet 124 = .ok (.istore_n 3, 1) := by decide +kernel
theorem dX12_findSet_125 : decode cX12_findSet 125 = .ok (.iinc 4 1, 3) := by decide +kernel
theorem dX12_findSet_128 : decode cX12_findSet 128 = .ok (.goto (-17), 3) := by decide +kernel
theorem dX12_findSet_131 : decode cX12_findSet 131 = .ok (.aload_n 0, 1) := by decide +kernel
theorem dX12_findSet_132 : decode cX12_findSet 132 = .ok (.ldc_w 316, 3) := by decide +kernel
theorem dX12_findSet_135 : decode cX12_findSet 135 = .ok (.putfield 174, 3) := by decide +kernel
theorem dX12_findSet_138 : decode cX12_findSet 138 = .ok (.iconst 0, 1) := by decide +kernel
theorem dX12_findSet_139 : decode cX12_findSet 139 = .ok (.istore 4, 2) := by decide +kernel
theorem dX12_findSet_141 : decode cX12_findSet 141 = .ok (.iload 4, 2) := by decide +kernel
theorem dX12_findSet_143 : decode cX12_findSet 143 = .ok (.iload_n 3, 1) := by decide +kernel
theorem dX12_findSet_144 : decode cX12_findSet 144 = .ok (.if_icmp .ge 143, 3) := by decide +kernel
theorem dX12_findSet_147 : decode cX12_findSet 147 = .ok (.aload_n 0, 1) := by decide +kernel
theorem dX12_findSet_148 : decode cX12_findSet 148 = .ok (.iload 4, 2) := by decide +kernel
theorem dX12_findSet_150 : decode cX12_findSet 150 = .ok (.aload_n 0, 1) := by decide +kernel
theorem dX12_findSet_151 : decode cX12_findSet 151 = .ok (.getfield 168, 3) := by decide +kernel
theorem dX12_findSet_154 : decode cX12_findSet 154 = .ok (.invokevirtual 303, 3) := by decide +kernel
theorem dX12_findSet_157 : decode cX12_findSet 157 = .ok (.iconst 0, 1) := by decide +kernel
theorem dX12_findSet_158 : decode cX12_findSet 158 = .ok (.istore 5, 2) := by decide +kernel
theorem dX12_findSet_160 : decode cX12_findSet 160 = .ok (.iconst 0, 1) := by decide +kernel
theorem dX12_findSet_161 : decode cX12_findSet 161 = .ok (.istore 6, 2) := by decide +kernel
theorem dX12_findSet_163 : decode cX12_findSet 163 = .ok (.iload 6, 2) := by decide +kernel
theorem dX12_findSet_165 : decode cX12_findSet 165 = .ok (.aload_n 0, 1) := by decide +kernel
theorem dX12_findSet_166 : decode cX12_findSet 166 = .ok (.getfield 13, 3) := by decide +kernel
theorem dX12_findSet_169 : decode cX12_findSet 169 = .ok (.if_icmp .ge 57, 3) := by decide +kernel
theorem dX12_findSet_172 : decode cX12_findSet 172 = .ok (.iload 5, 2) := by decide +kernel
theorem dX12_findSet_174 : decode cX12_findSet 174 = .ok (.aload_n 0, 1) := by decide +kernel
theorem dX12_findSet_175 : decode cX12_findSet 175 = .ok (.aload_n 0, 1) := by decide +kernel
theorem dX12_findSet_176 : decode cX12_findSet 176 = .ok (.getfield 20, 3) := by decide +kernel
theorem dX12_findSet_179 : decode cX12_findSet 179 = .ok (.aload_n 0, 1) := by decide +kernel
theorem dX12_findSet_180 : decode cX12_findSet 180 = .ok (.getfield 165, 3) := by decide +kernel
theorem dX12_findSet_183 : decode cX12_findSet 183 = .ok (.aload_n 0, 1) := by decide +kernel
theorem dX12_findSet_184 : decode cX12_findSet 184 = .ok (.getfield 168, 3) := by decide +kernel
theorem dX12_findSet_187 : decode cX12_findSet 187 = .ok (.iload 6, 2) := by decide +kernel
theorem dX12_findSet_189 : decode cX12_findSet 189 = .ok (.iaload, 1) := by decide +kernel
theorem dX12_findSet_190 : decode cX12_findSet 190 = .ok (.iaload, 1) := by decide +kernel
theorem dX12_findSet_191 : decode cX12_findSet 191 = .ok (.iaload, 1) := by decide +kernel
theorem dX12_findSet_192 : decode cX12_findSet 192 = .ok (.aload_n 0, 1) := by decide +kernel
theorem dX12_findSet_193 : decode cX12_findSet 193 = .ok (.getfield 20, 3) := by decide +kernel
theorem dX12_findSet_196 : decode cX12_findSet 196 = .ok (.aload_n 0, 1) := by decide +kernel
theorem dX12_findSet_197 : decode cX12_findSet 197 = .ok (.getfield 165, 3) := by decide +kernel
theorem dX12_findSet_200 : decode cX12_findSet 200 = .ok (.aload_n 0, 1) := by decide +kernel
theorem dX12_findSet_201 : decode cX12_findSet 201 = .ok (.getfield 168, 3) := by decide +kernel
theorem dX12_findSet_204 : decode cX12_findSet 204 = .ok (.aload_n 0, 1) := by decide +kernel
theorem dX12_findSet_205 : decode cX12_findSet 205 = .ok (.iload 6, 2) := by decide +kernel
theorem dX12_findSet_207 : decode cX12_findSet 207 = .ok (.invokevirtual 207, 3) := by decide +kernel
theorem dX12_findSet_210 : decode cX12_findSet 210 = .ok (.iaload, 1) := by decide +kernel
theorem dX12_findSet_211 : decode cX12_findSet 211 = .ok (.iaload, 1) := by decide +kernel
theorem dX12_findSet_212 : decode cX12_findSet 212 = .ok (.iaload, 1) := by decide +kernel
theorem dX12_findSet_213 : decode cX12_findSet 213 = .ok (.isub, 1) := by decide +kernel
theorem dX12_findSet_214 : decode cX12_findSet 214 = .ok (.invokevirtual 264, 3) := by decide +kernel
theorem dX12_findSet_217 : decode cX12_findSet 217 = .ok (.iadd, 1) := by decide +kernel
theorem dX12_findSet_218 : decode cX12_findSet 218 = .ok (.istore 5, 2) := by decide +kernel
theorem dX12_findSet_220 : decode cX12_findSet 220 = .ok (.iinc 6 1, 3) := by decide +kernel
theorem dX12_findSet_223 : decode cX12_findSet 223 = .ok (.goto (-60), 3) := by decide +kernel
theorem dX12_findSet_226 : decode cX12_findSet 226 = .ok (.iload 5, 2) := by decide +kernel
theorem dX12_findSet_228 : decode cX12_findSet 228 = .ok (.aload_n 0, 1) := by decide +kernel
theorem dX12_findSet_229 : decode cX12_findSet 229 = .ok (.getfield 174, 3) := by decide +kernel
theorem dX12_findSet_232 : decode cX12_findSet 232 = .ok (.if_icmp .lt 6, 3) := by decide +kernel
theorem dX12_findSet_235 : decode cX12_findSet 235 = .ok (.goto 46, 3) := by decide +kernel
theorem dX12_findSet_238 : decode cX12_findSet 238 = .ok (.aload_n 0, 1) := by decide +kernel
theorem dX12_findSet_239 : decode cX12_findSet 239 = .ok (.iload 5, 2) := by decide +kernel
theorem dX12_findSet_241 : decode cX12_findSet 241 = .ok (.putfield 174, 3) := by decide +kernel
theorem dX12_findSet_244 : decode cX12_findSet 244 = .ok (.iconst 0, 1) := by decide +kernel
theorem dX12_findSet_245 : decode cX12_findSet 245 = .ok (.istore 6, 2) := by decide +kernel
theorem dX12_findSet_247 : decode cX12_findSet 247 = .ok (.iload 6, 2) := by decide +kernel
theorem dX12_findSet_249 : decode cX12_findSet 249 = .ok (.aload_n 0, 1) := by decide +kernel
theorem dX12_findSet_250 : decode cX12_findSet 250 = .ok (.getfield 13, 3) := by decide +kernel
theorem dX12_findSet_253 : decode cX12_findSet 253 = .ok (.if_icmp .ge 28, 3) := by decide +kernel
theorem dX12_findSet_256 : decode cX12_findSet 256 = .ok (.aload_n 0, 1) := by decide +kernel
theorem dX12_findSet_257 : decode cX12_findSet 257 = .ok (.getfield 171, 3) := by decide +kernel
theorem dX12_findSet_260 : decode cX12_findSet 260 = .ok (.iload 6, 2) := by decide +kernel
theorem dX12_findSet_262 : decode cX12_findSet 262 = .ok (.aload_n 0, 1) := by decide +kernel
theorem dX12_findSet_263 : decode cX12_findSet 263 = .ok (.getfield 165, 3) := by decide +kernel
theorem dX12_findSet_266 : decode cX12_findSet 266 = .ok (.aload_n 0, 1) := by decide +kernel
theorem dX12_findSet_267 : decode cX12_findSet 267 = .ok (.getfield 168, 3) := by decide +kernel
theorem dX12_findSet_270 : decode cX12_findSet 270 = .ok (.iload 6, 2) := by decide +kernel
theorem dX12_findSet_272 : decode cX12_findSet 272 = .ok (.iaload, 1) := by decide +kernel
theorem dX12_findSet_273 : decode cX12_findSet 273 = .ok (.iaload, 1) := by decide +kernel
theorem dX12_findSet_274 : decode cX12_findSet 274 = .ok (.iastore, 1) := by decide +kernel
theorem dX12_findSet_275 : decode cX12_findSet 275 = .ok (.iinc 6 1, 3) := by decide +kernel
theorem dX12_findSet_278 : decode cX12_findSet 278 = .ok (.goto (-31), 3) := by decide +kernel
theorem dX12_findSet_281 : decode cX12_findSet 281 = .ok (.iinc 4 1, 3) := by decide +kernel
theorem dX12_findSet_284 : decode cX12_findSet 284 = .ok (.goto (-143), 3) := by decide +kernel
theorem dX12_findSet_287 : decode cX12_findSet 287 = .ok (.iconst 0, 1) := by decide +kernel
theorem dX12_findSet_288 : decode cX12_findSet 288 = .ok (.ireturn, 1) := by decide +kernel
theorem dX12_set_0 : decode cX12_set 0 = .ok (.aload_n 0, 1) := by decide +kernel
theorem dX12_set_1 : decode cX12_set 1 = .ok (.iload_n 1, 1) := by decide +kernel
theorem dX12_set_2 : decode cX12_set 2 = .ok (.invokevirtual 317, 3) := by decide +kernel
theorem dX12_set_5 : decode cX12_set 5 = .ok (.istore_n 3, 1) := by decide +kernel
theorem dX12_set_6 : decode cX12_set 6 = .ok (.iload_n 3, 1) := by decide +kernel
theorem dX12_set_7 : decode cX12_set 7 = .ok (.ifCond .eq 5, 3) := by decide +kernel
theorem dX12_set_10 : decode cX12_set 10 = .ok (.iload_n 3, 1) := by decide +kernel
theorem dX12_set_11 : decode cX12_set 11 = .ok (.ireturn, 1) := by decide +kernel
theorem dX12_set_12 : decode cX12_set 12 = .ok (.iload_n 2, 1) := by decide +kernel
theorem dX12_set_13 : decode cX12_set 13 = .ok (.iconst (-1), 1) := by decide +kernel
theorem dX12_set_14 : decode cX12_set 14 = .ok (.if_icmp .ne 10, 3) := by decide +kernel
theorem dX12_set_17 : decode cX12_set 17 = .ok (.aload_n 0, 1) := by decide +kernel
theorem dX12_set_18 : decode cX12_set 18 = .ok (.getfield 174, 3) := by decide +kernel
theorem dX12_set_21 : decode cX12_set 21 = .ok (.goto 28, 3) := by decide +kernel
theorem dX12_set_24 : decode cX12_set 24 = .ok (.aload_n 0, 1) := by decide +kernel
theorem dX12_set_25 : decode cX12_set 25 = .ok (.iload_n 2, 1) := by decide +kernel
theorem dX12_set_26 : decode cX12_set 26 = .ok (.iconst 0, 1) := by decide +kernel
theorem dX12_set_27 : decode cX12_set 27 = .ok (.aload_n 0, 1) := by decide +kernel
theorem dX12_set_28 : decode cX12_set 28 = .ok (.getfield 13, 3) := by decide +kernel
theorem dX12_set_31 : decode cX12_set 31 = .ok (.iconst 1, 1) := by decide +kernel
theorem dX12_set_32 : decode cX12_set 32 = .ok (.isub, 1) := by decide +kernel
theorem dX12_set_33 : decode cX12_set 33 = .ok (.invokevirtual 195, 3) := by decide +kernel
theorem dX12_set_36 : decode cX12_set 36 = .ok (.ifCond .eq 12, 3) := by decide +kernel
theorem dX12_set_39 : decode cX12_set 39 = .ok (.aload_n 0, 1) := by decide +kernel
theorem dX12_set_40 : decode cX12_set 40 = .ok (.getfield 171, 3) := by decide +kernel
theorem dX12_set_43 : decode cX12_set 43 = .ok (.iload_n 2, 1) := by decide +kernel
theorem dX12_set_44 : decode cX12_set 44 = .ok (.iaload, 1) := by decide +kernel
theorem dX12_set_45 : decode cX12_set 45 = .ok (.goto 4, 3) := by decide +kernel
theorem dX12_set_48 : decode cX12_set 48 = .ok (.iconst (-1), 1) := by decide +kernel
theorem dX12_set_49 : decode cX12_set 49 = .ok (.ireturn, 1) := by decide +kernel
theorem dX12_spent_0 : decode cX12_spent 0 = .ok (.aload_n 0, 1) := by decide +kernel
theorem dX12_spent_1 : decode cX12_spent 1 = .ok (.iload_n 2, 1) := by decide +kernel
theorem dX12_spent_2 : decode cX12_spent 2 = .ok (.invokevirtual 244, 3) := by decide +kernel
theorem dX12_spent_5 : decode cX12_spent 5 = .ok (.ifCond .ne 5, 3) := by decide +kernel
theorem dX12_spent_8 : decode cX12_spent 8 = .ok (.iconst (-1), 1) := by decide +kernel
theorem dX12_spent_9 : decode cX12_spent 9 = .ok (.ireturn, 1) := by decide +kernel
theorem dX12_spent_10 : decode cX12_spent 10 = .ok (.aload_n 0, 1) := by decide +kernel
theorem dX12_spent_11 : decode cX12_spent 11 = .ok (.iload_n 1, 1) := by decide +kernel
theorem dX12_spent_12 : decode cX12_spent 12 = .ok (.invokevirtual 317, 3) := by decide +kernel
theorem dX12_spent_15 : decode cX12_spent 15 = .ok (.istore_n 3, 1) := by decide +kernel
theorem dX12_spent_16 : decode cX12_spent 16 = .ok (.iload_n 3, 1) := by decide +kernel
theorem dX12_spent_17 : decode cX12_spent 17 = .ok (.ifCond .eq 5, 3) := by decide +kernel
theorem dX12_spent_20 : decode cX12_spent 20 = .ok (.iload_n 3, 1) := by decide +kernel
theorem dX12_spent_21 : decode cX12_spent 21 = .ok (.ireturn, 1) := by decide +kernel
theorem dX12_spent_22 : decode cX12_spent 22 = .ok (.iconst 0, 1) := by decide +kernel
theorem dX12_spent_23 : decode cX12_spent 23 = .ok (.istore 4, 2) := by decide +kernel
theorem dX12_spent_25 : decode cX12_spent 25 = .ok (.iconst 0, 1) := by decide +kernel
theorem dX12_spent_26 : decode cX12_spent 26 = .ok (.istore 5, 2) := by decide +kernel
theorem dX12_spent_28 : decode cX12_spent 28 = .ok (.iconst 0, 1) := by decide +kernel
theorem dX12_spent_29 : decode cX12_spent 29 = .ok (.istore 6, 2) := by decide +kernel
theorem dX12_spent_31 : decode cX12_spent 31 = .ok (.iload 6, 2) := by decide +kernel
theorem dX12_spent_33 : decode cX12_spent 33 = .ok (.aload_n 0, 1) := by decide +kernel
theorem dX12_spent_34 : decode cX12_spent 34 = .ok (.getfield 13, 3) := by decide +kernel
theorem dX12_spent_37 : decode cX12_spent 37 = .ok (.if_icmp .ge 45, 3) := by decide +kernel
theorem dX12_spent_40 : decode cX12_spent 40 = .ok (.aload_n 0, 1) := by decide +kernel
theorem dX12_spent_41 : decode cX12_spent 41 = .ok (.getfield 23, 3) := by decide +kernel
theorem dX12_spent_44 : decode cX12_spent 44 = .ok (.aload_n 0, 1) := by decide +kernel
theorem dX12_spent_45 : decode cX12_spent 45 = .ok (.getfield 171, 3) := by decide +kernel
theorem dX12_spent_48 : decode cX12_spent 48 = .ok (.iload 6, 2) := by decide +kernel
theorem dX12_spent_50 : decode cX12_spent 50 = .ok (.iaload, 1) := by decide +kernel
theorem dX12_spent_51 : decode cX12_spent 51 = .ok (.iaload, 1) := by decide +kernel
theorem dX12_spent_52 : decode cX12_spent 52 = .ok (.iload 5, 2) := by decide +kernel
theorem dX12_spent_54 : decode cX12_spent 54 = .ok (.if_icmp .le 18, 3) := by decide +kernel
theorem dX12_spent_57 : decode cX12_spent 57 = .ok (.aload_n 0, 1) := by decide +kernel
theorem dX12_spent_58 : decode cX12_spent 58 = .ok (.getfield 23, 3) := by decide +kernel
theorem dX12_spent_61 : decode cX12_spent 61 = .ok (.aload_n 0, 1) := by decide +kernel
theorem dX12_spent_62 : decode cX12_spent 62 = .ok (.getfield 171, 3) := by decide +kernel
theorem dX12_spent_65 : decode cX12_spent 65 = .ok (.iload 6, 2) := by decide +kernel
theorem dX12_spent_67 : decode cX12_spent 67 = .ok (.iaload, 1) := by decide +kernel
theorem dX12_spent_68 : decode cX12_spent 68 = .ok (.iaload, 1) := by decide +kernel
theorem dX12_spent_69 : decode cX12_spent 69 = .ok (.goto 5, 3) := by decide +kernel
theorem dX12_spent_72 : decode cX12_spent 72 = .ok (.iload 5, 2) := by decide +kernel
theorem dX12_spent_74 : decode cX12_spent 74 = .ok (.istore 5, 2) := by decide +kernel
theorem dX12_spent_76 : decode cX12_spent 76 = .ok (.iinc 6 1, 3) := by decide +kernel
theorem dX12_spent_79 : decode cX12_spent 79 = .ok (.goto (-48), 3) := by decide +kernel
theorem dX12_spent_82 : decode cX12_spent 82 = .ok (.iconst 0, 1) := by decide +kernel
theorem dX12_spent_83 : decode cX12_spent 83 = .ok (.istore 6, 2) := by decide +kernel
theorem dX12_spent_85 : decode cX12_spent 85 = .ok (.iload 6, 2) := by decide +kernel
theorem dX12_spent_87 : decode cX12_spent 87 = .ok (.aload_n 0, 1) := by decide +kernel
theorem dX12_spent_88 : decode cX12_spent 88 = .ok (.getfield 96, 3) := by decide +kernel
theorem dX12_spent_91 : decode cX12_spent 91 = .ok (.iload_n 2, 1) := by decide +kernel
theorem dX12_spent_92 : decode cX12_spent 92 = .ok (.iaload, 1) := by decide +kernel
theorem dX12_spent_93 : decode cX12_spent 93 = .ok (.if_icmp .ge 117, 3) := by decide +kernel
theorem dX12_spent_96 : decode cX12_spent 96 = .ok (.aload_n 0, 1) := by decide +kernel
theorem dX12_spent_97 : decode cX12_spent 97 = .ok (.getfield 99, 3) := by decide +kernel
theorem dX12_spent_100 : decode cX12_spent 100 = .ok (.sipush 300, 3) := by decide +kernel
theorem dX12_spent_103 : decode cX12_spent 103 = .ok (.iload_n 2, 1) := by decide +kernel
theorem dX12_spent_104 : decode cX12_spent 104 = .ok (.imul, 1) := by decide +kernel
theorem dX12_spent_105 : decode cX12_spent 105 = .ok (.iload 6, 2) := by decide +kernel
theorem dX12_spent_107 : decode cX12_spent 107 = .ok (.iadd, 1) := by decide +kernel
theorem dX12_spent_108 : decode cX12_spent 108 = .ok (.iaload, 1) := by decide +kernel
theorem dX12_spent_109 : decode cX12_spent 109 = .ok (.istore 7, 2) := by decide +kernel
theorem dX12_spent_111 : decode cX12_spent 111 = .ok (.iload 7, 2) := by decide +kernel
theorem dX12_spent_113 : decode cX12_spent 113 = .ok (.bipush 100, 2) := by decide +kernel
theorem dX12_spent_115 : decode cX12_spent 115 = .ok (.if_icmp .lt 26, 3) := by decide +kernel
theorem dX12_spent_118 : decode cX12_spent 118 = .ok (.iload 4, 2) := by decide +kernel
theorem dX12_spent_120 : decode cX12_spent 120 = .ok (.iload 5, 2) := by decide +kernel
theorem dX12_spent_122 : decode cX12_spent 122 = .ok (.iadd, 1) := by decide +kernel
theorem dX12_spent_123 : decode cX12_spent 123 = .ok (.istore 4, 2) := by decide +kernel
theorem dX12_spent_125 : decode cX12_spent 125 = .ok (.aload_n 0, 1) := by decide +kernel
theorem dX12_spent_126 : decode cX12_spent 126 = .ok (.aload_n 0, 1) := by decide +kernel
theorem dX12_spent_127 : decode cX12_spent 127 = .ok (.getfield 171, 3) := by decide +kernel
theorem dX12_spent_130 : decode cX12_spent 130 = .ok (.iload 7, 2) := by decide +kernel
theorem dX12_spent_132 : decode cX12_spent 132 = .ok (.bipush 100, 2) := by decide +kernel
theorem dX12_spent_134 : decode cX12_spent 134 = .ok (.isub, 1) := by decide +kernel
theorem dX12_spent_135 : decode cX12_spent 135 = .ok (.invokevirtual 215, 3) := by decide +kernel
theorem dX12_spent_138 : decode cX12_spent 138 = .ok (.goto 66, 3) := by decide +kernel
theorem dX12_spent_141 : decode cX12_spent 141 = .ok (.iload 7, 2) := by decide +kernel
theorem dX12_spent_143 : decode cX12_spent 143 = .ok (.bipush 10, 2) := by decide +kernel
theorem dX12_spent_145 : decode cX12_spent 145 = .ok (.idiv, 1) := by decide +kernel
theorem dX12_spent_146 : decode cX12_spent 146 = .ok (.istore 8, 2) := by decide +kernel
theorem dX12_spent_148 : decode cX12_spent 148 = .ok (.iload 8, 2) := by decide +kernel
theorem dX12_spent_150 : decode cX12_spent 150 = .ok (.aload_n 0, 1) := by decide +kernel
theorem dX12_spent_151 : decode cX12_spent 151 = .ok (.getfield 13, 3) := by decide +kernel
theorem dX12_spent_154 : decode cX12_spent 154 = .ok (.if_icmp .lt 6, 3) := by decide +kernel
theorem dX12_spent_157 : decode cX12_spent 157 = .ok (.bipush (-3), 2) := by decide +kernel
theorem dX12_spent_159 : decode cX12_spent 159 = .ok (.ireturn, 1) := by decide +kernel
theorem dX12_spent_160 : decode cX12_spent 160 = .ok (.iload 4, 2) := by decide +kernel
theorem dX12_spent_162 : decode cX12_spent 162 = .ok (.aload_n 0, 1) := by decide +kernel
theorem dX12_spent_163 : decode cX12_spent 163 = .ok (.getfield 23, 3) := by decide +kernel
theorem dX12_spent_166 : decode cX12_spent 166 = .ok (.aload_n 0, 1) := by decide +kernel
theorem dX12_spent_167 : decode cX12_spent 167 = .ok (.getfield 171, 3) := by decide +kernel
theorem dX12_spent_170 : decode cX12_spent 170 = .ok (.iload 8, 2) := by decide +kernel
theorem dX12_spent_172 : decode cX12_spent 172 = .ok (.iaload, 1) := by decide +kernel
theorem dX12_spent_173 : decode cX12_spent 173 = .ok (.iaload, 1) := by decide +kernel
theorem dX12_spent_174 : decode cX12_spent 174 = .ok (.aload_n 0, 1) := by decide +kernel
theorem dX12_spent_175 : decode cX12_spent 175 = .ok (.getfield 23, 3) := by decide +kernel
theorem dX12_spent_178 : decode cX12_spent 178 = .ok (.aload_n 0, 1) := by decide +kernel
theorem dX12_spent_179 : decode cX12_spent 179 = .ok (.getfield 171, 3) := by decide +kernel
theorem dX12_spent_182 : decode cX12_spent 182 = .ok (.aload_n 0, 1) := by decide +kernel
theorem dX12_spent_183 : decode cX12_spent 183 = .ok (.iload 8, 2) := by decide +kernel
theorem dX12_spent_185 : decode cX12_spent 185 = .ok (.invokevirtual 207, 3) := by decide +kernel
theorem dX12_spent_188 : decode cX12_spent 188 = .ok (.iaload, 1) := by decide +kernel
theorem dX12_spent_189 : decode cX12_spent 189 = .ok (.iaload, 1) := by decide +kernel
theorem dX12_spent_190 : decode cX12_spent 190 = .ok (.iadd, 1) := by decide +kernel
theorem dX12_spent_191 : decode cX12_spent 191 = .ok (.iadd, 1) := by decide +kernel
theorem dX12_spent_192 : decode cX12_spent 192 = .ok (.istore 4, 2) := by decide +kernel
theorem dX12_spent_194 : decode cX12_spent 194 = .ok (.aload_n 0, 1) := by decide +kernel
theorem dX12_spent_195 : decode cX12_spent 195 = .ok (.aload_n 0, 1) := by decide +kernel
theorem dX12_spent_196 : decode cX12_spent 196 = .ok (.getfield 171, 3) := by decide +kernel
theorem dX12_spent_199 : decode cX12_spent 199 = .ok (.iload 8, 2) := by decide +kernel
theorem dX12_spent_201 : decode cX12_spent 201 = .ok (.invokevirtual 307, 3) := by decide +kernel
theorem dX12_spent_204 : decode cX12_spent 204 = .ok (.iinc 6 1, 3) := by decide +kernel
theorem dX12_spent_207 : decode cX12_spent 207 = .ok (.goto (-122), 3) := by decide +kernel
theorem dX12_spent_210 : decode cX12_spent 210 = .ok (.iload 4, 2) := by decide +kernel
theorem dX12_spent_212 : decode cX12_spent 212 = .ok (.ireturn, 1) := by decide +kernel
theorem dX12_body_0 : decode cX12_body 0 = .ok (.aload_n 0, 1) := by decide +kernel
theorem dX12_body_1 : decode cX12_body 1 = .ok (.getfield 177, 3) := by decide +kernel
theorem dX12_body_4 : decode cX12_body 4 = .ok (.bipush 20, 2) := by decide +kernel
theorem dX12_body_6 : decode cX12_body 6 = .ok (.if_icmp .ge 13, 3) := by decide +kernel
theorem dX12_body_9 : decode cX12_body 9 = .ok (.aload_n 0, 1) := by decide +kernel
theorem dX12_body_10 : decode cX12_body 10 = .ok (.getfield 180, 3) := by decide +kernel
theorem dX12_body_13 : decode cX12_body 13 = .ok (.aload_n 0, 1) := by decide +kernel
theorem dX12_body_14 : decode cX12_body 14 = .ok (.getfield 177, 3) := by decide +kernel
theorem dX12_body_17 : decode cX12_body 17 = .ok (.iload_n 1, 1) := by decide +kernel
theorem dX12_body_18 : decode cX12_body 18 = .ok (.iastore, 1) := by decide +kernel
theorem dX12_body_19 : decode cX12_body 19 = .ok (.aload_n 0, 1) := by decide +kernel
theorem dX12_body_20 : decode cX12_body 20 = .ok (.dup, 1) := by decide +kernel
theorem dX12_body_21 : decode cX12_body 21 = .ok (.getfield 177, 3) := by decide +kernel
theorem dX12_body_24 : decode cX12_body 24 = .ok (.iconst 1, 1) := by decide +kernel
theorem dX12_body_25 : decode cX12_body 25 = .ok (.iadd, 1) := by decide +kernel
theorem dX12_body_26 : decode cX12_body 26 = .ok (.putfield 177, 3) := by decide +kernel
theorem dX12_body_29 : decode cX12_body 29 = .ok (.return_, 1) := by decide +kernel
theorem dX12_plainGreets_0 : decode cX12_plainGreets 0 = .ok (.aload_n 0, 1) := by decide +kernel
theorem dX12_plainGreets_1 : decode cX12_plainGreets 1 = .ok (.bipush 10, 2) := by decide +kernel
theorem dX12_plainGreets_3 : decode cX12_plainGreets 3 = .ok (.invokevirtual 320, 3) := by decide +kernel
theorem dX12_plainGreets_6 : decode cX12_plainGreets 6 = .ok (.iload_n 2, 1) := by decide +kernel
theorem dX12_plainGreets_7 : decode cX12_plainGreets 7 = .ok (.aload_n 0, 1) := by decide +kernel
theorem dX12_plainGreets_8 : decode cX12_plainGreets 8 = .ok (.getfield 20, 3) := by decide +kernel
theorem dX12_plainGreets_11 : decode cX12_plainGreets 11 = .ok (.iload_n 1, 1) := by decide +kernel
theorem dX12_plainGreets_12 : decode cX12_plainGreets 12 = .ok (.iaload, 1) := by decide +kernel
theorem dX12_plainGreets_13 : decode cX12_plainGreets 13 = .ok (.iadd, 1) := by decide +kernel
theorem dX12_plainGreets_14 : decode cX12_plainGreets 14 = .ok (.ireturn, 1) := by decide +kernel
theorem dX12_greetsOf_0 : decode cX12_greetsOf 0 = .ok (.aload_n 0, 1) := by decide +kernel
theorem dX12_greetsOf_1 : decode cX12_greetsOf 1 = .ok (.getfield 16, 3) := by decide +kernel
theorem dX12_greetsOf_4 : decode cX12_greetsOf 4 = .ok (.iload_n 1, 1) := by decide +kernel
theorem dX12_greetsOf_5 : decode cX12_greetsOf 5 = .ok (.iaload, 1) := by decide +kernel
theorem dX12_greetsOf_6 : decode cX12_greetsOf 6 = .ok (.iconst 1, 1) := by decide +kernel
theorem dX12_greetsOf_7 : decode cX12_greetsOf 7 = .ok (.if_icmp .ne 18, 3) := by decide +kernel
theorem dX12_greetsOf_10 : decode cX12_greetsOf 10 = .ok (.aload_n 0, 1) := by decide +kernel
theorem dX12_greetsOf_11 : decode cX12_greetsOf 11 = .ok (.bipush 20, 2) := by decide +kernel
theorem dX12_greetsOf_13 : decode cX12_greetsOf 13 = .ok (.invokevirtual 320, 3) := by decide +kernel
theorem dX12_greetsOf_16 : decode cX12_greetsOf 16 = .ok (.aload_n 0, 1) := by decide +kernel
theorem dX12_greetsOf_17 : decode cX12_greetsOf 17 = .ok (.iload_n 1, 1) := by decide +kernel
theorem dX12_greetsOf_18 : decode cX12_greetsOf 18 = .ok (.iload_n 2, 1) := by decide +kernel
theorem dX12_greetsOf_19 : decode cX12_greetsOf 19 = .ok (.invokevirtual 323, 3) := by decide +kernel
theorem dX12_greetsOf_22 : decode cX12_greetsOf 22 = .ok (.iconst 4, 1) := by decide +kernel
theorem dX12_greetsOf_23 : decode cX12_greetsOf 23 = .ok (.isub, 1) := by decide +kernel
theorem dX12_greetsOf_24 : decode cX12_greetsOf 24 = .ok (.ireturn, 1) := by decide +kernel
theorem dX12_greetsOf_25 : decode cX12_greetsOf 25 = .ok (.aload_n 0, 1) := by decide +kernel
theorem dX12_greetsOf_26 : decode cX12_greetsOf 26 = .ok (.getfield 16, 3) := by decide +kernel
theorem dX12_greetsOf_29 : decode cX12_greetsOf 29 = .ok (.iload_n 1, 1) := by decide +kernel
theorem dX12_greetsOf_30 : decode cX12_greetsOf 30 = .ok (.iaload, 1) := by decide +kernel
theorem dX12_greetsOf_31 : decode cX12_greetsOf 31 = .ok (.iconst 3, 1) := by decide +kernel
theorem dX12_greetsOf_32 : decode cX12_greetsOf 32 = .ok (.if_icmp .ne 18, 3) := by decide +kernel
theorem dX12_greetsOf_35 : decode cX12_greetsOf 35 = .ok (.aload_n 0, 1) := by decide +kernel
theorem dX12_greetsOf_36 : decode cX12_greetsOf 36 = .ok (.bipush 40, 2) := by decide +kernel
theorem dX12_greetsOf_38 : decode cX12_greetsOf 38 = .ok (.invokevirtual 320, 3) := by decide +kernel
theorem dX12_greetsOf_41 : decode cX12_greetsOf 41 = .ok (.aload_n 0, 1) := by decide +kernel
theorem dX12_greetsOf_42 : decode cX12_greetsOf 42 = .ok (.iload_n 1, 1) := by decide +kernel
theorem dX12_greetsOf_43 : decode cX12_greetsOf 43 = .ok (.iload_n 2, 1) := by decide +kernel
theorem dX12_greetsOf_44 : decode cX12_greetsOf 44 = .ok (.iconst 3, 1) := by decide +kernel
theorem dX12_greetsOf_45 : decode cX12_greetsOf 45 = .ok (.imul, 1) := by decide +kernel
theorem dX12_greetsOf_46 : decode cX12_greetsOf 46 = .ok (.invokevirtual 323, 3) := by decide +kernel
theorem dX12_greetsOf_49 : decode cX12_greetsOf 49 = .ok (.ireturn, 1) := by decide +kernel
theorem dX12_greetsOf_50 : decode cX12_greetsOf 50 = .ok (.aload_n 0, 1) := by decide +kernel
theorem dX12_greetsOf_51 : decode cX12_greetsOf 51 = .ok (.iload_n 1, 1) := by decide +kernel
theorem dX12_greetsOf_52 : decode cX12_greetsOf 52 = .ok (.iload_n 2, 1) := by decide +kernel
theorem dX12_greetsOf_53 : decode cX12_greetsOf 53 = .ok (.invokevirtual 323, 3) := by decide +kernel
theorem dX12_greetsOf_56 : decode cX12_greetsOf 56 = .ok (.ireturn, 1) := by decide +kernel
theorem dX12_plainLeads_0 : decode cX12_plainLeads 0 = .ok (.aload_n 0, 1) := by decide +kernel
theorem dX12_plainLeads_1 : decode cX12_plainLeads 1 = .ok (.bipush 11, 2) := by decide +kernel
theorem dX12_plainLeads_3 : decode cX12_plainLeads 3 = .ok (.invokevirtual 320, 3) := by decide +kernel
theorem dX12_plainLeads_6 : decode cX12_plainLeads 6 = .ok (.aload_n 0, 1) := by decide +kernel
theorem dX12_plainLeads_7 : decode cX12_plainLeads 7 = .ok (.iload_n 1, 1) := by decide +kernel
theorem dX12_plainLeads_8 : decode cX12_plainLeads 8 = .ok (.iload_n 2, 1) := by decide +kernel
theorem dX12_plainLeads_9 : decode cX12_plainLeads 9 = .ok (.invokevirtual 326, 3) := by decide +kernel
theorem dX12_plainLeads_12 : decode cX12_plainLeads 12 = .ok (.aload_n 0, 1) := by decide +kernel
theorem dX12_plainLeads_13 : decode cX12_plainLeads 13 = .ok (.getfield 23, 3) := by decide +kernel
theorem dX12_plainLeads_16 : decode cX12_plainLeads 16 = .ok (.iload_n 1, 1) := by decide +kernel
theorem dX12_plainLeads_17 : decode cX12_plainLeads 17 = .ok (.iaload, 1) := by decide +kernel
theorem dX12_plainLeads_18 : decode cX12_plainLeads 18 = .ok (.isub, 1) := by decide +kernel
theorem dX12_plainLeads_19 : decode cX12_plainLeads 19 = .ok (.ireturn, 1) := by decide +kernel
theorem dX12_leaderLeads_0 : decode cX12_leaderLeads 0 = .ok (.aload_n 0, 1) := by decide +kernel
theorem dX12_leaderLeads_1 : decode cX12_leaderLeads 1 = .ok (.bipush 30, 2) := by decide +kernel
theorem dX12_leaderLeads_3 : decode cX12_leaderLeads 3 = .ok (.invokevirtual 320, 3) := by decide +kernel
theorem dX12_leaderLeads_6 : decode cX12_leaderLeads 6 = .ok (.aload_n 0, 1) := by decide +kernel
theorem dX12_leaderLeads_7 : decode cX12_leaderLeads 7 = .ok (.iload_n 1, 1) := by decide +kernel
theorem dX12_leaderLeads_8 : decode cX12_leaderLeads 8 = .ok (.iload_n 2, 1) := by decide +kernel
theorem dX12_leaderLeads_9 : decode cX12_leaderLeads 9 = .ok (.invokevirtual 329, 3) := by decide +kernel
theorem dX12_leaderLeads_12 : decode cX12_leaderLeads 12 = .ok (.istore_n 3, 1) := by decide +kernel
theorem dX12_leaderLeads_13 : decode cX12_leaderLeads 13 = .ok (.iload_n 3, 1) := by decide +kernel
theorem dX12_leaderLeads_14 : decode cX12_leaderLeads 14 = .ok (.aload_n 0, 1) := by decide +kernel
theorem dX12_leaderLeads_15 : decode cX12_leaderLeads 15 = .ok (.iload_n 1, 1) := by decide +kernel
theorem dX12_leaderLeads_16 : decode cX12_leaderLeads 16 = .ok (.iload_n 2, 1) := by decide +kernel
theorem dX12_leaderLeads_17 : decode cX12_leaderLeads 17 = .ok (.invokevirtual 326, 3) := by decide +kernel
theorem dX12_leaderLeads_20 : decode cX12_leaderLeads 20 = .ok (.iadd, 1) := by decide +kernel
theorem dX12_leaderLeads_21 : decode cX12_leaderLeads 21 = .ok (.ireturn, 1) := by decide +kernel
theorem dX12_leadsOf_0 : decode cX12_leadsOf 0 = .ok (.aload_n 0, 1) := by decide +kernel
theorem dX12_leadsOf_1 : decode cX12_leadsOf 1 = .ok (.getfield 16, 3) := by decide +kernel
theorem dX12_leadsOf_4 : decode cX12_leadsOf 4 = .ok (.iload_n 1, 1) := by decide +kernel
theorem dX12_leadsOf_5 : decode cX12_leadsOf 5 = .ok (.iaload, 1) := by decide +kernel
theorem dX12_leadsOf_6 : decode cX12_leadsOf 6 = .ok (.iconst 2, 1) := by decide +kernel
theorem dX12_leadsOf_7 : decode cX12_leadsOf 7 = .ok (.if_icmp .ne 10, 3) := by decide +kernel
theorem dX12_leadsOf_10 : decode cX12_leadsOf 10 = .ok (.aload_n 0, 1) := by decide +kernel
theorem dX12_leadsOf_11 : decode cX12_leadsOf 11 = .ok (.iload_n 1, 1) := by decide +kernel
theorem dX12_leadsOf_12 : decode cX12_leadsOf 12 = .ok (.iload_n 2, 1) := by decide +kernel
theorem dX12_leadsOf_13 : decode cX12_leadsOf 13 = .ok (.invokevirtual 332, 3) := by decide +kernel
theorem dX12_leadsOf_16 : decode cX12_leadsOf 16 = .ok (.ireturn, 1) := by decide +kernel
theorem dX12_leadsOf_17 : decode cX12_leadsOf 17 = .ok (.aload_n 0, 1) := by decide +kernel
theorem dX12_leadsOf_18 : decode cX12_leadsOf 18 = .ok (.getfield 16, 3) := by decide +kernel
theorem dX12_leadsOf_21 : decode cX12_leadsOf 21 = .ok (.iload_n 1, 1) := by decide +kernel
theorem dX12_leadsOf_22 : decode cX12_leadsOf 22 = .ok (.iaload, 1) := by decide +kernel
theorem dX12_leadsOf_23 : decode cX12_leadsOf 23 = .ok (.iconst 3, 1) := by decide +kernel
theorem dX12_leadsOf_24 : decode cX12_leadsOf 24 = .ok (.if_icmp .ne 17, 3) := by decide +kernel
theorem dX12_leadsOf_27 : decode cX12_leadsOf 27 = .ok (.aload_n 0, 1) := by decide +kernel
theorem dX12_leadsOf_28 : decode cX12_leadsOf 28 = .ok (.bipush 41, 2) := by decide +kernel
theorem dX12_leadsOf_30 : decode cX12_leadsOf 30 = .ok (.invokevirtual 320, 3) := by decide +kernel
theorem dX12_leadsOf_33 : decode cX12_leadsOf 33 = .ok (.aload_n 0, 1) := by decide +kernel
theorem dX12_leadsOf_34 : decode cX12_leadsOf 34 = .ok (.iload_n 1, 1) := by decide +kernel
theorem dX12_leadsOf_35 : decode cX12_leadsOf 35 = .ok (.iload_n 2, 1) := by decide +kernel
theorem dX12_leadsOf_36 : decode cX12_leadsOf 36 = .ok (.invokevirtual 332, 3) := by decide +kernel
theorem dX12_leadsOf_39 : decode cX12_leadsOf 39 = .ok (.ineg, 1) := by decide +kernel
theorem dX12_leadsOf_40 : decode cX12_leadsOf 40 = .ok (.ireturn, 1) := by decide +kernel
theorem dX12_leadsOf_41 : decode cX12_leadsOf 41 = .ok (.aload_n 0, 1) := by decide +kernel
theorem dX12_leadsOf_42 : decode cX12_leadsOf 42 = .ok (.iload_n 1, 1) := by decide +kernel
theorem dX12_leadsOf_43 : decode cX12_leadsOf 43 = .ok (.iload_n 2, 1) := by decide +kernel
theorem dX12_leadsOf_44 : decode cX12_leadsOf 44 = .ok (.invokevirtual 329, 3) := by decide +kernel
theorem dX12_leadsOf_47 : decode cX12_leadsOf 47 = .ok (.ireturn, 1) := by decide +kernel
theorem dX12_plainRests_0 : decode cX12_plainRests 0 = .ok (.aload_n 0, 1) := by decide +kernel
theorem dX12_plainRests_1 : decode cX12_plainRests 1 = .ok (.bipush 12, 2) := by decide +kernel
theorem dX12_plainRests_3 : decode cX12_plainRests 3 = .ok (.invokevirtual 320, 3) := by decide +kernel
theorem dX12_plainRests_6 : decode cX12_plainRests 6 = .ok (.aload_n 0, 1) := by decide +kernel
theorem dX12_plainRests_7 : decode cX12_plainRests 7 = .ok (.iload_n 1, 1) := by decide +kernel
theorem dX12_plainRests_8 : decode cX12_plainRests 8 = .ok (.iload_n 2, 1) := by decide +kernel
theorem dX12_plainRests_9 : decode cX12_plainRests 9 = .ok (.invokevirtual 335, 3) := by decide +kernel
theorem dX12_plainRests_12 : decode cX12_plainRests 12 = .ok (.iload_n 1, 1) := by decide +kernel
theorem dX12_plainRests_13 : decode cX12_plainRests 13 = .ok (.ixor, 1) := by decide +kernel
theorem dX12_plainRests_14 : decode cX12_plainRests 14 = .ok (.ireturn, 1) := by decide +kernel
theorem dX12_restsOf_0 : decode cX12_restsOf 0 = .ok (.aload_n 0, 1) := by decide +kernel
theorem dX12_restsOf_1 : decode cX12_restsOf 1 = .ok (.getfield 16, 3) := by decide +kernel
theorem dX12_restsOf_4 : decode cX12_restsOf 4 = .ok (.iload_n 1, 1) := by decide +kernel
theorem dX12_restsOf_5 : decode cX12_restsOf 5 = .ok (.iaload, 1) := by decide +kernel
theorem dX12_restsOf_6 : decode cX12_restsOf 6 = .ok (.iconst 4, 1) := by decide +kernel
theorem dX12_restsOf_7 : decode cX12_restsOf 7 = .ok (.if_icmp .eq 10, 3) := by decide +kernel
theorem dX12_restsOf_10 : decode cX12_restsOf 10 = .ok (.aload_n 0, 1) := by decide +kernel
theorem dX12_restsOf_11 : decode cX12_restsOf 11 = .ok (.iload_n 1, 1) := by decide +kernel
theorem dX12_restsOf_12 : decode cX12_restsOf 12 = .ok (.iload_n 2, 1) := by decide +kernel
theorem dX12_restsOf_13 : decode cX12_restsOf 13 = .ok (.invokevirtual 338, 3) := by decide +kernel
theorem dX12_restsOf_16 : decode cX12_restsOf 16 = .ok (.ireturn, 1) := by decide +kernel
theorem dX12_restsOf_17 : decode cX12_restsOf 17 = .ok (.aload_n 0, 1) := by decide +kernel
theorem dX12_restsOf_18 : decode cX12_restsOf 18 = .ok (.bipush 50, 2) := by decide +kernel
theorem dX12_restsOf_20 : decode cX12_restsOf 20 = .ok (.invokevirtual 320, 3) := by decide +kernel
theorem dX12_restsOf_23 : decode cX12_restsOf 23 = .ok (.aload_n 0, 1) := by decide +kernel
theorem dX12_restsOf_24 : decode cX12_restsOf 24 = .ok (.iload_n 1, 1) := by decide +kernel
theorem dX12_restsOf_25 : decode cX12_restsOf 25 = .ok (.iload_n 2, 1) := by decide +kernel
theorem dX12_restsOf_26 : decode cX12_restsOf 26 = .ok (.invokevirtual 335, 3) := by decide +kernel
theorem dX12_restsOf_29 : decode cX12_restsOf 29 = .ok (.istore_n 3, 1) := by decide +kernel
theorem dX12_restsOf_30 : decode cX12_restsOf 30 = .ok (.iload_n 3, 1) := by decide +kernel
theorem dX12_restsOf_31 : decode cX12_restsOf 31 = .ok (.aload_n 0, 1) := by decide +kernel
theorem dX12_restsOf_32 : decode cX12_restsOf 32 = .ok (.iload_n 1, 1) := by decide +kernel
theorem dX12_restsOf_33 : decode cX12_restsOf 33 = .ok (.iload_n 2, 1) := by decide +kernel
theorem dX12_restsOf_34 : decode cX12_restsOf 34 = .ok (.iconst 1, 1) := by decide +kernel
theorem dX12_restsOf_35 : decode cX12_restsOf 35 = .ok (.isub, 1) := by decide +kernel
theorem dX12_restsOf_36 : decode cX12_restsOf 36 = .ok (.invokevirtual 338, 3) := by decide +kernel
theorem dX12_restsOf_39 : decode cX12_restsOf 39 = .ok (.iadd, 1) := by decide +kernel
theorem dX12_restsOf_40 : decode cX12_restsOf 40 = .ok (.ireturn, 1) := by decide +kernel
theorem dX12_act_0 : decode cX12_act 0 = .ok (.aload_n 0, 1) := by decide +kernel
theorem dX12_act_1 : decode cX12_act 1 = .ok (.iconst 0, 1) := by decide +kernel
theorem dX12_act_2 : decode cX12_act 2 = .ok (.putfield 177, 3) := by decide +kernel
theorem dX12_act_5 : decode cX12_act 5 = .ok (.aload_n 0, 1) := by decide +kernel
theorem dX12_act_6 : decode cX12_act 6 = .ok (.iload_n 1, 1) := by decide +kernel
theorem dX12_act_7 : decode cX12_act 7 = .ok (.invokevirtual 203, 3) := by decide +kernel
theorem dX12_act_10 : decode cX12_act 10 = .ok (.ifCond .eq 13, 3) := by decide +kernel
theorem dX12_act_13 : decode cX12_act 13 = .ok (.aload_n 0, 1) := by decide +kernel
theorem dX12_act_14 : decode cX12_act 14 = .ok (.iload_n 2, 1) := by decide +kernel
theorem dX12_act_15 : decode cX12_act 15 = .ok (.iconst 0, 1) := by decide +kernel
theorem dX12_act_16 : decode cX12_act 16 = .ok (.iconst 2, 1) := by decide +kernel
theorem dX12_act_17 : decode cX12_act 17 = .ok (.invokevirtual 195, 3) := by decide +kernel
theorem dX12_act_20 : decode cX12_act 20 = .ok (.ifCond .ne 5, 3) := by decide +kernel
theorem dX12_act_23 : decode cX12_act 23 = .ok (.iconst 0, 1) := by decide +kernel
theorem dX12_act_24 : decode cX12_act 24 = .ok (.ireturn, 1) := by decide +kernel
theorem dX12_act_25 : decode cX12_act 25 = .ok (.iload_n 2, 1) := by decide +kernel
theorem dX12_act_26 : decode cX12_act 26 = .ok (.ifCond .ne 12, 3) := by decide +kernel
theorem dX12_act_29 : decode cX12_act 29 = .ok (.aload_n 0, 1) := by decide +kernel
theorem dX12_act_30 : decode cX12_act 30 = .ok (.iload_n 1, 1) := by decide +kernel
theorem dX12_act_31 : decode cX12_act 31 = .ok (.iload_n 3, 1) := by decide +kernel
theorem dX12_act_32 : decode cX12_act 32 = .ok (.invokevirtual 326, 3) := by decide +kernel
theorem dX12_act_35 : decode cX12_act 35 = .ok (.goto 23, 3) := by decide +kernel
theorem dX12_act_38 : decode cX12_act 38 = .ok (.iload_n 2, 1) := by decide +kernel
theorem dX12_act_39 : decode cX12_act 39 = .ok (.iconst 1, 1) := by decide +kernel
theorem dX12_act_40 : decode cX12_act 40 = .ok (.if_icmp .ne 12, 3) := by decide +kernel
theorem dX12_act_43 : decode cX12_act 43 = .ok (.aload_n 0, 1) := by decide +kernel
theorem dX12_act_44 : decode cX12_act 44 = .ok (.iload_n 1, 1) := by decide +kernel
theorem dX12_act_45 : decode cX12_act 45 = .ok (.iload_n 3, 1) := by decide +kernel
theorem dX12_act_46 : decode cX12_act 46 = .ok (.invokevirtual 335, 3) := by decide +kernel
theorem dX12_act_49 : decode cX12_act 49 = .ok (.goto 9, 3) := by decide +kernel
theorem dX12_act_52 : decode cX12_act 52 = .ok (.aload_n 0, 1) := by decide +kernel
theorem dX12_act_53 : decode cX12_act 53 = .ok (.iload_n 1, 1) := by decide +kernel
theorem dX12_act_54 : decode cX12_act 54 = .ok (.iload_n 3, 1) := by decide +kernel
theorem dX12_act_55 : decode cX12_act 55 = .ok (.invokevirtual 341, 3) := by decide +kernel
theorem dX12_act_58 : decode cX12_act 58 = .ok (.ireturn, 1) := by decide +kernel
theorem dX12_trace_0 : decode cX12_trace 0 = .ok (.aload_n 0, 1) := by decide +kernel
theorem dX12_trace_1 : decode cX12_trace 1 = .ok (.iload_n 1, 1) := by decide +kernel
theorem dX12_trace_2 : decode cX12_trace 2 = .ok (.iconst 0, 1) := by decide +kernel
theorem dX12_trace_3 : decode cX12_trace 3 = .ok (.bipush 19, 2) := by decide +kernel
theorem dX12_trace_5 : decode cX12_trace 5 = .ok (.invokevirtual 195, 3) := by decide +kernel
theorem dX12_trace_8 : decode cX12_trace 8 = .ok (.ifCond .eq 20, 3) := by decide +kernel
theorem dX12_trace_11 : decode cX12_trace 11 = .ok (.iload_n 1, 1) := by decide +kernel
theorem dX12_trace_12 : decode cX12_trace 12 = .ok (.aload_n 0, 1) := by decide +kernel
theorem dX12_trace_13 : decode cX12_trace 13 = .ok (.getfield 177, 3) := by decide +kernel
theorem dX12_trace_16 : decode cX12_trace 16 = .ok (.if_icmp .ge 12, 3) := by decide +kernel
theorem dX12_trace_19 : decode cX12_trace 19 = .ok (.aload_n 0, 1) := by decide +kernel
theorem dX12_trace_20 : decode cX12_trace 20 = .ok (.getfield 180, 3) := by decide +kernel
theorem dX12_trace_23 : decode cX12_trace 23 = .ok (.iload_n 1, 1) := by decide +kernel
theorem dX12_trace_24 : decode cX12_trace 24 = .ok (.iaload, 1) := by decide +kernel
theorem dX12_trace_25 : decode cX12_trace 25 = .ok (.goto 4, 3) := by decide +kernel
theorem dX12_trace_28 : decode cX12_trace 28 = .ok (.iconst (-1), 1) := by decide +kernel
theorem dX12_trace_29 : decode cX12_trace 29 = .ok (.ireturn, 1) := by decide +kernel
theorem dX12_taken_0 : decode cX12_taken 0 = .ok (.aload_n 0, 1) := by decide +kernel
theorem dX12_taken_1 : decode cX12_taken 1 = .ok (.iload_n 2, 1) := by decide +kernel
theorem dX12_taken_2 : decode cX12_taken 2 = .ok (.iconst 0, 1) := by decide +kernel
theorem dX12_taken_3 : decode cX12_taken 3 = .ok (.iconst 4, 1) := by decide +kernel
theorem dX12_taken_4 : decode cX12_taken 4 = .ok (.invokevirtual 195, 3) := by decide +kernel
theorem dX12_taken_7 : decode cX12_taken 7 = .ok (.ifCond .ne 6, 3) := by decide +kernel
theorem dX12_taken_10 : decode cX12_taken 10 = .ok (.bipush (-2), 2) := by decide +kernel
theorem dX12_taken_12 : decode cX12_taken 12 = .ok (.ireturn, 1) := by decide +kernel
theorem dX12_taken_13 : decode cX12_taken 13 = .ok (.aload_n 0, 1) := by decide +kernel
theorem dX12_taken_14 : decode cX12_taken 14 = .ok (.iload_n 1, 1) := by decide +kernel
theorem dX12_taken_15 : decode cX12_taken 15 = .ok (.invokevirtual 203, 3) := by decide +kernel
theorem dX12_taken_18 : decode cX12_taken 18 = .ok (.ifCond .ne 6, 3) := by decide +kernel
theorem dX12_taken_21 : decode cX12_taken 21 = .ok (.bipush (-11), 2) := by decide +kernel
theorem dX12_taken_23 : decode cX12_taken 23 = .ok (.ireturn, 1) := by decide +kernel
theorem dX12_taken_24 : decode cX12_taken 24 = .ok (.iload_n 2, 1) := by decide +kernel
theorem dX12_taken_25 : decode cX12_taken 25 = .ok (.ifCond .eq 28, 3) := by decide +kernel
theorem dX12_taken_28 : decode cX12_taken 28 = .ok (.aload_n 0, 1) := by decide +kernel
theorem dX12_taken_29 : decode cX12_taken 29 = .ok (.getfield 16, 3) := by decide +kernel
theorem dX12_taken_32 : decode cX12_taken 32 = .ok (.iload_n 1, 1) := by decide +kernel
theorem dX12_taken_33 : decode cX12_taken 33 = .ok (.iaload, 1) := by decide +kernel
theorem dX12_taken_34 : decode cX12_taken 34 = .ok (.iload_n 2, 1) := by decide +kernel
theorem dX12_taken_35 : decode cX12_taken 35 = .ok (.if_icmp .eq 18, 3) := by decide +kernel
theorem dX12_taken_38 : decode cX12_taken 38 = .ok (.iload_n 2, 1) := by decide +kernel
theorem dX12_taken_39 : decode cX12_taken 39 = .ok (.iconst 2, 1) := by decide +kernel
theorem dX12_taken_40 : decode cX12_taken 40 = .ok (.if_icmp .ne 22, 3) := by decide +kernel
theorem dX12_taken_43 : decode cX12_taken 43 = .ok (.aload_n 0, 1) := by decide +kernel
theorem dX12_taken_44 : decode cX12_taken 44 = .ok (.getfield 16, 3) := by decide +kernel
theorem dX12_taken_47 : decode cX12_taken 47 = .ok (.iload_n 1, 1) := by decide +kernel
theorem dX12_taken_48 : decode cX12_taken 48 = .ok (.iaload, 1) := by decide +kernel
theorem dX12_taken_49 : decode cX12_taken 49 = .ok (.iconst 3, 1) := by decide +kernel
theorem dX12_taken_50 : decode cX12_taken 50 = .ok (.if_icmp .ne 12, 3) := by decide +kernel
theorem dX12_taken_53 : decode cX12_taken 53 = .ok (.aload_n 0, 1) := by decide +kernel
theorem dX12_taken_54 : decode cX12_taken 54 = .ok (.getfield 16, 3) := by decide +kernel
theorem dX12_taken_57 : decode cX12_taken 57 = .ok (.iload_n 1, 1) := by decide +kernel
theorem dX12_taken_58 : decode cX12_taken 58 = .ok (.iaload, 1) := by decide +kernel
theorem dX12_taken_59 : decode cX12_taken 59 = .ok (.goto 5, 3) := by decide +kernel
theorem dX12_taken_62 : decode cX12_taken 62 = .ok (.bipush (-12), 2) := by decide +kernel
theorem dX12_taken_64 : decode cX12_taken 64 = .ok (.ireturn, 1) := by decide +kernel
theorem dX12_count_0 : decode cX12_count 0 = .ok (.iload_n 1, 1) := by decide +kernel
theorem dX12_count_1 : decode cX12_count 1 = .ok (.tableswitch 95 0 7 #[47, 52, 57, 62, 67, 72, 77, 90], 47) := by decide +kernel
theorem dX12_count_48 : decode cX12_count 48 = .ok (.aload_n 0, 1) := by decide +kernel
theorem dX12_count_49 : decode cX12_count 49 = .ok (.getfield 7, 3) := by decide +kernel
theorem dX12_count_52 : decode cX12_count 52 = .ok (.ireturn, 1) := by decide +kernel
theorem dX12_count_53 : decode cX12_count 53 = .ok (.aload_n 0, 1) := by decide +kernel
theorem dX12_count_54 : decode cX12_count 54 = .ok (.getfield 13, 3) := by decide +kernel
theorem dX12_count_57 : decode cX12_count 57 = .ok (.ireturn, 1) := by decide +kernel
theorem dX12_count_58 : decode cX12_count 58 = .ok (.aload_n 0, 1) := by decide +kernel
theorem dX12_count_59 : decode cX12_count 59 = .ok (.getfield 54, 3) := by decide +kernel
theorem dX12_count_62 : decode cX12_count 62 = .ok (.ireturn, 1) := by decide +kernel
theorem dX12_count_63 : decode cX12_count 63 = .ok (.aload_n 0, 1) := by decide +kernel
theorem dX12_count_64 : decode cX12_count 64 = .ok (.getfield 90, 3) := by decide +kernel
theorem dX12_count_67 : decode cX12_count 67 = .ok (.ireturn, 1) := by decide +kernel
theorem dX12_count_68 : decode cX12_count 68 = .ok (.aload_n 0, 1) := by decide +kernel
theorem dX12_count_69 : decode cX12_count 69 = .ok (.getfield 93, 3) := by decide +kernel
theorem dX12_count_72 : decode cX12_count 72 = .ok (.ireturn, 1) := by decide +kernel
theorem dX12_count_73 : decode cX12_count 73 = .ok (.aload_n 0, 1) := by decide +kernel
theorem dX12_count_74 : decode cX12_count 74 = .ok (.getfield 72, 3) := by decide +kernel
theorem dX12_count_77 : decode cX12_count 77 = .ok (.ireturn, 1) := by decide +kernel
theorem dX12_count_78 : decode cX12_count 78 = .ok (.aload_n 0, 1) := by decide +kernel
theorem dX12_count_79 : decode cX12_count 79 = .ok (.getfield 44, 3) := by decide +kernel
theorem dX12_count_82 : decode cX12_count 82 = .ok (.ifCond .eq 7, 3) := by decide +kernel
theorem dX12_count_85 : decode cX12_count 85 = .ok (.iconst 1, 1) := by decide +kernel
theorem dX12_count_86 : decode cX12_count 86 = .ok (.goto 4, 3) := by decide +kernel
theorem dX12_count_89 : decode cX12_count 89 = .ok (.iconst 0, 1) := by decide +kernel
theorem dX12_count_90 : decode cX12_count 90 = .ok (.ireturn, 1) := by decide +kernel
theorem dX12_count_91 : decode cX12_count 91 = .ok (.aload_n 0, 1) := by decide +kernel
theorem dX12_count_92 : decode cX12_count 92 = .ok (.getfield 177, 3) := by decide +kernel
theorem dX12_count_95 : decode cX12_count 95 = .ok (.ireturn, 1) := by decide +kernel
theorem dX12_count_96 : decode cX12_count 96 = .ok (.bipush (-2), 2) := by decide +kernel
theorem dX12_count_98 : decode cX12_count 98 = .ok (.ireturn, 1) := by decide +kernel
theorem dX12_isTape_0 : decode cX12_isTape 0 = .ok (.aload_n 0, 1) := by decide +kernel
theorem dX12_isTape_1 : decode cX12_isTape 1 = .ok (.iload_n 1, 1) := by decide +kernel
theorem dX12_isTape_2 : decode cX12_isTape 2 = .ok (.iconst 0, 1) := by decide +kernel
theorem dX12_isTape_3 : decode cX12_isTape 3 = .ok (.iconst 5, 1) := by decide +kernel
theorem dX12_isTape_4 : decode cX12_isTape 4 = .ok (.invokevirtual 195, 3) := by decide +kernel
theorem dX12_isTape_7 : decode cX12_isTape 7 = .ok (.ireturn, 1) := by decide +kernel
theorem dX12_tape_0 : decode cX12_tape 0 = .ok (.aload_n 0, 1) := by decide +kernel
theorem dX12_tape_1 : decode cX12_tape 1 = .ok (.iload_n 1, 1) := by decide +kernel
theorem dX12_tape_2 : decode cX12_tape 2 = .ok (.invokevirtual 310, 3) := by decide +kernel
theorem dX12_tape_5 : decode cX12_tape 5 = .ok (.ifCond .ne 5, 3) := by decide +kernel
theorem dX12_tape_8 : decode cX12_tape 8 = .ok (.iconst (-1), 1) := by decide +kernel
theorem dX12_tape_9 : decode cX12_tape 9 = .ok (.ireturn, 1) := by decide +kernel
theorem dX12_tape_10 : decode cX12_tape 10 = .ok (.aload_n 0, 1) := by decide +kernel
theorem dX12_tape_11 : decode cX12_tape 11 = .ok (.iload_n 2, 1) := by decide +kernel
theorem dX12_tape_12 : decode cX12_tape 12 = .ok (.iconst (-1), 1) := by decide +kernel
theorem dX12_tape_13 : decode cX12_tape 13 = .ok (.iconst 4, 1) := by decide +kernel
theorem dX12_tape_14 : decode cX12_tape 14 = .ok (.invokevirtual 195, 3) := by decide +kernel
theorem dX12_tape_17 : decode cX12_tape 17 = .ok (.ifCond .eq 13, 3) := by decide +kernel
theorem dX12_tape_20 : decode cX12_tape 20 = .ok (.iload_n 2, 1) := by decide +kernel
theorem dX12_tape_21 : decode cX12_tape 21 = .ok (.ifCond .lt 12, 3) := by decide +kernel
theorem dX12_tape_24 : decode cX12_tape 24 = .ok (.iload_n 3, 1) := by decide +kernel
theorem dX12_tape_25 : decode cX12_tape 25 = .ok (.bipush 60, 2) := by decide +kernel
theorem dX12_tape_27 : decode cX12_tape 27 = .ok (.if_icmp .le 6, 3) := by decide +kernel
theorem dX12_tape_30 : decode cX12_tape 30 = .ok (.bipush (-2), 2) := by decide +kernel
theorem dX12_tape_32 : decode cX12_tape 32 = .ok (.ireturn, 1) := by decide +kernel
theorem dX12_tape_33 : decode cX12_tape 33 = .ok (.iload_n 2, 1) := by decide +kernel
theorem dX12_tape_34 : decode cX12_tape 34 = .ok (.ifCond .lt 10, 3) := by decide +kernel
theorem dX12_tape_37 : decode cX12_tape 37 = .ok (.iload_n 3, 1) := by decide +kernel
theorem dX12_tape_38 : decode cX12_tape 38 = .ok (.ifCond .ge 6, 3) := by decide +kernel
theorem dX12_tape_41 : decode cX12_tape 41 = .ok (.bipush (-14), 2) := by decide +kernel
theorem dX12_tape_43 : decode cX12_tape 43 = .ok (.ireturn, 1) := by decide +kernel
theorem dX12_tape_44 : decode cX12_tape 44 = .ok (.aload_n 0, 1) := by decide +kernel
theorem dX12_tape_45 : decode cX12_tape 45 = .ok (.getfield 183, 3) := by decide +kernel
theorem dX12_tape_48 : decode cX12_tape 48 = .ok (.iload_n 1, 1) := by decide +kernel
theorem dX12_tape_49 : decode cX12_tape 49 = .ok (.iload_n 2, 1) := by decide +kernel
theorem dX12_tape_50 : decode cX12_tape 50 = .ok (.iastore, 1) := by decide +kernel
theorem dX12_tape_51 : decode cX12_tape 51 = .ok (.aload_n 0, 1) := by decide +kernel
theorem dX12_tape_52 : decode cX12_tape 52 = .ok (.getfield 186, 3) := by decide +kernel
theorem dX12_tape_55 : decode cX12_tape 55 = .ok (.iload_n 1, 1) := by decide +kernel
theorem dX12_tape_56 : decode cX12_tape 56 = .ok (.iload_n 2, 1) := by decide +kernel
theorem dX12_tape_57 : decode cX12_tape 57 = .ok (.ifCond .ge 7, 3) := by decide +kernel
theorem dX12_tape_60 : decode cX12_tape 60 = .ok (.iconst 0, 1) := by decide +kernel
theorem dX12_tape_61 : decode cX12_tape 61 = .ok (.goto 4, 3) := by decide +kernel
theorem dX12_tape_64 : decode cX12_tape 64 = .ok (.iload_n 3, 1) := by decide +kernel
theorem dX12_tape_65 : decode cX12_tape 65 = .ok (.iastore, 1) := by decide +kernel
theorem dX12_tape_66 : decode cX12_tape 66 = .ok (.iconst 0, 1) := by decide +kernel
theorem dX12_tape_67 : decode cX12_tape 67 = .ok (.istore 4, 2) := by decide +kernel
theorem dX12_tape_69 : decode cX12_tape 69 = .ok (.iload 4, 2) := by decide +kernel
theorem dX12_tape_71 : decode cX12_tape 71 = .ok (.bipush 60, 2) := by decide +kernel
theorem dX12_tape_73 : decode cX12_tape 73 = .ok (.if_icmp .ge 22, 3) := by decide +kernel
theorem dX12_tape_76 : decode cX12_tape 76 = .ok (.aload_n 0, 1) := by decide +kernel
theorem dX12_tape_77 : decode cX12_tape 77 = .ok (.getfield 189, 3) := by decide +kernel
theorem dX12_tape_80 : decode cX12_tape 80 = .ok (.bipush 60, 2) := by decide +kernel
theorem dX12_tape_82 : decode cX12_tape 82 = .ok (.iload_n 1, 1) := by decide +kernel
theorem dX12_tape_83 : decode cX12_tape 83 = .ok (.imul, 1) := by decide +kernel
theorem dX12_tape_84 : decode cX12_tape 84 = .ok (.iload 4, 2) := by decide +kernel
theorem dX12_tape_86 : decode cX12_tape 86 = .ok (.iadd, 1) := by decide +kernel
theorem dX12_tape_87 : decode cX12_tape 87 = .ok (.iconst 0, 1) := by decide +kernel
theorem dX12_tape_88 : decode cX12_tape 88 = .ok (.iastore, 1) := by decide +kernel
theorem dX12_tape_89 : decode cX12_tape 89 = .ok (.iinc 4 1, 3) := by decide +kernel
theorem dX12_tape_92 : decode cX12_tape 92 = .ok (.goto (-23), 3) := by decide +kernel
theorem dX12_tape_95 : decode cX12_tape 95 = .ok (.iconst 1, 1) := by decide +kernel
theorem dX12_tape_96 : decode cX12_tape 96 = .ok (.ireturn, 1) := by decide +kernel
theorem dX12_narrow_0 : decode cX12_narrow 0 = .ok (.iload_n 1, 1) := by decide +kernel
theorem dX12_narrow_1 : decode cX12_narrow 1 = .ok (.ifCond .ne 8, 3) := by decide +kernel
theorem dX12_narrow_4 : decode cX12_narrow 4 = .ok (.iload_n 2, 1) := by decide +kernel
theorem dX12_narrow_5 : decode cX12_narrow 5 = .ok (.i2b, 1) := by decide +kernel
theorem dX12_narrow_6 : decode cX12_narrow 6 = .ok (.goto 44, 3) := by decide +kernel
theorem dX12_narrow_9 : decode cX12_narrow 9 = .ok (.iload_n 1, 1) := by decide +kernel
theorem dX12_narrow_10 : decode cX12_narrow 10 = .ok (.iconst 1, 1) := by decide +kernel
theorem dX12_narrow_11 : decode cX12_narrow 11 = .ok (.if_icmp .ne 8, 3) := by decide +kernel
theorem dX12_narrow_14 : decode cX12_narrow 14 = .ok (.iload_n 2, 1) := by decide +kernel
theorem dX12_narrow_15 : decode cX12_narrow 15 = .ok (.i2s, 1) := by decide +kernel
theorem dX12_narrow_16 : decode cX12_narrow 16 = .ok (.goto 34, 3) := by decide +kernel
theorem dX12_narrow_19 : decode cX12_narrow 19 = .ok (.iload_n 1, 1) := by decide +kernel
theorem dX12_narrow_20 : decode cX12_narrow 20 = .ok (.iconst 3, 1) := by decide +kernel
theorem dX12_narrow_21 : decode cX12_narrow 21 = .ok (.if_icmp .ne 15, 3) := by decide +kernel
theorem dX12_narrow_24 : decode cX12_narrow 24 = .ok (.iload_n 2, 1) := by decide +kernel
theorem dX12_narrow_25 : decode cX12_narrow 25 = .ok (.ifCond .eq 7, 3) := by decide +kernel
theorem dX12_narrow_28 : decode cX12_narrow 28 = .ok (.iconst 1, 1) := by decide +kernel
theorem dX12_narrow_29 : decode cX12_narrow 29 = .ok (.goto 21, 3) := by decide +kernel
theorem dX12_narrow_32 : decode cX12_narrow 32 = .ok (.iconst 0, 1) := by decide +kernel
theorem dX12_narrow_33 : decode cX12_narrow 33 = .ok (.goto 17, 3) := by decide +kernel
theorem dX12_narrow_36 : decode cX12_narrow 36 = .ok (.iload_n 1, 1) := by decide +kernel
theorem dX12_narrow_37 : decode cX12_narrow 37 = .ok (.iconst 4, 1) := by decide +kernel
theorem dX12_narrow_38 : decode cX12_narrow 38 = .ok (.if_icmp .ne 11, 3) := by decide +kernel
theorem dX12_narrow_41 : decode cX12_narrow 41 = .ok (.iload_n 2, 1) := by decide +kernel
theorem dX12_narrow_42 : decode cX12_narrow 42 = .ok (.ldc_w 344, 3) := by decide +kernel
theorem dX12_narrow_45 : decode cX12_narrow 45 = .ok (.iand, 1) := by decide +kernel
theorem dX12_narrow_46 : decode cX12_narrow 46 = .ok (.goto 4, 3) := by decide +kernel
theorem dX12_narrow_49 : decode cX12_narrow 49 = .ok (.iload_n 2, 1) := by decide +kernel
theorem dX12_narrow_50 : decode cX12_narrow 50 = .ok (.ireturn, 1) := by decide +kernel
theorem dX12_item_0 : decode cX12_item 0 = .ok (.aload_n 0, 1) := by decide +kernel
theorem dX12_item_1 : decode cX12_item 1 = .ok (.iload_n 1, 1) := by decide +kernel
theorem dX12_item_2 : decode cX12_item 2 = .ok (.invokevirtual 310, 3) := by decide +kernel
theorem dX12_item_5 : decode cX12_item 5 = .ok (.ifCond .ne 5, 3) := by decide +kernel
theorem dX12_item_8 : decode cX12_item 8 = .ok (.iconst (-1), 1) := by decide +kernel
theorem dX12_item_9 : decode cX12_item 9 = .ok (.ireturn, 1) := by decide +kernel
theorem dX12_item_10 : decode cX12_item 10 = .ok (.aload_n 0, 1) := by decide +kernel
theorem dX12_item_11 : decode cX12_item 11 = .ok (.getfield 183, 3) := by decide +kernel
theorem dX12_item_14 : decode cX12_item 14 = .ok (.iload_n 1, 1) := by decide +kernel
theorem dX12_item_15 : decode cX12_item 15 = .ok (.iaload, 1) := by decide +kernel
theorem dX12_item_16 : decode cX12_item 16 = .ok (.ifCond .ge 6, 3) := by decide +kernel
theorem dX12_item_19 : decode cX12_item 19 = .ok (.bipush (-11), 2) := by decide +kernel
theorem dX12_item_21 : decode cX12_item 21 = .ok (.ireturn, 1) := by decide +kernel
theorem dX12_item_22 : decode cX12_item 22 = .ok (.aload_n 0, 1) := by decide +kernel
theorem dX12_item_23 : decode cX12_item 23 = .ok (.iload_n 2, 1) := by decide +kernel
theorem dX12_item_24 : decode cX12_item 24 = .ok (.iconst 0, 1) := by decide +kernel
theorem dX12_item_25 : decode cX12_item 25 = .ok (.aload_n 0, 1) := by decide +kernel
theorem dX12_item_26 : decode cX12_item 26 = .ok (.getfield 186, 3) := by decide +kernel
theorem dX12_item_29 : decode cX12_item 29 = .ok (.iload_n 1, 1) := by decide +kernel
theorem dX12_item_30 : decode cX12_item 30 = .ok (.iaload, 1) := by decide +kernel
theorem dX12_item_31 : decode cX12_item 31 = .ok (.iconst 1, 1) := by decide +kernel
theorem dX12_item_32 : decode cX12_item 32 = .ok (.isub, 1) := by decide +kernel
theorem dX12_item_33 : decode cX12_item 33 = .ok (.invokevirtual 195, 3) := by decide +kernel
theorem dX12_item_36 : decode cX12_item 36 = .ok (.ifCond .ne 6, 3) := by decide +kernel
theorem dX12_item_39 : decode cX12_item 39 = .ok (.bipush (-13), 2) := by decide +kernel
theorem dX12_item_41 : decode cX12_item 41 = .ok (.ireturn, 1) := by decide +kernel
theorem dX12_item_42 : decode cX12_item 42 = .ok (.aload_n 0, 1) := by decide +kernel
theorem dX12_item_43 : decode cX12_item 43 = .ok (.getfield 189, 3) := by decide +kernel
theorem dX12_item_46 : decode cX12_item 46 = .ok (.bipush 60, 2) := by decide +kernel
theorem dX12_item_48 : decode cX12_item 48 = .ok (.iload_n 1, 1) := by decide +kernel
theorem dX12_item_49 : decode cX12_item 49 = .ok (.imul, 1) := by decide +kernel
theorem dX12_item_50 : decode cX12_item 50 = .ok (.iload_n 2, 1) := by decide +kernel
theorem dX12_item_51 : decode cX12_item 51 = .ok (.iadd, 1) := by decide +kernel
theorem dX12_item_52 : decode cX12_item 52 = .ok (.aload_n 0, 1) := by decide +kernel
theorem dX12_item_53 : decode cX12_item 53 = .ok (.aload_n 0, 1) := by decide +kernel
theorem dX12_item_54 : decode cX12_item 54 = .ok (.getfield 183, 3) := by decide +kernel
theorem dX12_item_57 : decode cX12_item 57 = .ok (.iload_n 1, 1) := by decide +kernel
theorem dX12_item_58 : decode cX12_item 58 = .ok (.iaload, 1) := by decide +kernel
theorem dX12_item_59 : decode cX12_item 59 = .ok (.iload_n 3, 1) := by decide +kernel
theorem dX12_item_60 : decode cX12_item 60 = .ok (.invokevirtual 345, 3) := by decide +kernel
theorem dX12_item_63 : decode cX12_item 63 = .ok (.iastore, 1) := by decide +kernel
theorem dX12_item_64 : decode cX12_item 64 = .ok (.iconst 1, 1) := by decide +kernel
theorem dX12_item_65 : decode cX12_item 65 = .ok (.ireturn, 1) := by decide +kernel
theorem dX12_read_0 : decode cX12_read 0 = .ok (.aload_n 0, 1) := by decide +kernel
theorem dX12_read_1 : decode cX12_read 1 = .ok (.iload_n 1, 1) := by decide +kernel
theorem dX12_read_2 : decode cX12_read 2 = .ok (.invokevirtual 310, 3) := by decide +kernel
theorem dX12_read_5 : decode cX12_read 5 = .ok (.ifCond .eq 29, 3) := by decide +kernel
theorem dX12_read_8 : decode cX12_read 8 = .ok (.aload_n 0, 1) := by decide +kernel
theorem dX12_read_9 : decode cX12_read 9 = .ok (.getfield 183, 3) := by decide +kernel
theorem dX12_read_12 : decode cX12_read 12 = .ok (.iload_n 1, 1) := by decide +kernel
theorem dX12_read_13 : decode cX12_read 13 = .ok (.iaload, 1) := by decide +kernel
theorem dX12_read_14 : decode cX12_read 14 = .ok (.ifCond .lt 20, 3) := by decide +kernel
theorem dX12_read_17 : decode cX12_read 17 = .ok (.aload_n 0, 1) := by decide +kernel
theorem dX12_read_18 : decode cX12_read 18 = .ok (.iload_n 2, 1) := by decide +kernel
theorem dX12_read_19 : decode cX12_read 19 = .ok (.iconst 0, 1) := by decide +kernel
theorem dX12_read_20 : decode cX12_read 20 = .ok (.aload_n 0, 1) := by decide +kernel
theorem dX12_read_21 : decode cX12_read 21 = .ok (.getfield 186, 3) := by decide +kernel
theorem dX12_read_24 : decode cX12_read 24 = .ok (.iload_n 1, 1) := by decide +kernel
theorem dX12_read_25 : decode cX12_read 25 = .ok (.iaload, 1) := by decide +kernel
theorem dX12_read_26 : decode cX12_read 26 = .ok (.iconst 1, 1) := by decide +kernel
theorem dX12_read_27 : decode cX12_read 27 = .ok (.isub, 1) := by decide +kernel
theorem dX12_read_28 : decode cX12_read 28 = .ok (.invokevirtual 195, 3) := by decide +kernel
theorem dX12_read_31 : decode cX12_read 31 = .ok (.ifCond .ne 9, 3) := by decide +kernel
theorem dX12_read_34 : decode cX12_read 34 = .ok (.ldc_w 348, 3) := by decide +kernel
theorem dX12_read_37 : decode cX12_read 37 = .ok (.goto 14, 3) := by decide +kernel
theorem dX12_read_40 : decode cX12_read 40 = .ok (.aload_n 0, 1) := by decide +kernel
theorem dX12_read_41 : decode cX12_read 41 = .ok (.getfield 189, 3) := by decide +kernel
theorem dX12_read_44 : decode cX12_read 44 = .ok (.bipush 60, 2) := by decide +kernel
theorem dX12_read_46 : decode cX12_read 46 = .ok (.iload_n 1, 1) := by decide +kernel
theorem dX12_read_47 : decode cX12_read 47 = .ok (.imul, 1) := by decide +kernel
theorem dX12_read_48 : decode cX12_read 48 = .ok (.iload_n 2, 1) := by decide +kernel
theorem dX12_read_49 : decode cX12_read 49 = .ok (.iadd, 1) := by decide +kernel
theorem dX12_read_50 : decode cX12_read 50 = .ok (.iaload, 1) := by decide +kernel
theorem dX12_read_51 : decode cX12_read 51 = .ok (.ireturn, 1) := by decide +kernel
theorem dX12_shift_0 : decode cX12_shift 0 = .ok (.aload_n 0, 1) := by decide +kernel
theorem dX12_shift_1 : decode cX12_shift 1 = .ok (.iload_n 1, 1) := by decide +kernel
theorem dX12_shift_2 : decode cX12_shift 2 = .ok (.invokevirtual 310, 3) := by decide +kernel
theorem dX12_shift_5 : decode cX12_shift 5 = .ok (.ifCond .eq 11, 3) := by decide +kernel
theorem dX12_shift_8 : decode cX12_shift 8 = .ok (.aload_n 0, 1) := by decide +kernel
theorem dX12_shift_9 : decode cX12_shift 9 = .ok (.iload_n 3, 1) := by decide +kernel
theorem dX12_shift_10 : decode cX12_shift 10 = .ok (.invokevirtual 310, 3) := by decide +kernel
theorem dX12_shift_13 : decode cX12_shift 13 = .ok (.ifCond .ne 5, 3) := by decide +kernel
theorem dX12_shift_16 : decode cX12_shift 16 = .ok (.iconst (-1), 1) := by decide +kernel
theorem dX12_shift_17 : decode cX12_shift 17 = .ok (.ireturn, 1) := by decide +kernel
theorem dX12_shift_18 : decode cX12_shift 18 = .ok (.aload_n 0, 1) := by decide +kernel
theorem dX12_shift_19 : decode cX12_shift 19 = .ok (.getfield 183, 3) := by decide +kernel
theorem dX12_shift_22 : decode cX12_shift 22 = .ok (.iload_n 1, 1) := by decide +kernel
theorem dX12_shift_23 : decode cX12_shift 23 = .ok (.iaload, 1) := by decide +kernel
theorem dX12_shift_24 : decode cX12_shift 24 = .ok (.ifCond .lt 12, 3) := by decide +kernel
theorem dX12_shift_27 : decode cX12_shift 27 = .ok (.aload_n 0, 1) := by decide +kernel
theorem dX12_shift_28 : decode cX12_shift 28 = .ok (.getfield 183, 3) := by decide +kernel
theorem dX12_shift_31 : decode cX12_shift 31 = .ok (.iload_n 3, 1) := by decide +kernel
theorem dX12_shift_32 : decode cX12_shift 32 = .ok (.iaload, 1) := by decide +kernel
theorem dX12_shift_33 : decode cX12_shift 33 = .ok (.ifCond .ge 6, 3) := by decide +kernel
theorem dX12_shift_36 : decode cX12_shift 36 = .ok (.bipush (-11), 2) := by decide +kernel
theorem dX12_shift_38 : decode cX12_shift 38 = .ok (.ireturn, 1) := by decide +kernel
theorem dX12_shift_39 : decode cX12_shift 39 = .ok (.aload_n 0, 1) := by decide +kernel
theorem dX12_shift_40 : decode cX12_shift 40 = .ok (.getfield 183, 3) := by decide +kernel
theorem dX12_shift_43 : decode cX12_shift 43 = .ok (.iload_n 1, 1) := by decide +kernel
theorem dX12_shift_44 : decode cX12_shift 44 = .ok (.iaload, 1) := by decide +kernel
theorem dX12_shift_45 : decode cX12_shift 45 = .ok (.aload_n 0, 1) := by decide +kernel
theorem dX12_shift_46 : decode cX12_shift 46 = .ok (.getfield 183, 3) := by decide +kernel
theorem dX12_shift_49 : decode cX12_shift 49 = .ok (.iload_n 3, 1) := by decide +kernel
theorem dX12_shift_50 : decode cX12_shift 50 = .ok (.iaload, 1) := by decide +kernel
theorem dX12_shift_51 : decode cX12_shift 51 = .ok (.if_icmp .eq 6, 3) := by decide +kernel
theorem dX12_shift_54 : decode cX12_shift 54 = .ok (.bipush (-12), 2) := by decide +kernel
theorem dX12_shift_56 : decode cX12_shift 56 = .ok (.ireturn, 1) := by decide +kernel
theorem dX12_shift_57 : decode cX12_shift 57 = .ok (.iload 5, 2) := by decide +kernel
theorem dX12_shift_59 : decode cX12_shift 59 = .ok (.ifCond .lt 39, 3) := by decide +kernel
theorem dX12_shift_62 : decode cX12_shift 62 = .ok (.iload_n 2, 1) := by decide +kernel
theorem dX12_shift_63 : decode cX12_shift 63 = .ok (.ifCond .lt 35, 3) := by decide +kernel
theorem dX12_shift_66 : decode cX12_shift 66 = .ok (.iload 4, 2) := by decide +kernel
theorem dX12_shift_68 : decode cX12_shift 68 = .ok (.ifCond .lt 30, 3) := by decide +kernel
theorem dX12_shift_71 : decode cX12_shift 71 = .ok (.iload_n 2, 1) := by decide +kernel
theorem dX12_shift_72 : decode cX12_shift 72 = .ok (.aload_n 0, 1) := by decide +kernel
theorem dX12_shift_73 : decode cX12_shift 73 = .ok (.getfield 186, 3) := by decide +kernel
theorem dX12_shift_76 : decode cX12_shift 76 = .ok (.iload_n 1, 1) := by decide +kernel
theorem dX12_shift_77 : decode cX12_shift 77 = .ok (.iaload, 1) := by decide +kernel
theorem dX12_shift_78 : decode cX12_shift 78 = .ok (.iload 5, 2) := by decide +kernel
theorem dX12_shift_80 : decode cX12_shift 80 = .ok (.isub, 1) := by decide +kernel
theorem dX12_shift_81 : decode cX12_shift 81 = .ok (.if_icmp .gt 17, 3) := by decide +kernel
theorem dX12_shift_84 : decode cX12_shift 84 = .ok (.iload 4, 2) := by decide +kernel
theorem dX12_shift_86 : decode cX12_shift 86 = .ok (.aload_n 0, 1) := by decide +kernel
theorem dX12_shift_87 : decode cX12_shift 87 = .ok (.getfield 186, 3) := by decide +kernel
theorem dX12_shift_90 : decode cX12_shift 90 = .ok (.iload_n 3, 1) := by decide +kernel
theorem dX12_shift_91 : decode cX12_shift 91 = .ok (.iaload, 1) := by decide +kernel
theorem dX12_shift_92 : decode cX12_shift 92 = .ok (.iload 5, 2) := by decide +kernel
theorem dX12_shift_94 : decode cX12_shift 94 = .ok (.isub, 1) := by decide +kernel
theorem dX12_shift_95 : decode cX12_shift 95 = .ok (.if_icmp .le 6, 3) := by decide +kernel
theorem dX12_shift_98 : decode cX12_shift 98 = .ok (.bipush (-13), 2) := by decide +kernel
theorem dX12_shift_100 : decode cX12_shift 100 = .ok (.ireturn, 1) := by decide +kernel
theorem dX12_shift_101 : decode cX12_shift 101 = .ok (.iconst 0, 1) := by decide +kernel
theorem dX12_shift_102 : decode cX12_shift 102 = .ok (.istore 6, 2) := by decide +kernel
theorem dX12_shift_104 : decode cX12_shift 104 = .ok (.iload 6, 2) := by decide +kernel
theorem dX12_shift_106 : decode cX12_shift 106 = .ok (.iload 5, 2) := by decide +kernel
theorem dX12_shift_108 : decode cX12_shift 108 = .ok (.if_icmp .ge 30, 3) := by decide +kernel
theorem dX12_shift_111 : decode cX12_shift 111 = .ok (.aload_n 0, 1) := by decide +kernel
theorem dX12_shift_112 : decode cX12_shift 112 = .ok (.getfield 192, 3) := by decide +kernel
theorem dX12_shift_115 : decode cX12_shift 115 = .ok (.iload 6, 2) := by decide +kernel
theorem dX12_shift_117 : decode cX12_shift 117 = .ok (.aload_n 0, 1) := by decide +kernel
theorem dX12_shift_118 : decode cX12_shift 118 = .ok (.getfield 189, 3) := by decide +kernel
theorem dX12_shift_121 : decode cX12_shift 121 = .ok (.bipush 60, 2) := by decide +kernel
theorem dX12_shift_123 : decode cX12_shift 123 = .ok (.iload_n 1, 1) := by decide +kernel
theorem dX12_shift_124 : decode cX12_shift 124 = .ok (.imul, 1) := by decide +kernel
theorem dX12_shift_125 : decode cX12_shift 125 = .ok (.iload_n 2, 1) := by decide +kernel
theorem dX12_shift_126 : decode cX12_shift 126 = .ok (.iadd, 1) := by decide +kernel
theorem dX12_shift_127 : decode cX12_shift 127 = .ok (.iload 6, 2) := by decide +kernel
theorem dX12_shift_129 : decode cX12_shift 129 = .ok (.iadd, 1) := by decide +kernel
theorem dX12_shift_130 : decode cX12_shift 130 = .ok (.iaload, 1) := by decide +kernel
theorem dX12_shift_131 : decode cX12_shift 131 = .ok (.iastore, 1) := by decide +kernel
theorem dX12_shift_132 : decode cX12_shift 132 = .ok (.iinc 6 1, 3) := by decide +kernel
theorem dX12_shift_135 : decode cX12_shift 135 = .ok (.goto (-31), 3) := by decide +kernel
theorem dX12_shift_138 : decode cX12_shift 138 = .ok (.iconst 0, 1) := by decide +kernel
theorem dX12_shift_139 : decode cX12_shift 139 = .ok (.istore 6, 2) := by decide +kernel
theorem dX12_shift_141 : decode cX12_shift 141 = .ok (.iload 6, 2) := by decide +kernel
theorem dX12_shift_143 : decode cX12_shift 143 = .ok (.iload 5, 2) := by decide +kernel
theorem dX12_shift_145 : decode cX12_shift 145 = .ok (.if_icmp .ge 31, 3) := by decide +kernel
theorem dX12_shift_148 : decode cX12_shift 148 = .ok (.aload_n 0, 1) := by decide +kernel
theorem dX12_shift_149 : decode cX12_shift 149 = .ok (.getfield 189, 3) := by decide +kernel
theorem dX12_shift_152 : decode cX12_shift 152 = .ok (.bipush 60, 2) := by decide +kernel
theorem dX12_shift_154 : decode cX12_shift 154 = .ok (.iload_n 3, 1) := by decide +kernel
theorem dX12_shift_155 : decode cX12_shift 155 = .ok (.imul, 1) := by decide +kernel
theorem dX12_shift_156 : decode cX12_shift 156 = .ok (.iload 4, 2) := by decide +kernel
theorem dX12_shift_158 : decode cX12_shift 158 = .ok (.iadd, 1) := by decide +kernel
theorem dX12_shift_159 : decode cX12_shift 159 = .ok (.iload 6, 2) := by decide +kernel
theorem dX12_shift_161 : decode cX12_shift 161 = .ok (.iadd, 1) := by decide +kernel
theorem dX12_shift_162 : decode cX12_shift 162 = .ok (.aload_n 0, 1) := by decide +kernel
theorem dX12_shift_163 : decode cX12_shift 163 = .ok (.getfield 192, 3) := by decide +kernel
theorem dX12_shift_166 : decode cX12_shift 166 = .ok (.iload 6, 2) := by decide +kernel
theorem dX12_shift_168 : decode cX12_shift 168 = .ok (.iaload, 1) := by decide +kernel
theorem dX12_shift_169 : decode cX12_shift 169 = .ok (.iastore, 1) := by decide +kernel
theorem dX12_shift_170 : decode cX12_shift 170 = .ok (.iinc 6 1, 3) := by decide +kernel
theorem dX12_shift_173 : decode cX12_shift 173 = .ok (.goto (-32), 3) := by decide +kernel
theorem dX12_shift_176 : decode cX12_shift 176 = .ok (.iload 5, 2) := by decide +kernel
theorem dX12_shift_178 : decode cX12_shift 178 = .ok (.ireturn, 1) := by decide +kernel
theorem dJ6_bitCount_0f7a4_0 : decode cJ6_bitCount_0f7a4 0 = .ok (.iload_n 0, 1) := by decide +kernel
theorem dJ6_bitCount_0f7a4_1 : decode cJ6_bitCount_0f7a4 1 = .ok (.iload_n 0, 1) := by decide +kernel
theorem dJ6_bitCount_0f7a4_2 : decode cJ6_bitCount_0f7a4 2 = .ok (.iconst 1, 1) := by decide +kernel
theorem dJ6_bitCount_0f7a4_3 : decode cJ6_bitCount_0f7a4 3 = .ok (.iushr, 1) := by decide +kernel
theorem dJ6_bitCount_0f7a4_4 : decode cJ6_bitCount_0f7a4 4 = .ok (.ldc_w 265, 3) := by decide +kernel
theorem dJ6_bitCount_0f7a4_7 : decode cJ6_bitCount_0f7a4 7 = .ok (.iand, 1) := by decide +kernel
theorem dJ6_bitCount_0f7a4_8 : decode cJ6_bitCount_0f7a4 8 = .ok (.isub, 1) := by decide +kernel
theorem dJ6_bitCount_0f7a4_9 : decode cJ6_bitCount_0f7a4 9 = .ok (.istore_n 0, 1) := by decide +kernel
theorem dJ6_bitCount_0f7a4_10 : decode cJ6_bitCount_0f7a4 10 = .ok (.iload_n 0, 1) := by decide +kernel
theorem dJ6_bitCount_0f7a4_11 : decode cJ6_bitCount_0f7a4 11 = .ok (.ldc_w 266, 3) := by decide +kernel
theorem dJ6_bitCount_0f7a4_14 : decode cJ6_bitCount_0f7a4 14 = .ok (.iand, 1) := by decide +kernel
theorem dJ6_bitCount_0f7a4_15 : decode cJ6_bitCount_0f7a4 15 = .ok (.iload_n 0, 1) := by decide +kernel
theorem dJ6_bitCount_0f7a4_16 : decode cJ6_bitCount_0f7a4 16 = .ok (.iconst 2, 1) := by decide +kernel
theorem dJ6_bitCount_0f7a4_17 : decode cJ6_bitCount_0f7a4 17 = .ok (.iushr, 1) := by decide +kernel
theorem dJ6_bitCount_0f7a4_18 : decode cJ6_bitCount_0f7a4 18 = .ok (.ldc_w 266, 3) := by decide +kernel
theorem dJ6_bitCount_0f7a4_21 : decode cJ6_bitCount_0f7a4 21 = .ok (.iand, 1) := by decide +kernel
theorem dJ6_bitCount_0f7a4_22 : decode cJ6_bitCount_0f7a4 22 = .ok (.iadd, 1) := by decide +kernel
theorem dJ6_bitCount_0f7a4_23 : decode cJ6_bitCount_0f7a4 23 = .ok (.istore_n 0, 1) := by decide +kernel
theorem dJ6_bitCount_0f7a4_24 : decode cJ6_bitCount_0f7a4 24 = .ok (.iload_n 0, 1) := by decide +kernel
theorem dJ6_bitCount_0f7a4_25 : decode cJ6_bitCount_0f7a4 25 = .ok (.iload_n 0, 1) := by decide +kernel
theorem dJ6_bitCount_0f7a4_26 : decode cJ6_bitCount_0f7a4 26 = .ok (.iconst 4, 1) := by decide +kernel
theorem dJ6_bitCount_0f7a4_27 : decode cJ6_bitCount_0f7a4 27 = .ok (.iushr, 1) := by decide +kernel
theorem dJ6_bitCount_0f7a4_28 : decode cJ6_bitCount_0f7a4 28 = .ok (.iadd, 1) := by decide +kernel
theorem dJ6_bitCount_0f7a4_29 : decode cJ6_bitCount_0f7a4 29 = .ok (.ldc_w 267, 3) := by decide +kernel
theorem dJ6_bitCount_0f7a4_32 : decode cJ6_bitCount_0f7a4 32 = .ok (.iand, 1) := by decide +kernel
theorem dJ6_bitCount_0f7a4_33 : decode cJ6_bitCount_0f7a4 33 = .ok (.istore_n 0, 1) := by decide +kernel
theorem dJ6_bitCount_0f7a4_34 : decode cJ6_bitCount_0f7a4 34 = .ok (.iload_n 0, 1) := by decide +kernel
theorem dJ6_bitCount_0f7a4_35 : decode cJ6_bitCount_0f7a4 35 = .ok (.iload_n 0, 1) := by decide +kernel
theorem dJ6_bitCount_0f7a4_36 : decode cJ6_bitCount_0f7a4 36 = .ok (.bipush 8, 2) := by decide +kernel
theorem dJ6_bitCount_0f7a4_38 : decode cJ6_bitCount_0f7a4 38 = .ok (.iushr, 1) := by decide +kernel
theorem dJ6_bitCount_0f7a4_39 : decode cJ6_bitCount_0f7a4 39 = .ok (.iadd, 1) := by decide +kernel
theorem dJ6_bitCount_0f7a4_40 : decode cJ6_bitCount_0f7a4 40 = .ok (.istore_n 0, 1) := by decide +kernel
theorem dJ6_bitCount_0f7a4_41 : decode cJ6_bitCount_0f7a4 41 = .ok (.iload_n 0, 1) := by decide +kernel
theorem dJ6_bitCount_0f7a4_42 : decode cJ6_bitCount_0f7a4 42 = .ok (.iload_n 0, 1) := by decide +kernel
theorem dJ6_bitCount_0f7a4_43 : decode cJ6_bitCount_0f7a4 43 = .ok (.bipush 16, 2) := by decide +kernel
theorem dJ6_bitCount_0f7a4_45 : decode cJ6_bitCount_0f7a4 45 = .ok (.iushr, 1) := by decide +kernel
theorem dJ6_bitCount_0f7a4_46 : decode cJ6_bitCount_0f7a4 46 = .ok (.iadd, 1) := by decide +kernel
theorem dJ6_bitCount_0f7a4_47 : decode cJ6_bitCount_0f7a4 47 = .ok (.istore_n 0, 1) := by decide +kernel
theorem dJ6_bitCount_0f7a4_48 : decode cJ6_bitCount_0f7a4 48 = .ok (.iload_n 0, 1) := by decide +kernel
theorem dJ6_bitCount_0f7a4_49 : decode cJ6_bitCount_0f7a4 49 = .ok (.bipush 63, 2) := by decide +kernel
theorem dJ6_bitCount_0f7a4_51 : decode cJ6_bitCount_0f7a4 51 = .ok (.iand, 1) := by decide +kernel
theorem dJ6_bitCount_0f7a4_52 : decode cJ6_bitCount_0f7a4 52 = .ok (.ireturn, 1) := by decide +kernel
theorem dJ9_floorDiv_7cf53_0 : decode cJ9_floorDiv_7cf53 0 = .ok (.iload_n 0, 1) := by decide +kernel
theorem dJ9_floorDiv_7cf53_1 : decode cJ9_floorDiv_7cf53 1 = .ok (.iload_n 1, 1) := by decide +kernel
theorem dJ9_floorDiv_7cf53_2 : decode cJ9_floorDiv_7cf53 2 = .ok (.idiv, 1) := by decide +kernel
theorem dJ9_floorDiv_7cf53_3 : decode cJ9_floorDiv_7cf53 3 = .ok (.istore_n 2, 1) := by decide +kernel
theorem dJ9_floorDiv_7cf53_4 : decode cJ9_floorDiv_7cf53 4 = .ok (.iload_n 0, 1) := by decide +kernel
theorem dJ9_floorDiv_7cf53_5 : decode cJ9_floorDiv_7cf53 5 = .ok (.iload_n 1, 1) := by decide +kernel
theorem dJ9_floorDiv_7cf53_6 : decode cJ9_floorDiv_7cf53 6 = .ok (.ixor, 1) := by decide +kernel
theorem dJ9_floorDiv_7cf53_7 : decode cJ9_floorDiv_7cf53 7 = .ok (.ifCond .ge 14, 3) := by decide +kernel
theorem dJ9_floorDiv_7cf53_10 : decode cJ9_floorDiv_7cf53 10 = .ok (.iload_n 2, 1) := by decide +kernel
theorem dJ9_floorDiv_7cf53_11 : decode cJ9_floorDiv_7cf53 11 = .ok (.iload_n 1, 1) := by decide +kernel
theorem dJ9_floorDiv_7cf53_12 : decode cJ9_floorDiv_7cf53 12 = .ok (.imul, 1) := by decide +kernel
theorem dJ9_floorDiv_7cf53_13 : decode cJ9_floorDiv_7cf53 13 = .ok (.iload_n 0, 1) := by decide +kernel
theorem dJ9_floorDiv_7cf53_14 : decode cJ9_floorDiv_7cf53 14 = .ok (.if_icmp .eq 7, 3) := by decide +kernel
theorem dJ9_floorDiv_7cf53_17 : decode cJ9_floorDiv_7cf53 17 = .ok (.iload_n 2, 1) := by decide +kernel
theorem dJ9_floorDiv_7cf53_18 : decode cJ9_floorDiv_7cf53 18 = .ok (.iconst 1, 1) := by decide +kernel
theorem dJ9_floorDiv_7cf53_19 : decode cJ9_floorDiv_7cf53 19 = .ok (.isub, 1) := by decide +kernel
theorem dJ9_floorDiv_7cf53_20 : decode cJ9_floorDiv_7cf53 20 = .ok (.ireturn, 1) := by decide +kernel
theorem dJ9_floorDiv_7cf53_21 : decode cJ9_floorDiv_7cf53 21 = .ok (.iload_n 2, 1) := by decide +kernel
theorem dJ9_floorDiv_7cf53_22 : decode cJ9_floorDiv_7cf53 22 = .ok (.ireturn, 1) := by decide +kernel
theorem dJ9_floorMod_7cf53_0 : decode cJ9_floorMod_7cf53 0 = .ok (.iload_n 0, 1) := by decide +kernel
theorem dJ9_floorMod_7cf53_1 : decode cJ9_floorMod_7cf53 1 = .ok (.iload_n 1, 1) := by decide +kernel
theorem dJ9_floorMod_7cf53_2 : decode cJ9_floorMod_7cf53 2 = .ok (.irem, 1) := by decide +kernel
theorem dJ9_floorMod_7cf53_3 : decode cJ9_floorMod_7cf53 3 = .ok (.istore_n 2, 1) := by decide +kernel
theorem dJ9_floorMod_7cf53_4 : decode cJ9_floorMod_7cf53 4 = .ok (.iload_n 0, 1) := by decide +kernel
theorem dJ9_floorMod_7cf53_5 : decode cJ9_floorMod_7cf53 5 = .ok (.iload_n 1, 1) := by decide +kernel
theorem dJ9_floorMod_7cf53_6 : decode cJ9_floorMod_7cf53 6 = .ok (.ixor, 1) := by decide +kernel
theorem dJ9_floorMod_7cf53_7 : decode cJ9_floorMod_7cf53 7 = .ok (.ifCond .ge 11, 3) := by decide +kernel
theorem dJ9_floorMod_7cf53_10 : decode cJ9_floorMod_7cf53 10 = .ok (.iload_n 2, 1) := by decide +kernel
theorem dJ9_floorMod_7cf53_11 : decode cJ9_floorMod_7cf53 11 = .ok (.ifCond .eq 7, 3) := by decide +kernel
theorem dJ9_floorMod_7cf53_14 : decode cJ9_floorMod_7cf53 14 = .ok (.iload_n 2, 1) := by decide +kernel
theorem dJ9_floorMod_7cf53_15 : decode cJ9_floorMod_7cf53 15 = .ok (.iload_n 1, 1) := by decide +kernel
theorem dJ9_floorMod_7cf53_16 : decode cJ9_floorMod_7cf53 16 = .ok (.iadd, 1) := by decide +kernel
theorem dJ9_floorMod_7cf53_17 : decode cJ9_floorMod_7cf53 17 = .ok (.ireturn, 1) := by decide +kernel
theorem dJ9_floorMod_7cf53_18 : decode cJ9_floorMod_7cf53 18 = .ok (.iload_n 2, 1) := by decide +kernel
theorem dJ9_floorMod_7cf53_19 : decode cJ9_floorMod_7cf53 19 = .ok (.ireturn, 1) := by decide +kernel
theorem dJ9_abs_0f7a4_0 : decode cJ9_abs_0f7a4 0 = .ok (.iload_n 0, 1) := by decide +kernel
theorem dJ9_abs_0f7a4_1 : decode cJ9_abs_0f7a4 1 = .ok (.ifCond .ge 8, 3) := by decide +kernel
theorem dJ9_abs_0f7a4_4 : decode cJ9_abs_0f7a4 4 = .ok (.iload_n 0, 1) := by decide +kernel
theorem dJ9_abs_0f7a4_5 : decode cJ9_abs_0f7a4 5 = .ok (.ineg, 1) := by decide +kernel
theorem dJ9_abs_0f7a4_6 : decode cJ9_abs_0f7a4 6 = .ok (.goto 4, 3) := by decide +kernel
theorem dJ9_abs_0f7a4_9 : decode cJ9_abs_0f7a4 9 = .ok (.iload_n 0, 1) := by decide +kernel
theorem dJ9_abs_0f7a4_10 : decode cJ9_abs_0f7a4 10 = .ok (.ireturn, 1) := by decide +kernel
theorem dJ9_max_7cf53_0 : decode cJ9_max_7cf53 0 = .ok (.iload_n 0, 1) := by decide +kernel
theorem dJ9_max_7cf53_1 : decode cJ9_max_7cf53 1 = .ok (.iload_n 1, 1) := by decide +kernel
theorem dJ9_max_7cf53_2 : decode cJ9_max_7cf53 2 = .ok (.if_icmp .lt 7, 3) := by decide +kernel
theorem dJ9_max_7cf53_5 : decode cJ9_max_7cf53 5 = .ok (.iload_n 0, 1) := by decide +kernel
theorem dJ9_max_7cf53_6 : decode cJ9_max_7cf53 6 = .ok (.goto 4, 3) := by decide +kernel
theorem dJ9_max_7cf53_9 : decode cJ9_max_7cf53 9 = .ok (.iload_n 1, 1) := by decide +kernel
theorem dJ9_max_7cf53_10 : decode cJ9_max_7cf53 10 = .ok (.ireturn, 1) := by decide +kernel
theorem dJ7_fill_53178_0 : decode cJ7_fill_53178 0 = .ok (.iconst 0, 1) := by decide +kernel
theorem dJ7_fill_53178_1 : decode cJ7_fill_53178 1 = .ok (.istore_n 2, 1) := by decide +kernel
theorem dJ7_fill_53178_2 : decode cJ7_fill_53178 2 = .ok (.aload_n 0, 1) := by decide +kernel
theorem dJ7_fill_53178_3 : decode cJ7_fill_53178 3 = .ok (.arraylength, 1) := by decide +kernel
theorem dJ7_fill_53178_4 : decode cJ7_fill_53178 4 = .ok (.istore_n 3, 1) := by decide +kernel
theorem dJ7_fill_53178_5 : decode cJ7_fill_53178 5 = .ok (.iload_n 2, 1) := by decide +kernel
theorem dJ7_fill_53178_6 : decode cJ7_fill_53178 6 = .ok (.iload_n 3, 1) := by decide +kernel
theorem dJ7_fill_53178_7 : decode cJ7_fill_53178 7 = .ok (.if_icmp .ge 13, 3) := by decide +kernel
theorem dJ7_fill_53178_10 : decode cJ7_fill_53178 10 = .ok (.aload_n 0, 1) := by decide +kernel
theorem dJ7_fill_53178_11 : decode cJ7_fill_53178 11 = .ok (.iload_n 2, 1) := by decide +kernel
theorem dJ7_fill_53178_12 : decode cJ7_fill_53178 12 = .ok (.iload_n 1, 1) := by decide +kernel
theorem dJ7_fill_53178_13 : decode cJ7_fill_53178 13 = .ok (.iastore, 1) := by decide +kernel
theorem dJ7_fill_53178_14 : decode cJ7_fill_53178 14 = .ok (.iinc 2 1, 3) := by decide +kernel
theorem dJ7_fill_53178_17 : decode cJ7_fill_53178 17 = .ok (.goto (-12), 3) := by decide +kernel
theorem dJ7_fill_53178_20 : decode cJ7_fill_53178 20 = .ok (.return_, 1) := by decide +kernel
theorem dL_law_0 : decode cL_law 0 = .ok (.new 7, 3) := by decide +kernel
theorem dL_law_3 : decode cL_law 3 = .ok (.dup, 1) := by decide +kernel
theorem dL_law_4 : decode cL_law 4 = .ok (.invokespecial 9, 3) := by decide +kernel
theorem dL_law_7 : decode cL_law 7 = .ok (.astore_n 1, 1) := by decide +kernel
theorem dL_law_8 : decode cL_law 8 = .ok (.new 10, 3) := by decide +kernel
