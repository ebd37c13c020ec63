/-! words and decoded instructions -/
set_option maxRecDepth 20000 in
theorem w_e95e0ccdaf : Cond.constantLong RX4 124 16 ∈ WW := ww_3 (List.mem_of_getElem? (i := 160) rfl) rfl
set_option maxRecDepth 20000 in
theorem w_d146e80881 : Cond.constantLong RX4 126 12 ∈ WW := ww_3 (List.mem_of_getElem? (i := 161) rfl) rfl
set_option maxRecDepth 20000 in
theorem w_155b6b2939 : Cond.constantLong RX4 128 8 ∈ WW := ww_3 (List.mem_of_getElem? (i := 155) rfl) rfl
set_option maxRecDepth 20000 in
theorem w_aa6d76f0d0 : Cond.constantLong RX4 130 14 ∈ WW := ww_3 (List.mem_of_getElem? (i := 162) rfl) rfl
theorem dX4_gather_0 : decode cX4_gather 0 = .ok (.aload_n 0, 1) := by decide +kernel
theorem dX4_gather_1 : decode cX4_gather 1 = .ok (.iconst 0, 1) := by decide +kernel
theorem dX4_gather_2 : decode cX4_gather 2 = .ok (.putfield 121, 3) := by decide +kernel
theorem dX4_gather_5 : decode cX4_gather 5 = .ok (.iload_n 1, 1) := by decide +kernel
theorem dX4_gather_6 : decode cX4_gather 6 = .ok (.istore_n 2, 1) := by decide +kernel
theorem dX4_gather_7 : decode cX4_gather 7 = .ok (.iconst 1, 1) := by decide +kernel
theorem dX4_gather_8 : decode cX4_gather 8 = .ok (.istore_n 3, 1) := by decide +kernel
theorem dX4_gather_9 : decode cX4_gather 9 = .ok (.iload_n 3, 1) := by decide +kernel
theorem dX4_gather_10 : decode cX4_gather 10 = .ok (.ifCond .eq 239, 3) := by decide +kernel
theorem dX4_gather_13 : decode cX4_gather 13 = .ok (.aload_n 0, 1) := by decide +kernel
theorem dX4_gather_14 : decode cX4_gather 14 = .ok (.getfield 21, 3) := by decide +kernel
theorem dX4_gather_17 : decode cX4_gather 17 = .ok (.iconst 0, 1) := by decide +kernel
theorem dX4_gather_18 : decode cX4_gather 18 = .ok (.laload, 1) := by decide +kernel
theorem dX4_gather_19 : decode cX4_gather 19 = .ok (.ldc2_w 124, 3) := by decide +kernel
theorem dX4_gather_22 : decode cX4_gather 22 = .ok (.iload_n 2, 1) := by decide +kernel
theorem dX4_gather_23 : decode cX4_gather 23 = .ok (.i2l, 1) := by decide +kernel
theorem dX4_gather_24 : decode cX4_gather 24 = .ok (.lmul, 1) := by decide +kernel
theorem dX4_gather_25 : decode cX4_gather 25 = .ok (.ladd, 1) := by decide +kernel
theorem dX4_gather_26 : decode cX4_gather 26 = .ok (.lstore 4, 2) := by decide +kernel
theorem dX4_gather_28 : decode cX4_gather 28 = .ok (.iload_n 2, 1) := by decide +kernel
theorem dX4_gather_29 : decode cX4_gather 29 = .ok (.aload_n 0, 1) := by decide +kernel
theorem dX4_gather_30 : decode cX4_gather 30 = .ok (.getfield 17, 3) := by decide +kernel
theorem dX4_gather_33 : decode cX4_gather 33 = .ok (.if_icmp .ge 25, 3) := by decide +kernel
theorem dX4_gather_36 : decode cX4_gather 36 = .ok (.aload_n 0, 1) := by decide +kernel
theorem dX4_gather_37 : decode cX4_gather 37 = .ok (.getfield 121, 3) := by decide +kernel
theorem dX4_gather_40 : decode cX4_gather 40 = .ok (.aload_n 0, 1) := by decide +kernel
theorem dX4_gather_41 : decode cX4_gather 41 = .ok (.getfield 17, 3) := by decide +kernel
theorem dX4_gather_44 : decode cX4_gather 44 = .ok (.if_icmp .eq 14, 3) := by decide +kernel
theorem dX4_gather_47 : decode cX4_gather 47 = .ok (.lload 4, 2) := by decide +kernel
theorem dX4_gather_49 : decode cX4_gather 49 = .ok (.ldc2_w 124, 3) := by decide +kernel
theorem dX4_gather_52 : decode cX4_gather 52 = .ok (.invokestatic 62, 3) := by decide +kernel
theorem dX4_gather_55 : decode cX4_gather 55 = .ok (.ifCond .ne 5, 3) := by decide +kernel
theorem dX4_gather_58 : decode cX4_gather 58 = .ok (.iconst 0, 1) := by decide +kernel
theorem dX4_gather_59 : decode cX4_gather 59 = .ok (.ireturn, 1) := by decide +kernel
theorem dX4_gather_60 : decode cX4_gather 60 = .ok (.aload_n 0, 1) := by decide +kernel
theorem dX4_gather_61 : decode cX4_gather 61 = .ok (.lload 4, 2) := by decide +kernel
theorem dX4_gather_63 : decode cX4_gather 63 = .ok (.ldc2_w 126, 3) := by decide +kernel
theorem dX4_gather_66 : decode cX4_gather 66 = .ok (.ladd, 1) := by decide +kernel
theorem dX4_gather_67 : decode cX4_gather 67 = .ok (.iconst 2, 1) := by decide +kernel
theorem dX4_gather_68 : decode cX4_gather 68 = .ok (.invokevirtual 66, 3) := by decide +kernel
theorem dX4_gather_71 : decode cX4_gather 71 = .ok (.l2i, 1) := by decide +kernel
theorem dX4_gather_72 : decode cX4_gather 72 = .ok (.istore 6, 2) := by decide +kernel
theorem dX4_gather_74 : decode cX4_gather 74 = .ok (.aload_n 0, 1) := by decide +kernel
theorem dX4_gather_75 : decode cX4_gather 75 = .ok (.getfield 24, 3) := by decide +kernel
theorem dX4_gather_78 : decode cX4_gather 78 = .ok (.aload_n 0, 1) := by decide +kernel
theorem dX4_gather_79 : decode cX4_gather 79 = .ok (.getfield 121, 3) := by decide +kernel
theorem dX4_gather_82 : decode cX4_gather 82 = .ok (.aload_n 0, 1) := by decide +kernel
theorem dX4_gather_83 : decode cX4_gather 83 = .ok (.lload 4, 2) := by decide +kernel
theorem dX4_gather_85 : decode cX4_gather 85 = .ok (.bipush 8, 2) := by decide +kernel
theorem dX4_gather_87 : decode cX4_gather 87 = .ok (.invokevirtual 66, 3) := by decide +kernel
theorem dX4_gather_90 : decode cX4_gather 90 = .ok (.lastore, 1) := by decide +kernel
theorem dX4_gather_91 : decode cX4_gather 91 = .ok (.aload_n 0, 1) := by decide +kernel
theorem dX4_gather_92 : decode cX4_gather 92 = .ok (.getfield 27, 3) := by decide +kernel
theorem dX4_gather_95 : decode cX4_gather 95 = .ok (.aload_n 0, 1) := by decide +kernel
theorem dX4_gather_96 : decode cX4_gather 96 = .ok (.getfield 121, 3) := by decide +kernel
theorem dX4_gather_99 : decode cX4_gather 99 = .ok (.aload_n 0, 1) := by decide +kernel
theorem dX4_gather_100 : decode cX4_gather 100 = .ok (.lload 4, 2) := by decide +kernel
theorem dX4_gather_102 : decode cX4_gather 102 = .ok (.ldc2_w 128, 3) := by decide +kernel
theorem dX4_gather_105 : decode cX4_gather 105 = .ok (.ladd, 1) := by decide +kernel
theorem dX4_gather_106 : decode cX4_gather 106 = .ok (.iconst 4, 1) := by decide +kernel
theorem dX4_gather_107 : decode cX4_gather 107 = .ok (.invokevirtual 66, 3) := by decide +kernel
theorem dX4_gather_110 : decode cX4_gather 110 = .ok (.lastore, 1) := by decide +kernel
theorem dX4_gather_111 : decode cX4_gather 111 = .ok (.aload_n 0, 1) := by decide +kernel
theorem dX4_gather_112 : decode cX4_gather 112 = .ok (.getfield 30, 3) := by decide +kernel
theorem dX4_gather_115 : decode cX4_gather 115 = .ok (.aload_n 0, 1) := by decide +kernel
theorem dX4_gather_116 : decode cX4_gather 116 = .ok (.getfield 121, 3) := by decide +kernel
theorem dX4_gather_119 : decode cX4_gather 119 = .ok (.iload 6, 2) := by decide +kernel
theorem dX4_gather_121 : decode cX4_gather 121 = .ok (.iconst 2, 1) := by decide +kernel
theorem dX4_gather_122 : decode cX4_gather 122 = .ok (.iand, 1) := by decide +kernel
theorem dX4_gather_123 : decode cX4_gather 123 = .ok (.ifCond .eq 7, 3) := by decide +kernel
theorem dX4_gather_126 : decode cX4_gather 126 = .ok (.iconst 1, 1) := by decide +kernel
theorem dX4_gather_127 : decode cX4_gather 127 = .ok (.goto 4, 3) := by decide +kernel
theorem dX4_gather_130 : decode cX4_gather 130 = .ok (.iconst 0, 1) := by decide +kernel
theorem dX4_gather_131 : decode cX4_gather 131 = .ok (.bastore, 1) := by decide +kernel
theorem dX4_gather_132 : decode cX4_gather 132 = .ok (.aload_n 0, 1) := by decide +kernel
theorem dX4_gather_133 : decode cX4_gather 133 = .ok (.getfield 121, 3) := by decide +kernel
theorem dX4_gather_136 : decode cX4_gather 136 = .ok (.ifCond .le 33, 3) := by decide +kernel
theorem dX4_gather_139 : decode cX4_gather 139 = .ok (.aload_n 0, 1) := by decide +kernel
theorem dX4_gather_140 : decode cX4_gather 140 = .ok (.getfield 30, 3) := by decide +kernel
theorem dX4_gather_143 : decode cX4_gather 143 = .ok (.aload_n 0, 1) := by decide +kernel
theorem dX4_gather_144 : decode cX4_gather 144 = .ok (.getfield 121, 3) := by decide +kernel
theorem dX4_gather_147 : decode cX4_gather 147 = .ok (.iconst 1, 1) := by decide +kernel
theorem dX4_gather_148 : decode cX4_gather 148 = .ok (.isub, 1) := by decide +kernel
theorem dX4_gather_149 : decode cX4_gather 149 = .ok (.baload, 1) := by decide +kernel
theorem dX4_gather_150 : decode cX4_gather 150 = .ok (.ifCond .eq 19, 3) := by decide +kernel
theorem dX4_gather_153 : decode cX4_gather 153 = .ok (.aload_n 0, 1) := by decide +kernel
theorem dX4_gather_154 : decode cX4_gather 154 = .ok (.getfield 30, 3) := by decide +kernel
theorem dX4_gather_157 : decode cX4_gather 157 = .ok (.aload_n 0, 1) := by decide +kernel
theorem dX4_gather_158 : decode cX4_gather 158 = .ok (.getfield 121, 3) := by decide +kernel
theorem dX4_gather_161 : decode cX4_gather 161 = .ok (.baload, 1) := by decide +kernel
theorem dX4_gather_162 : decode cX4_gather 162 = .ok (.ifCond .ne 7, 3) := by decide +kernel
theorem dX4_gather_165 : decode cX4_gather 165 = .ok (.iconst 1, 1) := by decide +kernel
theorem dX4_gather_166 : decode cX4_gather 166 = .ok (.goto 4, 3) := by decide +kernel
theorem dX4_gather_169 : decode cX4_gather 169 = .ok (.iconst 0, 1) := by decide +kernel
theorem dX4_gather_170 : decode cX4_gather 170 = .ok (.istore 7, 2) := by decide +kernel
theorem dX4_gather_172 : decode cX4_gather 172 = .ok (.iload 6, 2) := by decide +kernel
theorem dX4_gather_174 : decode cX4_gather 174 = .ok (.iconst 4, 1) := by decide +kernel
theorem dX4_gather_175 : decode cX4_gather 175 = .ok (.iand, 1) := by decide +kernel
theorem dX4_gather_176 : decode cX4_gather 176 = .ok (.ifCond .ne 32, 3) := by decide +kernel
theorem dX4_gather_179 : decode cX4_gather 179 = .ok (.iload 7, 2) := by decide +kernel
theorem dX4_gather_181 : decode cX4_gather 181 = .ok (.ifCond .ne 27, 3) := by decide +kernel
theorem dX4_gather_184 : decode cX4_gather 184 = .ok (.aload_n 0, 1) := by decide +kernel
theorem dX4_gather_185 : decode cX4_gather 185 = .ok (.getfield 24, 3) := by decide +kernel
theorem dX4_gather_188 : decode cX4_gather 188 = .ok (.aload_n 0, 1) := by decide +kernel
theorem dX4_gather_189 : decode cX4_gather 189 = .ok (.getfield 121, 3) := by decide +kernel
theorem dX4_gather_192 : decode cX4_gather 192 = .ok (.laload, 1) := by decide +kernel
theorem dX4_gather_193 : decode cX4_gather 193 = .ok (.aload_n 0, 1) := by decide +kernel
theorem dX4_gather_194 : decode cX4_gather 194 = .ok (.getfield 27, 3) := by decide +kernel
theorem dX4_gather_197 : decode cX4_gather 197 = .ok (.aload_n 0, 1) := by decide +kernel
theorem dX4_gather_198 : decode cX4_gather 198 = .ok (.getfield 121, 3) := by decide +kernel
theorem dX4_gather_201 : decode cX4_gather 201 = .ok (.laload, 1) := by decide +kernel
theorem dX4_gather_202 : decode cX4_gather 202 = .ok (.invokestatic 62, 3) := by decide +kernel
theorem dX4_gather_205 : decode cX4_gather 205 = .ok (.ifCond .ne 5, 3) := by decide +kernel
theorem dX4_gather_208 : decode cX4_gather 208 = .ok (.iconst 0, 1) := by decide +kernel
theorem dX4_gather_209 : decode cX4_gather 209 = .ok (.ireturn, 1) := by decide +kernel
theorem dX4_gather_210 : decode cX4_gather 210 = .ok (.iload 6, 2) := by decide +kernel
theorem dX4_gather_212 : decode cX4_gather 212 = .ok (.iconst 1, 1) := by decide +kernel
theorem dX4_gather_213 : decode cX4_gather 213 = .ok (.iand, 1) := by decide +kernel
theorem dX4_gather_214 : decode cX4_gather 214 = .ok (.ifCond .eq 7, 3) := by decide +kernel
theorem dX4_gather_217 : decode cX4_gather 217 = .ok (.iconst 1, 1) := by decide +kernel
theorem dX4_gather_218 : decode cX4_gather 218 = .ok (.goto 4, 3) := by decide +kernel
theorem dX4_gather_221 : decode cX4_gather 221 = .ok (.iconst 0, 1) := by decide +kernel
theorem dX4_gather_222 : decode cX4_gather 222 = .ok (.istore_n 3, 1) := by decide +kernel
theorem dX4_gather_223 : decode cX4_gather 223 = .ok (.aload_n 0, 1) := by decide +kernel
theorem dX4_gather_224 : decode cX4_gather 224 = .ok (.lload 4, 2) := by decide +kernel
theorem dX4_gather_226 : decode cX4_gather 226 = .ok (.ldc2_w 130, 3) := by decide +kernel
theorem dX4_gather_229 : decode cX4_gather 229 = .ok (.ladd, 1) := by decide +kernel
theorem dX4_gather_230 : decode cX4_gather 230 = .ok (.iconst 2, 1) := by decide +kernel
theorem dX4_gather_231 : decode cX4_gather 231 = .ok (.invokevirtual 66, 3) := by decide +kernel
theorem dX4_gather_234 : decode cX4_gather 234 = .ok (.l2i, 1) := by decide +kernel
theorem dX4_gather_235 : decode cX4_gather 235 = .ok (.istore_n 2, 1) := by decide +kernel
theorem dX4_gather_236 : decode cX4_gather 236 = .ok (.aload_n 0, 1) := by decide +kernel
theorem dX4_gather_237 : decode cX4_gather 237 = .ok (.dup, 1) := by decide +kernel
theorem dX4_gather_238 : decode cX4_gather 238 = .ok (.getfield 121, 3) := by decide +kernel
theorem dX4_gather_241 : decode cX4_gather 241 = .ok (.iconst 1, 1) := by decide +kernel
theorem dX4_gather_242 : decode cX4_gather 242 = .ok (.iadd, 1) := by decide +kernel
theorem dX4_gather_243 : decode cX4_gather 243 = .ok (.putfield 121, 3) := by decide +kernel
theorem dX4_gather_246 : decode cX4_gather 246 = .ok (.goto (-237), 3) := by decide +kernel
theorem dX4_gather_249 : decode cX4_gather 249 = .ok (.aload_n 0, 1) := by decide +kernel
theorem dX4_gather_250 : decode cX4_gather 250 = .ok (.getfield 30, 3) := by decide +kernel
theorem dX4_gather_253 : decode cX4_gather 253 = .ok (.iconst 0, 1) := by decide +kernel
theorem dX4_gather_254 : decode cX4_gather 254 = .ok (.baload, 1) := by decide +kernel
theorem dX4_gather_255 : decode cX4_gather 255 = .ok (.ifCond .ne 50, 3) := by decide +kernel
theorem dX4_gather_258 : decode cX4_gather 258 = .ok (.aload_n 0, 1) := by decide +kernel
theorem dX4_gather_259 : decode cX4_gather 259 = .ok (.getfield 27, 3) := by decide +kernel
theorem dX4_gather_262 : decode cX4_gather 262 = .ok (.iconst 0, 1) := by decide +kernel
theorem dX4_gather_263 : decode cX4_gather 263 = .ok (.laload, 1) := by decide +kernel
theorem dX4_gather_264 : decode cX4_gather 264 = .ok (.ldc2_w 124, 3) := by decide +kernel
theorem dX4_gather_267 : decode cX4_gather 267 = .ok (.lcmp, 1) := by decide +kernel
theorem dX4_gather_268 : decode cX4_gather 268 = .ok (.ifCond .lt 37, 3) := by decide +kernel
theorem dX4_gather_271 : decode cX4_gather 271 = .ok (.aload_n 0, 1) := by decide +kernel
theorem dX4_gather_272 : decode cX4_gather 272 = .ok (.getfield 30, 3) := by decide +kernel
theorem dX4_gather_275 : decode cX4_gather 275 = .ok (.aload_n 0, 1) := by decide +kernel
theorem dX4_gather_276 : decode cX4_gather 276 = .ok (.getfield 121, 3) := by decide +kernel
theorem dX4_gather_279 : decode cX4_gather 279 = .ok (.iconst 1, 1) := by decide +kernel
theorem dX4_gather_280 : decode cX4_gather 280 = .ok (.isub, 1) := by decide +kernel
theorem dX4_gather_281 : decode cX4_gather 281 = .ok (.baload, 1) := by decide +kernel
theorem dX4_gather_282 : decode cX4_gather 282 = .ok (.ifCond .eq 23, 3) := by decide +kernel
theorem dX4_gather_285 : decode cX4_gather 285 = .ok (.aload_n 0, 1) := by decide +kernel
theorem dX4_gather_286 : decode cX4_gather 286 = .ok (.getfield 27, 3) := by decide +kernel
theorem dX4_gather_289 : decode cX4_gather 289 = .ok (.aload_n 0, 1) := by decide +kernel
theorem dX4_gather_290 : decode cX4_gather 290 = .ok (.getfield 121, 3) := by decide +kernel
theorem dX4_gather_293 : decode cX4_gather 293 = .ok (.iconst 1, 1) := by decide +kernel
theorem dX4_gather_294 : decode cX4_gather 294 = .ok (.isub, 1) := by decide +kernel
theorem dX4_gather_295 : decode cX4_gather 295 = .ok (.laload, 1) := by decide +kernel
theorem dX4_gather_296 : decode cX4_gather 296 = .ok (.lconst 0, 1) := by decide +kernel
theorem dX4_gather_297 : decode cX4_gather 297 = .ok (.lcmp, 1) := by decide +kernel
theorem dX4_gather_298 : decode cX4_gather 298 = .ok (.ifCond .le 7, 3) := by decide +kernel
theorem dX4_gather_301 : decode cX4_gather 301 = .ok (.iconst 1, 1) := by decide +kernel
theorem dX4_gather_302 : decode cX4_gather 302 = .ok (.goto 4, 3) := by decide +kernel
theorem dX4_gather_305 : decode cX4_gather 305 = .ok (.iconst 0, 1) := by decide +kernel
theorem dX4_gather_306 : decode cX4_gather 306 = .ok (.ireturn, 1) := by decide +kernel
