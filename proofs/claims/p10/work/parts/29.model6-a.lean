/-! words and decoded instructions -/
set_option maxRecDepth 20000 in
theorem w_f3229c9acf : Cond.code yX4_data cX4_data 5 (some .long) ∈ WW := ww_3 (List.mem_of_getElem? (i := 170) rfl) rfl
set_option maxRecDepth 20000 in
theorem w_aa40dd7f90 : Cond.methodLink RX4 143 yX4_data ∈ WW := ww_3 (List.mem_of_getElem? (i := 167) rfl) rfl
set_option maxRecDepth 20000 in
theorem w_b43c5efc47 : Cond.instanceMethod yX4_data ∈ WW := ww_3 (List.mem_of_getElem? (i := 169) rfl) rfl
set_option maxRecDepth 20000 in
theorem w_987d37b85a : Cond.selects RX4 yX4_data yX4_data ∈ WW := ww_p (List.mem_of_getElem? (i := 31) rfl) rfl
set_option maxRecDepth 20000 in
theorem w_5418fa3b47 : Cond.constantLong RX4 172 4 ∈ WW := ww_3 (List.mem_of_getElem? (i := 144) rfl) rfl
set_option maxRecDepth 20000 in
theorem w_dfe30c16de : Cond.constantLong RX4 158 20 ∈ WW := ww_3 (List.mem_of_getElem? (i := 185) rfl) rfl
set_option maxRecDepth 20000 in
theorem w_7825aad9b6 : Cond.code yX4_beginData cX4_beginData 2 none ∈ WW := ww_3 (List.mem_of_getElem? (i := 180) rfl) rfl
set_option maxRecDepth 20000 in
theorem w_bfbe5a51b4 : Cond.methodLink RX4 150 yX4_beginData ∈ WW := ww_3 (List.mem_of_getElem? (i := 177) rfl) rfl
set_option maxRecDepth 20000 in
theorem w_cd2c971d8c : Cond.instanceMethod yX4_beginData ∈ WW := ww_3 (List.mem_of_getElem? (i := 179) rfl) rfl
set_option maxRecDepth 20000 in
theorem w_ba37063f50 : Cond.selects RX4 yX4_beginData yX4_beginData ∈ WW := ww_p (List.mem_of_getElem? (i := 33) rfl) rfl
set_option maxRecDepth 20000 in
theorem w_93b28c0a11 : Cond.code yX4_nextByte cX4_nextByte 1 (some .long) ∈ WW := ww_3 (List.mem_of_getElem? (i := 184) rfl) rfl
set_option maxRecDepth 20000 in
theorem w_a95c20584f : Cond.methodLink RX4 154 yX4_nextByte ∈ WW := ww_3 (List.mem_of_getElem? (i := 181) rfl) rfl
set_option maxRecDepth 20000 in
theorem w_7f5d544229 : Cond.instanceMethod yX4_nextByte ∈ WW := ww_3 (List.mem_of_getElem? (i := 183) rfl) rfl
set_option maxRecDepth 20000 in
theorem w_2d0be2425c : Cond.selects RX4 yX4_nextByte yX4_nextByte ∈ WW := ww_p (List.mem_of_getElem? (i := 34) rfl) rfl
set_option maxRecDepth 20000 in
theorem w_2d5b7c9aed : Cond.constantLong RX4 164 2 ∈ WW := ww_3 (List.mem_of_getElem? (i := 149) rfl) rfl
set_option maxRecDepth 20000 in
theorem w_91e6d6fa96 : Cond.constantLong RX4 168 3 ∈ WW := ww_3 (List.mem_of_getElem? (i := 189) rfl) rfl
set_option maxRecDepth 20000 in
theorem w_f9a01163de : Cond.constantLong RX4 174 107 ∈ WW := ww_3 (List.mem_of_getElem? (i := 191) rfl) rfl
set_option maxRecDepth 20000 in
theorem w_9bf0c5dfa8 : Cond.constantLong RX4 170 99 ∈ WW := ww_3 (List.mem_of_getElem? (i := 190) rfl) rfl
set_option maxRecDepth 20000 in
theorem w_a242c3d5c8 : Cond.constantLong RX4 166 111 ∈ WW := ww_3 (List.mem_of_getElem? (i := 188) rfl) rfl
set_option maxRecDepth 20000 in
theorem w_12f9603ea7 : Cond.constantLong RX4 162 108 ∈ WW := ww_3 (List.mem_of_getElem? (i := 187) rfl) rfl
set_option maxRecDepth 20000 in
theorem w_ba8c995a55 : Cond.constantLong RX4 160 98 ∈ WW := ww_3 (List.mem_of_getElem? (i := 186) rfl) rfl
set_option maxRecDepth 20000 in
theorem w_aa6924bbef : Cond.code yX4_areSectors cX4_areSectors 5 (some .boolean) ∈ WW := ww_3 (List.mem_of_getElem? (i := 174) rfl) rfl
set_option maxRecDepth 20000 in
theorem w_95112c7325 : Cond.methodLink RX4 147 yX4_areSectors ∈ WW := ww_3 (List.mem_of_getElem? (i := 171) rfl) rfl
set_option maxRecDepth 20000 in
theorem w_6e7c24b732 : Cond.instanceMethod yX4_areSectors ∈ WW := ww_3 (List.mem_of_getElem? (i := 173) rfl) rfl
set_option maxRecDepth 20000 in
theorem w_59c9d152b6 : Cond.selects RX4 yX4_areSectors yX4_areSectors ∈ WW := ww_p (List.mem_of_getElem? (i := 32) rfl) rfl
theorem dX4_request_0 : decode cX4_request 0 = .ok (.aload_n 0, 1) := by decide +kernel
theorem dX4_request_1 : decode cX4_request 1 = .ok (.aload_n 0, 1) := by decide +kernel
theorem dX4_request_2 : decode cX4_request 2 = .ok (.getfield 24, 3) := by decide +kernel
theorem dX4_request_5 : decode cX4_request 5 = .ok (.iconst 0, 1) := by decide +kernel
theorem dX4_request_6 : decode cX4_request 6 = .ok (.laload, 1) := by decide +kernel
theorem dX4_request_7 : decode cX4_request 7 = .ok (.iconst 4, 1) := by decide +kernel
theorem dX4_request_8 : decode cX4_request 8 = .ok (.invokevirtual 66, 3) := by decide +kernel
theorem dX4_request_11 : decode cX4_request 11 = .ok (.lstore_n 1, 1) := by decide +kernel
theorem dX4_request_12 : decode cX4_request 12 = .ok (.aload_n 0, 1) := by decide +kernel
theorem dX4_request_13 : decode cX4_request 13 = .ok (.aload_n 0, 1) := by decide +kernel
theorem dX4_request_14 : decode cX4_request 14 = .ok (.getfield 24, 3) := by decide +kernel
theorem dX4_request_17 : decode cX4_request 17 = .ok (.iconst 0, 1) := by decide +kernel
theorem dX4_request_18 : decode cX4_request 18 = .ok (.laload, 1) := by decide +kernel
theorem dX4_request_19 : decode cX4_request 19 = .ok (.ldc2_w 128, 3) := by decide +kernel
theorem dX4_request_22 : decode cX4_request 22 = .ok (.ladd, 1) := by decide +kernel
theorem dX4_request_23 : decode cX4_request 23 = .ok (.bipush 8, 2) := by decide +kernel
theorem dX4_request_25 : decode cX4_request 25 = .ok (.invokevirtual 66, 3) := by decide +kernel
theorem dX4_request_28 : decode cX4_request 28 = .ok (.lstore_n 3, 1) := by decide +kernel
theorem dX4_request_29 : decode cX4_request 29 = .ok (.aload_n 0, 1) := by decide +kernel
theorem dX4_request_30 : decode cX4_request 30 = .ok (.iconst 1, 1) := by decide +kernel
theorem dX4_request_31 : decode cX4_request 31 = .ok (.invokevirtual 143, 3) := by decide +kernel
theorem dX4_request_34 : decode cX4_request 34 = .ok (.lstore 5, 2) := by decide +kernel
theorem dX4_request_36 : decode cX4_request 36 = .ok (.aload_n 0, 1) := by decide +kernel
theorem dX4_request_37 : decode cX4_request 37 = .ok (.iconst 0, 1) := by decide +kernel
theorem dX4_request_38 : decode cX4_request 38 = .ok (.invokevirtual 143, 3) := by decide +kernel
theorem dX4_request_41 : decode cX4_request 41 = .ok (.lstore 7, 2) := by decide +kernel
theorem dX4_request_43 : decode cX4_request 43 = .ok (.iconst 0, 1) := by decide +kernel
theorem dX4_request_44 : decode cX4_request 44 = .ok (.istore 9, 2) := by decide +kernel
theorem dX4_request_46 : decode cX4_request 46 = .ok (.lconst 0, 1) := by decide +kernel
theorem dX4_request_47 : decode cX4_request 47 = .ok (.lstore 10, 2) := by decide +kernel
theorem dX4_request_49 : decode cX4_request 49 = .ok (.lload_n 1, 1) := by decide +kernel
theorem dX4_request_50 : decode cX4_request 50 = .ok (.lconst 0, 1) := by decide +kernel
theorem dX4_request_51 : decode cX4_request 51 = .ok (.lcmp, 1) := by decide +kernel
theorem dX4_request_52 : decode cX4_request 52 = .ok (.ifCond .ne 87, 3) := by decide +kernel
theorem dX4_request_55 : decode cX4_request 55 = .ok (.aload_n 0, 1) := by decide +kernel
theorem dX4_request_56 : decode cX4_request 56 = .ok (.lload_n 3, 1) := by decide +kernel
theorem dX4_request_57 : decode cX4_request 57 = .ok (.lload 5, 2) := by decide +kernel
theorem dX4_request_59 : decode cX4_request 59 = .ok (.invokevirtual 147, 3) := by decide +kernel
theorem dX4_request_62 : decode cX4_request 62 = .ok (.ifCond .eq 7, 3) := by decide +kernel
theorem dX4_request_65 : decode cX4_request 65 = .ok (.iconst 0, 1) := by decide +kernel
theorem dX4_request_66 : decode cX4_request 66 = .ok (.goto 4, 3) := by decide +kernel
theorem dX4_request_69 : decode cX4_request 69 = .ok (.iconst 1, 1) := by decide +kernel
theorem dX4_request_70 : decode cX4_request 70 = .ok (.istore 9, 2) := by decide +kernel
theorem dX4_request_72 : decode cX4_request 72 = .ok (.iload 9, 2) := by decide +kernel
theorem dX4_request_74 : decode cX4_request 74 = .ok (.ifCond .ne 8, 3) := by decide +kernel
theorem dX4_request_77 : decode cX4_request 77 = .ok (.lload 5, 2) := by decide +kernel
theorem dX4_request_79 : decode cX4_request 79 = .ok (.goto 4, 3) := by decide +kernel
theorem dX4_request_82 : decode cX4_request 82 = .ok (.lconst 0, 1) := by decide +kernel
theorem dX4_request_83 : decode cX4_request 83 = .ok (.lstore 10, 2) := by decide +kernel
theorem dX4_request_85 : decode cX4_request 85 = .ok (.aload_n 0, 1) := by decide +kernel
theorem dX4_request_86 : decode cX4_request 86 = .ok (.iconst 1, 1) := by decide +kernel
theorem dX4_request_87 : decode cX4_request 87 = .ok (.invokevirtual 150, 3) := by decide +kernel
theorem dX4_request_90 : decode cX4_request 90 = .ok (.lconst 0, 1) := by decide +kernel
theorem dX4_request_91 : decode cX4_request 91 = .ok (.lstore 12, 2) := by decide +kernel
theorem dX4_request_93 : decode cX4_request 93 = .ok (.lload 12, 2) := by decide +kernel
theorem dX4_request_95 : decode cX4_request 95 = .ok (.lload 10, 2) := by decide +kernel
theorem dX4_request_97 : decode cX4_request 97 = .ok (.lcmp, 1) := by decide +kernel
theorem dX4_request_98 : decode cX4_request 98 = .ok (.ifCond .ge 38, 3) := by decide +kernel
theorem dX4_request_101 : decode cX4_request 101 = .ok (.aload_n 0, 1) := by decide +kernel
theorem dX4_request_102 : decode cX4_request 102 = .ok (.aload_n 0, 1) := by decide +kernel
theorem dX4_request_103 : decode cX4_request 103 = .ok (.invokevirtual 154, 3) := by decide +kernel
theorem dX4_request_106 : decode cX4_request 106 = .ok (.iconst 1, 1) := by decide +kernel
theorem dX4_request_107 : decode cX4_request 107 = .ok (.aload_n 0, 1) := by decide +kernel
theorem dX4_request_108 : decode cX4_request 108 = .ok (.getfield 14, 3) := by decide +kernel
theorem dX4_request_111 : decode cX4_request 111 = .ok (.ldc2_w 141, 3) := by decide +kernel
theorem dX4_request_114 : decode cX4_request 114 = .ok (.lload_n 3, 1) := by decide +kernel
theorem dX4_request_115 : decode cX4_request 115 = .ok (.lmul, 1) := by decide +kernel
theorem dX4_request_116 : decode cX4_request 116 = .ok (.lload 12, 2) := by decide +kernel
theorem dX4_request_118 : decode cX4_request 118 = .ok (.ladd, 1) := by decide +kernel
theorem dX4_request_119 : decode cX4_request 119 = .ok (.l2i, 1) := by decide +kernel
theorem dX4_request_120 : decode cX4_request 120 = .ok (.invokestatic 50, 3) := by decide +kernel
theorem dX4_request_123 : decode cX4_request 123 = .ok (.i2l, 1) := by decide +kernel
theorem dX4_request_124 : decode cX4_request 124 = .ok (.invokevirtual 70, 3) := by decide +kernel
theorem dX4_request_127 : decode cX4_request 127 = .ok (.lload 12, 2) := by decide +kernel
theorem dX4_request_129 : decode cX4_request 129 = .ok (.lconst 1, 1) := by decide +kernel
theorem dX4_request_130 : decode cX4_request 130 = .ok (.ladd, 1) := by decide +kernel
theorem dX4_request_131 : decode cX4_request 131 = .ok (.lstore 12, 2) := by decide +kernel
theorem dX4_request_133 : decode cX4_request 133 = .ok (.goto (-40), 3) := by decide +kernel
theorem dX4_request_136 : decode cX4_request 136 = .ok (.goto 248, 3) := by decide +kernel
theorem dX4_request_139 : decode cX4_request 139 = .ok (.lload_n 1, 1) := by decide +kernel
theorem dX4_request_140 : decode cX4_request 140 = .ok (.lconst 1, 1) := by decide +kernel
theorem dX4_request_141 : decode cX4_request 141 = .ok (.lcmp, 1) := by decide +kernel
theorem dX4_request_142 : decode cX4_request 142 = .ok (.ifCond .ne 95, 3) := by decide +kernel
theorem dX4_request_145 : decode cX4_request 145 = .ok (.aload_n 0, 1) := by decide +kernel
theorem dX4_request_146 : decode cX4_request 146 = .ok (.lload_n 3, 1) := by decide +kernel
theorem dX4_request_147 : decode cX4_request 147 = .ok (.lload 7, 2) := by decide +kernel
theorem dX4_request_149 : decode cX4_request 149 = .ok (.invokevirtual 147, 3) := by decide +kernel
theorem dX4_request_152 : decode cX4_request 152 = .ok (.ifCond .eq 7, 3) := by decide +kernel
theorem dX4_request_155 : decode cX4_request 155 = .ok (.iconst 0, 1) := by decide +kernel
theorem dX4_request_156 : decode cX4_request 156 = .ok (.goto 4, 3) := by decide +kernel
theorem dX4_request_159 : decode cX4_request 159 = .ok (.iconst 1, 1) := by decide +kernel
theorem dX4_request_160 : decode cX4_request 160 = .ok (.istore 9, 2) := by decide +kernel
theorem dX4_request_162 : decode cX4_request 162 = .ok (.iload 9, 2) := by decide +kernel
theorem dX4_request_164 : decode cX4_request 164 = .ok (.ifCond .ne 220, 3) := by decide +kernel
theorem dX4_request_167 : decode cX4_request 167 = .ok (.aload_n 0, 1) := by decide +kernel
theorem dX4_request_168 : decode cX4_request 168 = .ok (.iconst 0, 1) := by decide +kernel
theorem dX4_request_169 : decode cX4_request 169 = .ok (.invokevirtual 150, 3) := by decide +kernel
theorem dX4_request_172 : decode cX4_request 172 = .ok (.lconst 0, 1) := by decide +kernel
theorem dX4_request_173 : decode cX4_request 173 = .ok (.lstore 12, 2) := by decide +kernel
theorem dX4_request_175 : decode cX4_request 175 = .ok (.lload 12, 2) := by decide +kernel
theorem dX4_request_177 : decode cX4_request 177 = .ok (.lload 7, 2) := by decide +kernel
theorem dX4_request_179 : decode cX4_request 179 = .ok (.lcmp, 1) := by decide +kernel
theorem dX4_request_180 : decode cX4_request 180 = .ok (.ifCond .ge 38, 3) := by decide +kernel
theorem dX4_request_183 : decode cX4_request 183 = .ok (.aload_n 0, 1) := by decide +kernel
theorem dX4_request_184 : decode cX4_request 184 = .ok (.getfield 14, 3) := by decide +kernel
theorem dX4_request_187 : decode cX4_request 187 = .ok (.ldc2_w 141, 3) := by decide +kernel
theorem dX4_request_190 : decode cX4_request 190 = .ok (.lload_n 3, 1) := by decide +kernel
theorem dX4_request_191 : decode cX4_request 191 = .ok (.lmul, 1) := by decide +kernel
theorem dX4_request_192 : decode cX4_request 192 = .ok (.lload 12, 2) := by decide +kernel
theorem dX4_request_194 : decode cX4_request 194 = .ok (.ladd, 1) := by decide +kernel
theorem dX4_request_195 : decode cX4_request 195 = .ok (.l2i, 1) := by decide +kernel
theorem dX4_request_196 : decode cX4_request 196 = .ok (.aload_n 0, 1) := by decide +kernel
theorem dX4_request_197 : decode cX4_request 197 = .ok (.aload_n 0, 1) := by decide +kernel
theorem dX4_request_198 : decode cX4_request 198 = .ok (.invokevirtual 154, 3) := by decide +kernel
theorem dX4_request_201 : decode cX4_request 201 = .ok (.iconst 1, 1) := by decide +kernel
theorem dX4_request_202 : decode cX4_request 202 = .ok (.invokevirtual 66, 3) := by decide +kernel
theorem dX4_request_205 : decode cX4_request 205 = .ok (.l2i, 1) := by decide +kernel
theorem dX4_request_206 : decode cX4_request 206 = .ok (.invokestatic 54, 3) := by decide +kernel
theorem dX4_request_209 : decode cX4_request 209 = .ok (.lload 12, 2) := by decide +kernel
theorem dX4_request_211 : decode cX4_request 211 = .ok (.lconst 1, 1) := by decide +kernel
theorem dX4_request_212 : decode cX4_request 212 = .ok (.ladd, 1) := by decide +kernel
theorem dX4_request_213 : decode cX4_request 213 = .ok (.lstore 12, 2) := by decide +kernel
theorem dX4_request_215 : decode cX4_request 215 = .ok (.goto (-40), 3) := by decide +kernel
theorem dX4_request_218 : decode cX4_request 218 = .ok (.aload_n 0, 1) := by decide +kernel
theorem dX4_request_219 : decode cX4_request 219 = .ok (.dup, 1) := by decide +kernel
theorem dX4_request_220 : decode cX4_request 220 = .ok (.getfield 118, 3) := by decide +kernel
theorem dX4_request_223 : decode cX4_request 223 = .ok (.lload 7, 2) := by decide +kernel
theorem dX4_request_225 : decode cX4_request 225 = .ok (.ldc2_w 141, 3) := by decide +kernel
theorem dX4_request_228 : decode cX4_request 228 = .ok (.ldiv, 1) := by decide +kernel
theorem dX4_request_229 : decode cX4_request 229 = .ok (.l2i, 1) := by decide +kernel
theorem dX4_request_230 : decode cX4_request 230 = .ok (.iadd, 1) := by decide +kernel
theorem dX4_request_231 : decode cX4_request 231 = .ok (.putfield 118, 3) := by decide +kernel
theorem dX4_request_234 : decode cX4_request 234 = .ok (.goto 150, 3) := by decide +kernel
theorem dX4_request_237 : decode cX4_request 237 = .ok (.lload_n 1, 1) := by decide +kernel
theorem dX4_request_238 : decode cX4_request 238 = .ok (.ldc2_w 128, 3) := by decide +kernel
theorem dX4_request_241 : decode cX4_request 241 = .ok (.lcmp, 1) := by decide +kernel
theorem dX4_request_242 : decode cX4_request 242 = .ok (.ifCond .ne 131, 3) := by decide +kernel
theorem dX4_request_245 : decode cX4_request 245 = .ok (.lload 5, 2) := by decide +kernel
theorem dX4_request_247 : decode cX4_request 247 = .ok (.ldc2_w 158, 3) := by decide +kernel
theorem dX4_request_250 : decode cX4_request 250 = .ok (.lcmp, 1) := by decide +kernel
theorem dX4_request_251 : decode cX4_request 251 = .ok (.ifCond .ge 8, 3) := by decide +kernel
theorem dX4_request_254 : decode cX4_request 254 = .ok (.lload 5, 2) := by decide +kernel
theorem dX4_request_256 : decode cX4_request 256 = .ok (.goto 6, 3) := by decide +kernel
theorem dX4_request_259 : decode cX4_request 259 = .ok (.ldc2_w 158, 3) := by decide +kernel
theorem dX4_request_262 : decode cX4_request 262 = .ok (.lstore 10, 2) := by decide +kernel
theorem dX4_request_264 : decode cX4_request 264 = .ok (.aload_n 0, 1) := by decide +kernel
theorem dX4_request_265 : decode cX4_request 265 = .ok (.iconst 1, 1) := by decide +kernel
theorem dX4_request_266 : decode cX4_request 266 = .ok (.invokevirtual 150, 3) := by decide +kernel
theorem dX4_request_269 : decode cX4_request 269 = .ok (.lconst 0, 1) := by decide +kernel
theorem dX4_request_270 : decode cX4_request 270 = .ok (.lstore 12, 2) := by decide +kernel
theorem dX4_request_272 : decode cX4_request 272 = .ok (.lload 12, 2) := by decide +kernel
theorem dX4_request_274 : decode cX4_request 274 = .ok (.lload 10, 2) := by decide +kernel
theorem dX4_request_276 : decode cX4_request 276 = .ok (.lcmp, 1) := by decide +kernel
theorem dX4_request_277 : decode cX4_request 277 = .ok (.ifCond .ge 93, 3) := by decide +kernel
theorem dX4_request_280 : decode cX4_request 280 = .ok (.aload_n 0, 1) := by decide +kernel
theorem dX4_request_281 : decode cX4_request 281 = .ok (.aload_n 0, 1) := by decide +kernel
theorem dX4_request_282 : decode cX4_request 282 = .ok (.invokevirtual 154, 3) := by decide +kernel
theorem dX4_request_285 : decode cX4_request 285 = .ok (.iconst 1, 1) := by decide +kernel
theorem dX4_request_286 : decode cX4_request 286 = .ok (.lload 12, 2) := by decide +kernel
theorem dX4_request_288 : decode cX4_request 288 = .ok (.lconst 0, 1) := by decide +kernel
theorem dX4_request_289 : decode cX4_request 289 = .ok (.lcmp, 1) := by decide +kernel
theorem dX4_request_290 : decode cX4_request 290 = .ok (.ifCond .ne 9, 3) := by decide +kernel
theorem dX4_request_293 : decode cX4_request 293 = .ok (.ldc2_w 160, 3) := by decide +kernel
theorem dX4_request_296 : decode cX4_request 296 = .ok (.goto 62, 3) := by decide +kernel
theorem dX4_request_299 : decode cX4_request 299 = .ok (.lload 12, 2) := by decide +kernel
theorem dX4_request_301 : decode cX4_request 301 = .ok (.lconst 1, 1) := by decide +kernel
theorem dX4_request_302 : decode cX4_request 302 = .ok (.lcmp, 1) := by decide +kernel
theorem dX4_request_303 : decode cX4_request 303 = .ok (.ifCond .ne 9, 3) := by decide +kernel
theorem dX4_request_306 : decode cX4_request 306 = .ok (.ldc2_w 162, 3) := by decide +kernel
theorem dX4_request_309 : decode cX4_request 309 = .ok (.goto 49, 3) := by decide +kernel
theorem dX4_request_312 : decode cX4_request 312 = .ok (.lload 12, 2) := by decide +kernel
theorem dX4_request_314 : decode cX4_request 314 = .ok (.ldc2_w 164, 3) := by decide +kernel
theorem dX4_request_317 : decode cX4_request 317 = .ok (.lcmp, 1) := by decide +kernel
theorem dX4_request_318 : decode cX4_request 318 = .ok (.ifCond .ne 9, 3) := by decide +kernel
theorem dX4_request_321 : decode cX4_request 321 = .ok (.ldc2_w 166, 3) := by decide +kernel
theorem dX4_request_324 : decode cX4_request 324 = .ok (.goto 34, 3) := by decide +kernel
theorem dX4_request_327 : decode cX4_request 327 = .ok (.lload 12, 2) := by decide +kernel
theorem dX4_request_329 : decode cX4_request 329 = .ok (.ldc2_w 168, 3) := by decide +kernel
theorem dX4_request_332 : decode cX4_request 332 = .ok (.lcmp, 1) := by decide +kernel
theorem dX4_request_333 : decode cX4_request 333 = .ok (.ifCond .ne 9, 3) := by decide +kernel
theorem dX4_request_336 : decode cX4_request 336 = .ok (.ldc2_w 170, 3) := by decide +kernel
theorem dX4_request_339 : decode cX4_request 339 = .ok (.goto 19, 3) := by decide +kernel
theorem dX4_request_342 : decode cX4_request 342 = .ok (.lload 12, 2) := by decide +kernel
theorem dX4_request_344 : decode cX4_request 344 = .ok (.ldc2_w 172, 3) := by decide +kernel
theorem dX4_request_347 : decode cX4_request 347 = .ok (.lcmp, 1) := by decide +kernel
theorem dX4_request_348 : decode cX4_request 348 = .ok (.ifCond .ne 9, 3) := by decide +kernel
theorem dX4_request_351 : decode cX4_request 351 = .ok (.ldc2_w 174, 3) := by decide +kernel
theorem dX4_request_354 : decode cX4_request 354 = .ok (.goto 4, 3) := by decide +kernel
theorem dX4_request_357 : decode cX4_request 357 = .ok (.lconst 0, 1) := by decide +kernel
theorem dX4_request_358 : decode cX4_request 358 = .ok (.invokevirtual 70, 3) := by decide +kernel
theorem dX4_request_361 : decode cX4_request 361 = .ok (.lload 12, 2) := by decide +kernel
theorem dX4_request_363 : decode cX4_request 363 = .ok (.lconst 1, 1) := by decide +kernel
theorem dX4_request_364 : decode cX4_request 364 = .ok (.ladd, 1) := by decide +kernel
theorem dX4_request_365 : decode cX4_request 365 = .ok (.lstore 12, 2) := by decide +kernel
theorem dX4_request_367 : decode cX4_request 367 = .ok (.goto (-95), 3) := by decide +kernel
theorem dX4_request_370 : decode cX4_request 370 = .ok (.goto 14, 3) := by decide +kernel
theorem dX4_request_373 : decode cX4_request 373 = .ok (.lload_n 1, 1) := by decide +kernel
theorem dX4_request_374 : decode cX4_request 374 = .ok (.ldc2_w 172, 3) := by decide +kernel
theorem dX4_request_377 : decode cX4_request 377 = .ok (.lcmp, 1) := by decide +kernel
theorem dX4_request_378 : decode cX4_request 378 = .ok (.ifCond .eq 6, 3) := by decide +kernel
theorem dX4_request_381 : decode cX4_request 381 = .ok (.iconst 2, 1) := by decide +kernel
theorem dX4_request_382 : decode cX4_request 382 = .ok (.istore 9, 2) := by decide +kernel
theorem dX4_request_384 : decode cX4_request 384 = .ok (.aload_n 0, 1) := by decide +kernel
theorem dX4_request_385 : decode cX4_request 385 = .ok (.aload_n 0, 1) := by decide +kernel
theorem dX4_request_386 : decode cX4_request 386 = .ok (.getfield 24, 3) := by decide +kernel
theorem dX4_request_389 : decode cX4_request 389 = .ok (.aload_n 0, 1) := by decide +kernel
theorem dX4_request_390 : decode cX4_request 390 = .ok (.getfield 121, 3) := by decide +kernel
theorem dX4_request_393 : decode cX4_request 393 = .ok (.iconst 1, 1) := by decide +kernel
theorem dX4_request_394 : decode cX4_request 394 = .ok (.isub, 1) := by decide +kernel
theorem dX4_request_395 : decode cX4_request 395 = .ok (.laload, 1) := by decide +kernel
theorem dX4_request_396 : decode cX4_request 396 = .ok (.aload_n 0, 1) := by decide +kernel
theorem dX4_request_397 : decode cX4_request 397 = .ok (.getfield 27, 3) := by decide +kernel
theorem dX4_request_400 : decode cX4_request 400 = .ok (.aload_n 0, 1) := by decide +kernel
theorem dX4_request_401 : decode cX4_request 401 = .ok (.getfield 121, 3) := by decide +kernel
theorem dX4_request_404 : decode cX4_request 404 = .ok (.iconst 1, 1) := by decide +kernel
theorem dX4_request_405 : decode cX4_request 405 = .ok (.isub, 1) := by decide +kernel
theorem dX4_request_406 : decode cX4_request 406 = .ok (.laload, 1) := by decide +kernel
theorem dX4_request_407 : decode cX4_request 407 = .ok (.ladd, 1) := by decide +kernel
theorem dX4_request_408 : decode cX4_request 408 = .ok (.lconst 1, 1) := by decide +kernel
theorem dX4_request_409 : decode cX4_request 409 = .ok (.lsub, 1) := by decide +kernel
theorem dX4_request_410 : decode cX4_request 410 = .ok (.iconst 1, 1) := by decide +kernel
theorem dX4_request_411 : decode cX4_request 411 = .ok (.iload 9, 2) := by decide +kernel
theorem dX4_request_413 : decode cX4_request 413 = .ok (.i2l, 1) := by decide +kernel
theorem dX4_request_414 : decode cX4_request 414 = .ok (.invokevirtual 70, 3) := by decide +kernel
theorem dX4_request_417 : decode cX4_request 417 = .ok (.lload 10, 2) := by decide +kernel
theorem dX4_request_419 : decode cX4_request 419 = .ok (.lconst 1, 1) := by decide +kernel
theorem dX4_request_420 : decode cX4_request 420 = .ok (.ladd, 1) := by decide +kernel
theorem dX4_request_421 : decode cX4_request 421 = .ok (.lreturn, 1) := by decide +kernel
