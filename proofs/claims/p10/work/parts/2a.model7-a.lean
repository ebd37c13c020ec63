/-! words and decoded instructions -/
set_option maxRecDepth 20000 in
theorem w_3d872f4f7f : Cond.code yX4_gather cX4_gather 8 (some .boolean) ∈ WW := ww_3 (List.mem_of_getElem? (i := 159) rfl) rfl
set_option maxRecDepth 20000 in
theorem w_1e799b52c9 : Cond.methodLink RX4 184 yX4_gather ∈ WW := ww_3 (List.mem_of_getElem? (i := 156) rfl) rfl
set_option maxRecDepth 20000 in
theorem w_4a94d61530 : Cond.instanceMethod yX4_gather ∈ WW := ww_3 (List.mem_of_getElem? (i := 158) rfl) rfl
set_option maxRecDepth 20000 in
theorem w_4f9cbda9ee : Cond.selects RX4 yX4_gather yX4_gather ∈ WW := ww_p (List.mem_of_getElem? (i := 29) rfl) rfl
set_option maxRecDepth 20000 in
theorem w_58b05d6c1b : Cond.code yX4_request cX4_request 14 (some .long) ∈ WW := ww_3 (List.mem_of_getElem? (i := 166) rfl) rfl
set_option maxRecDepth 20000 in
theorem w_8c64a3e350 : Cond.methodLink RX4 187 yX4_request ∈ WW := ww_3 (List.mem_of_getElem? (i := 163) rfl) rfl
set_option maxRecDepth 20000 in
theorem w_1801ace10e : Cond.instanceMethod yX4_request ∈ WW := ww_3 (List.mem_of_getElem? (i := 165) rfl) rfl
set_option maxRecDepth 20000 in
theorem w_ef39222036 : Cond.selects RX4 yX4_request yX4_request ∈ WW := ww_p (List.mem_of_getElem? (i := 30) rfl) rfl
set_option maxRecDepth 20000 in
theorem w_06ee264826 : Cond.constant RX4 190 65536 ∈ WW := ww_3 (List.mem_of_getElem? (i := 192) rfl) rfl
theorem dX4_oneMore_0 : decode cX4_oneMore 0 = .ok (.aload_n 0, 1) := by decide +kernel
theorem dX4_oneMore_1 : decode cX4_oneMore 1 = .ok (.getfield 21, 3) := by decide +kernel
theorem dX4_oneMore_4 : decode cX4_oneMore 4 = .ok (.iconst 1, 1) := by decide +kernel
theorem dX4_oneMore_5 : decode cX4_oneMore 5 = .ok (.laload, 1) := by decide +kernel
theorem dX4_oneMore_6 : decode cX4_oneMore 6 = .ok (.ldc2_w 172, 3) := by decide +kernel
theorem dX4_oneMore_9 : decode cX4_oneMore 9 = .ok (.ladd, 1) := by decide +kernel
theorem dX4_oneMore_10 : decode cX4_oneMore 10 = .ok (.ldc2_w 164, 3) := by decide +kernel
theorem dX4_oneMore_13 : decode cX4_oneMore 13 = .ok (.aload_n 0, 1) := by decide +kernel
theorem dX4_oneMore_14 : decode cX4_oneMore 14 = .ok (.getfield 97, 3) := by decide +kernel
theorem dX4_oneMore_17 : decode cX4_oneMore 17 = .ok (.aload_n 0, 1) := by decide +kernel
theorem dX4_oneMore_18 : decode cX4_oneMore 18 = .ok (.getfield 17, 3) := by decide +kernel
theorem dX4_oneMore_21 : decode cX4_oneMore 21 = .ok (.irem, 1) := by decide +kernel
theorem dX4_oneMore_22 : decode cX4_oneMore 22 = .ok (.i2l, 1) := by decide +kernel
theorem dX4_oneMore_23 : decode cX4_oneMore 23 = .ok (.lmul, 1) := by decide +kernel
theorem dX4_oneMore_24 : decode cX4_oneMore 24 = .ok (.ladd, 1) := by decide +kernel
theorem dX4_oneMore_25 : decode cX4_oneMore 25 = .ok (.lstore_n 1, 1) := by decide +kernel
theorem dX4_oneMore_26 : decode cX4_oneMore 26 = .ok (.lload_n 1, 1) := by decide +kernel
theorem dX4_oneMore_27 : decode cX4_oneMore 27 = .ok (.ldc2_w 164, 3) := by decide +kernel
theorem dX4_oneMore_30 : decode cX4_oneMore 30 = .ok (.invokestatic 62, 3) := by decide +kernel
theorem dX4_oneMore_33 : decode cX4_oneMore 33 = .ok (.ifCond .ne 5, 3) := by decide +kernel
theorem dX4_oneMore_36 : decode cX4_oneMore 36 = .ok (.iconst 0, 1) := by decide +kernel
theorem dX4_oneMore_37 : decode cX4_oneMore 37 = .ok (.ireturn, 1) := by decide +kernel
theorem dX4_oneMore_38 : decode cX4_oneMore 38 = .ok (.aload_n 0, 1) := by decide +kernel
theorem dX4_oneMore_39 : decode cX4_oneMore 39 = .ok (.lload_n 1, 1) := by decide +kernel
theorem dX4_oneMore_40 : decode cX4_oneMore 40 = .ok (.iconst 2, 1) := by decide +kernel
theorem dX4_oneMore_41 : decode cX4_oneMore 41 = .ok (.invokevirtual 66, 3) := by decide +kernel
theorem dX4_oneMore_44 : decode cX4_oneMore 44 = .ok (.l2i, 1) := by decide +kernel
theorem dX4_oneMore_45 : decode cX4_oneMore 45 = .ok (.istore_n 3, 1) := by decide +kernel
theorem dX4_oneMore_46 : decode cX4_oneMore 46 = .ok (.aload_n 0, 1) := by decide +kernel
theorem dX4_oneMore_47 : decode cX4_oneMore 47 = .ok (.getfield 21, 3) := by decide +kernel
theorem dX4_oneMore_50 : decode cX4_oneMore 50 = .ok (.iconst 2, 1) := by decide +kernel
theorem dX4_oneMore_51 : decode cX4_oneMore 51 = .ok (.laload, 1) := by decide +kernel
theorem dX4_oneMore_52 : decode cX4_oneMore 52 = .ok (.ldc2_w 172, 3) := by decide +kernel
theorem dX4_oneMore_55 : decode cX4_oneMore 55 = .ok (.ladd, 1) := by decide +kernel
theorem dX4_oneMore_56 : decode cX4_oneMore 56 = .ok (.ldc2_w 128, 3) := by decide +kernel
theorem dX4_oneMore_59 : decode cX4_oneMore 59 = .ok (.aload_n 0, 1) := by decide +kernel
theorem dX4_oneMore_60 : decode cX4_oneMore 60 = .ok (.getfield 100, 3) := by decide +kernel
theorem dX4_oneMore_63 : decode cX4_oneMore 63 = .ok (.aload_n 0, 1) := by decide +kernel
theorem dX4_oneMore_64 : decode cX4_oneMore 64 = .ok (.getfield 17, 3) := by decide +kernel
theorem dX4_oneMore_67 : decode cX4_oneMore 67 = .ok (.irem, 1) := by decide +kernel
theorem dX4_oneMore_68 : decode cX4_oneMore 68 = .ok (.i2l, 1) := by decide +kernel
theorem dX4_oneMore_69 : decode cX4_oneMore 69 = .ok (.lmul, 1) := by decide +kernel
theorem dX4_oneMore_70 : decode cX4_oneMore 70 = .ok (.ladd, 1) := by decide +kernel
theorem dX4_oneMore_71 : decode cX4_oneMore 71 = .ok (.lstore 4, 2) := by decide +kernel
theorem dX4_oneMore_73 : decode cX4_oneMore 73 = .ok (.aload_n 0, 1) := by decide +kernel
theorem dX4_oneMore_74 : decode cX4_oneMore 74 = .ok (.iload_n 3, 1) := by decide +kernel
theorem dX4_oneMore_75 : decode cX4_oneMore 75 = .ok (.invokevirtual 184, 3) := by decide +kernel
theorem dX4_oneMore_78 : decode cX4_oneMore 78 = .ok (.ifCond .eq 33, 3) := by decide +kernel
theorem dX4_oneMore_81 : decode cX4_oneMore 81 = .ok (.lload 4, 2) := by decide +kernel
theorem dX4_oneMore_83 : decode cX4_oneMore 83 = .ok (.ldc2_w 128, 3) := by decide +kernel
theorem dX4_oneMore_86 : decode cX4_oneMore 86 = .ok (.invokestatic 62, 3) := by decide +kernel
theorem dX4_oneMore_89 : decode cX4_oneMore 89 = .ok (.ifCond .eq 22, 3) := by decide +kernel
theorem dX4_oneMore_92 : decode cX4_oneMore 92 = .ok (.aload_n 0, 1) := by decide +kernel
theorem dX4_oneMore_93 : decode cX4_oneMore 93 = .ok (.getfield 21, 3) := by decide +kernel
theorem dX4_oneMore_96 : decode cX4_oneMore 96 = .ok (.iconst 2, 1) := by decide +kernel
theorem dX4_oneMore_97 : decode cX4_oneMore 97 = .ok (.laload, 1) := by decide +kernel
theorem dX4_oneMore_98 : decode cX4_oneMore 98 = .ok (.ldc2_w 164, 3) := by decide +kernel
theorem dX4_oneMore_101 : decode cX4_oneMore 101 = .ok (.ladd, 1) := by decide +kernel
theorem dX4_oneMore_102 : decode cX4_oneMore 102 = .ok (.ldc2_w 164, 3) := by decide +kernel
theorem dX4_oneMore_105 : decode cX4_oneMore 105 = .ok (.invokestatic 62, 3) := by decide +kernel
theorem dX4_oneMore_108 : decode cX4_oneMore 108 = .ok (.ifCond .ne 5, 3) := by decide +kernel
theorem dX4_oneMore_111 : decode cX4_oneMore 111 = .ok (.iconst 0, 1) := by decide +kernel
theorem dX4_oneMore_112 : decode cX4_oneMore 112 = .ok (.ireturn, 1) := by decide +kernel
theorem dX4_oneMore_113 : decode cX4_oneMore 113 = .ok (.aload_n 0, 1) := by decide +kernel
theorem dX4_oneMore_114 : decode cX4_oneMore 114 = .ok (.invokevirtual 187, 3) := by decide +kernel
theorem dX4_oneMore_117 : decode cX4_oneMore 117 = .ok (.lstore 6, 2) := by decide +kernel
theorem dX4_oneMore_119 : decode cX4_oneMore 119 = .ok (.aload_n 0, 1) := by decide +kernel
theorem dX4_oneMore_120 : decode cX4_oneMore 120 = .ok (.lload 4, 2) := by decide +kernel
theorem dX4_oneMore_122 : decode cX4_oneMore 122 = .ok (.iconst 4, 1) := by decide +kernel
theorem dX4_oneMore_123 : decode cX4_oneMore 123 = .ok (.iload_n 3, 1) := by decide +kernel
theorem dX4_oneMore_124 : decode cX4_oneMore 124 = .ok (.i2l, 1) := by decide +kernel
theorem dX4_oneMore_125 : decode cX4_oneMore 125 = .ok (.invokevirtual 70, 3) := by decide +kernel
theorem dX4_oneMore_128 : decode cX4_oneMore 128 = .ok (.aload_n 0, 1) := by decide +kernel
theorem dX4_oneMore_129 : decode cX4_oneMore 129 = .ok (.lload 4, 2) := by decide +kernel
theorem dX4_oneMore_131 : decode cX4_oneMore 131 = .ok (.ldc2_w 172, 3) := by decide +kernel
theorem dX4_oneMore_134 : decode cX4_oneMore 134 = .ok (.ladd, 1) := by decide +kernel
theorem dX4_oneMore_135 : decode cX4_oneMore 135 = .ok (.iconst 4, 1) := by decide +kernel
theorem dX4_oneMore_136 : decode cX4_oneMore 136 = .ok (.lload 6, 2) := by decide +kernel
theorem dX4_oneMore_138 : decode cX4_oneMore 138 = .ok (.invokevirtual 70, 3) := by decide +kernel
theorem dX4_oneMore_141 : decode cX4_oneMore 141 = .ok (.aload_n 0, 1) := by decide +kernel
theorem dX4_oneMore_142 : decode cX4_oneMore 142 = .ok (.aload_n 0, 1) := by decide +kernel
theorem dX4_oneMore_143 : decode cX4_oneMore 143 = .ok (.getfield 97, 3) := by decide +kernel
theorem dX4_oneMore_146 : decode cX4_oneMore 146 = .ok (.iconst 1, 1) := by decide +kernel
theorem dX4_oneMore_147 : decode cX4_oneMore 147 = .ok (.iadd, 1) := by decide +kernel
theorem dX4_oneMore_148 : decode cX4_oneMore 148 = .ok (.ldc 190, 2) := by decide +kernel
theorem dX4_oneMore_150 : decode cX4_oneMore 150 = .ok (.irem, 1) := by decide +kernel
theorem dX4_oneMore_151 : decode cX4_oneMore 151 = .ok (.putfield 97, 3) := by decide +kernel
theorem dX4_oneMore_154 : decode cX4_oneMore 154 = .ok (.aload_n 0, 1) := by decide +kernel
theorem dX4_oneMore_155 : decode cX4_oneMore 155 = .ok (.aload_n 0, 1) := by decide +kernel
theorem dX4_oneMore_156 : decode cX4_oneMore 156 = .ok (.getfield 100, 3) := by decide +kernel
theorem dX4_oneMore_159 : decode cX4_oneMore 159 = .ok (.iconst 1, 1) := by decide +kernel
theorem dX4_oneMore_160 : decode cX4_oneMore 160 = .ok (.iadd, 1) := by decide +kernel
theorem dX4_oneMore_161 : decode cX4_oneMore 161 = .ok (.ldc 190, 2) := by decide +kernel
theorem dX4_oneMore_163 : decode cX4_oneMore 163 = .ok (.irem, 1) := by decide +kernel
theorem dX4_oneMore_164 : decode cX4_oneMore 164 = .ok (.putfield 100, 3) := by decide +kernel
theorem dX4_oneMore_167 : decode cX4_oneMore 167 = .ok (.aload_n 0, 1) := by decide +kernel
theorem dX4_oneMore_168 : decode cX4_oneMore 168 = .ok (.aload_n 0, 1) := by decide +kernel
theorem dX4_oneMore_169 : decode cX4_oneMore 169 = .ok (.getfield 21, 3) := by decide +kernel
theorem dX4_oneMore_172 : decode cX4_oneMore 172 = .ok (.iconst 2, 1) := by decide +kernel
theorem dX4_oneMore_173 : decode cX4_oneMore 173 = .ok (.laload, 1) := by decide +kernel
theorem dX4_oneMore_174 : decode cX4_oneMore 174 = .ok (.ldc2_w 164, 3) := by decide +kernel
theorem dX4_oneMore_177 : decode cX4_oneMore 177 = .ok (.ladd, 1) := by decide +kernel
theorem dX4_oneMore_178 : decode cX4_oneMore 178 = .ok (.iconst 2, 1) := by decide +kernel
theorem dX4_oneMore_179 : decode cX4_oneMore 179 = .ok (.aload_n 0, 1) := by decide +kernel
theorem dX4_oneMore_180 : decode cX4_oneMore 180 = .ok (.getfield 100, 3) := by decide +kernel
theorem dX4_oneMore_183 : decode cX4_oneMore 183 = .ok (.i2l, 1) := by decide +kernel
theorem dX4_oneMore_184 : decode cX4_oneMore 184 = .ok (.invokevirtual 70, 3) := by decide +kernel
theorem dX4_oneMore_187 : decode cX4_oneMore 187 = .ok (.aload_n 0, 1) := by decide +kernel
theorem dX4_oneMore_188 : decode cX4_oneMore 188 = .ok (.dup, 1) := by decide +kernel
theorem dX4_oneMore_189 : decode cX4_oneMore 189 = .ok (.getfield 115, 3) := by decide +kernel
theorem dX4_oneMore_192 : decode cX4_oneMore 192 = .ok (.iconst 1, 1) := by decide +kernel
theorem dX4_oneMore_193 : decode cX4_oneMore 193 = .ok (.iadd, 1) := by decide +kernel
theorem dX4_oneMore_194 : decode cX4_oneMore 194 = .ok (.putfield 115, 3) := by decide +kernel
theorem dX4_oneMore_197 : decode cX4_oneMore 197 = .ok (.iconst 1, 1) := by decide +kernel
theorem dX4_oneMore_198 : decode cX4_oneMore 198 = .ok (.ireturn, 1) := by decide +kernel
