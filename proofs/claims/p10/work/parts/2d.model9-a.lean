/-! words and decoded instructions -/
set_option maxRecDepth 20000 in
theorem w_b27dee8b1f : Cond.code yX4_setQueue cX4_setQueue 8 none ∈ WW := ww_3 (List.mem_of_getElem? (i := 138) rfl) rfl
set_option maxRecDepth 20000 in
theorem w_d68b3bf057 : Cond.methodLink RX4 105 yX4_setQueue ∈ WW := ww_3 (List.mem_of_getElem? (i := 135) rfl) rfl
set_option maxRecDepth 20000 in
theorem w_bb0b9c7f32 : Cond.instanceMethod yX4_setQueue ∈ WW := ww_3 (List.mem_of_getElem? (i := 137) rfl) rfl
set_option maxRecDepth 20000 in
theorem w_fb62a98b27 : Cond.selects RX4 yX4_setQueue yX4_setQueue ∈ WW := ww_p (List.mem_of_getElem? (i := 25) rfl) rfl
set_option maxRecDepth 20000 in
theorem w_5242d0531c : Cond.code yX4_work cX4_work 7 none ∈ WW := ww_3 (List.mem_of_getElem? (i := 143) rfl) rfl
set_option maxRecDepth 20000 in
theorem w_663f104fc3 : Cond.methodLink RX4 109 yX4_work ∈ WW := ww_3 (List.mem_of_getElem? (i := 140) rfl) rfl
set_option maxRecDepth 20000 in
theorem w_18b7a43227 : Cond.instanceMethod yX4_work ∈ WW := ww_3 (List.mem_of_getElem? (i := 142) rfl) rfl
set_option maxRecDepth 20000 in
theorem w_8ec5b7b33d : Cond.selects RX4 yX4_work yX4_work ∈ WW := ww_p (List.mem_of_getElem? (i := 26) rfl) rfl
set_option maxRecDepth 20000 in
theorem w_97e5643f1e : Cond.code yX4_begin cX4_begin 2 none ∈ WW := ww_3 (List.mem_of_getElem? (i := 196) rfl) rfl
set_option maxRecDepth 20000 in
theorem w_d93e798465 : Cond.methodLink RX4 112 yX4_begin ∈ WW := ww_3 (List.mem_of_getElem? (i := 193) rfl) rfl
set_option maxRecDepth 20000 in
theorem w_f3bfd1f8ad : Cond.instanceMethod yX4_begin ∈ WW := ww_3 (List.mem_of_getElem? (i := 195) rfl) rfl
set_option maxRecDepth 20000 in
theorem w_6a4f35e159 : Cond.selects RX4 yX4_begin yX4_begin ∈ WW := ww_p (List.mem_of_getElem? (i := 35) rfl) rfl
theorem dX4_write_0 : decode cX4_write 0 = .ok (.aload_n 0, 1) := by decide +kernel
theorem dX4_write_1 : decode cX4_write 1 = .ok (.iload_n 1, 1) := by decide +kernel
theorem dX4_write_2 : decode cX4_write 2 = .ok (.invokevirtual 77, 3) := by decide +kernel
theorem dX4_write_5 : decode cX4_write 5 = .ok (.ifCond .eq 4, 3) := by decide +kernel
theorem dX4_write_8 : decode cX4_write 8 = .ok (.return_, 1) := by decide +kernel
theorem dX4_write_9 : decode cX4_write 9 = .ok (.iload_n 1, 1) := by decide +kernel
theorem dX4_write_10 : decode cX4_write 10 = .ok (.lookupswitch 196 #[(20, 114), (48, 122), (56, 130), (68, 130), (80, 139), (100, 150), (112, 165), (128, 130), (132, 130), (144, 130), (148, 130), (160, 130), (164, 130)], 114) := by decide +kernel
theorem dX4_write_124 : decode cX4_write 124 = .ok (.aload_n 0, 1) := by decide +kernel
theorem dX4_write_125 : decode cX4_write 125 = .ok (.iload_n 2, 1) := by decide +kernel
theorem dX4_write_126 : decode cX4_write 126 = .ok (.putfield 81, 3) := by decide +kernel
theorem dX4_write_129 : decode cX4_write 129 = .ok (.goto 77, 3) := by decide +kernel
theorem dX4_write_132 : decode cX4_write 132 = .ok (.aload_n 0, 1) := by decide +kernel
theorem dX4_write_133 : decode cX4_write 133 = .ok (.iload_n 2, 1) := by decide +kernel
theorem dX4_write_134 : decode cX4_write 134 = .ok (.putfield 84, 3) := by decide +kernel
theorem dX4_write_137 : decode cX4_write 137 = .ok (.goto 69, 3) := by decide +kernel
theorem dX4_write_140 : decode cX4_write 140 = .ok (.aload_n 0, 1) := by decide +kernel
theorem dX4_write_141 : decode cX4_write 141 = .ok (.iload_n 1, 1) := by decide +kernel
theorem dX4_write_142 : decode cX4_write 142 = .ok (.iload_n 2, 1) := by decide +kernel
theorem dX4_write_143 : decode cX4_write 143 = .ok (.invokevirtual 105, 3) := by decide +kernel
theorem dX4_write_146 : decode cX4_write 146 = .ok (.goto 60, 3) := by decide +kernel
theorem dX4_write_149 : decode cX4_write 149 = .ok (.iload_n 2, 1) := by decide +kernel
theorem dX4_write_150 : decode cX4_write 150 = .ok (.ifCond .ne 56, 3) := by decide +kernel
theorem dX4_write_153 : decode cX4_write 153 = .ok (.aload_n 0, 1) := by decide +kernel
theorem dX4_write_154 : decode cX4_write 154 = .ok (.invokevirtual 109, 3) := by decide +kernel
theorem dX4_write_157 : decode cX4_write 157 = .ok (.goto 49, 3) := by decide +kernel
theorem dX4_write_160 : decode cX4_write 160 = .ok (.aload_n 0, 1) := by decide +kernel
theorem dX4_write_161 : decode cX4_write 161 = .ok (.aload_n 0, 1) := by decide +kernel
theorem dX4_write_162 : decode cX4_write 162 = .ok (.getfield 91, 3) := by decide +kernel
theorem dX4_write_165 : decode cX4_write 165 = .ok (.iload_n 2, 1) := by decide +kernel
theorem dX4_write_166 : decode cX4_write 166 = .ok (.iconst (-1), 1) := by decide +kernel
theorem dX4_write_167 : decode cX4_write 167 = .ok (.ixor, 1) := by decide +kernel
theorem dX4_write_168 : decode cX4_write 168 = .ok (.iand, 1) := by decide +kernel
theorem dX4_write_169 : decode cX4_write 169 = .ok (.putfield 91, 3) := by decide +kernel
theorem dX4_write_172 : decode cX4_write 172 = .ok (.goto 34, 3) := by decide +kernel
theorem dX4_write_175 : decode cX4_write 175 = .ok (.iload_n 2, 1) := by decide +kernel
theorem dX4_write_176 : decode cX4_write 176 = .ok (.ifCond .ne 10, 3) := by decide +kernel
theorem dX4_write_179 : decode cX4_write 179 = .ok (.aload_n 0, 1) := by decide +kernel
theorem dX4_write_180 : decode cX4_write 180 = .ok (.invokevirtual 112, 3) := by decide +kernel
theorem dX4_write_183 : decode cX4_write 183 = .ok (.goto 23, 3) := by decide +kernel
theorem dX4_write_186 : decode cX4_write 186 = .ok (.aload_n 0, 1) := by decide +kernel
theorem dX4_write_187 : decode cX4_write 187 = .ok (.iload_n 2, 1) := by decide +kernel
theorem dX4_write_188 : decode cX4_write 188 = .ok (.sipush 255, 3) := by decide +kernel
theorem dX4_write_191 : decode cX4_write 191 = .ok (.iand, 1) := by decide +kernel
theorem dX4_write_192 : decode cX4_write 192 = .ok (.aload_n 0, 1) := by decide +kernel
theorem dX4_write_193 : decode cX4_write 193 = .ok (.getfield 94, 3) := by decide +kernel
theorem dX4_write_196 : decode cX4_write 196 = .ok (.bipush 64, 2) := by decide +kernel
theorem dX4_write_198 : decode cX4_write 198 = .ok (.iand, 1) := by decide +kernel
theorem dX4_write_199 : decode cX4_write 199 = .ok (.ior, 1) := by decide +kernel
theorem dX4_write_200 : decode cX4_write 200 = .ok (.putfield 94, 3) := by decide +kernel
theorem dX4_write_203 : decode cX4_write 203 = .ok (.goto 3, 3) := by decide +kernel
theorem dX4_write_206 : decode cX4_write 206 = .ok (.return_, 1) := by decide +kernel
