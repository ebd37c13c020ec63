/-! words and decoded instructions -/
set_option maxRecDepth 20000 in
theorem w_414eda1b28 : Cond.constant RX4 179 65535 ∈ WW := ww_3 (List.mem_of_getElem? (i := 150) rfl) rfl
set_option maxRecDepth 20000 in
theorem w_0ec16fac28 : Cond.code yX4_breakDown cX4_breakDown 1 none ∈ WW := ww_3 (List.mem_of_getElem? (i := 148) rfl) rfl
set_option maxRecDepth 20000 in
theorem w_a5f2bf16ca : Cond.methodLink RX4 176 yX4_breakDown ∈ WW := ww_3 (List.mem_of_getElem? (i := 145) rfl) rfl
set_option maxRecDepth 20000 in
theorem w_27a4b81fe2 : Cond.instanceMethod yX4_breakDown ∈ WW := ww_3 (List.mem_of_getElem? (i := 147) rfl) rfl
set_option maxRecDepth 20000 in
theorem w_7173d841a1 : Cond.selects RX4 yX4_breakDown yX4_breakDown ∈ WW := ww_p (List.mem_of_getElem? (i := 27) rfl) rfl
set_option maxRecDepth 20000 in
theorem w_de13a43dbb : Cond.code yX4_oneMore cX4_oneMore 8 (some .boolean) ∈ WW := ww_3 (List.mem_of_getElem? (i := 154) rfl) rfl
set_option maxRecDepth 20000 in
theorem w_752ab9d972 : Cond.methodLink RX4 180 yX4_oneMore ∈ WW := ww_3 (List.mem_of_getElem? (i := 151) rfl) rfl
set_option maxRecDepth 20000 in
theorem w_13be6b2e6a : Cond.instanceMethod yX4_oneMore ∈ WW := ww_3 (List.mem_of_getElem? (i := 153) rfl) rfl
set_option maxRecDepth 20000 in
theorem w_9f0d55abb9 : Cond.selects RX4 yX4_oneMore yX4_oneMore ∈ WW := ww_p (List.mem_of_getElem? (i := 28) rfl) rfl
theorem dX4_work_0 : decode cX4_work 0 = .ok (.aload_n 0, 1) := by decide +kernel
theorem dX4_work_1 : decode cX4_work 1 = .ok (.getfield 94, 3) := by decide +kernel
theorem dX4_work_4 : decode cX4_work 4 = .ok (.iconst 4, 1) := by decide +kernel
theorem dX4_work_5 : decode cX4_work 5 = .ok (.iand, 1) := by decide +kernel
theorem dX4_work_6 : decode cX4_work 6 = .ok (.ifCond .eq 20, 3) := by decide +kernel
theorem dX4_work_9 : decode cX4_work 9 = .ok (.aload_n 0, 1) := by decide +kernel
theorem dX4_work_10 : decode cX4_work 10 = .ok (.getfield 94, 3) := by decide +kernel
theorem dX4_work_13 : decode cX4_work 13 = .ok (.bipush 64, 2) := by decide +kernel
theorem dX4_work_15 : decode cX4_work 15 = .ok (.iand, 1) := by decide +kernel
theorem dX4_work_16 : decode cX4_work 16 = .ok (.ifCond .ne 10, 3) := by decide +kernel
theorem dX4_work_19 : decode cX4_work 19 = .ok (.aload_n 0, 1) := by decide +kernel
theorem dX4_work_20 : decode cX4_work 20 = .ok (.getfield 87, 3) := by decide +kernel
theorem dX4_work_23 : decode cX4_work 23 = .ok (.ifCond .ne 4, 3) := by decide +kernel
theorem dX4_work_26 : decode cX4_work 26 = .ok (.return_, 1) := by decide +kernel
theorem dX4_work_27 : decode cX4_work 27 = .ok (.iconst 0, 1) := by decide +kernel
theorem dX4_work_28 : decode cX4_work 28 = .ok (.istore_n 1, 1) := by decide +kernel
theorem dX4_work_29 : decode cX4_work 29 = .ok (.lconst 1, 1) := by decide +kernel
theorem dX4_work_30 : decode cX4_work 30 = .ok (.lstore_n 2, 1) := by decide +kernel
theorem dX4_work_31 : decode cX4_work 31 = .ok (.iconst 1, 1) := by decide +kernel
theorem dX4_work_32 : decode cX4_work 32 = .ok (.istore 4, 2) := by decide +kernel
theorem dX4_work_34 : decode cX4_work 34 = .ok (.iload 4, 2) := by decide +kernel
theorem dX4_work_36 : decode cX4_work 36 = .ok (.ifCond .eq 119, 3) := by decide +kernel
theorem dX4_work_39 : decode cX4_work 39 = .ok (.aload_n 0, 1) := by decide +kernel
theorem dX4_work_40 : decode cX4_work 40 = .ok (.getfield 21, 3) := by decide +kernel
theorem dX4_work_43 : decode cX4_work 43 = .ok (.iconst 1, 1) := by decide +kernel
theorem dX4_work_44 : decode cX4_work 44 = .ok (.laload, 1) := by decide +kernel
theorem dX4_work_45 : decode cX4_work 45 = .ok (.ldc2_w 172, 3) := by decide +kernel
theorem dX4_work_48 : decode cX4_work 48 = .ok (.invokestatic 62, 3) := by decide +kernel
theorem dX4_work_51 : decode cX4_work 51 = .ok (.ifCond .ne 13, 3) := by decide +kernel
theorem dX4_work_54 : decode cX4_work 54 = .ok (.aload_n 0, 1) := by decide +kernel
theorem dX4_work_55 : decode cX4_work 55 = .ok (.invokevirtual 176, 3) := by decide +kernel
theorem dX4_work_58 : decode cX4_work 58 = .ok (.iconst 0, 1) := by decide +kernel
theorem dX4_work_59 : decode cX4_work 59 = .ok (.istore 4, 2) := by decide +kernel
theorem dX4_work_61 : decode cX4_work 61 = .ok (.goto (-27), 3) := by decide +kernel
theorem dX4_work_64 : decode cX4_work 64 = .ok (.aload_n 0, 1) := by decide +kernel
theorem dX4_work_65 : decode cX4_work 65 = .ok (.aload_n 0, 1) := by decide +kernel
theorem dX4_work_66 : decode cX4_work 66 = .ok (.getfield 21, 3) := by decide +kernel
theorem dX4_work_69 : decode cX4_work 69 = .ok (.iconst 1, 1) := by decide +kernel
theorem dX4_work_70 : decode cX4_work 70 = .ok (.laload, 1) := by decide +kernel
theorem dX4_work_71 : decode cX4_work 71 = .ok (.iconst 2, 1) := by decide +kernel
theorem dX4_work_72 : decode cX4_work 72 = .ok (.invokevirtual 66, 3) := by decide +kernel
theorem dX4_work_75 : decode cX4_work 75 = .ok (.lstore_n 2, 1) := by decide +kernel
theorem dX4_work_76 : decode cX4_work 76 = .ok (.aload_n 0, 1) := by decide +kernel
theorem dX4_work_77 : decode cX4_work 77 = .ok (.aload_n 0, 1) := by decide +kernel
theorem dX4_work_78 : decode cX4_work 78 = .ok (.getfield 21, 3) := by decide +kernel
theorem dX4_work_81 : decode cX4_work 81 = .ok (.iconst 1, 1) := by decide +kernel
theorem dX4_work_82 : decode cX4_work 82 = .ok (.laload, 1) := by decide +kernel
theorem dX4_work_83 : decode cX4_work 83 = .ok (.ldc2_w 164, 3) := by decide +kernel
theorem dX4_work_86 : decode cX4_work 86 = .ok (.ladd, 1) := by decide +kernel
theorem dX4_work_87 : decode cX4_work 87 = .ok (.iconst 2, 1) := by decide +kernel
theorem dX4_work_88 : decode cX4_work 88 = .ok (.invokevirtual 66, 3) := by decide +kernel
theorem dX4_work_91 : decode cX4_work 91 = .ok (.l2i, 1) := by decide +kernel
theorem dX4_work_92 : decode cX4_work 92 = .ok (.istore 5, 2) := by decide +kernel
theorem dX4_work_94 : decode cX4_work 94 = .ok (.iload 5, 2) := by decide +kernel
theorem dX4_work_96 : decode cX4_work 96 = .ok (.aload_n 0, 1) := by decide +kernel
theorem dX4_work_97 : decode cX4_work 97 = .ok (.getfield 97, 3) := by decide +kernel
theorem dX4_work_100 : decode cX4_work 100 = .ok (.isub, 1) := by decide +kernel
theorem dX4_work_101 : decode cX4_work 101 = .ok (.ldc 179, 2) := by decide +kernel
theorem dX4_work_103 : decode cX4_work 103 = .ok (.iand, 1) := by decide +kernel
theorem dX4_work_104 : decode cX4_work 104 = .ok (.istore 6, 2) := by decide +kernel
theorem dX4_work_106 : decode cX4_work 106 = .ok (.iload 6, 2) := by decide +kernel
theorem dX4_work_108 : decode cX4_work 108 = .ok (.ifCond .eq 9, 3) := by decide +kernel
theorem dX4_work_111 : decode cX4_work 111 = .ok (.iload_n 1, 1) := by decide +kernel
theorem dX4_work_112 : decode cX4_work 112 = .ok (.bipush 64, 2) := by decide +kernel
theorem dX4_work_114 : decode cX4_work 114 = .ok (.if_icmp .ne 9, 3) := by decide +kernel
theorem dX4_work_117 : decode cX4_work 117 = .ok (.iconst 0, 1) := by decide +kernel
theorem dX4_work_118 : decode cX4_work 118 = .ok (.istore 4, 2) := by decide +kernel
theorem dX4_work_120 : decode cX4_work 120 = .ok (.goto 32, 3) := by decide +kernel
theorem dX4_work_123 : decode cX4_work 123 = .ok (.iload 6, 2) := by decide +kernel
theorem dX4_work_125 : decode cX4_work 125 = .ok (.aload_n 0, 1) := by decide +kernel
theorem dX4_work_126 : decode cX4_work 126 = .ok (.getfield 17, 3) := by decide +kernel
theorem dX4_work_129 : decode cX4_work 129 = .ok (.if_icmp .gt 10, 3) := by decide +kernel
theorem dX4_work_132 : decode cX4_work 132 = .ok (.aload_n 0, 1) := by decide +kernel
theorem dX4_work_133 : decode cX4_work 133 = .ok (.invokevirtual 180, 3) := by decide +kernel
theorem dX4_work_136 : decode cX4_work 136 = .ok (.ifCond .ne 13, 3) := by decide +kernel
theorem dX4_work_139 : decode cX4_work 139 = .ok (.aload_n 0, 1) := by decide +kernel
theorem dX4_work_140 : decode cX4_work 140 = .ok (.invokevirtual 176, 3) := by decide +kernel
theorem dX4_work_143 : decode cX4_work 143 = .ok (.iconst 0, 1) := by decide +kernel
theorem dX4_work_144 : decode cX4_work 144 = .ok (.istore 4, 2) := by decide +kernel
theorem dX4_work_146 : decode cX4_work 146 = .ok (.goto 6, 3) := by decide +kernel
theorem dX4_work_149 : decode cX4_work 149 = .ok (.iinc 1 1, 3) := by decide +kernel
theorem dX4_work_152 : decode cX4_work 152 = .ok (.goto (-118), 3) := by decide +kernel
theorem dX4_work_155 : decode cX4_work 155 = .ok (.aload_n 0, 1) := by decide +kernel
theorem dX4_work_156 : decode cX4_work 156 = .ok (.iload_n 1, 1) := by decide +kernel
theorem dX4_work_157 : decode cX4_work 157 = .ok (.ifCond .le 22, 3) := by decide +kernel
theorem dX4_work_160 : decode cX4_work 160 = .ok (.lload_n 2, 1) := by decide +kernel
theorem dX4_work_161 : decode cX4_work 161 = .ok (.ldc2_w 164, 3) := by decide +kernel
theorem dX4_work_164 : decode cX4_work 164 = .ok (.lrem, 1) := by decide +kernel
theorem dX4_work_165 : decode cX4_work 165 = .ok (.lconst 0, 1) := by decide +kernel
theorem dX4_work_166 : decode cX4_work 166 = .ok (.lcmp, 1) := by decide +kernel
theorem dX4_work_167 : decode cX4_work 167 = .ok (.ifCond .ne 12, 3) := by decide +kernel
theorem dX4_work_170 : decode cX4_work 170 = .ok (.aload_n 0, 1) := by decide +kernel
theorem dX4_work_171 : decode cX4_work 171 = .ok (.getfield 91, 3) := by decide +kernel
theorem dX4_work_174 : decode cX4_work 174 = .ok (.iconst 1, 1) := by decide +kernel
theorem dX4_work_175 : decode cX4_work 175 = .ok (.ior, 1) := by decide +kernel
theorem dX4_work_176 : decode cX4_work 176 = .ok (.goto 7, 3) := by decide +kernel
theorem dX4_work_179 : decode cX4_work 179 = .ok (.aload_n 0, 1) := by decide +kernel
theorem dX4_work_180 : decode cX4_work 180 = .ok (.getfield 91, 3) := by decide +kernel
theorem dX4_work_183 : decode cX4_work 183 = .ok (.putfield 91, 3) := by decide +kernel
theorem dX4_work_186 : decode cX4_work 186 = .ok (.return_, 1) := by decide +kernel
