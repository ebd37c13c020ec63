/-! words and decoded instructions -/
set_option maxRecDepth 20000 in
theorem w_448b866679 : Cond.fieldLink RX2 28 "QueueDisk$Request" "written" "I" ∈ WW := ww_1 (List.mem_of_getElem? (i := 83) rfl) rfl
set_option maxRecDepth 20000 in
theorem w_c69a552ed9 : Cond.code yX2_endsFit cX2_endsFit 1 (some .boolean) ∈ WW := ww_2 (List.mem_of_getElem? (i := 122) rfl) rfl
set_option maxRecDepth 20000 in
theorem w_43a8c5f9dd : Cond.methodLink RX2 62 yX2_endsFit ∈ WW := ww_2 (List.mem_of_getElem? (i := 119) rfl) rfl
set_option maxRecDepth 20000 in
theorem w_2d04497e7d : Cond.instanceMethod yX2_endsFit ∈ WW := ww_2 (List.mem_of_getElem? (i := 121) rfl) rfl
set_option maxRecDepth 20000 in
theorem w_3576b41ee9 : Cond.selects RX2 yX2_endsFit yX2_endsFit ∈ WW := ww_p (List.mem_of_getElem? (i := 10) rfl) rfl
set_option maxRecDepth 20000 in
theorem w_94ba400bed : Cond.code yX1_blockPlace cX1_blockPlace 2 (some .long) ∈ WW := ww_2 (List.mem_of_getElem? (i := 106) rfl) rfl
set_option maxRecDepth 20000 in
theorem w_0cb48753d4 : Cond.methodLink RX2 34 yX1_blockPlace ∈ WW := ww_2 (List.mem_of_getElem? (i := 103) rfl) rfl
set_option maxRecDepth 20000 in
theorem w_006c891f54 : Cond.instanceMethod yX1_blockPlace ∈ WW := ww_2 (List.mem_of_getElem? (i := 104) rfl) rfl
set_option maxRecDepth 20000 in
theorem w_b033d43b0a : Cond.selects RX1 yX1_blockPlace yX1_blockPlace ∈ WW := ww_2 (List.mem_of_getElem? (i := 105) rfl) rfl
set_option maxRecDepth 20000 in
theorem w_2f794dec7f : Cond.constantLong RX2 38 16 ∈ WW := ww_2 (List.mem_of_getElem? (i := 108) rfl) rfl
set_option maxRecDepth 20000 in
theorem w_5ee6243702 : Cond.constantLong RX2 46 12 ∈ WW := ww_2 (List.mem_of_getElem? (i := 110) rfl) rfl
set_option maxRecDepth 20000 in
theorem w_7f5a5af703 : Cond.constantLong RX2 52 2147483648 ∈ WW := ww_2 (List.mem_of_getElem? (i := 112) rfl) rfl
set_option maxRecDepth 20000 in
theorem w_b2bec04da6 : Cond.code yX2_take cX2_take 8 (some .boolean) ∈ WW := ww_2 (List.mem_of_getElem? (i := 117) rfl) rfl
set_option maxRecDepth 20000 in
theorem w_69d2e5254c : Cond.methodLink RX2 56 yX2_take ∈ WW := ww_2 (List.mem_of_getElem? (i := 114) rfl) rfl
set_option maxRecDepth 20000 in
theorem w_4d39d9e3f8 : Cond.instanceMethod yX2_take ∈ WW := ww_2 (List.mem_of_getElem? (i := 116) rfl) rfl
set_option maxRecDepth 20000 in
theorem w_a8e575ad22 : Cond.selects RX2 yX2_take yX2_take ∈ WW := ww_p (List.mem_of_getElem? (i := 9) rfl) rfl
set_option maxRecDepth 20000 in
theorem w_8d124cecb6 : Cond.constantLong RX2 60 14 ∈ WW := ww_2 (List.mem_of_getElem? (i := 118) rfl) rfl
theorem dX2_endsFit_0 : decode cX2_endsFit 0 = .ok (.aload_n 0, 1) := by decide +kernel
theorem dX2_endsFit_1 : decode cX2_endsFit 1 = .ok (.getfield 25, 3) := by decide +kernel
theorem dX2_endsFit_4 : decode cX2_endsFit 4 = .ok (.ifCond .le 41, 3) := by decide +kernel
theorem dX2_endsFit_7 : decode cX2_endsFit 7 = .ok (.aload_n 0, 1) := by decide +kernel
theorem dX2_endsFit_8 : decode cX2_endsFit 8 = .ok (.iconst 0, 1) := by decide +kernel
theorem dX2_endsFit_9 : decode cX2_endsFit 9 = .ok (.invokevirtual 66, 3) := by decide +kernel
theorem dX2_endsFit_12 : decode cX2_endsFit 12 = .ok (.bipush 16, 2) := by decide +kernel
theorem dX2_endsFit_14 : decode cX2_endsFit 14 = .ok (.if_icmp .lt 31, 3) := by decide +kernel
theorem dX2_endsFit_17 : decode cX2_endsFit 17 = .ok (.aload_n 0, 1) := by decide +kernel
theorem dX2_endsFit_18 : decode cX2_endsFit 18 = .ok (.getfield 25, 3) := by decide +kernel
theorem dX2_endsFit_21 : decode cX2_endsFit 21 = .ok (.aload_n 0, 1) := by decide +kernel
theorem dX2_endsFit_22 : decode cX2_endsFit 22 = .ok (.getfield 21, 3) := by decide +kernel
theorem dX2_endsFit_25 : decode cX2_endsFit 25 = .ok (.if_icmp .ge 20, 3) := by decide +kernel
theorem dX2_endsFit_28 : decode cX2_endsFit 28 = .ok (.aload_n 0, 1) := by decide +kernel
theorem dX2_endsFit_29 : decode cX2_endsFit 29 = .ok (.aload_n 0, 1) := by decide +kernel
theorem dX2_endsFit_30 : decode cX2_endsFit 30 = .ok (.getfield 21, 3) := by decide +kernel
theorem dX2_endsFit_33 : decode cX2_endsFit 33 = .ok (.iconst 1, 1) := by decide +kernel
theorem dX2_endsFit_34 : decode cX2_endsFit 34 = .ok (.isub, 1) := by decide +kernel
theorem dX2_endsFit_35 : decode cX2_endsFit 35 = .ok (.invokevirtual 66, 3) := by decide +kernel
theorem dX2_endsFit_38 : decode cX2_endsFit 38 = .ok (.ifCond .le 7, 3) := by decide +kernel
theorem dX2_endsFit_41 : decode cX2_endsFit 41 = .ok (.iconst 1, 1) := by decide +kernel
theorem dX2_endsFit_42 : decode cX2_endsFit 42 = .ok (.goto 4, 3) := by decide +kernel
theorem dX2_endsFit_45 : decode cX2_endsFit 45 = .ok (.iconst 0, 1) := by decide +kernel
theorem dX2_endsFit_46 : decode cX2_endsFit 46 = .ok (.ireturn, 1) := by decide +kernel
theorem dX2_gather_0 : decode cX2_gather 0 = .ok (.aload_n 0, 1) := by decide +kernel
theorem dX2_gather_1 : decode cX2_gather 1 = .ok (.iconst 0, 1) := by decide +kernel
theorem dX2_gather_2 : decode cX2_gather 2 = .ok (.putfield 21, 3) := by decide +kernel
theorem dX2_gather_5 : decode cX2_gather 5 = .ok (.aload_n 0, 1) := by decide +kernel
theorem dX2_gather_6 : decode cX2_gather 6 = .ok (.iconst 0, 1) := by decide +kernel
theorem dX2_gather_7 : decode cX2_gather 7 = .ok (.putfield 25, 3) := by decide +kernel
theorem dX2_gather_10 : decode cX2_gather 10 = .ok (.aload_n 0, 1) := by decide +kernel
theorem dX2_gather_11 : decode cX2_gather 11 = .ok (.iconst 0, 1) := by decide +kernel
theorem dX2_gather_12 : decode cX2_gather 12 = .ok (.putfield 28, 3) := by decide +kernel
theorem dX2_gather_15 : decode cX2_gather 15 = .ok (.iload_n 3, 1) := by decide +kernel
theorem dX2_gather_16 : decode cX2_gather 16 = .ok (.istore 4, 2) := by decide +kernel
theorem dX2_gather_18 : decode cX2_gather 18 = .ok (.iconst 1, 1) := by decide +kernel
theorem dX2_gather_19 : decode cX2_gather 19 = .ok (.istore 5, 2) := by decide +kernel
theorem dX2_gather_21 : decode cX2_gather 21 = .ok (.iconst 0, 1) := by decide +kernel
theorem dX2_gather_22 : decode cX2_gather 22 = .ok (.istore 6, 2) := by decide +kernel
theorem dX2_gather_24 : decode cX2_gather 24 = .ok (.iload 5, 2) := by decide +kernel
theorem dX2_gather_26 : decode cX2_gather 26 = .ok (.ifCond .eq 134, 3) := by decide +kernel
theorem dX2_gather_29 : decode cX2_gather 29 = .ok (.iload 6, 2) := by decide +kernel
theorem dX2_gather_31 : decode cX2_gather 31 = .ok (.aload_n 2, 1) := by decide +kernel
theorem dX2_gather_32 : decode cX2_gather 32 = .ok (.getfield 31, 3) := by decide +kernel
theorem dX2_gather_35 : decode cX2_gather 35 = .ok (.if_icmp .ge 125, 3) := by decide +kernel
theorem dX2_gather_38 : decode cX2_gather 38 = .ok (.aload_n 2, 1) := by decide +kernel
theorem dX2_gather_39 : decode cX2_gather 39 = .ok (.iload 4, 2) := by decide +kernel
theorem dX2_gather_41 : decode cX2_gather 41 = .ok (.invokevirtual 34, 3) := by decide +kernel
theorem dX2_gather_44 : decode cX2_gather 44 = .ok (.lstore 7, 2) := by decide +kernel
theorem dX2_gather_46 : decode cX2_gather 46 = .ok (.iload 4, 2) := by decide +kernel
theorem dX2_gather_48 : decode cX2_gather 48 = .ok (.aload_n 2, 1) := by decide +kernel
theorem dX2_gather_49 : decode cX2_gather 49 = .ok (.getfield 31, 3) := by decide +kernel
theorem dX2_gather_52 : decode cX2_gather 52 = .ok (.if_icmp .ge 15, 3) := by decide +kernel
theorem dX2_gather_55 : decode cX2_gather 55 = .ok (.aload_n 1, 1) := by decide +kernel
theorem dX2_gather_56 : decode cX2_gather 56 = .ok (.lload 7, 2) := by decide +kernel
theorem dX2_gather_58 : decode cX2_gather 58 = .ok (.ldc2_w 38, 3) := by decide +kernel
theorem dX2_gather_61 : decode cX2_gather 61 = .ok (.invokevirtual 40, 3) := by decide +kernel
theorem dX2_gather_64 : decode cX2_gather 64 = .ok (.ifCond .ne 5, 3) := by decide +kernel
theorem dX2_gather_67 : decode cX2_gather 67 = .ok (.iconst 0, 1) := by decide +kernel
theorem dX2_gather_68 : decode cX2_gather 68 = .ok (.ireturn, 1) := by decide +kernel
theorem dX2_gather_69 : decode cX2_gather 69 = .ok (.aload_n 1, 1) := by decide +kernel
theorem dX2_gather_70 : decode cX2_gather 70 = .ok (.lload 7, 2) := by decide +kernel
theorem dX2_gather_72 : decode cX2_gather 72 = .ok (.ldc2_w 46, 3) := by decide +kernel
theorem dX2_gather_75 : decode cX2_gather 75 = .ok (.ladd, 1) := by decide +kernel
theorem dX2_gather_76 : decode cX2_gather 76 = .ok (.iconst 2, 1) := by decide +kernel
theorem dX2_gather_77 : decode cX2_gather 77 = .ok (.invokevirtual 48, 3) := by decide +kernel
theorem dX2_gather_80 : decode cX2_gather 80 = .ok (.l2i, 1) := by decide +kernel
theorem dX2_gather_81 : decode cX2_gather 81 = .ok (.istore 9, 2) := by decide +kernel
theorem dX2_gather_83 : decode cX2_gather 83 = .ok (.aload_n 1, 1) := by decide +kernel
theorem dX2_gather_84 : decode cX2_gather 84 = .ok (.lload 7, 2) := by decide +kernel
theorem dX2_gather_86 : decode cX2_gather 86 = .ok (.bipush 8, 2) := by decide +kernel
theorem dX2_gather_88 : decode cX2_gather 88 = .ok (.invokevirtual 48, 3) := by decide +kernel
theorem dX2_gather_91 : decode cX2_gather 91 = .ok (.ldc2_w 52, 3) := by decide +kernel
theorem dX2_gather_94 : decode cX2_gather 94 = .ok (.lsub, 1) := by decide +kernel
theorem dX2_gather_95 : decode cX2_gather 95 = .ok (.lstore 10, 2) := by decide +kernel
theorem dX2_gather_97 : decode cX2_gather 97 = .ok (.aload_n 1, 1) := by decide +kernel
theorem dX2_gather_98 : decode cX2_gather 98 = .ok (.lload 7, 2) := by decide +kernel
theorem dX2_gather_100 : decode cX2_gather 100 = .ok (.ldc2_w 54, 3) := by decide +kernel
theorem dX2_gather_103 : decode cX2_gather 103 = .ok (.ladd, 1) := by decide +kernel
theorem dX2_gather_104 : decode cX2_gather 104 = .ok (.iconst 4, 1) := by decide +kernel
theorem dX2_gather_105 : decode cX2_gather 105 = .ok (.invokevirtual 48, 3) := by decide +kernel
theorem dX2_gather_108 : decode cX2_gather 108 = .ok (.lstore 12, 2) := by decide +kernel
theorem dX2_gather_110 : decode cX2_gather 110 = .ok (.aload_n 0, 1) := by decide +kernel
theorem dX2_gather_111 : decode cX2_gather 111 = .ok (.aload_n 1, 1) := by decide +kernel
theorem dX2_gather_112 : decode cX2_gather 112 = .ok (.lload 10, 2) := by decide +kernel
theorem dX2_gather_114 : decode cX2_gather 114 = .ok (.lload 12, 2) := by decide +kernel
theorem dX2_gather_116 : decode cX2_gather 116 = .ok (.iload 9, 2) := by decide +kernel
theorem dX2_gather_118 : decode cX2_gather 118 = .ok (.invokevirtual 56, 3) := by decide +kernel
theorem dX2_gather_121 : decode cX2_gather 121 = .ok (.ifCond .ne 5, 3) := by decide +kernel
theorem dX2_gather_124 : decode cX2_gather 124 = .ok (.iconst 0, 1) := by decide +kernel
theorem dX2_gather_125 : decode cX2_gather 125 = .ok (.ireturn, 1) := by decide +kernel
theorem dX2_gather_126 : decode cX2_gather 126 = .ok (.iload 9, 2) := by decide +kernel
theorem dX2_gather_128 : decode cX2_gather 128 = .ok (.iconst 1, 1) := by decide +kernel
theorem dX2_gather_129 : decode cX2_gather 129 = .ok (.iand, 1) := by decide +kernel
theorem dX2_gather_130 : decode cX2_gather 130 = .ok (.ifCond .eq 7, 3) := by decide +kernel
theorem dX2_gather_133 : decode cX2_gather 133 = .ok (.iconst 1, 1) := by decide +kernel
theorem dX2_gather_134 : decode cX2_gather 134 = .ok (.goto 4, 3) := by decide +kernel
theorem dX2_gather_137 : decode cX2_gather 137 = .ok (.iconst 0, 1) := by decide +kernel
theorem dX2_gather_138 : decode cX2_gather 138 = .ok (.istore 5, 2) := by decide +kernel
theorem dX2_gather_140 : decode cX2_gather 140 = .ok (.aload_n 1, 1) := by decide +kernel
theorem dX2_gather_141 : decode cX2_gather 141 = .ok (.lload 7, 2) := by decide +kernel
theorem dX2_gather_143 : decode cX2_gather 143 = .ok (.ldc2_w 60, 3) := by decide +kernel
theorem dX2_gather_146 : decode cX2_gather 146 = .ok (.ladd, 1) := by decide +kernel
theorem dX2_gather_147 : decode cX2_gather 147 = .ok (.iconst 2, 1) := by decide +kernel
theorem dX2_gather_148 : decode cX2_gather 148 = .ok (.invokevirtual 48, 3) := by decide +kernel
theorem dX2_gather_151 : decode cX2_gather 151 = .ok (.l2i, 1) := by decide +kernel
theorem dX2_gather_152 : decode cX2_gather 152 = .ok (.istore 4, 2) := by decide +kernel
theorem dX2_gather_154 : decode cX2_gather 154 = .ok (.iinc 6 1, 3) := by decide +kernel
theorem dX2_gather_157 : decode cX2_gather 157 = .ok (.goto (-133), 3) := by decide +kernel
theorem dX2_gather_160 : decode cX2_gather 160 = .ok (.iload 5, 2) := by decide +kernel
theorem dX2_gather_162 : decode cX2_gather 162 = .ok (.ifCond .ne 14, 3) := by decide +kernel
theorem dX2_gather_165 : decode cX2_gather 165 = .ok (.aload_n 0, 1) := by decide +kernel
theorem dX2_gather_166 : decode cX2_gather 166 = .ok (.invokevirtual 62, 3) := by decide +kernel
theorem dX2_gather_169 : decode cX2_gather 169 = .ok (.ifCond .eq 7, 3) := by decide +kernel
theorem dX2_gather_172 : decode cX2_gather 172 = .ok (.iconst 1, 1) := by decide +kernel
theorem dX2_gather_173 : decode cX2_gather 173 = .ok (.goto 4, 3) := by decide +kernel
theorem dX2_gather_176 : decode cX2_gather 176 = .ok (.iconst 0, 1) := by decide +kernel
theorem dX2_gather_177 : decode cX2_gather 177 = .ok (.ireturn, 1) := by decide +kernel
