/-! words and decoded instructions -/
set_option maxRecDepth 20000 in
theorem w_fc54701a8b : Cond.code yX3_work cX3_work 3 none ∈ WW := ww_2 (List.mem_of_getElem? (i := 58) rfl) rfl
set_option maxRecDepth 20000 in
theorem w_a2a898bea1 : Cond.methodLink RX3 78 yX3_work ∈ WW := ww_2 (List.mem_of_getElem? (i := 55) rfl) rfl
set_option maxRecDepth 20000 in
theorem w_36537740ed : Cond.instanceMethod yX3_work ∈ WW := ww_2 (List.mem_of_getElem? (i := 57) rfl) rfl
set_option maxRecDepth 20000 in
theorem w_ad1b2b8108 : Cond.selects RX3 yX3_work yX3_work ∈ WW := ww_p (List.mem_of_getElem? (i := 4) rfl) rfl
set_option maxRecDepth 20000 in
theorem w_1a74cc61f5 : Cond.code yX3_changeState cX3_changeState 2 none ∈ WW := ww_2 (List.mem_of_getElem? (i := 204) rfl) rfl
set_option maxRecDepth 20000 in
theorem w_2dd075fb42 : Cond.methodLink RX3 81 yX3_changeState ∈ WW := ww_2 (List.mem_of_getElem? (i := 201) rfl) rfl
set_option maxRecDepth 20000 in
theorem w_155381e01e : Cond.instanceMethod yX3_changeState ∈ WW := ww_2 (List.mem_of_getElem? (i := 203) rfl) rfl
set_option maxRecDepth 20000 in
theorem w_14ea4ab27d : Cond.selects RX3 yX3_changeState yX3_changeState ∈ WW := ww_p (List.mem_of_getElem? (i := 18) rfl) rfl
set_option maxRecDepth 20000 in
theorem w_ced397a27a : Cond.code yX1_set cX1_set 3 none ∈ WW := ww_2 (List.mem_of_getElem? (i := 212) rfl) rfl
set_option maxRecDepth 20000 in
theorem w_daf16b1e77 : Cond.methodLink RX3 84 yX1_set ∈ WW := ww_2 (List.mem_of_getElem? (i := 209) rfl) rfl
set_option maxRecDepth 20000 in
theorem w_0cb18b0698 : Cond.instanceMethod yX1_set ∈ WW := ww_2 (List.mem_of_getElem? (i := 210) rfl) rfl
set_option maxRecDepth 20000 in
theorem w_75e688f2bc : Cond.selects RX1 yX1_set yX1_set ∈ WW := ww_2 (List.mem_of_getElem? (i := 211) rfl) rfl
theorem dX3_write_0 : decode cX3_write 0 = .ok (.aload_n 0, 1) := by decide +kernel
theorem dX3_write_1 : decode cX3_write 1 = .ok (.iload_n 1, 1) := by decide +kernel
theorem dX3_write_2 : decode cX3_write 2 = .ok (.invokevirtual 54, 3) := by decide +kernel
theorem dX3_write_5 : decode cX3_write 5 = .ok (.iload_n 1, 1) := by decide +kernel
theorem dX3_write_6 : decode cX3_write 6 = .ok (.lookupswitch 100 #[(20, 50), (48, 58), (80, 66), (100, 77), (112, 92)], 50) := by decide +kernel
theorem dX3_write_56 : decode cX3_write 56 = .ok (.aload_n 0, 1) := by decide +kernel
theorem dX3_write_57 : decode cX3_write 57 = .ok (.iload_n 2, 1) := by decide +kernel
theorem dX3_write_58 : decode cX3_write 58 = .ok (.putfield 75, 3) := by decide +kernel
theorem dX3_write_61 : decode cX3_write 61 = .ok (.goto 61, 3) := by decide +kernel
theorem dX3_write_64 : decode cX3_write 64 = .ok (.aload_n 0, 1) := by decide +kernel
theorem dX3_write_65 : decode cX3_write 65 = .ok (.iload_n 2, 1) := by decide +kernel
theorem dX3_write_66 : decode cX3_write 66 = .ok (.putfield 62, 3) := by decide +kernel
theorem dX3_write_69 : decode cX3_write 69 = .ok (.goto 53, 3) := by decide +kernel
theorem dX3_write_72 : decode cX3_write 72 = .ok (.iload_n 2, 1) := by decide +kernel
theorem dX3_write_73 : decode cX3_write 73 = .ok (.ifCond .ne 49, 3) := by decide +kernel
theorem dX3_write_76 : decode cX3_write 76 = .ok (.aload_n 0, 1) := by decide +kernel
theorem dX3_write_77 : decode cX3_write 77 = .ok (.invokevirtual 78, 3) := by decide +kernel
theorem dX3_write_80 : decode cX3_write 80 = .ok (.goto 42, 3) := by decide +kernel
theorem dX3_write_83 : decode cX3_write 83 = .ok (.aload_n 0, 1) := by decide +kernel
theorem dX3_write_84 : decode cX3_write 84 = .ok (.dup, 1) := by decide +kernel
theorem dX3_write_85 : decode cX3_write 85 = .ok (.getfield 69, 3) := by decide +kernel
theorem dX3_write_88 : decode cX3_write 88 = .ok (.iload_n 2, 1) := by decide +kernel
theorem dX3_write_89 : decode cX3_write 89 = .ok (.iconst (-1), 1) := by decide +kernel
theorem dX3_write_90 : decode cX3_write 90 = .ok (.ixor, 1) := by decide +kernel
theorem dX3_write_91 : decode cX3_write 91 = .ok (.iand, 1) := by decide +kernel
theorem dX3_write_92 : decode cX3_write 92 = .ok (.putfield 69, 3) := by decide +kernel
theorem dX3_write_95 : decode cX3_write 95 = .ok (.goto 27, 3) := by decide +kernel
theorem dX3_write_98 : decode cX3_write 98 = .ok (.aload_n 0, 1) := by decide +kernel
theorem dX3_write_99 : decode cX3_write 99 = .ok (.iload_n 2, 1) := by decide +kernel
theorem dX3_write_100 : decode cX3_write 100 = .ok (.invokevirtual 81, 3) := by decide +kernel
theorem dX3_write_103 : decode cX3_write 103 = .ok (.goto 19, 3) := by decide +kernel
theorem dX3_write_106 : decode cX3_write 106 = .ok (.aload_n 0, 1) := by decide +kernel
theorem dX3_write_107 : decode cX3_write 107 = .ok (.getfield 62, 3) := by decide +kernel
theorem dX3_write_110 : decode cX3_write 110 = .ok (.ifCond .ne 12, 3) := by decide +kernel
theorem dX3_write_113 : decode cX3_write 113 = .ok (.aload_n 0, 1) := by decide +kernel
theorem dX3_write_114 : decode cX3_write 114 = .ok (.getfield 29, 3) := by decide +kernel
theorem dX3_write_117 : decode cX3_write 117 = .ok (.iload_n 1, 1) := by decide +kernel
theorem dX3_write_118 : decode cX3_write 118 = .ok (.iload_n 2, 1) := by decide +kernel
theorem dX3_write_119 : decode cX3_write 119 = .ok (.invokevirtual 84, 3) := by decide +kernel
theorem dX3_write_122 : decode cX3_write 122 = .ok (.return_, 1) := by decide +kernel
