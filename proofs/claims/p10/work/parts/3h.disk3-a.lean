/-! words and decoded instructions -/
set_option maxRecDepth 20000 in
theorem w_45d7c9e8af : Cond.fieldLink RX3 72 "QueueDisk" "state" "I" ∈ WW := ww_1 (List.mem_of_getElem? (i := 106) rfl) rfl
set_option maxRecDepth 20000 in
theorem w_dd5e408550 : Cond.code yX1_lookAtOffers cX1_lookAtOffers 4 (some .boolean) ∈ WW := ww_2 (List.mem_of_getElem? (i := 62) rfl) rfl
set_option maxRecDepth 20000 in
theorem w_e83da97e11 : Cond.methodLink RX3 127 yX1_lookAtOffers ∈ WW := ww_2 (List.mem_of_getElem? (i := 59) rfl) rfl
set_option maxRecDepth 20000 in
theorem w_360002b3e6 : Cond.instanceMethod yX1_lookAtOffers ∈ WW := ww_2 (List.mem_of_getElem? (i := 60) rfl) rfl
set_option maxRecDepth 20000 in
theorem w_2c4c3f7152 : Cond.selects RX1 yX1_lookAtOffers yX1_lookAtOffers ∈ WW := ww_2 (List.mem_of_getElem? (i := 61) rfl) rfl
set_option maxRecDepth 20000 in
theorem w_a5d7e13dd3 : Cond.fieldLink RX3 69 "QueueDisk" "causes" "I" ∈ WW := ww_1 (List.mem_of_getElem? (i := 105) rfl) rfl
set_option maxRecDepth 20000 in
theorem w_cca00df734 : Cond.code yX1_ahead cX1_ahead 1 (some .int) ∈ WW := ww_2 (List.mem_of_getElem? (i := 71) rfl) rfl
set_option maxRecDepth 20000 in
theorem w_2651416967 : Cond.methodLink RX3 131 yX1_ahead ∈ WW := ww_2 (List.mem_of_getElem? (i := 68) rfl) rfl
set_option maxRecDepth 20000 in
theorem w_1b6065228b : Cond.instanceMethod yX1_ahead ∈ WW := ww_2 (List.mem_of_getElem? (i := 69) rfl) rfl
set_option maxRecDepth 20000 in
theorem w_d21c0ccae8 : Cond.selects RX1 yX1_ahead yX1_ahead ∈ WW := ww_2 (List.mem_of_getElem? (i := 70) rfl) rfl
set_option maxRecDepth 20000 in
theorem w_e02be71787 : Cond.code yX3_serve cX3_serve 5 (some .boolean) ∈ WW := ww_2 (List.mem_of_getElem? (i := 76) rfl) rfl
set_option maxRecDepth 20000 in
theorem w_05c8a6b103 : Cond.methodLink RX3 137 yX3_serve ∈ WW := ww_2 (List.mem_of_getElem? (i := 73) rfl) rfl
set_option maxRecDepth 20000 in
theorem w_4d74f1f8c8 : Cond.instanceMethod yX3_serve ∈ WW := ww_2 (List.mem_of_getElem? (i := 75) rfl) rfl
set_option maxRecDepth 20000 in
theorem w_a8df535dcf : Cond.selects RX3 yX3_serve yX3_serve ∈ WW := ww_p (List.mem_of_getElem? (i := 5) rfl) rfl
theorem dX3_work_0 : decode cX3_work 0 = .ok (.aload_n 0, 1) := by decide +kernel
theorem dX3_work_1 : decode cX3_work 1 = .ok (.getfield 72, 3) := by decide +kernel
theorem dX3_work_4 : decode cX3_work 4 = .ok (.iconst 4, 1) := by decide +kernel
theorem dX3_work_5 : decode cX3_work 5 = .ok (.iand, 1) := by decide +kernel
theorem dX3_work_6 : decode cX3_work 6 = .ok (.ifCond .eq 23, 3) := by decide +kernel
theorem dX3_work_9 : decode cX3_work 9 = .ok (.aload_n 0, 1) := by decide +kernel
theorem dX3_work_10 : decode cX3_work 10 = .ok (.getfield 72, 3) := by decide +kernel
theorem dX3_work_13 : decode cX3_work 13 = .ok (.bipush 64, 2) := by decide +kernel
theorem dX3_work_15 : decode cX3_work 15 = .ok (.iand, 1) := by decide +kernel
theorem dX3_work_16 : decode cX3_work 16 = .ok (.ifCond .ne 13, 3) := by decide +kernel
theorem dX3_work_19 : decode cX3_work 19 = .ok (.aload_n 0, 1) := by decide +kernel
theorem dX3_work_20 : decode cX3_work 20 = .ok (.getfield 29, 3) := by decide +kernel
theorem dX3_work_23 : decode cX3_work 23 = .ok (.getfield 65, 3) := by decide +kernel
theorem dX3_work_26 : decode cX3_work 26 = .ok (.ifCond .ne 4, 3) := by decide +kernel
theorem dX3_work_29 : decode cX3_work 29 = .ok (.return_, 1) := by decide +kernel
theorem dX3_work_30 : decode cX3_work 30 = .ok (.iconst 0, 1) := by decide +kernel
theorem dX3_work_31 : decode cX3_work 31 = .ok (.istore_n 1, 1) := by decide +kernel
theorem dX3_work_32 : decode cX3_work 32 = .ok (.aload_n 0, 1) := by decide +kernel
theorem dX3_work_33 : decode cX3_work 33 = .ok (.getfield 29, 3) := by decide +kernel
theorem dX3_work_36 : decode cX3_work 36 = .ok (.aload_n 0, 1) := by decide +kernel
theorem dX3_work_37 : decode cX3_work 37 = .ok (.getfield 19, 3) := by decide +kernel
theorem dX3_work_40 : decode cX3_work 40 = .ok (.invokevirtual 127, 3) := by decide +kernel
theorem dX3_work_43 : decode cX3_work 43 = .ok (.istore_n 2, 1) := by decide +kernel
theorem dX3_work_44 : decode cX3_work 44 = .ok (.iload_n 2, 1) := by decide +kernel
theorem dX3_work_45 : decode cX3_work 45 = .ok (.ifCond .eq 71, 3) := by decide +kernel
theorem dX3_work_48 : decode cX3_work 48 = .ok (.aload_n 0, 1) := by decide +kernel
theorem dX3_work_49 : decode cX3_work 49 = .ok (.getfield 29, 3) := by decide +kernel
theorem dX3_work_52 : decode cX3_work 52 = .ok (.invokevirtual 131, 3) := by decide +kernel
theorem dX3_work_55 : decode cX3_work 55 = .ok (.ifCond .eq 61, 3) := by decide +kernel
theorem dX3_work_58 : decode cX3_work 58 = .ok (.iload_n 1, 1) := by decide +kernel
theorem dX3_work_59 : decode cX3_work 59 = .ok (.bipush 64, 2) := by decide +kernel
theorem dX3_work_61 : decode cX3_work 61 = .ok (.if_icmp .ge 55, 3) := by decide +kernel
theorem dX3_work_64 : decode cX3_work 64 = .ok (.aload_n 0, 1) := by decide +kernel
theorem dX3_work_65 : decode cX3_work 65 = .ok (.getfield 29, 3) := by decide +kernel
theorem dX3_work_68 : decode cX3_work 68 = .ok (.invokevirtual 131, 3) := by decide +kernel
theorem dX3_work_71 : decode cX3_work 71 = .ok (.aload_n 0, 1) := by decide +kernel
theorem dX3_work_72 : decode cX3_work 72 = .ok (.getfield 29, 3) := by decide +kernel
theorem dX3_work_75 : decode cX3_work 75 = .ok (.getfield 134, 3) := by decide +kernel
theorem dX3_work_78 : decode cX3_work 78 = .ok (.if_icmp .gt 14, 3) := by decide +kernel
theorem dX3_work_81 : decode cX3_work 81 = .ok (.aload_n 0, 1) := by decide +kernel
theorem dX3_work_82 : decode cX3_work 82 = .ok (.invokevirtual 137, 3) := by decide +kernel
theorem dX3_work_85 : decode cX3_work 85 = .ok (.ifCond .eq 7, 3) := by decide +kernel
theorem dX3_work_88 : decode cX3_work 88 = .ok (.iconst 1, 1) := by decide +kernel
theorem dX3_work_89 : decode cX3_work 89 = .ok (.goto 4, 3) := by decide +kernel
theorem dX3_work_92 : decode cX3_work 92 = .ok (.iconst 0, 1) := by decide +kernel
theorem dX3_work_93 : decode cX3_work 93 = .ok (.istore_n 2, 1) := by decide +kernel
theorem dX3_work_94 : decode cX3_work 94 = .ok (.iload_n 2, 1) := by decide +kernel
theorem dX3_work_95 : decode cX3_work 95 = .ok (.ifCond .eq (-51), 3) := by decide +kernel
theorem dX3_work_98 : decode cX3_work 98 = .ok (.iinc 1 1, 3) := by decide +kernel
theorem dX3_work_101 : decode cX3_work 101 = .ok (.aload_n 0, 1) := by decide +kernel
theorem dX3_work_102 : decode cX3_work 102 = .ok (.getfield 29, 3) := by decide +kernel
theorem dX3_work_105 : decode cX3_work 105 = .ok (.aload_n 0, 1) := by decide +kernel
theorem dX3_work_106 : decode cX3_work 106 = .ok (.getfield 19, 3) := by decide +kernel
theorem dX3_work_109 : decode cX3_work 109 = .ok (.invokevirtual 127, 3) := by decide +kernel
theorem dX3_work_112 : decode cX3_work 112 = .ok (.istore_n 2, 1) := by decide +kernel
theorem dX3_work_113 : decode cX3_work 113 = .ok (.goto (-69), 3) := by decide +kernel
theorem dX3_work_116 : decode cX3_work 116 = .ok (.iload_n 2, 1) := by decide +kernel
theorem dX3_work_117 : decode cX3_work 117 = .ok (.ifCond .ne 24, 3) := by decide +kernel
theorem dX3_work_120 : decode cX3_work 120 = .ok (.aload_n 0, 1) := by decide +kernel
theorem dX3_work_121 : decode cX3_work 121 = .ok (.dup, 1) := by decide +kernel
theorem dX3_work_122 : decode cX3_work 122 = .ok (.getfield 72, 3) := by decide +kernel
theorem dX3_work_125 : decode cX3_work 125 = .ok (.bipush 64, 2) := by decide +kernel
theorem dX3_work_127 : decode cX3_work 127 = .ok (.ior, 1) := by decide +kernel
theorem dX3_work_128 : decode cX3_work 128 = .ok (.putfield 72, 3) := by decide +kernel
theorem dX3_work_131 : decode cX3_work 131 = .ok (.aload_n 0, 1) := by decide +kernel
theorem dX3_work_132 : decode cX3_work 132 = .ok (.dup, 1) := by decide +kernel
theorem dX3_work_133 : decode cX3_work 133 = .ok (.getfield 69, 3) := by decide +kernel
theorem dX3_work_136 : decode cX3_work 136 = .ok (.iconst 2, 1) := by decide +kernel
theorem dX3_work_137 : decode cX3_work 137 = .ok (.ior, 1) := by decide +kernel
theorem dX3_work_138 : decode cX3_work 138 = .ok (.putfield 69, 3) := by decide +kernel
theorem dX3_work_141 : decode cX3_work 141 = .ok (.iload_n 1, 1) := by decide +kernel
theorem dX3_work_142 : decode cX3_work 142 = .ok (.ifCond .le 25, 3) := by decide +kernel
theorem dX3_work_145 : decode cX3_work 145 = .ok (.aload_n 0, 1) := by decide +kernel
theorem dX3_work_146 : decode cX3_work 146 = .ok (.getfield 29, 3) := by decide +kernel
theorem dX3_work_149 : decode cX3_work 149 = .ok (.getfield 141, 3) := by decide +kernel
theorem dX3_work_152 : decode cX3_work 152 = .ok (.iconst 1, 1) := by decide +kernel
theorem dX3_work_153 : decode cX3_work 153 = .ok (.iand, 1) := by decide +kernel
theorem dX3_work_154 : decode cX3_work 154 = .ok (.ifCond .ne 13, 3) := by decide +kernel
theorem dX3_work_157 : decode cX3_work 157 = .ok (.aload_n 0, 1) := by decide +kernel
theorem dX3_work_158 : decode cX3_work 158 = .ok (.dup, 1) := by decide +kernel
theorem dX3_work_159 : decode cX3_work 159 = .ok (.getfield 69, 3) := by decide +kernel
theorem dX3_work_162 : decode cX3_work 162 = .ok (.iconst 1, 1) := by decide +kernel
theorem dX3_work_163 : decode cX3_work 163 = .ok (.ior, 1) := by decide +kernel
theorem dX3_work_164 : decode cX3_work 164 = .ok (.putfield 69, 3) := by decide +kernel
theorem dX3_work_167 : decode cX3_work 167 = .ok (.return_, 1) := by decide +kernel
