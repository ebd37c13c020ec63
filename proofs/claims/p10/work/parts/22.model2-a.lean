/-! words and decoded instructions -/
set_option maxRecDepth 20000 in
theorem w_44e629b627 : Cond.code yX4_isSize cX4_isSize 1 (some .boolean) ∈ WW := ww_3 (List.mem_of_getElem? (i := 83) rfl) rfl
set_option maxRecDepth 20000 in
theorem w_5715e2e213 : Cond.methodLink RX4 58 yX4_isSize ∈ WW := ww_3 (List.mem_of_getElem? (i := 81) rfl) rfl
set_option maxRecDepth 20000 in
theorem w_2216d958f3 : Cond.static yX4_isSize ∈ WW := ww_3 (List.mem_of_getElem? (i := 82) rfl) rfl
set_option maxRecDepth 20000 in
theorem w_a857523ad5 : Cond.code yX4_isThere cX4_isThere 4 (some .boolean) ∈ WW := ww_3 (List.mem_of_getElem? (i := 86) rfl) rfl
set_option maxRecDepth 20000 in
theorem w_e4da178cff : Cond.methodLink RX4 62 yX4_isThere ∈ WW := ww_3 (List.mem_of_getElem? (i := 84) rfl) rfl
set_option maxRecDepth 20000 in
theorem w_3b07a2b4f7 : Cond.static yX4_isThere ∈ WW := ww_3 (List.mem_of_getElem? (i := 85) rfl) rfl
set_option maxRecDepth 20000 in
theorem w_5657dd785d : Cond.fieldLink RX4 37 "QueueDiskModel" "code" "I" ∈ WW := ww_3 (List.mem_of_getElem? (i := 12) rfl) rfl
set_option maxRecDepth 20000 in
theorem w_c1a5c9b18f : Cond.code yX4_number cX4_number 7 (some .long) ∈ WW := ww_3 (List.mem_of_getElem? (i := 92) rfl) rfl
set_option maxRecDepth 20000 in
theorem w_b394cd0f6f : Cond.methodLink RX4 66 yX4_number ∈ WW := ww_3 (List.mem_of_getElem? (i := 89) rfl) rfl
set_option maxRecDepth 20000 in
theorem w_fab48a5191 : Cond.instanceMethod yX4_number ∈ WW := ww_3 (List.mem_of_getElem? (i := 91) rfl) rfl
set_option maxRecDepth 20000 in
theorem w_cc770dbe30 : Cond.selects RX4 yX4_number yX4_number ∈ WW := ww_p (List.mem_of_getElem? (i := 21) rfl) rfl
set_option maxRecDepth 20000 in
theorem w_947246c675 : Cond.code yX4_put cX4_put 7 none ∈ WW := ww_3 (List.mem_of_getElem? (i := 104) rfl) rfl
set_option maxRecDepth 20000 in
theorem w_9c56ffd0dc : Cond.methodLink RX4 70 yX4_put ∈ WW := ww_3 (List.mem_of_getElem? (i := 101) rfl) rfl
set_option maxRecDepth 20000 in
theorem w_152cce5fe8 : Cond.instanceMethod yX4_put ∈ WW := ww_3 (List.mem_of_getElem? (i := 103) rfl) rfl
set_option maxRecDepth 20000 in
theorem w_ffdd99591d : Cond.selects RX4 yX4_put yX4_put ∈ WW := ww_p (List.mem_of_getElem? (i := 22) rfl) rfl
set_option maxRecDepth 20000 in
theorem w_40cba09e19 : Cond.fieldLink RX4 34 "QueueDiskModel" "sectors" "I" ∈ WW := ww_3 (List.mem_of_getElem? (i := 13) rfl) rfl
set_option maxRecDepth 20000 in
theorem w_810c996c29 : Cond.code yX4_noPlace cX4_noPlace 2 (some .boolean) ∈ WW := ww_3 (List.mem_of_getElem? (i := 117) rfl) rfl
set_option maxRecDepth 20000 in
theorem w_76b5efa41c : Cond.methodLink RX4 74 yX4_noPlace ∈ WW := ww_3 (List.mem_of_getElem? (i := 114) rfl) rfl
set_option maxRecDepth 20000 in
theorem w_5863aa291e : Cond.instanceMethod yX4_noPlace ∈ WW := ww_3 (List.mem_of_getElem? (i := 116) rfl) rfl
set_option maxRecDepth 20000 in
theorem w_c88c388056 : Cond.selects RX4 yX4_noPlace yX4_noPlace ∈ WW := ww_p (List.mem_of_getElem? (i := 23) rfl) rfl
set_option maxRecDepth 20000 in
theorem w_ba2971feac : Cond.fieldLink RX4 14 "QueueDiskModel" "disk" "[J" ∈ WW := ww_3 (List.mem_of_getElem? (i := 15) rfl) rfl
set_option maxRecDepth 20000 in
theorem w_2d25dd09ac : Cond.code yX4_noOffset cX4_noOffset 2 (some .boolean) ∈ WW := ww_3 (List.mem_of_getElem? (i := 129) rfl) rfl
set_option maxRecDepth 20000 in
theorem w_a5c76065d0 : Cond.methodLink RX4 77 yX4_noOffset ∈ WW := ww_3 (List.mem_of_getElem? (i := 126) rfl) rfl
set_option maxRecDepth 20000 in
theorem w_2c559bbce4 : Cond.instanceMethod yX4_noOffset ∈ WW := ww_3 (List.mem_of_getElem? (i := 128) rfl) rfl
set_option maxRecDepth 20000 in
theorem w_f18617522a : Cond.selects RX4 yX4_noOffset yX4_noOffset ∈ WW := ww_p (List.mem_of_getElem? (i := 24) rfl) rfl
set_option maxRecDepth 20000 in
theorem w_28d1e0179f : Cond.constant RX4 80 1953655158 ∈ WW := ww_3 (List.mem_of_getElem? (i := 130) rfl) rfl
set_option maxRecDepth 20000 in
theorem w_deb3b8cc9d : Cond.fieldLink RX4 81 "QueueDiskModel" "features" "I" ∈ WW := ww_3 (List.mem_of_getElem? (i := 17) rfl) rfl
set_option maxRecDepth 20000 in
theorem w_2d850835ef : Cond.fieldLink RX4 84 "QueueDiskModel" "chosen" "I" ∈ WW := ww_3 (List.mem_of_getElem? (i := 16) rfl) rfl
set_option maxRecDepth 20000 in
theorem w_c01c73850f : Cond.fieldLink RX4 87 "QueueDiskModel" "ready" "Z" ∈ WW := ww_3 (List.mem_of_getElem? (i := 19) rfl) rfl
set_option maxRecDepth 20000 in
theorem w_a1dc28fbf8 : Cond.fieldLink RX4 91 "QueueDiskModel" "causes" "I" ∈ WW := ww_3 (List.mem_of_getElem? (i := 20) rfl) rfl
set_option maxRecDepth 20000 in
theorem w_9ea0e1bdff : Cond.fieldLink RX4 94 "QueueDiskModel" "state" "I" ∈ WW := ww_3 (List.mem_of_getElem? (i := 21) rfl) rfl
set_option maxRecDepth 20000 in
theorem w_ed900e442d : Cond.fieldLink RX4 115 "QueueDiskModel" "answered" "I" ∈ WW := ww_3 (List.mem_of_getElem? (i := 25) rfl) rfl
set_option maxRecDepth 20000 in
theorem w_45c0d117f5 : Cond.fieldLink RX4 118 "QueueDiskModel" "changed" "I" ∈ WW := ww_3 (List.mem_of_getElem? (i := 26) rfl) rfl
theorem dX4_answered_0 : decode cX4_answered 0 = .ok (.aload_n 0, 1) := by decide +kernel
theorem dX4_answered_1 : decode cX4_answered 1 = .ok (.iconst 0, 1) := by decide +kernel
theorem dX4_answered_2 : decode cX4_answered 2 = .ok (.putfield 37, 3) := by decide +kernel
theorem dX4_answered_5 : decode cX4_answered 5 = .ok (.aload_n 0, 1) := by decide +kernel
theorem dX4_answered_6 : decode cX4_answered 6 = .ok (.getfield 115, 3) := by decide +kernel
theorem dX4_answered_9 : decode cX4_answered 9 = .ok (.ireturn, 1) := by decide +kernel
theorem dX4_breakDown_0 : decode cX4_breakDown 0 = .ok (.aload_n 0, 1) := by decide +kernel
theorem dX4_breakDown_1 : decode cX4_breakDown 1 = .ok (.aload_n 0, 1) := by decide +kernel
theorem dX4_breakDown_2 : decode cX4_breakDown 2 = .ok (.getfield 94, 3) := by decide +kernel
theorem dX4_breakDown_5 : decode cX4_breakDown 5 = .ok (.bipush 64, 2) := by decide +kernel
theorem dX4_breakDown_7 : decode cX4_breakDown 7 = .ok (.ior, 1) := by decide +kernel
theorem dX4_breakDown_8 : decode cX4_breakDown 8 = .ok (.putfield 94, 3) := by decide +kernel
theorem dX4_breakDown_11 : decode cX4_breakDown 11 = .ok (.aload_n 0, 1) := by decide +kernel
theorem dX4_breakDown_12 : decode cX4_breakDown 12 = .ok (.aload_n 0, 1) := by decide +kernel
theorem dX4_breakDown_13 : decode cX4_breakDown 13 = .ok (.getfield 91, 3) := by decide +kernel
theorem dX4_breakDown_16 : decode cX4_breakDown 16 = .ok (.iconst 2, 1) := by decide +kernel
theorem dX4_breakDown_17 : decode cX4_breakDown 17 = .ok (.ior, 1) := by decide +kernel
theorem dX4_breakDown_18 : decode cX4_breakDown 18 = .ok (.putfield 91, 3) := by decide +kernel
theorem dX4_breakDown_21 : decode cX4_breakDown 21 = .ok (.return_, 1) := by decide +kernel
theorem dX4_changed_0 : decode cX4_changed 0 = .ok (.aload_n 0, 1) := by decide +kernel
theorem dX4_changed_1 : decode cX4_changed 1 = .ok (.iconst 0, 1) := by decide +kernel
theorem dX4_changed_2 : decode cX4_changed 2 = .ok (.putfield 37, 3) := by decide +kernel
theorem dX4_changed_5 : decode cX4_changed 5 = .ok (.aload_n 0, 1) := by decide +kernel
theorem dX4_changed_6 : decode cX4_changed 6 = .ok (.getfield 118, 3) := by decide +kernel
theorem dX4_changed_9 : decode cX4_changed 9 = .ok (.ireturn, 1) := by decide +kernel
theorem dX4_disk_0 : decode cX4_disk 0 = .ok (.aload_n 0, 1) := by decide +kernel
theorem dX4_disk_1 : decode cX4_disk 1 = .ok (.iload_n 1, 1) := by decide +kernel
theorem dX4_disk_2 : decode cX4_disk 2 = .ok (.invokevirtual 74, 3) := by decide +kernel
theorem dX4_disk_5 : decode cX4_disk 5 = .ok (.ifCond .eq 7, 3) := by decide +kernel
theorem dX4_disk_8 : decode cX4_disk 8 = .ok (.iconst 0, 1) := by decide +kernel
theorem dX4_disk_9 : decode cX4_disk 9 = .ok (.goto 11, 3) := by decide +kernel
theorem dX4_disk_12 : decode cX4_disk 12 = .ok (.aload_n 0, 1) := by decide +kernel
theorem dX4_disk_13 : decode cX4_disk 13 = .ok (.getfield 14, 3) := by decide +kernel
theorem dX4_disk_16 : decode cX4_disk 16 = .ok (.iload_n 1, 1) := by decide +kernel
theorem dX4_disk_17 : decode cX4_disk 17 = .ok (.invokestatic 50, 3) := by decide +kernel
theorem dX4_disk_20 : decode cX4_disk 20 = .ok (.ireturn, 1) := by decide +kernel
theorem dX4_line_0 : decode cX4_line 0 = .ok (.aload_n 0, 1) := by decide +kernel
theorem dX4_line_1 : decode cX4_line 1 = .ok (.iconst 0, 1) := by decide +kernel
theorem dX4_line_2 : decode cX4_line 2 = .ok (.putfield 37, 3) := by decide +kernel
theorem dX4_line_5 : decode cX4_line 5 = .ok (.aload_n 0, 1) := by decide +kernel
theorem dX4_line_6 : decode cX4_line 6 = .ok (.getfield 91, 3) := by decide +kernel
theorem dX4_line_9 : decode cX4_line 9 = .ok (.ifCond .eq 7, 3) := by decide +kernel
theorem dX4_line_12 : decode cX4_line 12 = .ok (.iconst 1, 1) := by decide +kernel
theorem dX4_line_13 : decode cX4_line 13 = .ok (.goto 4, 3) := by decide +kernel
theorem dX4_line_16 : decode cX4_line 16 = .ok (.iconst 0, 1) := by decide +kernel
theorem dX4_line_17 : decode cX4_line 17 = .ok (.ireturn, 1) := by decide +kernel
theorem dX4_load_0 : decode cX4_load 0 = .ok (.aload_n 0, 1) := by decide +kernel
theorem dX4_load_1 : decode cX4_load 1 = .ok (.iload_n 3, 1) := by decide +kernel
theorem dX4_load_2 : decode cX4_load 2 = .ok (.invokestatic 58, 3) := by decide +kernel
theorem dX4_load_5 : decode cX4_load 5 = .ok (.ifCond .ne 7, 3) := by decide +kernel
theorem dX4_load_8 : decode cX4_load 8 = .ok (.iconst 1, 1) := by decide +kernel
theorem dX4_load_9 : decode cX4_load 9 = .ok (.goto 17, 3) := by decide +kernel
theorem dX4_load_12 : decode cX4_load 12 = .ok (.lload_n 1, 1) := by decide +kernel
theorem dX4_load_13 : decode cX4_load 13 = .ok (.iload_n 3, 1) := by decide +kernel
theorem dX4_load_14 : decode cX4_load 14 = .ok (.i2l, 1) := by decide +kernel
theorem dX4_load_15 : decode cX4_load 15 = .ok (.invokestatic 62, 3) := by decide +kernel
theorem dX4_load_18 : decode cX4_load 18 = .ok (.ifCond .ne 7, 3) := by decide +kernel
theorem dX4_load_21 : decode cX4_load 21 = .ok (.iconst 2, 1) := by decide +kernel
theorem dX4_load_22 : decode cX4_load 22 = .ok (.goto 4, 3) := by decide +kernel
theorem dX4_load_25 : decode cX4_load 25 = .ok (.iconst 0, 1) := by decide +kernel
theorem dX4_load_26 : decode cX4_load 26 = .ok (.putfield 37, 3) := by decide +kernel
theorem dX4_load_29 : decode cX4_load 29 = .ok (.aload_n 0, 1) := by decide +kernel
theorem dX4_load_30 : decode cX4_load 30 = .ok (.getfield 37, 3) := by decide +kernel
theorem dX4_load_33 : decode cX4_load 33 = .ok (.ifCond .le 7, 3) := by decide +kernel
theorem dX4_load_36 : decode cX4_load 36 = .ok (.lconst 0, 1) := by decide +kernel
theorem dX4_load_37 : decode cX4_load 37 = .ok (.goto 9, 3) := by decide +kernel
theorem dX4_load_40 : decode cX4_load 40 = .ok (.aload_n 0, 1) := by decide +kernel
theorem dX4_load_41 : decode cX4_load 41 = .ok (.lload_n 1, 1) := by decide +kernel
theorem dX4_load_42 : decode cX4_load 42 = .ok (.iload_n 3, 1) := by decide +kernel
theorem dX4_load_43 : decode cX4_load 43 = .ok (.invokevirtual 66, 3) := by decide +kernel
theorem dX4_load_46 : decode cX4_load 46 = .ok (.lreturn, 1) := by decide +kernel
theorem dX4_noOffset_0 : decode cX4_noOffset 0 = .ok (.aload_n 0, 1) := by decide +kernel
theorem dX4_noOffset_1 : decode cX4_noOffset 1 = .ok (.iload_n 1, 1) := by decide +kernel
theorem dX4_noOffset_2 : decode cX4_noOffset 2 = .ok (.ifCond .lt 16, 3) := by decide +kernel
theorem dX4_noOffset_5 : decode cX4_noOffset 5 = .ok (.iload_n 1, 1) := by decide +kernel
theorem dX4_noOffset_6 : decode cX4_noOffset 6 = .ok (.sipush 508, 3) := by decide +kernel
theorem dX4_noOffset_9 : decode cX4_noOffset 9 = .ok (.if_icmp .gt 9, 3) := by decide +kernel
theorem dX4_noOffset_12 : decode cX4_noOffset 12 = .ok (.iload_n 1, 1) := by decide +kernel
theorem dX4_noOffset_13 : decode cX4_noOffset 13 = .ok (.iconst 4, 1) := by decide +kernel
theorem dX4_noOffset_14 : decode cX4_noOffset 14 = .ok (.irem, 1) := by decide +kernel
theorem dX4_noOffset_15 : decode cX4_noOffset 15 = .ok (.ifCond .eq 7, 3) := by decide +kernel
theorem dX4_noOffset_18 : decode cX4_noOffset 18 = .ok (.iconst 1, 1) := by decide +kernel
theorem dX4_noOffset_19 : decode cX4_noOffset 19 = .ok (.goto 4, 3) := by decide +kernel
theorem dX4_noOffset_22 : decode cX4_noOffset 22 = .ok (.iconst 0, 1) := by decide +kernel
theorem dX4_noOffset_23 : decode cX4_noOffset 23 = .ok (.putfield 37, 3) := by decide +kernel
theorem dX4_noOffset_26 : decode cX4_noOffset 26 = .ok (.aload_n 0, 1) := by decide +kernel
theorem dX4_noOffset_27 : decode cX4_noOffset 27 = .ok (.getfield 37, 3) := by decide +kernel
theorem dX4_noOffset_30 : decode cX4_noOffset 30 = .ok (.ifCond .le 7, 3) := by decide +kernel
theorem dX4_noOffset_33 : decode cX4_noOffset 33 = .ok (.iconst 1, 1) := by decide +kernel
theorem dX4_noOffset_34 : decode cX4_noOffset 34 = .ok (.goto 4, 3) := by decide +kernel
theorem dX4_noOffset_37 : decode cX4_noOffset 37 = .ok (.iconst 0, 1) := by decide +kernel
theorem dX4_noOffset_38 : decode cX4_noOffset 38 = .ok (.ireturn, 1) := by decide +kernel
theorem dX4_noPlace_0 : decode cX4_noPlace 0 = .ok (.aload_n 0, 1) := by decide +kernel
theorem dX4_noPlace_1 : decode cX4_noPlace 1 = .ok (.iload_n 1, 1) := by decide +kernel
theorem dX4_noPlace_2 : decode cX4_noPlace 2 = .ok (.ifCond .lt 15, 3) := by decide +kernel
theorem dX4_noPlace_5 : decode cX4_noPlace 5 = .ok (.iload_n 1, 1) := by decide +kernel
theorem dX4_noPlace_6 : decode cX4_noPlace 6 = .ok (.sipush 512, 3) := by decide +kernel
theorem dX4_noPlace_9 : decode cX4_noPlace 9 = .ok (.aload_n 0, 1) := by decide +kernel
theorem dX4_noPlace_10 : decode cX4_noPlace 10 = .ok (.getfield 34, 3) := by decide +kernel
theorem dX4_noPlace_13 : decode cX4_noPlace 13 = .ok (.imul, 1) := by decide +kernel
theorem dX4_noPlace_14 : decode cX4_noPlace 14 = .ok (.if_icmp .lt 7, 3) := by decide +kernel
theorem dX4_noPlace_17 : decode cX4_noPlace 17 = .ok (.iconst 1, 1) := by decide +kernel
theorem dX4_noPlace_18 : decode cX4_noPlace 18 = .ok (.goto 4, 3) := by decide +kernel
theorem dX4_noPlace_21 : decode cX4_noPlace 21 = .ok (.iconst 0, 1) := by decide +kernel
theorem dX4_noPlace_22 : decode cX4_noPlace 22 = .ok (.putfield 37, 3) := by decide +kernel
theorem dX4_noPlace_25 : decode cX4_noPlace 25 = .ok (.aload_n 0, 1) := by decide +kernel
theorem dX4_noPlace_26 : decode cX4_noPlace 26 = .ok (.getfield 37, 3) := by decide +kernel
theorem dX4_noPlace_29 : decode cX4_noPlace 29 = .ok (.ifCond .le 7, 3) := by decide +kernel
theorem dX4_noPlace_32 : decode cX4_noPlace 32 = .ok (.iconst 1, 1) := by decide +kernel
theorem dX4_noPlace_33 : decode cX4_noPlace 33 = .ok (.goto 4, 3) := by decide +kernel
theorem dX4_noPlace_36 : decode cX4_noPlace 36 = .ok (.iconst 0, 1) := by decide +kernel
theorem dX4_noPlace_37 : decode cX4_noPlace 37 = .ok (.ireturn, 1) := by decide +kernel
theorem dX4_read_0 : decode cX4_read 0 = .ok (.aload_n 0, 1) := by decide +kernel
theorem dX4_read_1 : decode cX4_read 1 = .ok (.iload_n 1, 1) := by decide +kernel
theorem dX4_read_2 : decode cX4_read 2 = .ok (.invokevirtual 77, 3) := by decide +kernel
theorem dX4_read_5 : decode cX4_read 5 = .ok (.ifCond .eq 5, 3) := by decide +kernel
theorem dX4_read_8 : decode cX4_read 8 = .ok (.iconst 0, 1) := by decide +kernel
theorem dX4_read_9 : decode cX4_read 9 = .ok (.ireturn, 1) := by decide +kernel
theorem dX4_read_10 : decode cX4_read 10 = .ok (.iload_n 1, 1) := by decide +kernel
theorem dX4_read_11 : decode cX4_read 11 = .ok (.lookupswitch 164 #[(0, 81), (4, 84), (8, 86), (16, 88), (52, 115), (68, 129), (96, 149), (112, 154), (256, 159)], 81) := by decide +kernel
theorem dX4_read_92 : decode cX4_read 92 = .ok (.ldc 80, 2) := by decide +kernel
theorem dX4_read_94 : decode cX4_read 94 = .ok (.ireturn, 1) := by decide +kernel
theorem dX4_read_95 : decode cX4_read 95 = .ok (.iconst 2, 1) := by decide +kernel
theorem dX4_read_96 : decode cX4_read 96 = .ok (.ireturn, 1) := by decide +kernel
theorem dX4_read_97 : decode cX4_read 97 = .ok (.iconst 2, 1) := by decide +kernel
theorem dX4_read_98 : decode cX4_read 98 = .ok (.ireturn, 1) := by decide +kernel
theorem dX4_read_99 : decode cX4_read 99 = .ok (.aload_n 0, 1) := by decide +kernel
theorem dX4_read_100 : decode cX4_read 100 = .ok (.getfield 81, 3) := by decide +kernel
theorem dX4_read_103 : decode cX4_read 103 = .ok (.ifCond .ne 9, 3) := by decide +kernel
theorem dX4_read_106 : decode cX4_read 106 = .ok (.sipush 512, 3) := by decide +kernel
theorem dX4_read_109 : decode cX4_read 109 = .ok (.goto 16, 3) := by decide +kernel
theorem dX4_read_112 : decode cX4_read 112 = .ok (.aload_n 0, 1) := by decide +kernel
theorem dX4_read_113 : decode cX4_read 113 = .ok (.getfield 81, 3) := by decide +kernel
theorem dX4_read_116 : decode cX4_read 116 = .ok (.iconst 1, 1) := by decide +kernel
theorem dX4_read_117 : decode cX4_read 117 = .ok (.if_icmp .ne 7, 3) := by decide +kernel
theorem dX4_read_120 : decode cX4_read 120 = .ok (.iconst 1, 1) := by decide +kernel
theorem dX4_read_121 : decode cX4_read 121 = .ok (.goto 4, 3) := by decide +kernel
theorem dX4_read_124 : decode cX4_read 124 = .ok (.iconst 0, 1) := by decide +kernel
theorem dX4_read_125 : decode cX4_read 125 = .ok (.ireturn, 1) := by decide +kernel
theorem dX4_read_126 : decode cX4_read 126 = .ok (.aload_n 0, 1) := by decide +kernel
theorem dX4_read_127 : decode cX4_read 127 = .ok (.getfield 84, 3) := by decide +kernel
theorem dX4_read_130 : decode cX4_read 130 = .ok (.ifCond .ne 8, 3) := by decide +kernel
theorem dX4_read_133 : decode cX4_read 133 = .ok (.bipush 16, 2) := by decide +kernel
theorem dX4_read_135 : decode cX4_read 135 = .ok (.goto 4, 3) := by decide +kernel
theorem dX4_read_138 : decode cX4_read 138 = .ok (.iconst 0, 1) := by decide +kernel
theorem dX4_read_139 : decode cX4_read 139 = .ok (.ireturn, 1) := by decide +kernel
theorem dX4_read_140 : decode cX4_read 140 = .ok (.aload_n 0, 1) := by decide +kernel
theorem dX4_read_141 : decode cX4_read 141 = .ok (.getfield 87, 3) := by decide +kernel
theorem dX4_read_144 : decode cX4_read 144 = .ok (.ifCond .eq 14, 3) := by decide +kernel
theorem dX4_read_147 : decode cX4_read 147 = .ok (.aload_n 0, 1) := by decide +kernel
theorem dX4_read_148 : decode cX4_read 148 = .ok (.getfield 84, 3) := by decide +kernel
theorem dX4_read_151 : decode cX4_read 151 = .ok (.ifCond .ne 7, 3) := by decide +kernel
theorem dX4_read_154 : decode cX4_read 154 = .ok (.iconst 1, 1) := by decide +kernel
theorem dX4_read_155 : decode cX4_read 155 = .ok (.goto 4, 3) := by decide +kernel
theorem dX4_read_158 : decode cX4_read 158 = .ok (.iconst 0, 1) := by decide +kernel
theorem dX4_read_159 : decode cX4_read 159 = .ok (.ireturn, 1) := by decide +kernel
theorem dX4_read_160 : decode cX4_read 160 = .ok (.aload_n 0, 1) := by decide +kernel
theorem dX4_read_161 : decode cX4_read 161 = .ok (.getfield 91, 3) := by decide +kernel
theorem dX4_read_164 : decode cX4_read 164 = .ok (.ireturn, 1) := by decide +kernel
theorem dX4_read_165 : decode cX4_read 165 = .ok (.aload_n 0, 1) := by decide +kernel
theorem dX4_read_166 : decode cX4_read 166 = .ok (.getfield 94, 3) := by decide +kernel
theorem dX4_read_169 : decode cX4_read 169 = .ok (.ireturn, 1) := by decide +kernel
theorem dX4_read_170 : decode cX4_read 170 = .ok (.aload_n 0, 1) := by decide +kernel
theorem dX4_read_171 : decode cX4_read 171 = .ok (.getfield 34, 3) := by decide +kernel
theorem dX4_read_174 : decode cX4_read 174 = .ok (.ireturn, 1) := by decide +kernel
theorem dX4_read_175 : decode cX4_read 175 = .ok (.iconst 0, 1) := by decide +kernel
theorem dX4_read_176 : decode cX4_read 176 = .ok (.ireturn, 1) := by decide +kernel
theorem dX4_setDisk_0 : decode cX4_setDisk 0 = .ok (.aload_n 0, 1) := by decide +kernel
theorem dX4_setDisk_1 : decode cX4_setDisk 1 = .ok (.iload_n 1, 1) := by decide +kernel
theorem dX4_setDisk_2 : decode cX4_setDisk 2 = .ok (.invokevirtual 74, 3) := by decide +kernel
theorem dX4_setDisk_5 : decode cX4_setDisk 5 = .ok (.ifCond .ne 12, 3) := by decide +kernel
theorem dX4_setDisk_8 : decode cX4_setDisk 8 = .ok (.aload_n 0, 1) := by decide +kernel
theorem dX4_setDisk_9 : decode cX4_setDisk 9 = .ok (.getfield 14, 3) := by decide +kernel
theorem dX4_setDisk_12 : decode cX4_setDisk 12 = .ok (.iload_n 1, 1) := by decide +kernel
theorem dX4_setDisk_13 : decode cX4_setDisk 13 = .ok (.iload_n 2, 1) := by decide +kernel
theorem dX4_setDisk_14 : decode cX4_setDisk 14 = .ok (.invokestatic 54, 3) := by decide +kernel
theorem dX4_setDisk_17 : decode cX4_setDisk 17 = .ok (.return_, 1) := by decide +kernel
theorem dX4_store_0 : decode cX4_store 0 = .ok (.aload_n 0, 1) := by decide +kernel
theorem dX4_store_1 : decode cX4_store 1 = .ok (.iload_n 3, 1) := by decide +kernel
theorem dX4_store_2 : decode cX4_store 2 = .ok (.invokestatic 58, 3) := by decide +kernel
theorem dX4_store_5 : decode cX4_store 5 = .ok (.ifCond .ne 7, 3) := by decide +kernel
theorem dX4_store_8 : decode cX4_store 8 = .ok (.iconst 1, 1) := by decide +kernel
theorem dX4_store_9 : decode cX4_store 9 = .ok (.goto 17, 3) := by decide +kernel
theorem dX4_store_12 : decode cX4_store 12 = .ok (.lload_n 1, 1) := by decide +kernel
theorem dX4_store_13 : decode cX4_store 13 = .ok (.iload_n 3, 1) := by decide +kernel
theorem dX4_store_14 : decode cX4_store 14 = .ok (.i2l, 1) := by decide +kernel
theorem dX4_store_15 : decode cX4_store 15 = .ok (.invokestatic 62, 3) := by decide +kernel
theorem dX4_store_18 : decode cX4_store 18 = .ok (.ifCond .ne 7, 3) := by decide +kernel
theorem dX4_store_21 : decode cX4_store 21 = .ok (.iconst 2, 1) := by decide +kernel
theorem dX4_store_22 : decode cX4_store 22 = .ok (.goto 4, 3) := by decide +kernel
theorem dX4_store_25 : decode cX4_store 25 = .ok (.iconst 0, 1) := by decide +kernel
theorem dX4_store_26 : decode cX4_store 26 = .ok (.putfield 37, 3) := by decide +kernel
theorem dX4_store_29 : decode cX4_store 29 = .ok (.aload_n 0, 1) := by decide +kernel
theorem dX4_store_30 : decode cX4_store 30 = .ok (.getfield 37, 3) := by decide +kernel
theorem dX4_store_33 : decode cX4_store 33 = .ok (.ifCond .ne 11, 3) := by decide +kernel
theorem dX4_store_36 : decode cX4_store 36 = .ok (.aload_n 0, 1) := by decide +kernel
theorem dX4_store_37 : decode cX4_store 37 = .ok (.lload_n 1, 1) := by decide +kernel
theorem dX4_store_38 : decode cX4_store 38 = .ok (.iload_n 3, 1) := by decide +kernel
theorem dX4_store_39 : decode cX4_store 39 = .ok (.lload 4, 2) := by decide +kernel
theorem dX4_store_41 : decode cX4_store 41 = .ok (.invokevirtual 70, 3) := by decide +kernel
theorem dX4_store_44 : decode cX4_store 44 = .ok (.return_, 1) := by decide +kernel
