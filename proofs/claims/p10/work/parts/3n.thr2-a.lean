/-! words and decoded instructions -/
set_option maxRecDepth 20000 in
theorem w_fbd5f30fcb : Cond.code yX3_refuseOutsideMemory cX3_refuseOutsideMemory 4 none ∈ WW := ww_1 (List.mem_of_getElem? (i := 159) rfl) rfl
set_option maxRecDepth 20000 in
theorem w_79bd63e8c9 : Cond.methodLink RX3 40 yX3_refuseOutsideMemory ∈ WW := ww_1 (List.mem_of_getElem? (i := 156) rfl) rfl
set_option maxRecDepth 20000 in
theorem w_4aa4e243d7 : Cond.instanceMethod yX3_refuseOutsideMemory ∈ WW := ww_1 (List.mem_of_getElem? (i := 158) rfl) rfl
set_option maxRecDepth 20000 in
theorem w_754f553ad3 : Cond.selects RX3 yX3_refuseOutsideMemory yX3_refuseOutsideMemory ∈ WW := ww_p (List.mem_of_getElem? (i := 0) rfl) rfl
set_option maxRecDepth 20000 in
theorem w_8b1ecd563c : Cond.methodLink RX3 50 yX0_putNumber ∈ WW := ww_2 (List.mem_of_getElem? (i := 23) rfl) rfl
set_option maxRecDepth 20000 in
theorem w_c455415437 : Cond.code yX3_refuseOutsideDisk cX3_refuseOutsideDisk 2 none ∈ WW := ww_2 (List.mem_of_getElem? (i := 235) rfl) rfl
set_option maxRecDepth 20000 in
theorem w_d59c4cbb13 : Cond.methodLink RX3 88 yX3_refuseOutsideDisk ∈ WW := ww_2 (List.mem_of_getElem? (i := 232) rfl) rfl
set_option maxRecDepth 20000 in
theorem w_ac117f1441 : Cond.instanceMethod yX3_refuseOutsideDisk ∈ WW := ww_2 (List.mem_of_getElem? (i := 234) rfl) rfl
set_option maxRecDepth 20000 in
theorem w_123e8cfdb0 : Cond.selects RX3 yX3_refuseOutsideDisk yX3_refuseOutsideDisk ∈ WW := ww_p (List.mem_of_getElem? (i := 20) rfl) rfl
set_option maxRecDepth 20000 in
theorem w_16292aec33 : Cond.methodLink RX3 91 yX0_at ∈ WW := ww_2 (List.mem_of_getElem? (i := 237) rfl) rfl
set_option maxRecDepth 20000 in
theorem w_616820ed85 : Cond.code yX3_refuseNoRegister cX3_refuseNoRegister 2 none ∈ WW := ww_2 (List.mem_of_getElem? (i := 41) rfl) rfl
set_option maxRecDepth 20000 in
theorem w_5caa21029e : Cond.methodLink RX3 54 yX3_refuseNoRegister ∈ WW := ww_2 (List.mem_of_getElem? (i := 38) rfl) rfl
set_option maxRecDepth 20000 in
theorem w_c4732795e6 : Cond.instanceMethod yX3_refuseNoRegister ∈ WW := ww_2 (List.mem_of_getElem? (i := 40) rfl) rfl
set_option maxRecDepth 20000 in
theorem w_ae26f7476a : Cond.selects RX3 yX3_refuseNoRegister yX3_refuseNoRegister ∈ WW := ww_p (List.mem_of_getElem? (i := 2) rfl) rfl
set_option maxRecDepth 20000 in
theorem w_5221cb92dd : Cond.constant RX3 57 1953655158 ∈ WW := ww_2 (List.mem_of_getElem? (i := 43) rfl) rfl
set_option maxRecDepth 20000 in
theorem w_b1d700018f : Cond.code yX3_offeredWord cX3_offeredWord 1 (some .int) ∈ WW := ww_2 (List.mem_of_getElem? (i := 47) rfl) rfl
set_option maxRecDepth 20000 in
theorem w_0c03b8476c : Cond.methodLink RX3 58 yX3_offeredWord ∈ WW := ww_2 (List.mem_of_getElem? (i := 44) rfl) rfl
set_option maxRecDepth 20000 in
theorem w_5593e2d2bd : Cond.instanceMethod yX3_offeredWord ∈ WW := ww_2 (List.mem_of_getElem? (i := 46) rfl) rfl
set_option maxRecDepth 20000 in
theorem w_a67bf3ea62 : Cond.selects RX3 yX3_offeredWord yX3_offeredWord ∈ WW := ww_p (List.mem_of_getElem? (i := 3) rfl) rfl
theorem dX3_disk_0 : decode cX3_disk 0 = .ok (.aload_n 0, 1) := by decide +kernel
theorem dX3_disk_1 : decode cX3_disk 1 = .ok (.iload_n 1, 1) := by decide +kernel
theorem dX3_disk_2 : decode cX3_disk 2 = .ok (.invokevirtual 88, 3) := by decide +kernel
theorem dX3_disk_5 : decode cX3_disk 5 = .ok (.aload_n 0, 1) := by decide +kernel
theorem dX3_disk_6 : decode cX3_disk 6 = .ok (.getfield 23, 3) := by decide +kernel
theorem dX3_disk_9 : decode cX3_disk 9 = .ok (.iload_n 1, 1) := by decide +kernel
theorem dX3_disk_10 : decode cX3_disk 10 = .ok (.i2l, 1) := by decide +kernel
theorem dX3_disk_11 : decode cX3_disk 11 = .ok (.invokevirtual 91, 3) := by decide +kernel
theorem dX3_disk_14 : decode cX3_disk 14 = .ok (.ireturn, 1) := by decide +kernel
theorem dX3_load_0 : decode cX3_load 0 = .ok (.aload_n 0, 1) := by decide +kernel
theorem dX3_load_1 : decode cX3_load 1 = .ok (.lload_n 1, 1) := by decide +kernel
theorem dX3_load_2 : decode cX3_load 2 = .ok (.iload_n 3, 1) := by decide +kernel
theorem dX3_load_3 : decode cX3_load 3 = .ok (.invokevirtual 40, 3) := by decide +kernel
theorem dX3_load_6 : decode cX3_load 6 = .ok (.aload_n 0, 1) := by decide +kernel
theorem dX3_load_7 : decode cX3_load 7 = .ok (.getfield 19, 3) := by decide +kernel
theorem dX3_load_10 : decode cX3_load 10 = .ok (.lload_n 1, 1) := by decide +kernel
theorem dX3_load_11 : decode cX3_load 11 = .ok (.ldc2_w 44, 3) := by decide +kernel
theorem dX3_load_14 : decode cX3_load 14 = .ok (.lsub, 1) := by decide +kernel
theorem dX3_load_15 : decode cX3_load 15 = .ok (.iload_n 3, 1) := by decide +kernel
theorem dX3_load_16 : decode cX3_load 16 = .ok (.invokevirtual 46, 3) := by decide +kernel
theorem dX3_load_19 : decode cX3_load 19 = .ok (.lreturn, 1) := by decide +kernel
theorem dX3_read_0 : decode cX3_read 0 = .ok (.aload_n 0, 1) := by decide +kernel
theorem dX3_read_1 : decode cX3_read 1 = .ok (.iload_n 1, 1) := by decide +kernel
theorem dX3_read_2 : decode cX3_read 2 = .ok (.invokevirtual 54, 3) := by decide +kernel
theorem dX3_read_5 : decode cX3_read 5 = .ok (.iload_n 1, 1) := by decide +kernel
theorem dX3_read_6 : decode cX3_read 6 = .ok (.lookupswitch 144 #[(0, 82), (4, 85), (8, 85), (16, 87), (52, 92), (68, 106), (96, 129), (112, 134), (256, 139)], 82) := by decide +kernel
theorem dX3_read_88 : decode cX3_read 88 = .ok (.ldc 57, 2) := by decide +kernel
theorem dX3_read_90 : decode cX3_read 90 = .ok (.ireturn, 1) := by decide +kernel
theorem dX3_read_91 : decode cX3_read 91 = .ok (.iconst 2, 1) := by decide +kernel
theorem dX3_read_92 : decode cX3_read 92 = .ok (.ireturn, 1) := by decide +kernel
theorem dX3_read_93 : decode cX3_read 93 = .ok (.aload_n 0, 1) := by decide +kernel
theorem dX3_read_94 : decode cX3_read 94 = .ok (.invokevirtual 58, 3) := by decide +kernel
theorem dX3_read_97 : decode cX3_read 97 = .ok (.ireturn, 1) := by decide +kernel
theorem dX3_read_98 : decode cX3_read 98 = .ok (.aload_n 0, 1) := by decide +kernel
theorem dX3_read_99 : decode cX3_read 99 = .ok (.getfield 62, 3) := by decide +kernel
theorem dX3_read_102 : decode cX3_read 102 = .ok (.ifCond .ne 8, 3) := by decide +kernel
theorem dX3_read_105 : decode cX3_read 105 = .ok (.bipush 16, 2) := by decide +kernel
theorem dX3_read_107 : decode cX3_read 107 = .ok (.goto 4, 3) := by decide +kernel
theorem dX3_read_110 : decode cX3_read 110 = .ok (.iconst 0, 1) := by decide +kernel
theorem dX3_read_111 : decode cX3_read 111 = .ok (.ireturn, 1) := by decide +kernel
theorem dX3_read_112 : decode cX3_read 112 = .ok (.aload_n 0, 1) := by decide +kernel
theorem dX3_read_113 : decode cX3_read 113 = .ok (.getfield 29, 3) := by decide +kernel
theorem dX3_read_116 : decode cX3_read 116 = .ok (.getfield 65, 3) := by decide +kernel
theorem dX3_read_119 : decode cX3_read 119 = .ok (.ifCond .eq 14, 3) := by decide +kernel
theorem dX3_read_122 : decode cX3_read 122 = .ok (.aload_n 0, 1) := by decide +kernel
theorem dX3_read_123 : decode cX3_read 123 = .ok (.getfield 62, 3) := by decide +kernel
theorem dX3_read_126 : decode cX3_read 126 = .ok (.ifCond .ne 7, 3) := by decide +kernel
theorem dX3_read_129 : decode cX3_read 129 = .ok (.iconst 1, 1) := by decide +kernel
theorem dX3_read_130 : decode cX3_read 130 = .ok (.goto 4, 3) := by decide +kernel
theorem dX3_read_133 : decode cX3_read 133 = .ok (.iconst 0, 1) := by decide +kernel
theorem dX3_read_134 : decode cX3_read 134 = .ok (.ireturn, 1) := by decide +kernel
theorem dX3_read_135 : decode cX3_read 135 = .ok (.aload_n 0, 1) := by decide +kernel
theorem dX3_read_136 : decode cX3_read 136 = .ok (.getfield 69, 3) := by decide +kernel
theorem dX3_read_139 : decode cX3_read 139 = .ok (.ireturn, 1) := by decide +kernel
theorem dX3_read_140 : decode cX3_read 140 = .ok (.aload_n 0, 1) := by decide +kernel
theorem dX3_read_141 : decode cX3_read 141 = .ok (.getfield 72, 3) := by decide +kernel
theorem dX3_read_144 : decode cX3_read 144 = .ok (.ireturn, 1) := by decide +kernel
theorem dX3_read_145 : decode cX3_read 145 = .ok (.aload_n 0, 1) := by decide +kernel
theorem dX3_read_146 : decode cX3_read 146 = .ok (.getfield 9, 3) := by decide +kernel
theorem dX3_read_149 : decode cX3_read 149 = .ok (.ireturn, 1) := by decide +kernel
theorem dX3_read_150 : decode cX3_read 150 = .ok (.iconst 0, 1) := by decide +kernel
theorem dX3_read_151 : decode cX3_read 151 = .ok (.ireturn, 1) := by decide +kernel
theorem dX3_setDisk_0 : decode cX3_setDisk 0 = .ok (.aload_n 0, 1) := by decide +kernel
theorem dX3_setDisk_1 : decode cX3_setDisk 1 = .ok (.iload_n 1, 1) := by decide +kernel
theorem dX3_setDisk_2 : decode cX3_setDisk 2 = .ok (.invokevirtual 88, 3) := by decide +kernel
theorem dX3_setDisk_5 : decode cX3_setDisk 5 = .ok (.aload_n 0, 1) := by decide +kernel
theorem dX3_setDisk_6 : decode cX3_setDisk 6 = .ok (.getfield 23, 3) := by decide +kernel
theorem dX3_setDisk_9 : decode cX3_setDisk 9 = .ok (.iload_n 1, 1) := by decide +kernel
theorem dX3_setDisk_10 : decode cX3_setDisk 10 = .ok (.i2l, 1) := by decide +kernel
theorem dX3_setDisk_11 : decode cX3_setDisk 11 = .ok (.iload_n 2, 1) := by decide +kernel
theorem dX3_setDisk_12 : decode cX3_setDisk 12 = .ok (.invokevirtual 95, 3) := by decide +kernel
theorem dX3_setDisk_15 : decode cX3_setDisk 15 = .ok (.return_, 1) := by decide +kernel
theorem dX3_store_0 : decode cX3_store 0 = .ok (.aload_n 0, 1) := by decide +kernel
theorem dX3_store_1 : decode cX3_store 1 = .ok (.lload_n 1, 1) := by decide +kernel
theorem dX3_store_2 : decode cX3_store 2 = .ok (.iload_n 3, 1) := by decide +kernel
theorem dX3_store_3 : decode cX3_store 3 = .ok (.invokevirtual 40, 3) := by decide +kernel
theorem dX3_store_6 : decode cX3_store 6 = .ok (.aload_n 0, 1) := by decide +kernel
theorem dX3_store_7 : decode cX3_store 7 = .ok (.getfield 19, 3) := by decide +kernel
theorem dX3_store_10 : decode cX3_store 10 = .ok (.lload_n 1, 1) := by decide +kernel
theorem dX3_store_11 : decode cX3_store 11 = .ok (.ldc2_w 44, 3) := by decide +kernel
theorem dX3_store_14 : decode cX3_store 14 = .ok (.lsub, 1) := by decide +kernel
theorem dX3_store_15 : decode cX3_store 15 = .ok (.iload_n 3, 1) := by decide +kernel
theorem dX3_store_16 : decode cX3_store 16 = .ok (.lload 4, 2) := by decide +kernel
theorem dX3_store_18 : decode cX3_store 18 = .ok (.invokevirtual 50, 3) := by decide +kernel
theorem dX3_store_21 : decode cX3_store 21 = .ok (.return_, 1) := by decide +kernel
