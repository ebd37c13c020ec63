/-! words and decoded instructions -/
set_option maxRecDepth 20000 in
theorem w_feceabba31 : Cond.code yX3_load cX3_load 4 (some .long) ∈ WW := ww_1 (List.mem_of_getElem? (i := 155) rfl) rfl
set_option maxRecDepth 20000 in
theorem w_0c84cc4b5a : Cond.methodLink RL 7 yX3_load ∈ WW := ww_1 (List.mem_of_getElem? (i := 152) rfl) rfl
set_option maxRecDepth 20000 in
theorem w_131135c09c : Cond.instanceMethod yX3_load ∈ WW := ww_1 (List.mem_of_getElem? (i := 153) rfl) rfl
set_option maxRecDepth 20000 in
theorem w_c37d44147c : Cond.selects RX3 yX3_load yX3_load ∈ WW := ww_1 (List.mem_of_getElem? (i := 154) rfl) rfl
set_option maxRecDepth 20000 in
theorem w_fec2ae9526 : Cond.classLink RL 13 "java/lang/IllegalArgumentException" ∈ WW := ww_1 (List.mem_of_getElem? (i := 150) rfl) rfl
set_option maxRecDepth 20000 in
theorem w_dbeeff8ac7 : Cond.classLink RL 15 "java/lang/IndexOutOfBoundsException" ∈ WW := ww_1 (List.mem_of_getElem? (i := 151) rfl) rfl
set_option maxRecDepth 20000 in
theorem w_270242b33f : Cond.code yX3_store cX3_store 6 none ∈ WW := ww_2 (List.mem_of_getElem? (i := 22) rfl) rfl
set_option maxRecDepth 20000 in
theorem w_6a69d9a49a : Cond.methodLink RL 17 yX3_store ∈ WW := ww_2 (List.mem_of_getElem? (i := 19) rfl) rfl
set_option maxRecDepth 20000 in
theorem w_e16b8a6859 : Cond.instanceMethod yX3_store ∈ WW := ww_2 (List.mem_of_getElem? (i := 20) rfl) rfl
set_option maxRecDepth 20000 in
theorem w_bd81ac26e7 : Cond.selects RX3 yX3_store yX3_store ∈ WW := ww_2 (List.mem_of_getElem? (i := 21) rfl) rfl
set_option maxRecDepth 20000 in
theorem w_46d682f85f : Cond.code yX3_disk cX3_disk 2 (some .int) ∈ WW := ww_2 (List.mem_of_getElem? (i := 231) rfl) rfl
set_option maxRecDepth 20000 in
theorem w_0b1dab0b45 : Cond.methodLink RL 29 yX3_disk ∈ WW := ww_2 (List.mem_of_getElem? (i := 228) rfl) rfl
set_option maxRecDepth 20000 in
theorem w_d1cfef0bc7 : Cond.instanceMethod yX3_disk ∈ WW := ww_2 (List.mem_of_getElem? (i := 229) rfl) rfl
set_option maxRecDepth 20000 in
theorem w_7ef169d9a2 : Cond.selects RX3 yX3_disk yX3_disk ∈ WW := ww_2 (List.mem_of_getElem? (i := 230) rfl) rfl
set_option maxRecDepth 20000 in
theorem w_3d62780fa3 : Cond.code yX3_setDisk cX3_setDisk 3 none ∈ WW := ww_3 (List.mem_of_getElem? (i := 4) rfl) rfl
set_option maxRecDepth 20000 in
theorem w_bc42299b3f : Cond.methodLink RL 32 yX3_setDisk ∈ WW := ww_3 (List.mem_of_getElem? (i := 1) rfl) rfl
set_option maxRecDepth 20000 in
theorem w_42d74c71dd : Cond.instanceMethod yX3_setDisk ∈ WW := ww_3 (List.mem_of_getElem? (i := 2) rfl) rfl
set_option maxRecDepth 20000 in
theorem w_95041be81b : Cond.selects RX3 yX3_setDisk yX3_setDisk ∈ WW := ww_3 (List.mem_of_getElem? (i := 3) rfl) rfl
set_option maxRecDepth 20000 in
theorem w_88dd2d6b7c : Cond.code yX3_read cX3_read 2 (some .int) ∈ WW := ww_2 (List.mem_of_getElem? (i := 37) rfl) rfl
set_option maxRecDepth 20000 in
theorem w_804b0b039f : Cond.methodLink RL 21 yX3_read ∈ WW := ww_2 (List.mem_of_getElem? (i := 34) rfl) rfl
set_option maxRecDepth 20000 in
theorem w_156a06de21 : Cond.instanceMethod yX3_read ∈ WW := ww_2 (List.mem_of_getElem? (i := 35) rfl) rfl
set_option maxRecDepth 20000 in
theorem w_35232e18b3 : Cond.selects RX3 yX3_read yX3_read ∈ WW := ww_2 (List.mem_of_getElem? (i := 36) rfl) rfl
set_option maxRecDepth 20000 in
theorem w_25bc15cb69 : Cond.code yX3_write cX3_write 3 none ∈ WW := ww_2 (List.mem_of_getElem? (i := 54) rfl) rfl
set_option maxRecDepth 20000 in
theorem w_c7cad3e6c5 : Cond.methodLink RL 25 yX3_write ∈ WW := ww_2 (List.mem_of_getElem? (i := 51) rfl) rfl
set_option maxRecDepth 20000 in
theorem w_6541820822 : Cond.instanceMethod yX3_write ∈ WW := ww_2 (List.mem_of_getElem? (i := 52) rfl) rfl
set_option maxRecDepth 20000 in
theorem w_509ed58952 : Cond.selects RX3 yX3_write yX3_write ∈ WW := ww_2 (List.mem_of_getElem? (i := 53) rfl) rfl
theorem dL_disk_0 : decode cL_disk 0 = .ok (.aload_n 2, 1) := by decide +kernel
theorem dL_disk_1 : decode cL_disk 1 = .ok (.iconst 0, 1) := by decide +kernel
theorem dL_disk_2 : decode cL_disk 2 = .ok (.aload_n 0, 1) := by decide +kernel
theorem dL_disk_3 : decode cL_disk 3 = .ok (.iload_n 1, 1) := by decide +kernel
theorem dL_disk_4 : decode cL_disk 4 = .ok (.invokevirtual 29, 3) := by decide +kernel
theorem dL_disk_7 : decode cL_disk 7 = .ok (.i2l, 1) := by decide +kernel
theorem dL_disk_8 : decode cL_disk 8 = .ok (.lastore, 1) := by decide +kernel
theorem dL_disk_9 : decode cL_disk 9 = .ok (.goto 6, 3) := by decide +kernel
theorem dL_disk_12 : decode cL_disk 12 = .ok (.astore_n 3, 1) := by decide +kernel
theorem dL_disk_13 : decode cL_disk 13 = .ok (.iconst 1, 1) := by decide +kernel
theorem dL_disk_14 : decode cL_disk 14 = .ok (.ireturn, 1) := by decide +kernel
theorem dL_disk_15 : decode cL_disk 15 = .ok (.iconst 0, 1) := by decide +kernel
theorem dL_disk_16 : decode cL_disk 16 = .ok (.ireturn, 1) := by decide +kernel
theorem dL_load_0 : decode cL_load 0 = .ok (.aload 4, 2) := by decide +kernel
theorem dL_load_2 : decode cL_load 2 = .ok (.iconst 0, 1) := by decide +kernel
theorem dL_load_3 : decode cL_load 3 = .ok (.aload_n 0, 1) := by decide +kernel
theorem dL_load_4 : decode cL_load 4 = .ok (.lload_n 1, 1) := by decide +kernel
theorem dL_load_5 : decode cL_load 5 = .ok (.iload_n 3, 1) := by decide +kernel
theorem dL_load_6 : decode cL_load 6 = .ok (.invokevirtual 7, 3) := by decide +kernel
theorem dL_load_9 : decode cL_load 9 = .ok (.lastore, 1) := by decide +kernel
theorem dL_load_10 : decode cL_load 10 = .ok (.goto 11, 3) := by decide +kernel
theorem dL_load_13 : decode cL_load 13 = .ok (.astore 5, 2) := by decide +kernel
theorem dL_load_15 : decode cL_load 15 = .ok (.iconst 1, 1) := by decide +kernel
theorem dL_load_16 : decode cL_load 16 = .ok (.ireturn, 1) := by decide +kernel
theorem dL_load_17 : decode cL_load 17 = .ok (.astore 5, 2) := by decide +kernel
theorem dL_load_19 : decode cL_load 19 = .ok (.iconst 2, 1) := by decide +kernel
theorem dL_load_20 : decode cL_load 20 = .ok (.ireturn, 1) := by decide +kernel
theorem dL_load_21 : decode cL_load 21 = .ok (.iconst 0, 1) := by decide +kernel
theorem dL_load_22 : decode cL_load 22 = .ok (.ireturn, 1) := by decide +kernel
theorem dL_read_0 : decode cL_read 0 = .ok (.aload_n 2, 1) := by decide +kernel
theorem dL_read_1 : decode cL_read 1 = .ok (.iconst 0, 1) := by decide +kernel
theorem dL_read_2 : decode cL_read 2 = .ok (.aload_n 0, 1) := by decide +kernel
theorem dL_read_3 : decode cL_read 3 = .ok (.iload_n 1, 1) := by decide +kernel
theorem dL_read_4 : decode cL_read 4 = .ok (.invokevirtual 21, 3) := by decide +kernel
theorem dL_read_7 : decode cL_read 7 = .ok (.i2l, 1) := by decide +kernel
theorem dL_read_8 : decode cL_read 8 = .ok (.lastore, 1) := by decide +kernel
theorem dL_read_9 : decode cL_read 9 = .ok (.goto 6, 3) := by decide +kernel
theorem dL_read_12 : decode cL_read 12 = .ok (.astore_n 3, 1) := by decide +kernel
theorem dL_read_13 : decode cL_read 13 = .ok (.iconst 1, 1) := by decide +kernel
theorem dL_read_14 : decode cL_read 14 = .ok (.ireturn, 1) := by decide +kernel
theorem dL_read_15 : decode cL_read 15 = .ok (.iconst 0, 1) := by decide +kernel
theorem dL_read_16 : decode cL_read 16 = .ok (.ireturn, 1) := by decide +kernel
theorem dL_setDisk_0 : decode cL_setDisk 0 = .ok (.aload_n 0, 1) := by decide +kernel
theorem dL_setDisk_1 : decode cL_setDisk 1 = .ok (.iload_n 1, 1) := by decide +kernel
theorem dL_setDisk_2 : decode cL_setDisk 2 = .ok (.iload_n 2, 1) := by decide +kernel
theorem dL_setDisk_3 : decode cL_setDisk 3 = .ok (.invokevirtual 32, 3) := by decide +kernel
theorem dL_setDisk_6 : decode cL_setDisk 6 = .ok (.goto 6, 3) := by decide +kernel
theorem dL_setDisk_9 : decode cL_setDisk 9 = .ok (.astore_n 3, 1) := by decide +kernel
theorem dL_setDisk_10 : decode cL_setDisk 10 = .ok (.iconst 1, 1) := by decide +kernel
theorem dL_setDisk_11 : decode cL_setDisk 11 = .ok (.ireturn, 1) := by decide +kernel
theorem dL_setDisk_12 : decode cL_setDisk 12 = .ok (.iconst 0, 1) := by decide +kernel
theorem dL_setDisk_13 : decode cL_setDisk 13 = .ok (.ireturn, 1) := by decide +kernel
theorem dL_store_0 : decode cL_store 0 = .ok (.aload_n 0, 1) := by decide +kernel
theorem dL_store_1 : decode cL_store 1 = .ok (.lload_n 1, 1) := by decide +kernel
theorem dL_store_2 : decode cL_store 2 = .ok (.iload_n 3, 1) := by decide +kernel
theorem dL_store_3 : decode cL_store 3 = .ok (.lload 4, 2) := by decide +kernel
theorem dL_store_5 : decode cL_store 5 = .ok (.invokevirtual 17, 3) := by decide +kernel
theorem dL_store_8 : decode cL_store 8 = .ok (.goto 11, 3) := by decide +kernel
theorem dL_store_11 : decode cL_store 11 = .ok (.astore 6, 2) := by decide +kernel
theorem dL_store_13 : decode cL_store 13 = .ok (.iconst 1, 1) := by decide +kernel
theorem dL_store_14 : decode cL_store 14 = .ok (.ireturn, 1) := by decide +kernel
theorem dL_store_15 : decode cL_store 15 = .ok (.astore 6, 2) := by decide +kernel
theorem dL_store_17 : decode cL_store 17 = .ok (.iconst 2, 1) := by decide +kernel
theorem dL_store_18 : decode cL_store 18 = .ok (.ireturn, 1) := by decide +kernel
theorem dL_store_19 : decode cL_store 19 = .ok (.iconst 0, 1) := by decide +kernel
theorem dL_store_20 : decode cL_store 20 = .ok (.ireturn, 1) := by decide +kernel
theorem dL_write_0 : decode cL_write 0 = .ok (.aload_n 0, 1) := by decide +kernel
theorem dL_write_1 : decode cL_write 1 = .ok (.iload_n 1, 1) := by decide +kernel
theorem dL_write_2 : decode cL_write 2 = .ok (.iload_n 2, 1) := by decide +kernel
theorem dL_write_3 : decode cL_write 3 = .ok (.invokevirtual 25, 3) := by decide +kernel
theorem dL_write_6 : decode cL_write 6 = .ok (.goto 6, 3) := by decide +kernel
theorem dL_write_9 : decode cL_write 9 = .ok (.astore_n 3, 1) := by decide +kernel
theorem dL_write_10 : decode cL_write 10 = .ok (.iconst 1, 1) := by decide +kernel
theorem dL_write_11 : decode cL_write 11 = .ok (.ireturn, 1) := by decide +kernel
theorem dL_write_12 : decode cL_write 12 = .ok (.iconst 0, 1) := by decide +kernel
theorem dL_write_13 : decode cL_write 13 = .ok (.ireturn, 1) := by decide +kernel
