/-! words and decoded instructions -/
set_option maxRecDepth 20000 in
theorem w_0715ce2be7 : Cond.fieldLink RX3 9 "QueueDisk" "sectorCount" "I" ∈ WW := ww_1 (List.mem_of_getElem? (i := 98) rfl) rfl
set_option maxRecDepth 20000 in
theorem w_b5b52a4b14 : Cond.fieldLink RX3 36 "QueueDisk" "request" "LQueueDisk$Request;" ∈ WW := ww_1 (List.mem_of_getElem? (i := 102) rfl) rfl
set_option maxRecDepth 20000 in
theorem w_7ff51f22e2 : Cond.code yX2_openData cX2_openData 3 (some .int) ∈ WW := ww_2 (List.mem_of_getElem? (i := 150) rfl) rfl
set_option maxRecDepth 20000 in
theorem w_31ccb5d60c : Cond.methodLink RX3 189 yX2_openData ∈ WW := ww_2 (List.mem_of_getElem? (i := 147) rfl) rfl
set_option maxRecDepth 20000 in
theorem w_78d87f0393 : Cond.instanceMethod yX2_openData ∈ WW := ww_2 (List.mem_of_getElem? (i := 148) rfl) rfl
set_option maxRecDepth 20000 in
theorem w_365b01e6a6 : Cond.selects RX2 yX2_openData yX2_openData ∈ WW := ww_2 (List.mem_of_getElem? (i := 149) rfl) rfl
set_option maxRecDepth 20000 in
theorem w_8ce6bd6ed9 : Cond.code yX3_onDisk cX3_onDisk 5 (some .boolean) ∈ WW := ww_2 (List.mem_of_getElem? (i := 158) rfl) rfl
set_option maxRecDepth 20000 in
theorem w_106b72596f : Cond.initialized RX3 ∈ WW := ww_1 (List.mem_of_getElem? (i := 1) rfl) rfl
set_option maxRecDepth 20000 in
theorem w_334b6d0a2e : Cond.methodLink RX3 192 yX3_onDisk ∈ WW := ww_2 (List.mem_of_getElem? (i := 155) rfl) rfl
set_option maxRecDepth 20000 in
theorem w_326ad8785b : Cond.instanceMethod yX3_onDisk ∈ WW := ww_2 (List.mem_of_getElem? (i := 157) rfl) rfl
set_option maxRecDepth 20000 in
theorem w_b619320d2b : Cond.selects RX3 yX3_onDisk yX3_onDisk ∈ WW := ww_p (List.mem_of_getElem? (i := 16) rfl) rfl
set_option maxRecDepth 20000 in
theorem w_3144b246ec : Cond.constantLong RX3 196 512 ∈ WW := ww_2 (List.mem_of_getElem? (i := 159) rfl) rfl
set_option maxRecDepth 20000 in
theorem w_f4937b3b24 : Cond.fieldLink RX3 23 "QueueDisk" "diskBytes" "LQueueDisk$Bytes;" ∈ WW := ww_1 (List.mem_of_getElem? (i := 100) rfl) rfl
set_option maxRecDepth 20000 in
theorem w_a82c1ee35f : Cond.fieldLink RX3 19 "QueueDisk" "memory" "LQueueDisk$Bytes;" ∈ WW := ww_1 (List.mem_of_getElem? (i := 99) rfl) rfl
set_option maxRecDepth 20000 in
theorem w_7fa5877d66 : Cond.code yX0_copyTo cX0_copyTo 7 none ∈ WW := ww_2 (List.mem_of_getElem? (i := 165) rfl) rfl
set_option maxRecDepth 20000 in
theorem w_46d9e21578 : Cond.methodLink RX3 212 yX0_copyTo ∈ WW := ww_2 (List.mem_of_getElem? (i := 162) rfl) rfl
set_option maxRecDepth 20000 in
theorem w_87f9183140 : Cond.instanceMethod yX0_copyTo ∈ WW := ww_2 (List.mem_of_getElem? (i := 163) rfl) rfl
set_option maxRecDepth 20000 in
theorem w_0afabca32d : Cond.selects RX0 yX0_copyTo yX0_copyTo ∈ WW := ww_2 (List.mem_of_getElem? (i := 164) rfl) rfl
set_option maxRecDepth 20000 in
theorem w_4c10018975 : Cond.code yX2_closedData cX2_closedData 3 (some .int) ∈ WW := ww_2 (List.mem_of_getElem? (i := 176) rfl) rfl
set_option maxRecDepth 20000 in
theorem w_fef05aec8a : Cond.methodLink RX3 216 yX2_closedData ∈ WW := ww_2 (List.mem_of_getElem? (i := 173) rfl) rfl
set_option maxRecDepth 20000 in
theorem w_bc869e3b75 : Cond.instanceMethod yX2_closedData ∈ WW := ww_2 (List.mem_of_getElem? (i := 174) rfl) rfl
set_option maxRecDepth 20000 in
theorem w_60ad145108 : Cond.selects RX2 yX2_closedData yX2_closedData ∈ WW := ww_2 (List.mem_of_getElem? (i := 175) rfl) rfl
set_option maxRecDepth 20000 in
theorem w_7c03c59aed : Cond.fieldLink RX3 101 "QueueDisk" "changedInAll" "I" ∈ WW := ww_1 (List.mem_of_getElem? (i := 108) rfl) rfl
theorem dX3_onDisk_0 : decode cX3_onDisk 0 = .ok (.iload_n 3, 1) := by decide +kernel
theorem dX3_onDisk_1 : decode cX3_onDisk 1 = .ok (.sipush 512, 3) := by decide +kernel
theorem dX3_onDisk_4 : decode cX3_onDisk 4 = .ok (.idiv, 1) := by decide +kernel
theorem dX3_onDisk_5 : decode cX3_onDisk 5 = .ok (.istore 4, 2) := by decide +kernel
theorem dX3_onDisk_7 : decode cX3_onDisk 7 = .ok (.iload_n 3, 1) := by decide +kernel
theorem dX3_onDisk_8 : decode cX3_onDisk 8 = .ok (.sipush 512, 3) := by decide +kernel
theorem dX3_onDisk_11 : decode cX3_onDisk 11 = .ok (.irem, 1) := by decide +kernel
theorem dX3_onDisk_12 : decode cX3_onDisk 12 = .ok (.ifCond .ne 10, 3) := by decide +kernel
theorem dX3_onDisk_15 : decode cX3_onDisk 15 = .ok (.iload 4, 2) := by decide +kernel
theorem dX3_onDisk_17 : decode cX3_onDisk 17 = .ok (.bipush 64, 2) := by decide +kernel
theorem dX3_onDisk_19 : decode cX3_onDisk 19 = .ok (.if_icmp .le 5, 3) := by decide +kernel
theorem dX3_onDisk_22 : decode cX3_onDisk 22 = .ok (.iconst 0, 1) := by decide +kernel
theorem dX3_onDisk_23 : decode cX3_onDisk 23 = .ok (.ireturn, 1) := by decide +kernel
theorem dX3_onDisk_24 : decode cX3_onDisk 24 = .ok (.iload 4, 2) := by decide +kernel
theorem dX3_onDisk_26 : decode cX3_onDisk 26 = .ok (.ifCond .eq 22, 3) := by decide +kernel
theorem dX3_onDisk_29 : decode cX3_onDisk 29 = .ok (.lload_n 1, 1) := by decide +kernel
theorem dX3_onDisk_30 : decode cX3_onDisk 30 = .ok (.lconst 0, 1) := by decide +kernel
theorem dX3_onDisk_31 : decode cX3_onDisk 31 = .ok (.lcmp, 1) := by decide +kernel
theorem dX3_onDisk_32 : decode cX3_onDisk 32 = .ok (.ifCond .lt 20, 3) := by decide +kernel
theorem dX3_onDisk_35 : decode cX3_onDisk 35 = .ok (.lload_n 1, 1) := by decide +kernel
theorem dX3_onDisk_36 : decode cX3_onDisk 36 = .ok (.aload_n 0, 1) := by decide +kernel
theorem dX3_onDisk_37 : decode cX3_onDisk 37 = .ok (.getfield 9, 3) := by decide +kernel
theorem dX3_onDisk_40 : decode cX3_onDisk 40 = .ok (.iload 4, 2) := by decide +kernel
theorem dX3_onDisk_42 : decode cX3_onDisk 42 = .ok (.isub, 1) := by decide +kernel
theorem dX3_onDisk_43 : decode cX3_onDisk 43 = .ok (.i2l, 1) := by decide +kernel
theorem dX3_onDisk_44 : decode cX3_onDisk 44 = .ok (.lcmp, 1) := by decide +kernel
theorem dX3_onDisk_45 : decode cX3_onDisk 45 = .ok (.ifCond .gt 7, 3) := by decide +kernel
theorem dX3_onDisk_48 : decode cX3_onDisk 48 = .ok (.iconst 1, 1) := by decide +kernel
theorem dX3_onDisk_49 : decode cX3_onDisk 49 = .ok (.goto 4, 3) := by decide +kernel
theorem dX3_onDisk_52 : decode cX3_onDisk 52 = .ok (.iconst 0, 1) := by decide +kernel
theorem dX3_onDisk_53 : decode cX3_onDisk 53 = .ok (.ireturn, 1) := by decide +kernel
theorem dX3_readSectors_0 : decode cX3_readSectors 0 = .ok (.aload_n 0, 1) := by decide +kernel
theorem dX3_readSectors_1 : decode cX3_readSectors 1 = .ok (.lload_n 1, 1) := by decide +kernel
theorem dX3_readSectors_2 : decode cX3_readSectors 2 = .ok (.aload_n 0, 1) := by decide +kernel
theorem dX3_readSectors_3 : decode cX3_readSectors 3 = .ok (.getfield 36, 3) := by decide +kernel
theorem dX3_readSectors_6 : decode cX3_readSectors 6 = .ok (.invokevirtual 189, 3) := by decide +kernel
theorem dX3_readSectors_9 : decode cX3_readSectors 9 = .ok (.invokevirtual 192, 3) := by decide +kernel
theorem dX3_readSectors_12 : decode cX3_readSectors 12 = .ok (.ifCond .ne 5, 3) := by decide +kernel
theorem dX3_readSectors_15 : decode cX3_readSectors 15 = .ok (.iconst 1, 1) := by decide +kernel
theorem dX3_readSectors_16 : decode cX3_readSectors 16 = .ok (.ireturn, 1) := by decide +kernel
theorem dX3_readSectors_17 : decode cX3_readSectors 17 = .ok (.lload_n 1, 1) := by decide +kernel
theorem dX3_readSectors_18 : decode cX3_readSectors 18 = .ok (.ldc2_w 196, 3) := by decide +kernel
theorem dX3_readSectors_21 : decode cX3_readSectors 21 = .ok (.lmul, 1) := by decide +kernel
theorem dX3_readSectors_22 : decode cX3_readSectors 22 = .ok (.lstore_n 3, 1) := by decide +kernel
theorem dX3_readSectors_23 : decode cX3_readSectors 23 = .ok (.aload_n 0, 1) := by decide +kernel
theorem dX3_readSectors_24 : decode cX3_readSectors 24 = .ok (.getfield 36, 3) := by decide +kernel
theorem dX3_readSectors_27 : decode cX3_readSectors 27 = .ok (.getfield 198, 3) := by decide +kernel
theorem dX3_readSectors_30 : decode cX3_readSectors 30 = .ok (.istore 5, 2) := by decide +kernel
theorem dX3_readSectors_32 : decode cX3_readSectors 32 = .ok (.iload 5, 2) := by decide +kernel
theorem dX3_readSectors_34 : decode cX3_readSectors 34 = .ok (.aload_n 0, 1) := by decide +kernel
theorem dX3_readSectors_35 : decode cX3_readSectors 35 = .ok (.getfield 36, 3) := by decide +kernel
theorem dX3_readSectors_38 : decode cX3_readSectors 38 = .ok (.getfield 201, 3) := by decide +kernel
theorem dX3_readSectors_41 : decode cX3_readSectors 41 = .ok (.if_icmp .ge 66, 3) := by decide +kernel
theorem dX3_readSectors_44 : decode cX3_readSectors 44 = .ok (.aload_n 0, 1) := by decide +kernel
theorem dX3_readSectors_45 : decode cX3_readSectors 45 = .ok (.getfield 36, 3) := by decide +kernel
theorem dX3_readSectors_48 : decode cX3_readSectors 48 = .ok (.iload 5, 2) := by decide +kernel
theorem dX3_readSectors_50 : decode cX3_readSectors 50 = .ok (.invokevirtual 204, 3) := by decide +kernel
theorem dX3_readSectors_53 : decode cX3_readSectors 53 = .ok (.istore 6, 2) := by decide +kernel
theorem dX3_readSectors_55 : decode cX3_readSectors 55 = .ok (.aload_n 0, 1) := by decide +kernel
theorem dX3_readSectors_56 : decode cX3_readSectors 56 = .ok (.getfield 23, 3) := by decide +kernel
theorem dX3_readSectors_59 : decode cX3_readSectors 59 = .ok (.lload_n 3, 1) := by decide +kernel
theorem dX3_readSectors_60 : decode cX3_readSectors 60 = .ok (.aload_n 0, 1) := by decide +kernel
theorem dX3_readSectors_61 : decode cX3_readSectors 61 = .ok (.getfield 36, 3) := by decide +kernel
theorem dX3_readSectors_64 : decode cX3_readSectors 64 = .ok (.getfield 172, 3) := by decide +kernel
theorem dX3_readSectors_67 : decode cX3_readSectors 67 = .ok (.i2l, 1) := by decide +kernel
theorem dX3_readSectors_68 : decode cX3_readSectors 68 = .ok (.ladd, 1) := by decide +kernel
theorem dX3_readSectors_69 : decode cX3_readSectors 69 = .ok (.aload_n 0, 1) := by decide +kernel
theorem dX3_readSectors_70 : decode cX3_readSectors 70 = .ok (.getfield 19, 3) := by decide +kernel
theorem dX3_readSectors_73 : decode cX3_readSectors 73 = .ok (.aload_n 0, 1) := by decide +kernel
theorem dX3_readSectors_74 : decode cX3_readSectors 74 = .ok (.getfield 36, 3) := by decide +kernel
theorem dX3_readSectors_77 : decode cX3_readSectors 77 = .ok (.iload 5, 2) := by decide +kernel
theorem dX3_readSectors_79 : decode cX3_readSectors 79 = .ok (.invokevirtual 208, 3) := by decide +kernel
theorem dX3_readSectors_82 : decode cX3_readSectors 82 = .ok (.iload 6, 2) := by decide +kernel
theorem dX3_readSectors_84 : decode cX3_readSectors 84 = .ok (.invokevirtual 212, 3) := by decide +kernel
theorem dX3_readSectors_87 : decode cX3_readSectors 87 = .ok (.aload_n 0, 1) := by decide +kernel
theorem dX3_readSectors_88 : decode cX3_readSectors 88 = .ok (.getfield 36, 3) := by decide +kernel
theorem dX3_readSectors_91 : decode cX3_readSectors 91 = .ok (.dup, 1) := by decide +kernel
theorem dX3_readSectors_92 : decode cX3_readSectors 92 = .ok (.getfield 172, 3) := by decide +kernel
theorem dX3_readSectors_95 : decode cX3_readSectors 95 = .ok (.iload 6, 2) := by decide +kernel
theorem dX3_readSectors_97 : decode cX3_readSectors 97 = .ok (.iadd, 1) := by decide +kernel
theorem dX3_readSectors_98 : decode cX3_readSectors 98 = .ok (.putfield 172, 3) := by decide +kernel
theorem dX3_readSectors_101 : decode cX3_readSectors 101 = .ok (.iinc 5 1, 3) := by decide +kernel
theorem dX3_readSectors_104 : decode cX3_readSectors 104 = .ok (.goto (-72), 3) := by decide +kernel
theorem dX3_readSectors_107 : decode cX3_readSectors 107 = .ok (.iconst 0, 1) := by decide +kernel
theorem dX3_readSectors_108 : decode cX3_readSectors 108 = .ok (.ireturn, 1) := by decide +kernel
theorem dX3_writeSectors_0 : decode cX3_writeSectors 0 = .ok (.aload_n 0, 1) := by decide +kernel
theorem dX3_writeSectors_1 : decode cX3_writeSectors 1 = .ok (.getfield 36, 3) := by decide +kernel
theorem dX3_writeSectors_4 : decode cX3_writeSectors 4 = .ok (.invokevirtual 216, 3) := by decide +kernel
theorem dX3_writeSectors_7 : decode cX3_writeSectors 7 = .ok (.istore_n 3, 1) := by decide +kernel
theorem dX3_writeSectors_8 : decode cX3_writeSectors 8 = .ok (.aload_n 0, 1) := by decide +kernel
theorem dX3_writeSectors_9 : decode cX3_writeSectors 9 = .ok (.lload_n 1, 1) := by decide +kernel
theorem dX3_writeSectors_10 : decode cX3_writeSectors 10 = .ok (.iload_n 3, 1) := by decide +kernel
theorem dX3_writeSectors_11 : decode cX3_writeSectors 11 = .ok (.invokevirtual 192, 3) := by decide +kernel
theorem dX3_writeSectors_14 : decode cX3_writeSectors 14 = .ok (.ifCond .ne 5, 3) := by decide +kernel
theorem dX3_writeSectors_17 : decode cX3_writeSectors 17 = .ok (.iconst 1, 1) := by decide +kernel
theorem dX3_writeSectors_18 : decode cX3_writeSectors 18 = .ok (.ireturn, 1) := by decide +kernel
theorem dX3_writeSectors_19 : decode cX3_writeSectors 19 = .ok (.lload_n 1, 1) := by decide +kernel
theorem dX3_writeSectors_20 : decode cX3_writeSectors 20 = .ok (.ldc2_w 196, 3) := by decide +kernel
theorem dX3_writeSectors_23 : decode cX3_writeSectors 23 = .ok (.lmul, 1) := by decide +kernel
theorem dX3_writeSectors_24 : decode cX3_writeSectors 24 = .ok (.lstore 4, 2) := by decide +kernel
theorem dX3_writeSectors_26 : decode cX3_writeSectors 26 = .ok (.iconst 1, 1) := by decide +kernel
theorem dX3_writeSectors_27 : decode cX3_writeSectors 27 = .ok (.istore 6, 2) := by decide +kernel
theorem dX3_writeSectors_29 : decode cX3_writeSectors 29 = .ok (.iload 6, 2) := by decide +kernel
theorem dX3_writeSectors_31 : decode cX3_writeSectors 31 = .ok (.aload_n 0, 1) := by decide +kernel
theorem dX3_writeSectors_32 : decode cX3_writeSectors 32 = .ok (.getfield 36, 3) := by decide +kernel
theorem dX3_writeSectors_35 : decode cX3_writeSectors 35 = .ok (.getfield 198, 3) := by decide +kernel
theorem dX3_writeSectors_38 : decode cX3_writeSectors 38 = .ok (.if_icmp .ge 52, 3) := by decide +kernel
theorem dX3_writeSectors_41 : decode cX3_writeSectors 41 = .ok (.aload_n 0, 1) := by decide +kernel
theorem dX3_writeSectors_42 : decode cX3_writeSectors 42 = .ok (.getfield 36, 3) := by decide +kernel
theorem dX3_writeSectors_45 : decode cX3_writeSectors 45 = .ok (.iload 6, 2) := by decide +kernel
theorem dX3_writeSectors_47 : decode cX3_writeSectors 47 = .ok (.invokevirtual 219, 3) := by decide +kernel
theorem dX3_writeSectors_50 : decode cX3_writeSectors 50 = .ok (.istore 7, 2) := by decide +kernel
theorem dX3_writeSectors_52 : decode cX3_writeSectors 52 = .ok (.aload_n 0, 1) := by decide +kernel
theorem dX3_writeSectors_53 : decode cX3_writeSectors 53 = .ok (.getfield 19, 3) := by decide +kernel
theorem dX3_writeSectors_56 : decode cX3_writeSectors 56 = .ok (.aload_n 0, 1) := by decide +kernel
theorem dX3_writeSectors_57 : decode cX3_writeSectors 57 = .ok (.getfield 36, 3) := by decide +kernel
theorem dX3_writeSectors_60 : decode cX3_writeSectors 60 = .ok (.iload 6, 2) := by decide +kernel
theorem dX3_writeSectors_62 : decode cX3_writeSectors 62 = .ok (.invokevirtual 208, 3) := by decide +kernel
theorem dX3_writeSectors_65 : decode cX3_writeSectors 65 = .ok (.aload_n 0, 1) := by decide +kernel
theorem dX3_writeSectors_66 : decode cX3_writeSectors 66 = .ok (.getfield 23, 3) := by decide +kernel
theorem dX3_writeSectors_69 : decode cX3_writeSectors 69 = .ok (.lload 4, 2) := by decide +kernel
theorem dX3_writeSectors_71 : decode cX3_writeSectors 71 = .ok (.iload 7, 2) := by decide +kernel
theorem dX3_writeSectors_73 : decode cX3_writeSectors 73 = .ok (.invokevirtual 212, 3) := by decide +kernel
theorem dX3_writeSectors_76 : decode cX3_writeSectors 76 = .ok (.lload 4, 2) := by decide +kernel
theorem dX3_writeSectors_78 : decode cX3_writeSectors 78 = .ok (.iload 7, 2) := by decide +kernel
theorem dX3_writeSectors_80 : decode cX3_writeSectors 80 = .ok (.i2l, 1) := by decide +kernel
theorem dX3_writeSectors_81 : decode cX3_writeSectors 81 = .ok (.ladd, 1) := by decide +kernel
theorem dX3_writeSectors_82 : decode cX3_writeSectors 82 = .ok (.lstore 4, 2) := by decide +kernel
theorem dX3_writeSectors_84 : decode cX3_writeSectors 84 = .ok (.iinc 6 1, 3) := by decide +kernel
theorem dX3_writeSectors_87 : decode cX3_writeSectors 87 = .ok (.goto (-58), 3) := by decide +kernel
theorem dX3_writeSectors_90 : decode cX3_writeSectors 90 = .ok (.aload_n 0, 1) := by decide +kernel
theorem dX3_writeSectors_91 : decode cX3_writeSectors 91 = .ok (.dup, 1) := by decide +kernel
theorem dX3_writeSectors_92 : decode cX3_writeSectors 92 = .ok (.getfield 101, 3) := by decide +kernel
theorem dX3_writeSectors_95 : decode cX3_writeSectors 95 = .ok (.iload_n 3, 1) := by decide +kernel
theorem dX3_writeSectors_96 : decode cX3_writeSectors 96 = .ok (.sipush 512, 3) := by decide +kernel
theorem dX3_writeSectors_99 : decode cX3_writeSectors 99 = .ok (.idiv, 1) := by decide +kernel
theorem dX3_writeSectors_100 : decode cX3_writeSectors 100 = .ok (.iadd, 1) := by decide +kernel
theorem dX3_writeSectors_101 : decode cX3_writeSectors 101 = .ok (.putfield 101, 3) := by decide +kernel
theorem dX3_writeSectors_104 : decode cX3_writeSectors 104 = .ok (.iconst 0, 1) := by decide +kernel
theorem dX3_writeSectors_105 : decode cX3_writeSectors 105 = .ok (.ireturn, 1) := by decide +kernel
