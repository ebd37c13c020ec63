/-! words and decoded instructions -/
set_option maxRecDepth 20000 in
theorem w_97c97d339d : Cond.classLink RX3 115 "java/lang/IndexOutOfBoundsException" ∈ WW := ww_1 (List.mem_of_getElem? (i := 231) rfl) rfl
set_option maxRecDepth 20000 in
theorem w_09a086a1da : Cond.initialized "java/lang/IndexOutOfBoundsException" ∈ WW := ww_1 (List.mem_of_getElem? (i := 10) rfl) rfl
set_option maxRecDepth 20000 in
theorem w_a0d67afbf5 : Cond.constantLong RX3 44 2147483648 ∈ WW := ww_1 (List.mem_of_getElem? (i := 226) rfl) rfl
set_option maxRecDepth 20000 in
theorem w_6d848071f2 : Cond.classLink RX3 104 "java/lang/IllegalArgumentException" ∈ WW := ww_1 (List.mem_of_getElem? (i := 160) rfl) rfl
set_option maxRecDepth 20000 in
theorem w_6e2069b840 : Cond.initialized "java/lang/IllegalArgumentException" ∈ WW := ww_1 (List.mem_of_getElem? (i := 9) rfl) rfl
theorem dX3_refuseNoRegister_0 : decode cX3_refuseNoRegister 0 = .ok (.iload_n 1, 1) := by decide +kernel
theorem dX3_refuseNoRegister_1 : decode cX3_refuseNoRegister 1 = .ok (.ifCond .lt 16, 3) := by decide +kernel
theorem dX3_refuseNoRegister_4 : decode cX3_refuseNoRegister 4 = .ok (.iload_n 1, 1) := by decide +kernel
theorem dX3_refuseNoRegister_5 : decode cX3_refuseNoRegister 5 = .ok (.sipush 508, 3) := by decide +kernel
theorem dX3_refuseNoRegister_8 : decode cX3_refuseNoRegister 8 = .ok (.if_icmp .gt 9, 3) := by decide +kernel
theorem dX3_refuseNoRegister_11 : decode cX3_refuseNoRegister 11 = .ok (.iload_n 1, 1) := by decide +kernel
theorem dX3_refuseNoRegister_12 : decode cX3_refuseNoRegister 12 = .ok (.iconst 3, 1) := by decide +kernel
theorem dX3_refuseNoRegister_13 : decode cX3_refuseNoRegister 13 = .ok (.iand, 1) := by decide +kernel
theorem dX3_refuseNoRegister_14 : decode cX3_refuseNoRegister 14 = .ok (.ifCond .eq 13, 3) := by decide +kernel
theorem dX3_refuseNoRegister_17 : decode cX3_refuseNoRegister 17 = .ok (.new 115, 3) := by decide +kernel
theorem dX3_refuseNoRegister_20 : decode cX3_refuseNoRegister 20 = .ok (.dup, 1) := by decide +kernel
theorem dX3_refuseNoRegister_21 : decode cX3_refuseNoRegister 21 = .ok (.ldc 120, 2) := by decide +kernel
theorem dX3_refuseNoRegister_23 : decode cX3_refuseNoRegister 23 = .ok (.invokespecial 119, 3) := by decide +kernel
theorem dX3_refuseNoRegister_26 : decode cX3_refuseNoRegister 26 = .ok (.athrow, 1) := by decide +kernel
theorem dX3_refuseNoRegister_27 : decode cX3_refuseNoRegister 27 = .ok (.return_, 1) := by decide +kernel
theorem dX3_refuseOutsideDisk_0 : decode cX3_refuseOutsideDisk 0 = .ok (.aload_n 0, 1) := by decide +kernel
theorem dX3_refuseOutsideDisk_1 : decode cX3_refuseOutsideDisk 1 = .ok (.getfield 23, 3) := by decide +kernel
theorem dX3_refuseOutsideDisk_4 : decode cX3_refuseOutsideDisk 4 = .ok (.iload_n 1, 1) := by decide +kernel
theorem dX3_refuseOutsideDisk_5 : decode cX3_refuseOutsideDisk 5 = .ok (.i2l, 1) := by decide +kernel
theorem dX3_refuseOutsideDisk_6 : decode cX3_refuseOutsideDisk 6 = .ok (.lconst 1, 1) := by decide +kernel
theorem dX3_refuseOutsideDisk_7 : decode cX3_refuseOutsideDisk 7 = .ok (.invokevirtual 111, 3) := by decide +kernel
theorem dX3_refuseOutsideDisk_10 : decode cX3_refuseOutsideDisk 10 = .ok (.ifCond .ne 13, 3) := by decide +kernel
theorem dX3_refuseOutsideDisk_13 : decode cX3_refuseOutsideDisk 13 = .ok (.new 115, 3) := by decide +kernel
theorem dX3_refuseOutsideDisk_16 : decode cX3_refuseOutsideDisk 16 = .ok (.dup, 1) := by decide +kernel
theorem dX3_refuseOutsideDisk_17 : decode cX3_refuseOutsideDisk 17 = .ok (.ldc 122, 2) := by decide +kernel
theorem dX3_refuseOutsideDisk_19 : decode cX3_refuseOutsideDisk 19 = .ok (.invokespecial 119, 3) := by decide +kernel
theorem dX3_refuseOutsideDisk_22 : decode cX3_refuseOutsideDisk 22 = .ok (.athrow, 1) := by decide +kernel
theorem dX3_refuseOutsideDisk_23 : decode cX3_refuseOutsideDisk 23 = .ok (.return_, 1) := by decide +kernel
theorem dX3_refuseOutsideMemory_0 : decode cX3_refuseOutsideMemory 0 = .ok (.iload_n 3, 1) := by decide +kernel
theorem dX3_refuseOutsideMemory_1 : decode cX3_refuseOutsideMemory 1 = .ok (.iconst 1, 1) := by decide +kernel
theorem dX3_refuseOutsideMemory_2 : decode cX3_refuseOutsideMemory 2 = .ok (.if_icmp .eq 29, 3) := by decide +kernel
theorem dX3_refuseOutsideMemory_5 : decode cX3_refuseOutsideMemory 5 = .ok (.iload_n 3, 1) := by decide +kernel
theorem dX3_refuseOutsideMemory_6 : decode cX3_refuseOutsideMemory 6 = .ok (.iconst 2, 1) := by decide +kernel
theorem dX3_refuseOutsideMemory_7 : decode cX3_refuseOutsideMemory 7 = .ok (.if_icmp .eq 24, 3) := by decide +kernel
theorem dX3_refuseOutsideMemory_10 : decode cX3_refuseOutsideMemory 10 = .ok (.iload_n 3, 1) := by decide +kernel
theorem dX3_refuseOutsideMemory_11 : decode cX3_refuseOutsideMemory 11 = .ok (.iconst 4, 1) := by decide +kernel
theorem dX3_refuseOutsideMemory_12 : decode cX3_refuseOutsideMemory 12 = .ok (.if_icmp .eq 19, 3) := by decide +kernel
theorem dX3_refuseOutsideMemory_15 : decode cX3_refuseOutsideMemory 15 = .ok (.iload_n 3, 1) := by decide +kernel
theorem dX3_refuseOutsideMemory_16 : decode cX3_refuseOutsideMemory 16 = .ok (.bipush 8, 2) := by decide +kernel
theorem dX3_refuseOutsideMemory_18 : decode cX3_refuseOutsideMemory 18 = .ok (.if_icmp .eq 13, 3) := by decide +kernel
theorem dX3_refuseOutsideMemory_21 : decode cX3_refuseOutsideMemory 21 = .ok (.new 104, 3) := by decide +kernel
theorem dX3_refuseOutsideMemory_24 : decode cX3_refuseOutsideMemory 24 = .ok (.dup, 1) := by decide +kernel
theorem dX3_refuseOutsideMemory_25 : decode cX3_refuseOutsideMemory 25 = .ok (.ldc 106, 2) := by decide +kernel
theorem dX3_refuseOutsideMemory_27 : decode cX3_refuseOutsideMemory 27 = .ok (.invokespecial 108, 3) := by decide +kernel
theorem dX3_refuseOutsideMemory_30 : decode cX3_refuseOutsideMemory 30 = .ok (.athrow, 1) := by decide +kernel
theorem dX3_refuseOutsideMemory_31 : decode cX3_refuseOutsideMemory 31 = .ok (.aload_n 0, 1) := by decide +kernel
theorem dX3_refuseOutsideMemory_32 : decode cX3_refuseOutsideMemory 32 = .ok (.getfield 19, 3) := by decide +kernel
theorem dX3_refuseOutsideMemory_35 : decode cX3_refuseOutsideMemory 35 = .ok (.lload_n 1, 1) := by decide +kernel
theorem dX3_refuseOutsideMemory_36 : decode cX3_refuseOutsideMemory 36 = .ok (.ldc2_w 44, 3) := by decide +kernel
theorem dX3_refuseOutsideMemory_39 : decode cX3_refuseOutsideMemory 39 = .ok (.lsub, 1) := by decide +kernel
theorem dX3_refuseOutsideMemory_40 : decode cX3_refuseOutsideMemory 40 = .ok (.iload_n 3, 1) := by decide +kernel
theorem dX3_refuseOutsideMemory_41 : decode cX3_refuseOutsideMemory 41 = .ok (.i2l, 1) := by decide +kernel
theorem dX3_refuseOutsideMemory_42 : decode cX3_refuseOutsideMemory 42 = .ok (.invokevirtual 111, 3) := by decide +kernel
theorem dX3_refuseOutsideMemory_45 : decode cX3_refuseOutsideMemory 45 = .ok (.ifCond .ne 13, 3) := by decide +kernel
theorem dX3_refuseOutsideMemory_48 : decode cX3_refuseOutsideMemory 48 = .ok (.new 115, 3) := by decide +kernel
theorem dX3_refuseOutsideMemory_51 : decode cX3_refuseOutsideMemory 51 = .ok (.dup, 1) := by decide +kernel
theorem dX3_refuseOutsideMemory_52 : decode cX3_refuseOutsideMemory 52 = .ok (.ldc 117, 2) := by decide +kernel
theorem dX3_refuseOutsideMemory_54 : decode cX3_refuseOutsideMemory 54 = .ok (.invokespecial 119, 3) := by decide +kernel
theorem dX3_refuseOutsideMemory_57 : decode cX3_refuseOutsideMemory 57 = .ok (.athrow, 1) := by decide +kernel
theorem dX3_refuseOutsideMemory_58 : decode cX3_refuseOutsideMemory 58 = .ok (.return_, 1) := by decide +kernel
