/-! words and decoded instructions -/
set_option maxRecDepth 20000 in
theorem w_18a4d6a983 : Cond.constantLong RX4 40 255 ∈ WW := ww_3 (List.mem_of_getElem? (i := 108) rfl) rfl
set_option maxRecDepth 20000 in
theorem w_2cff31ae2b : Cond.constantLong RX4 42 (-1) ∈ WW := ww_3 (List.mem_of_getElem? (i := 109) rfl) rfl
set_option maxRecDepth 20000 in
theorem w_da329b00a8 : Cond.constantLong RX4 44 2147483648 ∈ WW := ww_3 (List.mem_of_getElem? (i := 87) rfl) rfl
set_option maxRecDepth 20000 in
theorem w_572109e9b2 : Cond.constantLong RX4 46 2147549184 ∈ WW := ww_3 (List.mem_of_getElem? (i := 88) rfl) rfl
set_option maxRecDepth 20000 in
theorem w_247cec4ed1 : Cond.constantLong RX4 48 256 ∈ WW := ww_3 (List.mem_of_getElem? (i := 93) rfl) rfl
set_option maxRecDepth 20000 in
theorem w_cba42bc570 : Cond.fieldLink RX4 7 "QueueDiskModel" "memory" "[J" ∈ WW := ww_3 (List.mem_of_getElem? (i := 14) rfl) rfl
set_option maxRecDepth 20000 in
theorem w_0c3ce745cc : Cond.code yX4_byteOf cX4_byteOf 2 (some .int) ∈ WW := ww_3 (List.mem_of_getElem? (i := 96) rfl) rfl
set_option maxRecDepth 20000 in
theorem w_2b384744dc : Cond.initialized RX4 ∈ WW := ww_1 (List.mem_of_getElem? (i := 5) rfl) rfl
set_option maxRecDepth 20000 in
theorem w_0040d9f8c6 : Cond.methodLink RX4 50 yX4_byteOf ∈ WW := ww_3 (List.mem_of_getElem? (i := 94) rfl) rfl
set_option maxRecDepth 20000 in
theorem w_54d35d2618 : Cond.static yX4_byteOf ∈ WW := ww_3 (List.mem_of_getElem? (i := 95) rfl) rfl
set_option maxRecDepth 20000 in
theorem w_6cd80c4d0e : Cond.code yX4_putByte cX4_putByte 4 none ∈ WW := ww_3 (List.mem_of_getElem? (i := 107) rfl) rfl
set_option maxRecDepth 20000 in
theorem w_25dd54422a : Cond.methodLink RX4 54 yX4_putByte ∈ WW := ww_3 (List.mem_of_getElem? (i := 105) rfl) rfl
set_option maxRecDepth 20000 in
theorem w_d05a527ec7 : Cond.static yX4_putByte ∈ WW := ww_3 (List.mem_of_getElem? (i := 106) rfl) rfl
theorem dX4_byteOf_0 : decode cX4_byteOf 0 = .ok (.aload_n 0, 1) := by decide +kernel
theorem dX4_byteOf_1 : decode cX4_byteOf 1 = .ok (.iload_n 1, 1) := by decide +kernel
theorem dX4_byteOf_2 : decode cX4_byteOf 2 = .ok (.bipush 8, 2) := by decide +kernel
theorem dX4_byteOf_4 : decode cX4_byteOf 4 = .ok (.idiv, 1) := by decide +kernel
theorem dX4_byteOf_5 : decode cX4_byteOf 5 = .ok (.laload, 1) := by decide +kernel
theorem dX4_byteOf_6 : decode cX4_byteOf 6 = .ok (.bipush 8, 2) := by decide +kernel
theorem dX4_byteOf_8 : decode cX4_byteOf 8 = .ok (.iload_n 1, 1) := by decide +kernel
theorem dX4_byteOf_9 : decode cX4_byteOf 9 = .ok (.bipush 8, 2) := by decide +kernel
theorem dX4_byteOf_11 : decode cX4_byteOf 11 = .ok (.irem, 1) := by decide +kernel
theorem dX4_byteOf_12 : decode cX4_byteOf 12 = .ok (.imul, 1) := by decide +kernel
theorem dX4_byteOf_13 : decode cX4_byteOf 13 = .ok (.lushr, 1) := by decide +kernel
theorem dX4_byteOf_14 : decode cX4_byteOf 14 = .ok (.l2i, 1) := by decide +kernel
theorem dX4_byteOf_15 : decode cX4_byteOf 15 = .ok (.sipush 255, 3) := by decide +kernel
theorem dX4_byteOf_18 : decode cX4_byteOf 18 = .ok (.iand, 1) := by decide +kernel
theorem dX4_byteOf_19 : decode cX4_byteOf 19 = .ok (.ireturn, 1) := by decide +kernel
theorem dX4_isSize_0 : decode cX4_isSize 0 = .ok (.iload_n 0, 1) := by decide +kernel
theorem dX4_isSize_1 : decode cX4_isSize 1 = .ok (.iconst 1, 1) := by decide +kernel
theorem dX4_isSize_2 : decode cX4_isSize 2 = .ok (.if_icmp .eq 19, 3) := by decide +kernel
theorem dX4_isSize_5 : decode cX4_isSize 5 = .ok (.iload_n 0, 1) := by decide +kernel
theorem dX4_isSize_6 : decode cX4_isSize 6 = .ok (.iconst 2, 1) := by decide +kernel
theorem dX4_isSize_7 : decode cX4_isSize 7 = .ok (.if_icmp .eq 14, 3) := by decide +kernel
theorem dX4_isSize_10 : decode cX4_isSize 10 = .ok (.iload_n 0, 1) := by decide +kernel
theorem dX4_isSize_11 : decode cX4_isSize 11 = .ok (.iconst 4, 1) := by decide +kernel
theorem dX4_isSize_12 : decode cX4_isSize 12 = .ok (.if_icmp .eq 9, 3) := by decide +kernel
theorem dX4_isSize_15 : decode cX4_isSize 15 = .ok (.iload_n 0, 1) := by decide +kernel
theorem dX4_isSize_16 : decode cX4_isSize 16 = .ok (.bipush 8, 2) := by decide +kernel
theorem dX4_isSize_18 : decode cX4_isSize 18 = .ok (.if_icmp .ne 7, 3) := by decide +kernel
theorem dX4_isSize_21 : decode cX4_isSize 21 = .ok (.iconst 1, 1) := by decide +kernel
theorem dX4_isSize_22 : decode cX4_isSize 22 = .ok (.goto 4, 3) := by decide +kernel
theorem dX4_isSize_25 : decode cX4_isSize 25 = .ok (.iconst 0, 1) := by decide +kernel
theorem dX4_isSize_26 : decode cX4_isSize 26 = .ok (.ireturn, 1) := by decide +kernel
theorem dX4_isThere_0 : decode cX4_isThere 0 = .ok (.lload_n 2, 1) := by decide +kernel
theorem dX4_isThere_1 : decode cX4_isThere 1 = .ok (.lconst 0, 1) := by decide +kernel
theorem dX4_isThere_2 : decode cX4_isThere 2 = .ok (.lcmp, 1) := by decide +kernel
theorem dX4_isThere_3 : decode cX4_isThere 3 = .ok (.ifCond .eq 29, 3) := by decide +kernel
theorem dX4_isThere_6 : decode cX4_isThere 6 = .ok (.lload_n 0, 1) := by decide +kernel
theorem dX4_isThere_7 : decode cX4_isThere 7 = .ok (.ldc2_w 44, 3) := by decide +kernel
theorem dX4_isThere_10 : decode cX4_isThere 10 = .ok (.lcmp, 1) := by decide +kernel
theorem dX4_isThere_11 : decode cX4_isThere 11 = .ok (.ifCond .lt 25, 3) := by decide +kernel
theorem dX4_isThere_14 : decode cX4_isThere 14 = .ok (.lload_n 0, 1) := by decide +kernel
theorem dX4_isThere_15 : decode cX4_isThere 15 = .ok (.ldc2_w 46, 3) := by decide +kernel
theorem dX4_isThere_18 : decode cX4_isThere 18 = .ok (.lcmp, 1) := by decide +kernel
theorem dX4_isThere_19 : decode cX4_isThere 19 = .ok (.ifCond .ge 17, 3) := by decide +kernel
theorem dX4_isThere_22 : decode cX4_isThere 22 = .ok (.lload_n 2, 1) := by decide +kernel
theorem dX4_isThere_23 : decode cX4_isThere 23 = .ok (.ldc2_w 46, 3) := by decide +kernel
theorem dX4_isThere_26 : decode cX4_isThere 26 = .ok (.lload_n 0, 1) := by decide +kernel
theorem dX4_isThere_27 : decode cX4_isThere 27 = .ok (.lsub, 1) := by decide +kernel
theorem dX4_isThere_28 : decode cX4_isThere 28 = .ok (.lcmp, 1) := by decide +kernel
theorem dX4_isThere_29 : decode cX4_isThere 29 = .ok (.ifCond .gt 7, 3) := by decide +kernel
theorem dX4_isThere_32 : decode cX4_isThere 32 = .ok (.iconst 1, 1) := by decide +kernel
theorem dX4_isThere_33 : decode cX4_isThere 33 = .ok (.goto 4, 3) := by decide +kernel
theorem dX4_isThere_36 : decode cX4_isThere 36 = .ok (.iconst 0, 1) := by decide +kernel
theorem dX4_isThere_37 : decode cX4_isThere 37 = .ok (.ireturn, 1) := by decide +kernel
theorem dX4_number_0 : decode cX4_number 0 = .ok (.lconst 0, 1) := by decide +kernel
theorem dX4_number_1 : decode cX4_number 1 = .ok (.lstore 4, 2) := by decide +kernel
theorem dX4_number_3 : decode cX4_number 3 = .ok (.iload_n 3, 1) := by decide +kernel
theorem dX4_number_4 : decode cX4_number 4 = .ok (.iconst 1, 1) := by decide +kernel
theorem dX4_number_5 : decode cX4_number 5 = .ok (.isub, 1) := by decide +kernel
theorem dX4_number_6 : decode cX4_number 6 = .ok (.istore 6, 2) := by decide +kernel
theorem dX4_number_8 : decode cX4_number 8 = .ok (.iload 6, 2) := by decide +kernel
theorem dX4_number_10 : decode cX4_number 10 = .ok (.ifCond .lt 35, 3) := by decide +kernel
theorem dX4_number_13 : decode cX4_number 13 = .ok (.ldc2_w 48, 3) := by decide +kernel
theorem dX4_number_16 : decode cX4_number 16 = .ok (.lload 4, 2) := by decide +kernel
theorem dX4_number_18 : decode cX4_number 18 = .ok (.lmul, 1) := by decide +kernel
theorem dX4_number_19 : decode cX4_number 19 = .ok (.aload_n 0, 1) := by decide +kernel
theorem dX4_number_20 : decode cX4_number 20 = .ok (.getfield 7, 3) := by decide +kernel
theorem dX4_number_23 : decode cX4_number 23 = .ok (.lload_n 1, 1) := by decide +kernel
theorem dX4_number_24 : decode cX4_number 24 = .ok (.ldc2_w 44, 3) := by decide +kernel
theorem dX4_number_27 : decode cX4_number 27 = .ok (.lsub, 1) := by decide +kernel
theorem dX4_number_28 : decode cX4_number 28 = .ok (.l2i, 1) := by decide +kernel
theorem dX4_number_29 : decode cX4_number 29 = .ok (.iload 6, 2) := by decide +kernel
theorem dX4_number_31 : decode cX4_number 31 = .ok (.iadd, 1) := by decide +kernel
theorem dX4_number_32 : decode cX4_number 32 = .ok (.invokestatic 50, 3) := by decide +kernel
theorem dX4_number_35 : decode cX4_number 35 = .ok (.i2l, 1) := by decide +kernel
theorem dX4_number_36 : decode cX4_number 36 = .ok (.ladd, 1) := by decide +kernel
theorem dX4_number_37 : decode cX4_number 37 = .ok (.lstore 4, 2) := by decide +kernel
theorem dX4_number_39 : decode cX4_number 39 = .ok (.iinc 6 (-1), 3) := by decide +kernel
theorem dX4_number_42 : decode cX4_number 42 = .ok (.goto (-34), 3) := by decide +kernel
theorem dX4_number_45 : decode cX4_number 45 = .ok (.lload 4, 2) := by decide +kernel
theorem dX4_number_47 : decode cX4_number 47 = .ok (.lreturn, 1) := by decide +kernel
theorem dX4_put_0 : decode cX4_put 0 = .ok (.iconst 0, 1) := by decide +kernel
theorem dX4_put_1 : decode cX4_put 1 = .ok (.istore 6, 2) := by decide +kernel
theorem dX4_put_3 : decode cX4_put 3 = .ok (.iload 6, 2) := by decide +kernel
theorem dX4_put_5 : decode cX4_put 5 = .ok (.iload_n 3, 1) := by decide +kernel
theorem dX4_put_6 : decode cX4_put 6 = .ok (.if_icmp .ge 34, 3) := by decide +kernel
theorem dX4_put_9 : decode cX4_put 9 = .ok (.aload_n 0, 1) := by decide +kernel
theorem dX4_put_10 : decode cX4_put 10 = .ok (.getfield 7, 3) := by decide +kernel
theorem dX4_put_13 : decode cX4_put 13 = .ok (.lload_n 1, 1) := by decide +kernel
theorem dX4_put_14 : decode cX4_put 14 = .ok (.ldc2_w 44, 3) := by decide +kernel
theorem dX4_put_17 : decode cX4_put 17 = .ok (.lsub, 1) := by decide +kernel
theorem dX4_put_18 : decode cX4_put 18 = .ok (.l2i, 1) := by decide +kernel
theorem dX4_put_19 : decode cX4_put 19 = .ok (.iload 6, 2) := by decide +kernel
theorem dX4_put_21 : decode cX4_put 21 = .ok (.iadd, 1) := by decide +kernel
theorem dX4_put_22 : decode cX4_put 22 = .ok (.lload 4, 2) := by decide +kernel
theorem dX4_put_24 : decode cX4_put 24 = .ok (.bipush 8, 2) := by decide +kernel
theorem dX4_put_26 : decode cX4_put 26 = .ok (.iload 6, 2) := by decide +kernel
theorem dX4_put_28 : decode cX4_put 28 = .ok (.imul, 1) := by decide +kernel
theorem dX4_put_29 : decode cX4_put 29 = .ok (.lushr, 1) := by decide +kernel
theorem dX4_put_30 : decode cX4_put 30 = .ok (.l2i, 1) := by decide +kernel
theorem dX4_put_31 : decode cX4_put 31 = .ok (.invokestatic 54, 3) := by decide +kernel
theorem dX4_put_34 : decode cX4_put 34 = .ok (.iinc 6 1, 3) := by decide +kernel
theorem dX4_put_37 : decode cX4_put 37 = .ok (.goto (-34), 3) := by decide +kernel
theorem dX4_put_40 : decode cX4_put 40 = .ok (.return_, 1) := by decide +kernel
theorem dX4_putByte_0 : decode cX4_putByte 0 = .ok (.bipush 8, 2) := by decide +kernel
theorem dX4_putByte_2 : decode cX4_putByte 2 = .ok (.iload_n 1, 1) := by decide +kernel
theorem dX4_putByte_3 : decode cX4_putByte 3 = .ok (.bipush 8, 2) := by decide +kernel
theorem dX4_putByte_5 : decode cX4_putByte 5 = .ok (.irem, 1) := by decide +kernel
theorem dX4_putByte_6 : decode cX4_putByte 6 = .ok (.imul, 1) := by decide +kernel
theorem dX4_putByte_7 : decode cX4_putByte 7 = .ok (.istore_n 3, 1) := by decide +kernel
theorem dX4_putByte_8 : decode cX4_putByte 8 = .ok (.aload_n 0, 1) := by decide +kernel
theorem dX4_putByte_9 : decode cX4_putByte 9 = .ok (.iload_n 1, 1) := by decide +kernel
theorem dX4_putByte_10 : decode cX4_putByte 10 = .ok (.bipush 8, 2) := by decide +kernel
theorem dX4_putByte_12 : decode cX4_putByte 12 = .ok (.idiv, 1) := by decide +kernel
theorem dX4_putByte_13 : decode cX4_putByte 13 = .ok (.aload_n 0, 1) := by decide +kernel
theorem dX4_putByte_14 : decode cX4_putByte 14 = .ok (.iload_n 1, 1) := by decide +kernel
theorem dX4_putByte_15 : decode cX4_putByte 15 = .ok (.bipush 8, 2) := by decide +kernel
theorem dX4_putByte_17 : decode cX4_putByte 17 = .ok (.idiv, 1) := by decide +kernel
theorem dX4_putByte_18 : decode cX4_putByte 18 = .ok (.laload, 1) := by decide +kernel
theorem dX4_putByte_19 : decode cX4_putByte 19 = .ok (.ldc2_w 40, 3) := by decide +kernel
theorem dX4_putByte_22 : decode cX4_putByte 22 = .ok (.iload_n 3, 1) := by decide +kernel
theorem dX4_putByte_23 : decode cX4_putByte 23 = .ok (.lshl, 1) := by decide +kernel
theorem dX4_putByte_24 : decode cX4_putByte 24 = .ok (.ldc2_w 42, 3) := by decide +kernel
theorem dX4_putByte_27 : decode cX4_putByte 27 = .ok (.lxor, 1) := by decide +kernel
theorem dX4_putByte_28 : decode cX4_putByte 28 = .ok (.land, 1) := by decide +kernel
theorem dX4_putByte_29 : decode cX4_putByte 29 = .ok (.iload_n 2, 1) := by decide +kernel
theorem dX4_putByte_30 : decode cX4_putByte 30 = .ok (.i2l, 1) := by decide +kernel
theorem dX4_putByte_31 : decode cX4_putByte 31 = .ok (.ldc2_w 40, 3) := by decide +kernel
theorem dX4_putByte_34 : decode cX4_putByte 34 = .ok (.land, 1) := by decide +kernel
theorem dX4_putByte_35 : decode cX4_putByte 35 = .ok (.iload_n 3, 1) := by decide +kernel
theorem dX4_putByte_36 : decode cX4_putByte 36 = .ok (.lshl, 1) := by decide +kernel
theorem dX4_putByte_37 : decode cX4_putByte 37 = .ok (.lor, 1) := by decide +kernel
theorem dX4_putByte_38 : decode cX4_putByte 38 = .ok (.lastore, 1) := by decide +kernel
theorem dX4_putByte_39 : decode cX4_putByte 39 = .ok (.return_, 1) := by decide +kernel
