/-! words and decoded instructions -/
set_option maxRecDepth 20000 in
theorem w_dc5be6518e : Cond.fieldLink RX0 7 "QueueDisk$Bytes" "row" "[B" ∈ WW := ww_1 (List.mem_of_getElem? (i := 28) rfl) rfl
set_option maxRecDepth 20000 in
theorem w_0dba9a2727 : Cond.code yX0_holds cX0_holds 5 (some .boolean) ∈ WW := ww_1 (List.mem_of_getElem? (i := 230) rfl) rfl
set_option maxRecDepth 20000 in
theorem w_82b0ef516c : Cond.initialized RX0 ∈ WW := ww_1 (List.mem_of_getElem? (i := 2) rfl) rfl
set_option maxRecDepth 20000 in
theorem w_2af9ab2b3b : Cond.methodLink RX0 13 yX0_holds ∈ WW := ww_2 (List.mem_of_getElem? (i := 15) rfl) rfl
set_option maxRecDepth 20000 in
theorem w_bd9bccf83c : Cond.instanceMethod yX0_holds ∈ WW := ww_1 (List.mem_of_getElem? (i := 228) rfl) rfl
set_option maxRecDepth 20000 in
theorem w_88968f97c9 : Cond.selects RX0 yX0_holds yX0_holds ∈ WW := ww_1 (List.mem_of_getElem? (i := 229) rfl) rfl
set_option maxRecDepth 20000 in
theorem w_7216235d52 : Cond.code yX0_at cX0_at 3 (some .int) ∈ WW := ww_2 (List.mem_of_getElem? (i := 14) rfl) rfl
set_option maxRecDepth 20000 in
theorem w_fc0a358c90 : Cond.methodLink RX0 17 yX0_at ∈ WW := ww_2 (List.mem_of_getElem? (i := 11) rfl) rfl
set_option maxRecDepth 20000 in
theorem w_1a56f4b40f : Cond.instanceMethod yX0_at ∈ WW := ww_2 (List.mem_of_getElem? (i := 12) rfl) rfl
set_option maxRecDepth 20000 in
theorem w_10ab65b0be : Cond.selects RX0 yX0_at yX0_at ∈ WW := ww_2 (List.mem_of_getElem? (i := 13) rfl) rfl
theorem dX0_at_0 : decode cX0_at 0 = .ok (.aload_n 0, 1) := by decide +kernel
theorem dX0_at_1 : decode cX0_at 1 = .ok (.lload_n 1, 1) := by decide +kernel
theorem dX0_at_2 : decode cX0_at 2 = .ok (.lconst 1, 1) := by decide +kernel
theorem dX0_at_3 : decode cX0_at 3 = .ok (.invokevirtual 13, 3) := by decide +kernel
theorem dX0_at_6 : decode cX0_at 6 = .ok (.ifCond .eq 17, 3) := by decide +kernel
theorem dX0_at_9 : decode cX0_at 9 = .ok (.aload_n 0, 1) := by decide +kernel
theorem dX0_at_10 : decode cX0_at 10 = .ok (.getfield 7, 3) := by decide +kernel
theorem dX0_at_13 : decode cX0_at 13 = .ok (.lload_n 1, 1) := by decide +kernel
theorem dX0_at_14 : decode cX0_at 14 = .ok (.l2i, 1) := by decide +kernel
theorem dX0_at_15 : decode cX0_at 15 = .ok (.baload, 1) := by decide +kernel
theorem dX0_at_16 : decode cX0_at 16 = .ok (.sipush 255, 3) := by decide +kernel
theorem dX0_at_19 : decode cX0_at 19 = .ok (.iand, 1) := by decide +kernel
theorem dX0_at_20 : decode cX0_at 20 = .ok (.goto 4, 3) := by decide +kernel
theorem dX0_at_23 : decode cX0_at 23 = .ok (.iconst 0, 1) := by decide +kernel
theorem dX0_at_24 : decode cX0_at 24 = .ok (.ireturn, 1) := by decide +kernel
theorem dX0_holds_0 : decode cX0_holds 0 = .ok (.lload_n 1, 1) := by decide +kernel
theorem dX0_holds_1 : decode cX0_holds 1 = .ok (.lconst 0, 1) := by decide +kernel
theorem dX0_holds_2 : decode cX0_holds 2 = .ok (.lcmp, 1) := by decide +kernel
theorem dX0_holds_3 : decode cX0_holds 3 = .ok (.ifCond .lt 37, 3) := by decide +kernel
theorem dX0_holds_6 : decode cX0_holds 6 = .ok (.lload_n 3, 1) := by decide +kernel
theorem dX0_holds_7 : decode cX0_holds 7 = .ok (.lconst 0, 1) := by decide +kernel
theorem dX0_holds_8 : decode cX0_holds 8 = .ok (.lcmp, 1) := by decide +kernel
theorem dX0_holds_9 : decode cX0_holds 9 = .ok (.ifCond .lt 31, 3) := by decide +kernel
theorem dX0_holds_12 : decode cX0_holds 12 = .ok (.lload_n 3, 1) := by decide +kernel
theorem dX0_holds_13 : decode cX0_holds 13 = .ok (.aload_n 0, 1) := by decide +kernel
theorem dX0_holds_14 : decode cX0_holds 14 = .ok (.getfield 7, 3) := by decide +kernel
theorem dX0_holds_17 : decode cX0_holds 17 = .ok (.arraylength, 1) := by decide +kernel
theorem dX0_holds_18 : decode cX0_holds 18 = .ok (.i2l, 1) := by decide +kernel
theorem dX0_holds_19 : decode cX0_holds 19 = .ok (.lcmp, 1) := by decide +kernel
theorem dX0_holds_20 : decode cX0_holds 20 = .ok (.ifCond .gt 20, 3) := by decide +kernel
theorem dX0_holds_23 : decode cX0_holds 23 = .ok (.lload_n 1, 1) := by decide +kernel
theorem dX0_holds_24 : decode cX0_holds 24 = .ok (.aload_n 0, 1) := by decide +kernel
theorem dX0_holds_25 : decode cX0_holds 25 = .ok (.getfield 7, 3) := by decide +kernel
theorem dX0_holds_28 : decode cX0_holds 28 = .ok (.arraylength, 1) := by decide +kernel
theorem dX0_holds_29 : decode cX0_holds 29 = .ok (.i2l, 1) := by decide +kernel
theorem dX0_holds_30 : decode cX0_holds 30 = .ok (.lload_n 3, 1) := by decide +kernel
theorem dX0_holds_31 : decode cX0_holds 31 = .ok (.lsub, 1) := by decide +kernel
theorem dX0_holds_32 : decode cX0_holds 32 = .ok (.lcmp, 1) := by decide +kernel
theorem dX0_holds_33 : decode cX0_holds 33 = .ok (.ifCond .gt 7, 3) := by decide +kernel
theorem dX0_holds_36 : decode cX0_holds 36 = .ok (.iconst 1, 1) := by decide +kernel
theorem dX0_holds_37 : decode cX0_holds 37 = .ok (.goto 4, 3) := by decide +kernel
theorem dX0_holds_40 : decode cX0_holds 40 = .ok (.iconst 0, 1) := by decide +kernel
theorem dX0_holds_41 : decode cX0_holds 41 = .ok (.ireturn, 1) := by decide +kernel
theorem dX0_number_0 : decode cX0_number 0 = .ok (.lconst 0, 1) := by decide +kernel
theorem dX0_number_1 : decode cX0_number 1 = .ok (.lstore 4, 2) := by decide +kernel
theorem dX0_number_3 : decode cX0_number 3 = .ok (.iload_n 3, 1) := by decide +kernel
theorem dX0_number_4 : decode cX0_number 4 = .ok (.iconst 1, 1) := by decide +kernel
theorem dX0_number_5 : decode cX0_number 5 = .ok (.isub, 1) := by decide +kernel
theorem dX0_number_6 : decode cX0_number 6 = .ok (.istore 6, 2) := by decide +kernel
theorem dX0_number_8 : decode cX0_number 8 = .ok (.iload 6, 2) := by decide +kernel
theorem dX0_number_10 : decode cX0_number 10 = .ok (.ifCond .lt 27, 3) := by decide +kernel
theorem dX0_number_13 : decode cX0_number 13 = .ok (.lload 4, 2) := by decide +kernel
theorem dX0_number_15 : decode cX0_number 15 = .ok (.bipush 8, 2) := by decide +kernel
theorem dX0_number_17 : decode cX0_number 17 = .ok (.lshl, 1) := by decide +kernel
theorem dX0_number_18 : decode cX0_number 18 = .ok (.aload_n 0, 1) := by decide +kernel
theorem dX0_number_19 : decode cX0_number 19 = .ok (.lload_n 1, 1) := by decide +kernel
theorem dX0_number_20 : decode cX0_number 20 = .ok (.iload 6, 2) := by decide +kernel
theorem dX0_number_22 : decode cX0_number 22 = .ok (.i2l, 1) := by decide +kernel
theorem dX0_number_23 : decode cX0_number 23 = .ok (.ladd, 1) := by decide +kernel
theorem dX0_number_24 : decode cX0_number 24 = .ok (.invokevirtual 17, 3) := by decide +kernel
theorem dX0_number_27 : decode cX0_number 27 = .ok (.i2l, 1) := by decide +kernel
theorem dX0_number_28 : decode cX0_number 28 = .ok (.lor, 1) := by decide +kernel
theorem dX0_number_29 : decode cX0_number 29 = .ok (.lstore 4, 2) := by decide +kernel
theorem dX0_number_31 : decode cX0_number 31 = .ok (.iinc 6 (-1), 3) := by decide +kernel
theorem dX0_number_34 : decode cX0_number 34 = .ok (.goto (-26), 3) := by decide +kernel
theorem dX0_number_37 : decode cX0_number 37 = .ok (.lload 4, 2) := by decide +kernel
theorem dX0_number_39 : decode cX0_number 39 = .ok (.lreturn, 1) := by decide +kernel
theorem dX0_put_0 : decode cX0_put 0 = .ok (.aload_n 0, 1) := by decide +kernel
theorem dX0_put_1 : decode cX0_put 1 = .ok (.lload_n 1, 1) := by decide +kernel
theorem dX0_put_2 : decode cX0_put 2 = .ok (.lconst 1, 1) := by decide +kernel
theorem dX0_put_3 : decode cX0_put 3 = .ok (.invokevirtual 13, 3) := by decide +kernel
theorem dX0_put_6 : decode cX0_put 6 = .ok (.ifCond .eq 12, 3) := by decide +kernel
theorem dX0_put_9 : decode cX0_put 9 = .ok (.aload_n 0, 1) := by decide +kernel
theorem dX0_put_10 : decode cX0_put 10 = .ok (.getfield 7, 3) := by decide +kernel
theorem dX0_put_13 : decode cX0_put 13 = .ok (.lload_n 1, 1) := by decide +kernel
theorem dX0_put_14 : decode cX0_put 14 = .ok (.l2i, 1) := by decide +kernel
theorem dX0_put_15 : decode cX0_put 15 = .ok (.iload_n 3, 1) := by decide +kernel
theorem dX0_put_16 : decode cX0_put 16 = .ok (.i2b, 1) := by decide +kernel
theorem dX0_put_17 : decode cX0_put 17 = .ok (.bastore, 1) := by decide +kernel
theorem dX0_put_18 : decode cX0_put 18 = .ok (.return_, 1) := by decide +kernel
