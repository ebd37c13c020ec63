/-! words and decoded instructions -/
set_option maxRecDepth 20000 in
theorem w_dc5be6518e : Cond.fieldLink RX0 7 "QueueDisk$Bytes" "row" "[B" ∈ WW := ww_1 (List.mem_of_getElem? (i := 28) rfl) rfl
set_option maxRecDepth 20000 in
theorem w_0dba9a2727 : Cond.code yX0_holds cX0_holds 5 (some .boolean) ∈ WW := ww_1 (List.mem_of_getElem? (i := 230) rfl) rfl
set_option maxRecDepth 20000 in
theorem w_82b0ef516c : Cond.initialized RX0 ∈ WW := ww_1 (List.mem_of_getElem? (i := 2) rfl) rfl
set_option maxRecDepth 20000 in
theorem w_2af9ab2b3b : Cond.methodLink RX0 13 yX0_holds ∈ WW := ww_2 (List.mem_of_getElem? (i := 15) rfl) rfl
set_option maxRecDepth 20000 in
theorem w_bd9bccf83c : Cond.instanceMethod yX0_holds ∈ WW := ww_1 (List.mem_of_getElem? (i := 228) rfl) rfl
set_option maxRecDepth 20000 in
theorem w_88968f97c9 : Cond.selects RX0 yX0_holds yX0_holds ∈ WW := ww_1 (List.mem_of_getElem? (i := 229) rfl) rfl
set_option maxRecDepth 20000 in
theorem w_7216235d52 : Cond.code yX0_at cX0_at 3 (some .int) ∈ WW := ww_2 (List.mem_of_getElem? (i := 14) rfl) rfl
set_option maxRecDepth 20000 in
theorem w_fc0a358c90 : Cond.methodLink RX0 17 yX0_at ∈ WW := ww_2 (List.mem_of_getElem? (i := 11) rfl) rfl
set_option maxRecDepth 20000 in
theorem w_1a56f4b40f : Cond.instanceMethod yX0_at ∈ WW := ww_2 (List.mem_of_getElem? (i := 12) rfl) rfl
set_option maxRecDepth 20000 in
theorem w_10ab65b0be : Cond.selects RX0 yX0_at yX0_at ∈ WW := ww_2 (List.mem_of_getElem? (i := 13) rfl) rfl
set_option maxRecDepth 20000 in
theorem w_9c05d6145f : Cond.code yX0_put cX0_put 4 none ∈ WW := ww_2 (List.mem_of_getElem? (i := 30) rfl) rfl
set_option maxRecDepth 20000 in
theorem w_1458ea6b13 : Cond.methodLink RX0 21 yX0_put ∈ WW := ww_2 (List.mem_of_getElem? (i := 27) rfl) rfl
set_option maxRecDepth 20000 in
theorem w_a98a2cb77c : Cond.instanceMethod yX0_put ∈ WW := ww_2 (List.mem_of_getElem? (i := 28) rfl) rfl
set_option maxRecDepth 20000 in
theorem w_35af0b375c : Cond.selects RX0 yX0_put yX0_put ∈ WW := ww_2 (List.mem_of_getElem? (i := 29) rfl) rfl
set_option maxRecDepth 20000 in
theorem w_5ff2c2c852 : Cond.methodLink RX0 25 arraycopyName ∈ WW := ww_2 (List.mem_of_getElem? (i := 166) rfl) rfl
set_option maxRecDepth 20000 in
theorem w_3d26558896 : Cond.native arraycopyName ∈ WW := ww_2 (List.mem_of_getElem? (i := 168) rfl) rfl
set_option maxRecDepth 20000 in
theorem w_b29db29120 : Cond.static arraycopyName ∈ WW := ww_2 (List.mem_of_getElem? (i := 167) rfl) rfl
set_option maxRecDepth 20000 in
theorem w_a5e0699f43 : Cond.initialized "java/lang/System" ∈ WW := ww_1 (List.mem_of_getElem? (i := 11) rfl) rfl
set_option maxRecDepth 20000 in
theorem w_495d8fa308 : Cond.methodLink RX0 1 objectInit ∈ WW := ww_1 (List.mem_of_getElem? (i := 27) rfl) rfl
set_option maxRecDepth 20000 in
theorem w_0b5f1ea06e : Cond.arrayClass .byte ∈ WW := ww_1 (List.mem_of_getElem? (i := 32) rfl) rfl
theorem dX0_at_0 : decode cX0_at 0 = .ok (.aload_n 0, 1) := by decide +kernel
theorem dX0_at_1 : decode cX0_at 1 = .ok (.lload_n 1, 1) := by decide +kernel
theorem dX0_at_2 : decode cX0_at 2 = .ok (.lconst 1, 1) := by decide +kernel
theorem dX0_at_3 : decode cX0_at 3 = .ok (.invokevirtual 13, 3) := by decide +kernel
theorem dX0_at_6 : decode cX0_at 6 = .ok (.ifCond .eq 17, 3) := by decide +kernel
theorem dX0_at_9 : decode cX0_at 9 = .ok (.aload_n 0, 1) := by decide +kernel
theorem dX0_at_10 : decode cX0_at 10 = .ok (.getfield 7, 3) := by decide +kernel
theorem dX0_at_13 : decode cX0_at 13 = .ok (.lload_n 1, 1) := by decide +kernel
theorem dX0_at_14 : decode cX0_at 14 = .ok (.l2i, 1) := by decide +kernel
theorem dX0_at_15 : decode cX0_at 15 = .ok (.baload, 1) := by decide +kernel
theorem dX0_at_16 : decode cX0_at 16 = .ok (.sipush 255, 3) := by decide +kernel
theorem dX0_at_19 : decode cX0_at 19 = .ok (.iand, 1) := by decide +kernel
theorem dX0_at_20 : decode cX0_at 20 = .ok (.goto 4, 3) := by decide +kernel
theorem dX0_at_23 : decode cX0_at 23 = .ok (.iconst 0, 1) := by decide +kernel
theorem dX0_at_24 : decode cX0_at 24 = .ok (.ireturn, 1) := by decide +kernel
theorem dX0_copyTo_0 : decode cX0_copyTo 0 = .ok (.aload_n 0, 1) := by decide +kernel
theorem dX0_copyTo_1 : decode cX0_copyTo 1 = .ok (.lload_n 1, 1) := by decide +kernel
theorem dX0_copyTo_2 : decode cX0_copyTo 2 = .ok (.iload 6, 2) := by decide +kernel
theorem dX0_copyTo_4 : decode cX0_copyTo 4 = .ok (.i2l, 1) := by decide +kernel
theorem dX0_copyTo_5 : decode cX0_copyTo 5 = .ok (.invokevirtual 13, 3) := by decide +kernel
theorem dX0_copyTo_8 : decode cX0_copyTo 8 = .ok (.ifCond .eq 33, 3) := by decide +kernel
theorem dX0_copyTo_11 : decode cX0_copyTo 11 = .ok (.aload_n 3, 1) := by decide +kernel
theorem dX0_copyTo_12 : decode cX0_copyTo 12 = .ok (.lload 4, 2) := by decide +kernel
theorem dX0_copyTo_14 : decode cX0_copyTo 14 = .ok (.iload 6, 2) := by decide +kernel
theorem dX0_copyTo_16 : decode cX0_copyTo 16 = .ok (.i2l, 1) := by decide +kernel
theorem dX0_copyTo_17 : decode cX0_copyTo 17 = .ok (.invokevirtual 13, 3) := by decide +kernel
theorem dX0_copyTo_20 : decode cX0_copyTo 20 = .ok (.ifCond .eq 21, 3) := by decide +kernel
theorem dX0_copyTo_23 : decode cX0_copyTo 23 = .ok (.aload_n 0, 1) := by decide +kernel
theorem dX0_copyTo_24 : decode cX0_copyTo 24 = .ok (.getfield 7, 3) := by decide +kernel
theorem dX0_copyTo_27 : decode cX0_copyTo 27 = .ok (.lload_n 1, 1) := by decide +kernel
theorem dX0_copyTo_28 : decode cX0_copyTo 28 = .ok (.l2i, 1) := by decide +kernel
theorem dX0_copyTo_29 : decode cX0_copyTo 29 = .ok (.aload_n 3, 1) := by decide +kernel
theorem dX0_copyTo_30 : decode cX0_copyTo 30 = .ok (.getfield 7, 3) := by decide +kernel
theorem dX0_copyTo_33 : decode cX0_copyTo 33 = .ok (.lload 4, 2) := by decide +kernel
theorem dX0_copyTo_35 : decode cX0_copyTo 35 = .ok (.l2i, 1) := by decide +kernel
theorem dX0_copyTo_36 : decode cX0_copyTo 36 = .ok (.iload 6, 2) := by decide +kernel
theorem dX0_copyTo_38 : decode cX0_copyTo 38 = .ok (.invokestatic 25, 3) := by decide +kernel
theorem dX0_copyTo_41 : decode cX0_copyTo 41 = .ok (.return_, 1) := by decide +kernel
theorem dX0_holds_0 : decode cX0_holds 0 = .ok (.lload_n 1, 1) := by decide +kernel
theorem dX0_holds_1 : decode cX0_holds 1 = .ok (.lconst 0, 1) := by decide +kernel
theorem dX0_holds_2 : decode cX0_holds 2 = .ok (.lcmp, 1) := by decide +kernel
theorem dX0_holds_3 : decode cX0_holds 3 = .ok (.ifCond .lt 37, 3) := by decide +kernel
theorem dX0_holds_6 : decode cX0_holds 6 = .ok (.lload_n 3, 1) := by decide +kernel
theorem dX0_holds_7 : decode cX0_holds 7 = .ok (.lconst 0, 1) := by decide +kernel
theorem dX0_holds_8 : decode cX0_holds 8 = .ok (.lcmp, 1) := by decide +kernel
theorem dX0_holds_9 : decode cX0_holds 9 = .ok (.ifCond .lt 31, 3) := by decide +kernel
theorem dX0_holds_12 : decode cX0_holds 12 = .ok (.lload_n 3, 1) := by decide +kernel
theorem dX0_holds_13 : decode cX0_holds 13 = .ok (.aload_n 0, 1) := by decide +kernel
theorem dX0_holds_14 : decode cX0_holds 14 = .ok (.getfield 7, 3) := by decide +kernel
theorem dX0_holds_17 : decode cX0_holds 17 = .ok (.arraylength, 1) := by decide +kernel
theorem dX0_holds_18 : decode cX0_holds 18 = .ok (.i2l, 1) := by decide +kernel
theorem dX0_holds_19 : decode cX0_holds 19 = .ok (.lcmp, 1) := by decide +kernel
theorem dX0_holds_20 : decode cX0_holds 20 = .ok (.ifCond .gt 20, 3) := by decide +kernel
theorem dX0_holds_23 : decode cX0_holds 23 = .ok (.lload_n 1, 1) := by decide +kernel
theorem dX0_holds_24 : decode cX0_holds 24 = .ok (.aload_n 0, 1) := by decide +kernel
theorem dX0_holds_25 : decode cX0_holds 25 = .ok (.getfield 7, 3) := by decide +kernel
theorem dX0_holds_28 : decode cX0_holds 28 = .ok (.arraylength, 1) := by decide +kernel
theorem dX0_holds_29 : decode cX0_holds 29 = .ok (.i2l, 1) := by decide +kernel
theorem dX0_holds_30 : decode cX0_holds 30 = .ok (.lload_n 3, 1) := by decide +kernel
theorem dX0_holds_31 : decode cX0_holds 31 = .ok (.lsub, 1) := by decide +kernel
theorem dX0_holds_32 : decode cX0_holds 32 = .ok (.lcmp, 1) := by decide +kernel
theorem dX0_holds_33 : decode cX0_holds 33 = .ok (.ifCond .gt 7, 3) := by decide +kernel
theorem dX0_holds_36 : decode cX0_holds 36 = .ok (.iconst 1, 1) := by decide +kernel
theorem dX0_holds_37 : decode cX0_holds 37 = .ok (.goto 4, 3) := by decide +kernel
theorem dX0_holds_40 : decode cX0_holds 40 = .ok (.iconst 0, 1) := by decide +kernel
theorem dX0_holds_41 : decode cX0_holds 41 = .ok (.ireturn, 1) := by decide +kernel
theorem dX0_init_0 : decode cX0_init 0 = .ok (.aload_n 0, 1) := by decide +kernel
theorem dX0_init_1 : decode cX0_init 1 = .ok (.invokespecial 1, 3) := by decide +kernel
theorem dX0_init_4 : decode cX0_init 4 = .ok (.aload_n 0, 1) := by decide +kernel
theorem dX0_init_5 : decode cX0_init 5 = .ok (.iload_n 1, 1) := by decide +kernel
theorem dX0_init_6 : decode cX0_init 6 = .ok (.ifCond .ge 7, 3) := by decide +kernel
theorem dX0_init_9 : decode cX0_init 9 = .ok (.iconst 0, 1) := by decide +kernel
theorem dX0_init_10 : decode cX0_init 10 = .ok (.goto 4, 3) := by decide +kernel
theorem dX0_init_13 : decode cX0_init 13 = .ok (.iload_n 1, 1) := by decide +kernel
theorem dX0_init_14 : decode cX0_init 14 = .ok (.newarray .byte, 2) := by decide +kernel
theorem dX0_init_16 : decode cX0_init 16 = .ok (.putfield 7, 3) := by decide +kernel
theorem dX0_init_19 : decode cX0_init 19 = .ok (.return_, 1) := by decide +kernel
theorem dX0_number_0 : decode cX0_number 0 = .ok (.lconst 0, 1) := by decide +kernel
theorem dX0_number_1 : decode cX0_number 1 = .ok (.lstore 4, 2) := by decide +kernel
theorem dX0_number_3 : decode cX0_number 3 = .ok (.iload_n 3, 1) := by decide +kernel
theorem dX0_number_4 : decode cX0_number 4 = .ok (.iconst 1, 1) := by decide +kernel
theorem dX0_number_5 : decode cX0_number 5 = .ok (.isub, 1) := by decide +kernel
theorem dX0_number_6 : decode cX0_number 6 = .ok (.istore 6, 2) := by decide +kernel
theorem dX0_number_8 : decode cX0_number 8 = .ok (.iload 6, 2) := by decide +kernel
theorem dX0_number_10 : decode cX0_number 10 = .ok (.ifCond .lt 27, 3) := by decide +kernel
theorem dX0_number_13 : decode cX0_number 13 = .ok (.lload 4, 2) := by decide +kernel
theorem dX0_number_15 : decode cX0_number 15 = .ok (.bipush 8, 2) := by decide +kernel
theorem dX0_number_17 : decode cX0_number 17 = .ok (.lshl, 1) := by decide +kernel
theorem dX0_number_18 : decode cX0_number 18 = .ok (.aload_n 0, 1) := by decide +kernel
theorem dX0_number_19 : decode cX0_number 19 = .ok (.lload_n 1, 1) := by decide +kernel
theorem dX0_number_20 : decode cX0_number 20 = .ok (.iload 6, 2) := by decide +kernel
theorem dX0_number_22 : decode cX0_number 22 = .ok (.i2l, 1) := by decide +kernel
theorem dX0_number_23 : decode cX0_number 23 = .ok (.ladd, 1) := by decide +kernel
theorem dX0_number_24 : decode cX0_number 24 = .ok (.invokevirtual 17, 3) := by decide +kernel
theorem dX0_number_27 : decode cX0_number 27 = .ok (.i2l, 1) := by decide +kernel
theorem dX0_number_28 : decode cX0_number 28 = .ok (.lor, 1) := by decide +kernel
theorem dX0_number_29 : decode cX0_number 29 = .ok (.lstore 4, 2) := by decide +kernel
theorem dX0_number_31 : decode cX0_number 31 = .ok (.iinc 6 (-1), 3) := by decide +kernel
theorem dX0_number_34 : decode cX0_number 34 = .ok (.goto (-26), 3) := by decide +kernel
theorem dX0_number_37 : decode cX0_number 37 = .ok (.lload 4, 2) := by decide +kernel
theorem dX0_number_39 : decode cX0_number 39 = .ok (.lreturn, 1) := by decide +kernel
theorem dX0_put_0 : decode cX0_put 0 = .ok (.aload_n 0, 1) := by decide +kernel
theorem dX0_put_1 : decode cX0_put 1 = .ok (.lload_n 1, 1) := by decide +kernel
theorem dX0_put_2 : decode cX0_put 2 = .ok (.lconst 1, 1) := by decide +kernel
theorem dX0_put_3 : decode cX0_put 3 = .ok (.invokevirtual 13, 3) := by decide +kernel
theorem dX0_put_6 : decode cX0_put 6 = .ok (.ifCond .eq 12, 3) := by decide +kernel
theorem dX0_put_9 : decode cX0_put 9 = .ok (.aload_n 0, 1) := by decide +kernel
theorem dX0_put_10 : decode cX0_put 10 = .ok (.getfield 7, 3) := by decide +kernel
theorem dX0_put_13 : decode cX0_put 13 = .ok (.lload_n 1, 1) := by decide +kernel
theorem dX0_put_14 : decode cX0_put 14 = .ok (.l2i, 1) := by decide +kernel
theorem dX0_put_15 : decode cX0_put 15 = .ok (.iload_n 3, 1) := by decide +kernel
theorem dX0_put_16 : decode cX0_put 16 = .ok (.i2b, 1) := by decide +kernel
theorem dX0_put_17 : decode cX0_put 17 = .ok (.bastore, 1) := by decide +kernel
theorem dX0_put_18 : decode cX0_put 18 = .ok (.return_, 1) := by decide +kernel
theorem dX0_putNumber_0 : decode cX0_putNumber 0 = .ok (.lload 4, 2) := by decide +kernel
theorem dX0_putNumber_2 : decode cX0_putNumber 2 = .ok (.lstore 6, 2) := by decide +kernel
theorem dX0_putNumber_4 : decode cX0_putNumber 4 = .ok (.iconst 0, 1) := by decide +kernel
theorem dX0_putNumber_5 : decode cX0_putNumber 5 = .ok (.istore 8, 2) := by decide +kernel
theorem dX0_putNumber_7 : decode cX0_putNumber 7 = .ok (.iload 8, 2) := by decide +kernel
theorem dX0_putNumber_9 : decode cX0_putNumber 9 = .ok (.iload_n 3, 1) := by decide +kernel
theorem dX0_putNumber_10 : decode cX0_putNumber 10 = .ok (.if_icmp .ge 28, 3) := by decide +kernel
theorem dX0_putNumber_13 : decode cX0_putNumber 13 = .ok (.aload_n 0, 1) := by decide +kernel
theorem dX0_putNumber_14 : decode cX0_putNumber 14 = .ok (.lload_n 1, 1) := by decide +kernel
theorem dX0_putNumber_15 : decode cX0_putNumber 15 = .ok (.iload 8, 2) := by decide +kernel
theorem dX0_putNumber_17 : decode cX0_putNumber 17 = .ok (.i2l, 1) := by decide +kernel
theorem dX0_putNumber_18 : decode cX0_putNumber 18 = .ok (.ladd, 1) := by decide +kernel
theorem dX0_putNumber_19 : decode cX0_putNumber 19 = .ok (.lload 6, 2) := by decide +kernel
theorem dX0_putNumber_21 : decode cX0_putNumber 21 = .ok (.l2i, 1) := by decide +kernel
theorem dX0_putNumber_22 : decode cX0_putNumber 22 = .ok (.invokevirtual 21, 3) := by decide +kernel
theorem dX0_putNumber_25 : decode cX0_putNumber 25 = .ok (.lload 6, 2) := by decide +kernel
theorem dX0_putNumber_27 : decode cX0_putNumber 27 = .ok (.bipush 8, 2) := by decide +kernel
theorem dX0_putNumber_29 : decode cX0_putNumber 29 = .ok (.lushr, 1) := by decide +kernel
theorem dX0_putNumber_30 : decode cX0_putNumber 30 = .ok (.lstore 6, 2) := by decide +kernel
theorem dX0_putNumber_32 : decode cX0_putNumber 32 = .ok (.iinc 8 1, 3) := by decide +kernel
theorem dX0_putNumber_35 : decode cX0_putNumber 35 = .ok (.goto (-28), 3) := by decide +kernel
theorem dX0_putNumber_38 : decode cX0_putNumber 38 = .ok (.return_, 1) := by decide +kernel
