/-! words and decoded instructions -/
set_option maxRecDepth 20000 in
theorem w_5a71b7444e : Cond.constantLong RX4 139 32768 ∈ WW := ww_3 (List.mem_of_getElem? (i := 175) rfl) rfl
set_option maxRecDepth 20000 in
theorem w_5782e256a5 : Cond.constantLong RX4 141 512 ∈ WW := ww_3 (List.mem_of_getElem? (i := 176) rfl) rfl
set_option maxRecDepth 20000 in
theorem w_f0da19b997 : Cond.fieldLink RX4 121 "QueueDiskModel" "blocks" "I" ∈ WW := ww_3 (List.mem_of_getElem? (i := 27) rfl) rfl
set_option maxRecDepth 20000 in
theorem w_3d33b1130a : Cond.fieldLink RX4 30 "QueueDiskModel" "opens" "[Z" ∈ WW := ww_3 (List.mem_of_getElem? (i := 30) rfl) rfl
set_option maxRecDepth 20000 in
theorem w_c20510a516 : Cond.fieldLink RX4 27 "QueueDiskModel" "lengths" "[J" ∈ WW := ww_3 (List.mem_of_getElem? (i := 29) rfl) rfl
set_option maxRecDepth 20000 in
theorem w_00d3b01dcd : Cond.fieldLink RX4 132 "QueueDiskModel" "at" "I" ∈ WW := ww_3 (List.mem_of_getElem? (i := 31) rfl) rfl
set_option maxRecDepth 20000 in
theorem w_9277178bb0 : Cond.fieldLink RX4 135 "QueueDiskModel" "within" "J" ∈ WW := ww_3 (List.mem_of_getElem? (i := 32) rfl) rfl
set_option maxRecDepth 20000 in
theorem w_c92d01c177 : Cond.fieldLink RX4 24 "QueueDiskModel" "starts" "[J" ∈ WW := ww_3 (List.mem_of_getElem? (i := 28) rfl) rfl
theorem dX4_areSectors_0 : decode cX4_areSectors 0 = .ok (.lload_n 3, 1) := by decide +kernel
theorem dX4_areSectors_1 : decode cX4_areSectors 1 = .ok (.lconst 0, 1) := by decide +kernel
theorem dX4_areSectors_2 : decode cX4_areSectors 2 = .ok (.lcmp, 1) := by decide +kernel
theorem dX4_areSectors_3 : decode cX4_areSectors 3 = .ok (.ifCond .le 57, 3) := by decide +kernel
theorem dX4_areSectors_6 : decode cX4_areSectors 6 = .ok (.lload_n 3, 1) := by decide +kernel
theorem dX4_areSectors_7 : decode cX4_areSectors 7 = .ok (.ldc2_w 139, 3) := by decide +kernel
theorem dX4_areSectors_10 : decode cX4_areSectors 10 = .ok (.lcmp, 1) := by decide +kernel
theorem dX4_areSectors_11 : decode cX4_areSectors 11 = .ok (.ifCond .gt 49, 3) := by decide +kernel
theorem dX4_areSectors_14 : decode cX4_areSectors 14 = .ok (.lload_n 3, 1) := by decide +kernel
theorem dX4_areSectors_15 : decode cX4_areSectors 15 = .ok (.ldc2_w 141, 3) := by decide +kernel
theorem dX4_areSectors_18 : decode cX4_areSectors 18 = .ok (.lrem, 1) := by decide +kernel
theorem dX4_areSectors_19 : decode cX4_areSectors 19 = .ok (.lconst 0, 1) := by decide +kernel
theorem dX4_areSectors_20 : decode cX4_areSectors 20 = .ok (.lcmp, 1) := by decide +kernel
theorem dX4_areSectors_21 : decode cX4_areSectors 21 = .ok (.ifCond .ne 39, 3) := by decide +kernel
theorem dX4_areSectors_24 : decode cX4_areSectors 24 = .ok (.lload_n 1, 1) := by decide +kernel
theorem dX4_areSectors_25 : decode cX4_areSectors 25 = .ok (.lconst 0, 1) := by decide +kernel
theorem dX4_areSectors_26 : decode cX4_areSectors 26 = .ok (.lcmp, 1) := by decide +kernel
theorem dX4_areSectors_27 : decode cX4_areSectors 27 = .ok (.ifCond .lt 33, 3) := by decide +kernel
theorem dX4_areSectors_30 : decode cX4_areSectors 30 = .ok (.lload_n 1, 1) := by decide +kernel
theorem dX4_areSectors_31 : decode cX4_areSectors 31 = .ok (.aload_n 0, 1) := by decide +kernel
theorem dX4_areSectors_32 : decode cX4_areSectors 32 = .ok (.getfield 34, 3) := by decide +kernel
theorem dX4_areSectors_35 : decode cX4_areSectors 35 = .ok (.i2l, 1) := by decide +kernel
theorem dX4_areSectors_36 : decode cX4_areSectors 36 = .ok (.lcmp, 1) := by decide +kernel
theorem dX4_areSectors_37 : decode cX4_areSectors 37 = .ok (.ifCond .ge 23, 3) := by decide +kernel
theorem dX4_areSectors_40 : decode cX4_areSectors 40 = .ok (.lload_n 3, 1) := by decide +kernel
theorem dX4_areSectors_41 : decode cX4_areSectors 41 = .ok (.ldc2_w 141, 3) := by decide +kernel
theorem dX4_areSectors_44 : decode cX4_areSectors 44 = .ok (.ldiv, 1) := by decide +kernel
theorem dX4_areSectors_45 : decode cX4_areSectors 45 = .ok (.aload_n 0, 1) := by decide +kernel
theorem dX4_areSectors_46 : decode cX4_areSectors 46 = .ok (.getfield 34, 3) := by decide +kernel
theorem dX4_areSectors_49 : decode cX4_areSectors 49 = .ok (.i2l, 1) := by decide +kernel
theorem dX4_areSectors_50 : decode cX4_areSectors 50 = .ok (.lload_n 1, 1) := by decide +kernel
theorem dX4_areSectors_51 : decode cX4_areSectors 51 = .ok (.lsub, 1) := by decide +kernel
theorem dX4_areSectors_52 : decode cX4_areSectors 52 = .ok (.lcmp, 1) := by decide +kernel
theorem dX4_areSectors_53 : decode cX4_areSectors 53 = .ok (.ifCond .gt 7, 3) := by decide +kernel
theorem dX4_areSectors_56 : decode cX4_areSectors 56 = .ok (.iconst 1, 1) := by decide +kernel
theorem dX4_areSectors_57 : decode cX4_areSectors 57 = .ok (.goto 4, 3) := by decide +kernel
theorem dX4_areSectors_60 : decode cX4_areSectors 60 = .ok (.iconst 0, 1) := by decide +kernel
theorem dX4_areSectors_61 : decode cX4_areSectors 61 = .ok (.ireturn, 1) := by decide +kernel
theorem dX4_beginData_0 : decode cX4_beginData 0 = .ok (.aload_n 0, 1) := by decide +kernel
theorem dX4_beginData_1 : decode cX4_beginData 1 = .ok (.iconst 1, 1) := by decide +kernel
theorem dX4_beginData_2 : decode cX4_beginData 2 = .ok (.putfield 132, 3) := by decide +kernel
theorem dX4_beginData_5 : decode cX4_beginData 5 = .ok (.aload_n 0, 1) := by decide +kernel
theorem dX4_beginData_6 : decode cX4_beginData 6 = .ok (.lconst 0, 1) := by decide +kernel
theorem dX4_beginData_7 : decode cX4_beginData 7 = .ok (.putfield 135, 3) := by decide +kernel
theorem dX4_beginData_10 : decode cX4_beginData 10 = .ok (.aload_n 0, 1) := by decide +kernel
theorem dX4_beginData_11 : decode cX4_beginData 11 = .ok (.getfield 30, 3) := by decide +kernel
theorem dX4_beginData_14 : decode cX4_beginData 14 = .ok (.aload_n 0, 1) := by decide +kernel
theorem dX4_beginData_15 : decode cX4_beginData 15 = .ok (.getfield 132, 3) := by decide +kernel
theorem dX4_beginData_18 : decode cX4_beginData 18 = .ok (.baload, 1) := by decide +kernel
theorem dX4_beginData_19 : decode cX4_beginData 19 = .ok (.iload_n 1, 1) := by decide +kernel
theorem dX4_beginData_20 : decode cX4_beginData 20 = .ok (.if_icmp .eq 16, 3) := by decide +kernel
theorem dX4_beginData_23 : decode cX4_beginData 23 = .ok (.aload_n 0, 1) := by decide +kernel
theorem dX4_beginData_24 : decode cX4_beginData 24 = .ok (.dup, 1) := by decide +kernel
theorem dX4_beginData_25 : decode cX4_beginData 25 = .ok (.getfield 132, 3) := by decide +kernel
theorem dX4_beginData_28 : decode cX4_beginData 28 = .ok (.iconst 1, 1) := by decide +kernel
theorem dX4_beginData_29 : decode cX4_beginData 29 = .ok (.iadd, 1) := by decide +kernel
theorem dX4_beginData_30 : decode cX4_beginData 30 = .ok (.putfield 132, 3) := by decide +kernel
theorem dX4_beginData_33 : decode cX4_beginData 33 = .ok (.goto (-23), 3) := by decide +kernel
theorem dX4_beginData_36 : decode cX4_beginData 36 = .ok (.return_, 1) := by decide +kernel
theorem dX4_data_0 : decode cX4_data 0 = .ok (.iload_n 1, 1) := by decide +kernel
theorem dX4_data_1 : decode cX4_data 1 = .ok (.ifCond .eq 9, 3) := by decide +kernel
theorem dX4_data_4 : decode cX4_data 4 = .ok (.ldc2_w 42, 3) := by decide +kernel
theorem dX4_data_7 : decode cX4_data 7 = .ok (.goto 4, 3) := by decide +kernel
theorem dX4_data_10 : decode cX4_data 10 = .ok (.lconst 0, 1) := by decide +kernel
theorem dX4_data_11 : decode cX4_data 11 = .ok (.lstore_n 2, 1) := by decide +kernel
theorem dX4_data_12 : decode cX4_data 12 = .ok (.iconst 1, 1) := by decide +kernel
theorem dX4_data_13 : decode cX4_data 13 = .ok (.istore 4, 2) := by decide +kernel
theorem dX4_data_15 : decode cX4_data 15 = .ok (.iload 4, 2) := by decide +kernel
theorem dX4_data_17 : decode cX4_data 17 = .ok (.aload_n 0, 1) := by decide +kernel
theorem dX4_data_18 : decode cX4_data 18 = .ok (.getfield 121, 3) := by decide +kernel
theorem dX4_data_21 : decode cX4_data 21 = .ok (.if_icmp .ge 34, 3) := by decide +kernel
theorem dX4_data_24 : decode cX4_data 24 = .ok (.aload_n 0, 1) := by decide +kernel
theorem dX4_data_25 : decode cX4_data 25 = .ok (.getfield 30, 3) := by decide +kernel
theorem dX4_data_28 : decode cX4_data 28 = .ok (.iload 4, 2) := by decide +kernel
theorem dX4_data_30 : decode cX4_data 30 = .ok (.baload, 1) := by decide +kernel
theorem dX4_data_31 : decode cX4_data 31 = .ok (.iload_n 1, 1) := by decide +kernel
theorem dX4_data_32 : decode cX4_data 32 = .ok (.if_icmp .ne 15, 3) := by decide +kernel
theorem dX4_data_35 : decode cX4_data 35 = .ok (.lload_n 2, 1) := by decide +kernel
theorem dX4_data_36 : decode cX4_data 36 = .ok (.aload_n 0, 1) := by decide +kernel
theorem dX4_data_37 : decode cX4_data 37 = .ok (.getfield 27, 3) := by decide +kernel
theorem dX4_data_40 : decode cX4_data 40 = .ok (.iload 4, 2) := by decide +kernel
theorem dX4_data_42 : decode cX4_data 42 = .ok (.laload, 1) := by decide +kernel
theorem dX4_data_43 : decode cX4_data 43 = .ok (.ladd, 1) := by decide +kernel
theorem dX4_data_44 : decode cX4_data 44 = .ok (.goto 4, 3) := by decide +kernel
theorem dX4_data_47 : decode cX4_data 47 = .ok (.lload_n 2, 1) := by decide +kernel
theorem dX4_data_48 : decode cX4_data 48 = .ok (.lstore_n 2, 1) := by decide +kernel
theorem dX4_data_49 : decode cX4_data 49 = .ok (.iinc 4 1, 3) := by decide +kernel
theorem dX4_data_52 : decode cX4_data 52 = .ok (.goto (-37), 3) := by decide +kernel
theorem dX4_data_55 : decode cX4_data 55 = .ok (.lload_n 2, 1) := by decide +kernel
theorem dX4_data_56 : decode cX4_data 56 = .ok (.lreturn, 1) := by decide +kernel
theorem dX4_nextByte_0 : decode cX4_nextByte 0 = .ok (.aload_n 0, 1) := by decide +kernel
theorem dX4_nextByte_1 : decode cX4_nextByte 1 = .ok (.getfield 135, 3) := by decide +kernel
theorem dX4_nextByte_4 : decode cX4_nextByte 4 = .ok (.aload_n 0, 1) := by decide +kernel
theorem dX4_nextByte_5 : decode cX4_nextByte 5 = .ok (.getfield 27, 3) := by decide +kernel
theorem dX4_nextByte_8 : decode cX4_nextByte 8 = .ok (.aload_n 0, 1) := by decide +kernel
theorem dX4_nextByte_9 : decode cX4_nextByte 9 = .ok (.getfield 132, 3) := by decide +kernel
theorem dX4_nextByte_12 : decode cX4_nextByte 12 = .ok (.laload, 1) := by decide +kernel
theorem dX4_nextByte_13 : decode cX4_nextByte 13 = .ok (.lcmp, 1) := by decide +kernel
theorem dX4_nextByte_14 : decode cX4_nextByte 14 = .ok (.ifCond .ne 21, 3) := by decide +kernel
theorem dX4_nextByte_17 : decode cX4_nextByte 17 = .ok (.aload_n 0, 1) := by decide +kernel
theorem dX4_nextByte_18 : decode cX4_nextByte 18 = .ok (.dup, 1) := by decide +kernel
theorem dX4_nextByte_19 : decode cX4_nextByte 19 = .ok (.getfield 132, 3) := by decide +kernel
theorem dX4_nextByte_22 : decode cX4_nextByte 22 = .ok (.iconst 1, 1) := by decide +kernel
theorem dX4_nextByte_23 : decode cX4_nextByte 23 = .ok (.iadd, 1) := by decide +kernel
theorem dX4_nextByte_24 : decode cX4_nextByte 24 = .ok (.putfield 132, 3) := by decide +kernel
theorem dX4_nextByte_27 : decode cX4_nextByte 27 = .ok (.aload_n 0, 1) := by decide +kernel
theorem dX4_nextByte_28 : decode cX4_nextByte 28 = .ok (.lconst 0, 1) := by decide +kernel
theorem dX4_nextByte_29 : decode cX4_nextByte 29 = .ok (.putfield 135, 3) := by decide +kernel
theorem dX4_nextByte_32 : decode cX4_nextByte 32 = .ok (.goto (-32), 3) := by decide +kernel
theorem dX4_nextByte_35 : decode cX4_nextByte 35 = .ok (.aload_n 0, 1) := by decide +kernel
theorem dX4_nextByte_36 : decode cX4_nextByte 36 = .ok (.dup, 1) := by decide +kernel
theorem dX4_nextByte_37 : decode cX4_nextByte 37 = .ok (.getfield 135, 3) := by decide +kernel
theorem dX4_nextByte_40 : decode cX4_nextByte 40 = .ok (.lconst 1, 1) := by decide +kernel
theorem dX4_nextByte_41 : decode cX4_nextByte 41 = .ok (.ladd, 1) := by decide +kernel
theorem dX4_nextByte_42 : decode cX4_nextByte 42 = .ok (.putfield 135, 3) := by decide +kernel
theorem dX4_nextByte_45 : decode cX4_nextByte 45 = .ok (.aload_n 0, 1) := by decide +kernel
theorem dX4_nextByte_46 : decode cX4_nextByte 46 = .ok (.getfield 24, 3) := by decide +kernel
theorem dX4_nextByte_49 : decode cX4_nextByte 49 = .ok (.aload_n 0, 1) := by decide +kernel
theorem dX4_nextByte_50 : decode cX4_nextByte 50 = .ok (.getfield 132, 3) := by decide +kernel
theorem dX4_nextByte_53 : decode cX4_nextByte 53 = .ok (.laload, 1) := by decide +kernel
theorem dX4_nextByte_54 : decode cX4_nextByte 54 = .ok (.aload_n 0, 1) := by decide +kernel
theorem dX4_nextByte_55 : decode cX4_nextByte 55 = .ok (.getfield 135, 3) := by decide +kernel
theorem dX4_nextByte_58 : decode cX4_nextByte 58 = .ok (.ladd, 1) := by decide +kernel
theorem dX4_nextByte_59 : decode cX4_nextByte 59 = .ok (.lconst 1, 1) := by decide +kernel
theorem dX4_nextByte_60 : decode cX4_nextByte 60 = .ok (.lsub, 1) := by decide +kernel
theorem dX4_nextByte_61 : decode cX4_nextByte 61 = .ok (.lreturn, 1) := by decide +kernel
