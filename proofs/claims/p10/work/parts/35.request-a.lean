/-! words and decoded instructions -/
set_option maxRecDepth 20000 in
theorem w_41e730de16 : Cond.fieldLink RX2 11 "QueueDisk$Request" "places" "[J" ∈ WW := ww_1 (List.mem_of_getElem? (i := 77) rfl) rfl
set_option maxRecDepth 20000 in
theorem w_d805126c5c : Cond.fieldLink RX2 17 "QueueDisk$Request" "lengths" "[I" ∈ WW := ww_1 (List.mem_of_getElem? (i := 78) rfl) rfl
set_option maxRecDepth 20000 in
theorem w_17cac06a59 : Cond.fieldLink RX2 21 "QueueDisk$Request" "count" "I" ∈ WW := ww_1 (List.mem_of_getElem? (i := 79) rfl) rfl
set_option maxRecDepth 20000 in
theorem w_c8d11bcee7 : Cond.code yX2_lengthOf cX2_lengthOf 2 (some .int) ∈ WW := ww_2 (List.mem_of_getElem? (i := 126) rfl) rfl
set_option maxRecDepth 20000 in
theorem w_d27e9d3e51 : Cond.initialized RX2 ∈ WW := ww_1 (List.mem_of_getElem? (i := 4) rfl) rfl
set_option maxRecDepth 20000 in
theorem w_a80aaf268a : Cond.methodLink RX2 66 yX2_lengthOf ∈ WW := ww_2 (List.mem_of_getElem? (i := 123) rfl) rfl
set_option maxRecDepth 20000 in
theorem w_cb6da4ecc0 : Cond.instanceMethod yX2_lengthOf ∈ WW := ww_2 (List.mem_of_getElem? (i := 125) rfl) rfl
set_option maxRecDepth 20000 in
theorem w_cf853dc132 : Cond.selects RX2 yX2_lengthOf yX2_lengthOf ∈ WW := ww_p (List.mem_of_getElem? (i := 11) rfl) rfl
set_option maxRecDepth 20000 in
theorem w_577239e1dd : Cond.code yX2_placeOf cX2_placeOf 2 (some .long) ∈ WW := ww_2 (List.mem_of_getElem? (i := 134) rfl) rfl
set_option maxRecDepth 20000 in
theorem w_d160ddf157 : Cond.methodLink RX2 70 yX2_placeOf ∈ WW := ww_2 (List.mem_of_getElem? (i := 131) rfl) rfl
set_option maxRecDepth 20000 in
theorem w_1bc15c9d4e : Cond.instanceMethod yX2_placeOf ∈ WW := ww_2 (List.mem_of_getElem? (i := 133) rfl) rfl
set_option maxRecDepth 20000 in
theorem w_7601c55bff : Cond.selects RX2 yX2_placeOf yX2_placeOf ∈ WW := ww_p (List.mem_of_getElem? (i := 12) rfl) rfl
set_option maxRecDepth 20000 in
theorem w_12393e1ced : Cond.methodLink RX2 48 yX0_number ∈ WW := ww_2 (List.mem_of_getElem? (i := 111) rfl) rfl
set_option maxRecDepth 20000 in
theorem w_fbe93aa489 : Cond.constantLong RX2 54 8 ∈ WW := ww_2 (List.mem_of_getElem? (i := 113) rfl) rfl
set_option maxRecDepth 20000 in
theorem w_c0451c0cf4 : Cond.fieldLink RX2 25 "QueueDisk$Request" "closed" "I" ∈ WW := ww_1 (List.mem_of_getElem? (i := 81) rfl) rfl
set_option maxRecDepth 20000 in
theorem w_8e7575e911 : Cond.methodLink RX2 40 yX0_holds ∈ WW := ww_2 (List.mem_of_getElem? (i := 109) rfl) rfl
theorem dX2_kind_0 : decode cX2_kind 0 = .ok (.aload_n 1, 1) := by decide +kernel
theorem dX2_kind_1 : decode cX2_kind 1 = .ok (.aload_n 0, 1) := by decide +kernel
theorem dX2_kind_2 : decode cX2_kind 2 = .ok (.iconst 0, 1) := by decide +kernel
theorem dX2_kind_3 : decode cX2_kind 3 = .ok (.invokevirtual 70, 3) := by decide +kernel
theorem dX2_kind_6 : decode cX2_kind 6 = .ok (.iconst 4, 1) := by decide +kernel
theorem dX2_kind_7 : decode cX2_kind 7 = .ok (.invokevirtual 48, 3) := by decide +kernel
theorem dX2_kind_10 : decode cX2_kind 10 = .ok (.l2i, 1) := by decide +kernel
theorem dX2_kind_11 : decode cX2_kind 11 = .ok (.ireturn, 1) := by decide +kernel
theorem dX2_lengthOf_0 : decode cX2_lengthOf 0 = .ok (.iload_n 1, 1) := by decide +kernel
theorem dX2_lengthOf_1 : decode cX2_lengthOf 1 = .ok (.ifCond .lt 21, 3) := by decide +kernel
theorem dX2_lengthOf_4 : decode cX2_lengthOf 4 = .ok (.iload_n 1, 1) := by decide +kernel
theorem dX2_lengthOf_5 : decode cX2_lengthOf 5 = .ok (.aload_n 0, 1) := by decide +kernel
theorem dX2_lengthOf_6 : decode cX2_lengthOf 6 = .ok (.getfield 17, 3) := by decide +kernel
theorem dX2_lengthOf_9 : decode cX2_lengthOf 9 = .ok (.arraylength, 1) := by decide +kernel
theorem dX2_lengthOf_10 : decode cX2_lengthOf 10 = .ok (.if_icmp .ge 12, 3) := by decide +kernel
theorem dX2_lengthOf_13 : decode cX2_lengthOf 13 = .ok (.aload_n 0, 1) := by decide +kernel
theorem dX2_lengthOf_14 : decode cX2_lengthOf 14 = .ok (.getfield 17, 3) := by decide +kernel
theorem dX2_lengthOf_17 : decode cX2_lengthOf 17 = .ok (.iload_n 1, 1) := by decide +kernel
theorem dX2_lengthOf_18 : decode cX2_lengthOf 18 = .ok (.iaload, 1) := by decide +kernel
theorem dX2_lengthOf_19 : decode cX2_lengthOf 19 = .ok (.goto 4, 3) := by decide +kernel
theorem dX2_lengthOf_22 : decode cX2_lengthOf 22 = .ok (.iconst 0, 1) := by decide +kernel
theorem dX2_lengthOf_23 : decode cX2_lengthOf 23 = .ok (.ireturn, 1) := by decide +kernel
theorem dX2_openLengthOf_0 : decode cX2_openLengthOf 0 = .ok (.iload_n 1, 1) := by decide +kernel
theorem dX2_openLengthOf_1 : decode cX2_openLengthOf 1 = .ok (.aload_n 0, 1) := by decide +kernel
theorem dX2_openLengthOf_2 : decode cX2_openLengthOf 2 = .ok (.getfield 21, 3) := by decide +kernel
theorem dX2_openLengthOf_5 : decode cX2_openLengthOf 5 = .ok (.iconst 1, 1) := by decide +kernel
theorem dX2_openLengthOf_6 : decode cX2_openLengthOf 6 = .ok (.isub, 1) := by decide +kernel
theorem dX2_openLengthOf_7 : decode cX2_openLengthOf 7 = .ok (.if_icmp .ne 13, 3) := by decide +kernel
theorem dX2_openLengthOf_10 : decode cX2_openLengthOf 10 = .ok (.aload_n 0, 1) := by decide +kernel
theorem dX2_openLengthOf_11 : decode cX2_openLengthOf 11 = .ok (.iload_n 1, 1) := by decide +kernel
theorem dX2_openLengthOf_12 : decode cX2_openLengthOf 12 = .ok (.invokevirtual 66, 3) := by decide +kernel
theorem dX2_openLengthOf_15 : decode cX2_openLengthOf 15 = .ok (.iconst 1, 1) := by decide +kernel
theorem dX2_openLengthOf_16 : decode cX2_openLengthOf 16 = .ok (.isub, 1) := by decide +kernel
theorem dX2_openLengthOf_17 : decode cX2_openLengthOf 17 = .ok (.goto 8, 3) := by decide +kernel
theorem dX2_openLengthOf_20 : decode cX2_openLengthOf 20 = .ok (.aload_n 0, 1) := by decide +kernel
theorem dX2_openLengthOf_21 : decode cX2_openLengthOf 21 = .ok (.iload_n 1, 1) := by decide +kernel
theorem dX2_openLengthOf_22 : decode cX2_openLengthOf 22 = .ok (.invokevirtual 66, 3) := by decide +kernel
theorem dX2_openLengthOf_25 : decode cX2_openLengthOf 25 = .ok (.ireturn, 1) := by decide +kernel
theorem dX2_placeOf_0 : decode cX2_placeOf 0 = .ok (.iload_n 1, 1) := by decide +kernel
theorem dX2_placeOf_1 : decode cX2_placeOf 1 = .ok (.ifCond .lt 21, 3) := by decide +kernel
theorem dX2_placeOf_4 : decode cX2_placeOf 4 = .ok (.iload_n 1, 1) := by decide +kernel
theorem dX2_placeOf_5 : decode cX2_placeOf 5 = .ok (.aload_n 0, 1) := by decide +kernel
theorem dX2_placeOf_6 : decode cX2_placeOf 6 = .ok (.getfield 11, 3) := by decide +kernel
theorem dX2_placeOf_9 : decode cX2_placeOf 9 = .ok (.arraylength, 1) := by decide +kernel
theorem dX2_placeOf_10 : decode cX2_placeOf 10 = .ok (.if_icmp .ge 12, 3) := by decide +kernel
theorem dX2_placeOf_13 : decode cX2_placeOf 13 = .ok (.aload_n 0, 1) := by decide +kernel
theorem dX2_placeOf_14 : decode cX2_placeOf 14 = .ok (.getfield 11, 3) := by decide +kernel
theorem dX2_placeOf_17 : decode cX2_placeOf 17 = .ok (.iload_n 1, 1) := by decide +kernel
theorem dX2_placeOf_18 : decode cX2_placeOf 18 = .ok (.laload, 1) := by decide +kernel
theorem dX2_placeOf_19 : decode cX2_placeOf 19 = .ok (.goto 4, 3) := by decide +kernel
theorem dX2_placeOf_22 : decode cX2_placeOf 22 = .ok (.lconst 0, 1) := by decide +kernel
theorem dX2_placeOf_23 : decode cX2_placeOf 23 = .ok (.lreturn, 1) := by decide +kernel
theorem dX2_resultPlace_0 : decode cX2_resultPlace 0 = .ok (.aload_n 0, 1) := by decide +kernel
theorem dX2_resultPlace_1 : decode cX2_resultPlace 1 = .ok (.aload_n 0, 1) := by decide +kernel
theorem dX2_resultPlace_2 : decode cX2_resultPlace 2 = .ok (.getfield 21, 3) := by decide +kernel
theorem dX2_resultPlace_5 : decode cX2_resultPlace 5 = .ok (.iconst 1, 1) := by decide +kernel
theorem dX2_resultPlace_6 : decode cX2_resultPlace 6 = .ok (.isub, 1) := by decide +kernel
theorem dX2_resultPlace_7 : decode cX2_resultPlace 7 = .ok (.invokevirtual 70, 3) := by decide +kernel
theorem dX2_resultPlace_10 : decode cX2_resultPlace 10 = .ok (.aload_n 0, 1) := by decide +kernel
theorem dX2_resultPlace_11 : decode cX2_resultPlace 11 = .ok (.aload_n 0, 1) := by decide +kernel
theorem dX2_resultPlace_12 : decode cX2_resultPlace 12 = .ok (.getfield 21, 3) := by decide +kernel
theorem dX2_resultPlace_15 : decode cX2_resultPlace 15 = .ok (.iconst 1, 1) := by decide +kernel
theorem dX2_resultPlace_16 : decode cX2_resultPlace 16 = .ok (.isub, 1) := by decide +kernel
theorem dX2_resultPlace_17 : decode cX2_resultPlace 17 = .ok (.invokevirtual 66, 3) := by decide +kernel
theorem dX2_resultPlace_20 : decode cX2_resultPlace 20 = .ok (.i2l, 1) := by decide +kernel
theorem dX2_resultPlace_21 : decode cX2_resultPlace 21 = .ok (.ladd, 1) := by decide +kernel
theorem dX2_resultPlace_22 : decode cX2_resultPlace 22 = .ok (.lconst 1, 1) := by decide +kernel
theorem dX2_resultPlace_23 : decode cX2_resultPlace 23 = .ok (.lsub, 1) := by decide +kernel
theorem dX2_resultPlace_24 : decode cX2_resultPlace 24 = .ok (.lreturn, 1) := by decide +kernel
theorem dX2_sector_0 : decode cX2_sector 0 = .ok (.aload_n 1, 1) := by decide +kernel
theorem dX2_sector_1 : decode cX2_sector 1 = .ok (.aload_n 0, 1) := by decide +kernel
theorem dX2_sector_2 : decode cX2_sector 2 = .ok (.iconst 0, 1) := by decide +kernel
theorem dX2_sector_3 : decode cX2_sector 3 = .ok (.invokevirtual 70, 3) := by decide +kernel
theorem dX2_sector_6 : decode cX2_sector 6 = .ok (.ldc2_w 54, 3) := by decide +kernel
theorem dX2_sector_9 : decode cX2_sector 9 = .ok (.ladd, 1) := by decide +kernel
theorem dX2_sector_10 : decode cX2_sector 10 = .ok (.bipush 8, 2) := by decide +kernel
theorem dX2_sector_12 : decode cX2_sector 12 = .ok (.invokevirtual 48, 3) := by decide +kernel
theorem dX2_sector_15 : decode cX2_sector 15 = .ok (.lreturn, 1) := by decide +kernel
theorem dX2_take_0 : decode cX2_take 0 = .ok (.iload 6, 2) := by decide +kernel
theorem dX2_take_2 : decode cX2_take 2 = .ok (.iconst 2, 1) := by decide +kernel
theorem dX2_take_3 : decode cX2_take 3 = .ok (.iand, 1) := by decide +kernel
theorem dX2_take_4 : decode cX2_take 4 = .ok (.ifCond .eq 7, 3) := by decide +kernel
theorem dX2_take_7 : decode cX2_take 7 = .ok (.iconst 1, 1) := by decide +kernel
theorem dX2_take_8 : decode cX2_take 8 = .ok (.goto 4, 3) := by decide +kernel
theorem dX2_take_11 : decode cX2_take 11 = .ok (.iconst 0, 1) := by decide +kernel
theorem dX2_take_12 : decode cX2_take 12 = .ok (.istore 7, 2) := by decide +kernel
theorem dX2_take_14 : decode cX2_take 14 = .ok (.iload 6, 2) := by decide +kernel
theorem dX2_take_16 : decode cX2_take 16 = .ok (.iconst 4, 1) := by decide +kernel
theorem dX2_take_17 : decode cX2_take 17 = .ok (.iand, 1) := by decide +kernel
theorem dX2_take_18 : decode cX2_take 18 = .ok (.ifCond .ne 19, 3) := by decide +kernel
theorem dX2_take_21 : decode cX2_take 21 = .ok (.iload 7, 2) := by decide +kernel
theorem dX2_take_23 : decode cX2_take 23 = .ok (.ifCond .ne 16, 3) := by decide +kernel
theorem dX2_take_26 : decode cX2_take 26 = .ok (.aload_n 0, 1) := by decide +kernel
theorem dX2_take_27 : decode cX2_take 27 = .ok (.getfield 25, 3) := by decide +kernel
theorem dX2_take_30 : decode cX2_take 30 = .ok (.aload_n 0, 1) := by decide +kernel
theorem dX2_take_31 : decode cX2_take 31 = .ok (.getfield 21, 3) := by decide +kernel
theorem dX2_take_34 : decode cX2_take 34 = .ok (.if_icmp .ge 5, 3) := by decide +kernel
theorem dX2_take_37 : decode cX2_take 37 = .ok (.iconst 0, 1) := by decide +kernel
theorem dX2_take_38 : decode cX2_take 38 = .ok (.ireturn, 1) := by decide +kernel
theorem dX2_take_39 : decode cX2_take 39 = .ok (.lload 4, 2) := by decide +kernel
theorem dX2_take_41 : decode cX2_take 41 = .ok (.lconst 0, 1) := by decide +kernel
theorem dX2_take_42 : decode cX2_take 42 = .ok (.lcmp, 1) := by decide +kernel
theorem dX2_take_43 : decode cX2_take 43 = .ok (.ifCond .eq 15, 3) := by decide +kernel
theorem dX2_take_46 : decode cX2_take 46 = .ok (.aload_n 1, 1) := by decide +kernel
theorem dX2_take_47 : decode cX2_take 47 = .ok (.lload_n 2, 1) := by decide +kernel
theorem dX2_take_48 : decode cX2_take 48 = .ok (.lload 4, 2) := by decide +kernel
theorem dX2_take_50 : decode cX2_take 50 = .ok (.invokevirtual 40, 3) := by decide +kernel
theorem dX2_take_53 : decode cX2_take 53 = .ok (.ifCond .ne 5, 3) := by decide +kernel
theorem dX2_take_56 : decode cX2_take 56 = .ok (.iconst 0, 1) := by decide +kernel
theorem dX2_take_57 : decode cX2_take 57 = .ok (.ireturn, 1) := by decide +kernel
theorem dX2_take_58 : decode cX2_take 58 = .ok (.aload_n 0, 1) := by decide +kernel
theorem dX2_take_59 : decode cX2_take 59 = .ok (.getfield 21, 3) := by decide +kernel
theorem dX2_take_62 : decode cX2_take 62 = .ok (.aload_n 0, 1) := by decide +kernel
theorem dX2_take_63 : decode cX2_take 63 = .ok (.getfield 11, 3) := by decide +kernel
theorem dX2_take_66 : decode cX2_take 66 = .ok (.arraylength, 1) := by decide +kernel
theorem dX2_take_67 : decode cX2_take 67 = .ok (.if_icmp .ge 15, 3) := by decide +kernel
theorem dX2_take_70 : decode cX2_take 70 = .ok (.aload_n 0, 1) := by decide +kernel
theorem dX2_take_71 : decode cX2_take 71 = .ok (.getfield 21, 3) := by decide +kernel
theorem dX2_take_74 : decode cX2_take 74 = .ok (.aload_n 0, 1) := by decide +kernel
theorem dX2_take_75 : decode cX2_take 75 = .ok (.getfield 17, 3) := by decide +kernel
theorem dX2_take_78 : decode cX2_take 78 = .ok (.arraylength, 1) := by decide +kernel
theorem dX2_take_79 : decode cX2_take 79 = .ok (.if_icmp .lt 5, 3) := by decide +kernel
theorem dX2_take_82 : decode cX2_take 82 = .ok (.iconst 0, 1) := by decide +kernel
theorem dX2_take_83 : decode cX2_take 83 = .ok (.ireturn, 1) := by decide +kernel
theorem dX2_take_84 : decode cX2_take 84 = .ok (.aload_n 0, 1) := by decide +kernel
theorem dX2_take_85 : decode cX2_take 85 = .ok (.getfield 11, 3) := by decide +kernel
theorem dX2_take_88 : decode cX2_take 88 = .ok (.aload_n 0, 1) := by decide +kernel
theorem dX2_take_89 : decode cX2_take 89 = .ok (.getfield 21, 3) := by decide +kernel
theorem dX2_take_92 : decode cX2_take 92 = .ok (.lload_n 2, 1) := by decide +kernel
theorem dX2_take_93 : decode cX2_take 93 = .ok (.lastore, 1) := by decide +kernel
theorem dX2_take_94 : decode cX2_take 94 = .ok (.aload_n 0, 1) := by decide +kernel
theorem dX2_take_95 : decode cX2_take 95 = .ok (.getfield 17, 3) := by decide +kernel
theorem dX2_take_98 : decode cX2_take 98 = .ok (.aload_n 0, 1) := by decide +kernel
theorem dX2_take_99 : decode cX2_take 99 = .ok (.getfield 21, 3) := by decide +kernel
theorem dX2_take_102 : decode cX2_take 102 = .ok (.lload 4, 2) := by decide +kernel
theorem dX2_take_104 : decode cX2_take 104 = .ok (.l2i, 1) := by decide +kernel
theorem dX2_take_105 : decode cX2_take 105 = .ok (.iastore, 1) := by decide +kernel
theorem dX2_take_106 : decode cX2_take 106 = .ok (.aload_n 0, 1) := by decide +kernel
theorem dX2_take_107 : decode cX2_take 107 = .ok (.dup, 1) := by decide +kernel
theorem dX2_take_108 : decode cX2_take 108 = .ok (.getfield 21, 3) := by decide +kernel
theorem dX2_take_111 : decode cX2_take 111 = .ok (.iconst 1, 1) := by decide +kernel
theorem dX2_take_112 : decode cX2_take 112 = .ok (.iadd, 1) := by decide +kernel
theorem dX2_take_113 : decode cX2_take 113 = .ok (.putfield 21, 3) := by decide +kernel
theorem dX2_take_116 : decode cX2_take 116 = .ok (.iload 7, 2) := by decide +kernel
theorem dX2_take_118 : decode cX2_take 118 = .ok (.ifCond .ne 13, 3) := by decide +kernel
theorem dX2_take_121 : decode cX2_take 121 = .ok (.aload_n 0, 1) := by decide +kernel
theorem dX2_take_122 : decode cX2_take 122 = .ok (.dup, 1) := by decide +kernel
theorem dX2_take_123 : decode cX2_take 123 = .ok (.getfield 25, 3) := by decide +kernel
theorem dX2_take_126 : decode cX2_take 126 = .ok (.iconst 1, 1) := by decide +kernel
theorem dX2_take_127 : decode cX2_take 127 = .ok (.iadd, 1) := by decide +kernel
theorem dX2_take_128 : decode cX2_take 128 = .ok (.putfield 25, 3) := by decide +kernel
theorem dX2_take_131 : decode cX2_take 131 = .ok (.iconst 1, 1) := by decide +kernel
theorem dX2_take_132 : decode cX2_take 132 = .ok (.ireturn, 1) := by decide +kernel
