/-! words and decoded instructions -/
set_option maxRecDepth 20000 in
theorem w_7a6043ef27 : Cond.fieldLink RX2 89 "QueueDisk$Request" "NAME" "[I" ∈ WW := ww_2 (List.mem_of_getElem? (i := 188) rfl) rfl
set_option maxRecDepth 20000 in
theorem w_e29e190729 : Cond.methodLink RX2 76 Lib.Math.min.name ∈ WW := ww_2 (List.mem_of_getElem? (i := 182) rfl) rfl
set_option maxRecDepth 20000 in
theorem w_6443835c00 : Cond.static Lib.Math.min.name ∈ WW := ww_2 (List.mem_of_getElem? (i := 183) rfl) rfl
set_option maxRecDepth 20000 in
theorem w_544deca7c6 : Cond.initialized "java/lang/Math" ∈ WW := ww_1 (List.mem_of_getElem? (i := 12) rfl) rfl
set_option maxRecDepth 20000 in
theorem w_4cca852340 : Cond.code Lib.Math.min.name Lib.Math.min.code 2 (some .int) ∈ WW := ww_2 (List.mem_of_getElem? (i := 184) rfl) rfl
set_option maxRecDepth 20000 in
theorem w_e7b0ccde04 : Cond.code yX2_nameByte cX2_nameByte 1 (some .int) ∈ WW := ww_2 (List.mem_of_getElem? (i := 187) rfl) rfl
set_option maxRecDepth 20000 in
theorem w_fb6f7a5da9 : Cond.methodLink RX2 82 yX2_nameByte ∈ WW := ww_2 (List.mem_of_getElem? (i := 185) rfl) rfl
set_option maxRecDepth 20000 in
theorem w_a3d2d35ab8 : Cond.static yX2_nameByte ∈ WW := ww_2 (List.mem_of_getElem? (i := 186) rfl) rfl
set_option maxRecDepth 20000 in
theorem w_8be485b431 : Cond.methodLink RX2 85 yX0_put ∈ WW := ww_2 (List.mem_of_getElem? (i := 190) rfl) rfl
set_option maxRecDepth 20000 in
theorem w_93433e0511 : Cond.methodLink RX2 3 objectInit ∈ WW := ww_1 (List.mem_of_getElem? (i := 76) rfl) rfl
set_option maxRecDepth 20000 in
theorem w_0460111aad : Cond.arrayClass .int ∈ WW := ww_1 (List.mem_of_getElem? (i := 97) rfl) rfl
theorem dX2_init_0 : decode cX2_init 0 = .ok (.aload_n 0, 1) := by decide +kernel
theorem dX2_init_1 : decode cX2_init 1 = .ok (.invokespecial 3, 3) := by decide +kernel
theorem dX2_init_4 : decode cX2_init 4 = .ok (.aload_n 0, 1) := by decide +kernel
theorem dX2_init_5 : decode cX2_init 5 = .ok (.bipush 16, 2) := by decide +kernel
theorem dX2_init_7 : decode cX2_init 7 = .ok (.newarray .long, 2) := by decide +kernel
theorem dX2_init_9 : decode cX2_init 9 = .ok (.putfield 11, 3) := by decide +kernel
theorem dX2_init_12 : decode cX2_init 12 = .ok (.aload_n 0, 1) := by decide +kernel
theorem dX2_init_13 : decode cX2_init 13 = .ok (.bipush 16, 2) := by decide +kernel
theorem dX2_init_15 : decode cX2_init 15 = .ok (.newarray .int, 2) := by decide +kernel
theorem dX2_init_17 : decode cX2_init 17 = .ok (.putfield 17, 3) := by decide +kernel
theorem dX2_init_20 : decode cX2_init 20 = .ok (.return_, 1) := by decide +kernel
theorem dX2_nameByte_0 : decode cX2_nameByte 0 = .ok (.iload_n 0, 1) := by decide +kernel
theorem dX2_nameByte_1 : decode cX2_nameByte 1 = .ok (.ifCond .lt 19, 3) := by decide +kernel
theorem dX2_nameByte_4 : decode cX2_nameByte 4 = .ok (.iload_n 0, 1) := by decide +kernel
theorem dX2_nameByte_5 : decode cX2_nameByte 5 = .ok (.getstatic 89, 3) := by decide +kernel
theorem dX2_nameByte_8 : decode cX2_nameByte 8 = .ok (.arraylength, 1) := by decide +kernel
theorem dX2_nameByte_9 : decode cX2_nameByte 9 = .ok (.if_icmp .ge 11, 3) := by decide +kernel
theorem dX2_nameByte_12 : decode cX2_nameByte 12 = .ok (.getstatic 89, 3) := by decide +kernel
theorem dX2_nameByte_15 : decode cX2_nameByte 15 = .ok (.iload_n 0, 1) := by decide +kernel
theorem dX2_nameByte_16 : decode cX2_nameByte 16 = .ok (.iaload, 1) := by decide +kernel
theorem dX2_nameByte_17 : decode cX2_nameByte 17 = .ok (.goto 4, 3) := by decide +kernel
theorem dX2_nameByte_20 : decode cX2_nameByte 20 = .ok (.iconst 0, 1) := by decide +kernel
theorem dX2_nameByte_21 : decode cX2_nameByte 21 = .ok (.ireturn, 1) := by decide +kernel
theorem dX2_putName_0 : decode cX2_putName 0 = .ok (.aload_n 0, 1) := by decide +kernel
theorem dX2_putName_1 : decode cX2_putName 1 = .ok (.getfield 25, 3) := by decide +kernel
theorem dX2_putName_4 : decode cX2_putName 4 = .ok (.istore_n 2, 1) := by decide +kernel
theorem dX2_putName_5 : decode cX2_putName 5 = .ok (.iload_n 2, 1) := by decide +kernel
theorem dX2_putName_6 : decode cX2_putName 6 = .ok (.aload_n 0, 1) := by decide +kernel
theorem dX2_putName_7 : decode cX2_putName 7 = .ok (.getfield 21, 3) := by decide +kernel
theorem dX2_putName_10 : decode cX2_putName 10 = .ok (.if_icmp .ge 70, 3) := by decide +kernel
theorem dX2_putName_13 : decode cX2_putName 13 = .ok (.aload_n 0, 1) := by decide +kernel
theorem dX2_putName_14 : decode cX2_putName 14 = .ok (.iload_n 2, 1) := by decide +kernel
theorem dX2_putName_15 : decode cX2_putName 15 = .ok (.invokevirtual 73, 3) := by decide +kernel
theorem dX2_putName_18 : decode cX2_putName 18 = .ok (.bipush 20, 2) := by decide +kernel
theorem dX2_putName_20 : decode cX2_putName 20 = .ok (.aload_n 0, 1) := by decide +kernel
theorem dX2_putName_21 : decode cX2_putName 21 = .ok (.getfield 28, 3) := by decide +kernel
theorem dX2_putName_24 : decode cX2_putName 24 = .ok (.isub, 1) := by decide +kernel
theorem dX2_putName_25 : decode cX2_putName 25 = .ok (.invokestatic 76, 3) := by decide +kernel
theorem dX2_putName_28 : decode cX2_putName 28 = .ok (.istore_n 3, 1) := by decide +kernel
theorem dX2_putName_29 : decode cX2_putName 29 = .ok (.iconst 0, 1) := by decide +kernel
theorem dX2_putName_30 : decode cX2_putName 30 = .ok (.istore 4, 2) := by decide +kernel
theorem dX2_putName_32 : decode cX2_putName 32 = .ok (.iload 4, 2) := by decide +kernel
theorem dX2_putName_34 : decode cX2_putName 34 = .ok (.iload_n 3, 1) := by decide +kernel
theorem dX2_putName_35 : decode cX2_putName 35 = .ok (.if_icmp .ge 39, 3) := by decide +kernel
theorem dX2_putName_38 : decode cX2_putName 38 = .ok (.aload_n 1, 1) := by decide +kernel
theorem dX2_putName_39 : decode cX2_putName 39 = .ok (.aload_n 0, 1) := by decide +kernel
theorem dX2_putName_40 : decode cX2_putName 40 = .ok (.iload_n 2, 1) := by decide +kernel
theorem dX2_putName_41 : decode cX2_putName 41 = .ok (.invokevirtual 70, 3) := by decide +kernel
theorem dX2_putName_44 : decode cX2_putName 44 = .ok (.iload 4, 2) := by decide +kernel
theorem dX2_putName_46 : decode cX2_putName 46 = .ok (.i2l, 1) := by decide +kernel
theorem dX2_putName_47 : decode cX2_putName 47 = .ok (.ladd, 1) := by decide +kernel
theorem dX2_putName_48 : decode cX2_putName 48 = .ok (.aload_n 0, 1) := by decide +kernel
theorem dX2_putName_49 : decode cX2_putName 49 = .ok (.getfield 28, 3) := by decide +kernel
theorem dX2_putName_52 : decode cX2_putName 52 = .ok (.invokestatic 82, 3) := by decide +kernel
theorem dX2_putName_55 : decode cX2_putName 55 = .ok (.invokevirtual 85, 3) := by decide +kernel
theorem dX2_putName_58 : decode cX2_putName 58 = .ok (.aload_n 0, 1) := by decide +kernel
theorem dX2_putName_59 : decode cX2_putName 59 = .ok (.dup, 1) := by decide +kernel
theorem dX2_putName_60 : decode cX2_putName 60 = .ok (.getfield 28, 3) := by decide +kernel
theorem dX2_putName_63 : decode cX2_putName 63 = .ok (.iconst 1, 1) := by decide +kernel
theorem dX2_putName_64 : decode cX2_putName 64 = .ok (.iadd, 1) := by decide +kernel
theorem dX2_putName_65 : decode cX2_putName 65 = .ok (.putfield 28, 3) := by decide +kernel
theorem dX2_putName_68 : decode cX2_putName 68 = .ok (.iinc 4 1, 3) := by decide +kernel
theorem dX2_putName_71 : decode cX2_putName 71 = .ok (.goto (-39), 3) := by decide +kernel
theorem dX2_putName_74 : decode cX2_putName 74 = .ok (.iinc 2 1, 3) := by decide +kernel
theorem dX2_putName_77 : decode cX2_putName 77 = .ok (.goto (-72), 3) := by decide +kernel
theorem dX2_putName_80 : decode cX2_putName 80 = .ok (.return_, 1) := by decide +kernel
