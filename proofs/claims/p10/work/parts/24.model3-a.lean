/-! words and decoded instructions -/
set_option maxRecDepth 20000 in
theorem w_19a341c1eb : Cond.fieldLink RX4 17 "QueueDiskModel" "size" "I" ∈ WW := ww_3 (List.mem_of_getElem? (i := 18) rfl) rfl
set_option maxRecDepth 20000 in
theorem w_bc7cda3a3d : Cond.fieldLink RX4 21 "QueueDiskModel" "places" "[J" ∈ WW := ww_3 (List.mem_of_getElem? (i := 22) rfl) rfl
set_option maxRecDepth 20000 in
theorem w_a76c363659 : Cond.fieldLink RX4 97 "QueueDiskModel" "come" "I" ∈ WW := ww_3 (List.mem_of_getElem? (i := 23) rfl) rfl
set_option maxRecDepth 20000 in
theorem w_cff07fab1a : Cond.fieldLink RX4 100 "QueueDiskModel" "given" "I" ∈ WW := ww_3 (List.mem_of_getElem? (i := 24) rfl) rfl
set_option maxRecDepth 20000 in
theorem w_f420a33426 : Cond.constantLong RX4 103 4294967295 ∈ WW := ww_3 (List.mem_of_getElem? (i := 139) rfl) rfl
theorem dX4_begin_0 : decode cX4_begin 0 = .ok (.aload_n 0, 1) := by decide +kernel
theorem dX4_begin_1 : decode cX4_begin 1 = .ok (.iconst 0, 1) := by decide +kernel
theorem dX4_begin_2 : decode cX4_begin 2 = .ok (.putfield 84, 3) := by decide +kernel
theorem dX4_begin_5 : decode cX4_begin 5 = .ok (.aload_n 0, 1) := by decide +kernel
theorem dX4_begin_6 : decode cX4_begin 6 = .ok (.iconst 0, 1) := by decide +kernel
theorem dX4_begin_7 : decode cX4_begin 7 = .ok (.putfield 81, 3) := by decide +kernel
theorem dX4_begin_10 : decode cX4_begin 10 = .ok (.aload_n 0, 1) := by decide +kernel
theorem dX4_begin_11 : decode cX4_begin 11 = .ok (.bipush 16, 2) := by decide +kernel
theorem dX4_begin_13 : decode cX4_begin 13 = .ok (.putfield 17, 3) := by decide +kernel
theorem dX4_begin_16 : decode cX4_begin 16 = .ok (.aload_n 0, 1) := by decide +kernel
theorem dX4_begin_17 : decode cX4_begin 17 = .ok (.iconst 0, 1) := by decide +kernel
theorem dX4_begin_18 : decode cX4_begin 18 = .ok (.putfield 87, 3) := by decide +kernel
theorem dX4_begin_21 : decode cX4_begin 21 = .ok (.aload_n 0, 1) := by decide +kernel
theorem dX4_begin_22 : decode cX4_begin 22 = .ok (.iconst 0, 1) := by decide +kernel
theorem dX4_begin_23 : decode cX4_begin 23 = .ok (.putfield 91, 3) := by decide +kernel
theorem dX4_begin_26 : decode cX4_begin 26 = .ok (.aload_n 0, 1) := by decide +kernel
theorem dX4_begin_27 : decode cX4_begin 27 = .ok (.iconst 0, 1) := by decide +kernel
theorem dX4_begin_28 : decode cX4_begin 28 = .ok (.putfield 94, 3) := by decide +kernel
theorem dX4_begin_31 : decode cX4_begin 31 = .ok (.iconst 0, 1) := by decide +kernel
theorem dX4_begin_32 : decode cX4_begin 32 = .ok (.istore_n 1, 1) := by decide +kernel
theorem dX4_begin_33 : decode cX4_begin 33 = .ok (.iload_n 1, 1) := by decide +kernel
theorem dX4_begin_34 : decode cX4_begin 34 = .ok (.iconst 3, 1) := by decide +kernel
theorem dX4_begin_35 : decode cX4_begin 35 = .ok (.if_icmp .ge 16, 3) := by decide +kernel
theorem dX4_begin_38 : decode cX4_begin 38 = .ok (.aload_n 0, 1) := by decide +kernel
theorem dX4_begin_39 : decode cX4_begin 39 = .ok (.getfield 21, 3) := by decide +kernel
theorem dX4_begin_42 : decode cX4_begin 42 = .ok (.iload_n 1, 1) := by decide +kernel
theorem dX4_begin_43 : decode cX4_begin 43 = .ok (.lconst 0, 1) := by decide +kernel
theorem dX4_begin_44 : decode cX4_begin 44 = .ok (.lastore, 1) := by decide +kernel
theorem dX4_begin_45 : decode cX4_begin 45 = .ok (.iinc 1 1, 3) := by decide +kernel
theorem dX4_begin_48 : decode cX4_begin 48 = .ok (.goto (-15), 3) := by decide +kernel
theorem dX4_begin_51 : decode cX4_begin 51 = .ok (.aload_n 0, 1) := by decide +kernel
theorem dX4_begin_52 : decode cX4_begin 52 = .ok (.iconst 0, 1) := by decide +kernel
theorem dX4_begin_53 : decode cX4_begin 53 = .ok (.putfield 97, 3) := by decide +kernel
theorem dX4_begin_56 : decode cX4_begin 56 = .ok (.aload_n 0, 1) := by decide +kernel
theorem dX4_begin_57 : decode cX4_begin 57 = .ok (.iconst 0, 1) := by decide +kernel
theorem dX4_begin_58 : decode cX4_begin 58 = .ok (.putfield 100, 3) := by decide +kernel
theorem dX4_begin_61 : decode cX4_begin 61 = .ok (.return_, 1) := by decide +kernel
theorem dX4_setQueue_0 : decode cX4_setQueue 0 = .ok (.aload_n 0, 1) := by decide +kernel
theorem dX4_setQueue_1 : decode cX4_setQueue 1 = .ok (.getfield 84, 3) := by decide +kernel
theorem dX4_setQueue_4 : decode cX4_setQueue 4 = .ok (.ifCond .ne 16, 3) := by decide +kernel
theorem dX4_setQueue_7 : decode cX4_setQueue 7 = .ok (.aload_n 0, 1) := by decide +kernel
theorem dX4_setQueue_8 : decode cX4_setQueue 8 = .ok (.getfield 87, 3) := by decide +kernel
theorem dX4_setQueue_11 : decode cX4_setQueue 11 = .ok (.ifCond .eq 10, 3) := by decide +kernel
theorem dX4_setQueue_14 : decode cX4_setQueue 14 = .ok (.iload_n 1, 1) := by decide +kernel
theorem dX4_setQueue_15 : decode cX4_setQueue 15 = .ok (.bipush 68, 2) := by decide +kernel
theorem dX4_setQueue_17 : decode cX4_setQueue 17 = .ok (.if_icmp .eq 4, 3) := by decide +kernel
theorem dX4_setQueue_20 : decode cX4_setQueue 20 = .ok (.return_, 1) := by decide +kernel
theorem dX4_setQueue_21 : decode cX4_setQueue 21 = .ok (.iload_n 1, 1) := by decide +kernel
theorem dX4_setQueue_22 : decode cX4_setQueue 22 = .ok (.bipush 56, 2) := by decide +kernel
theorem dX4_setQueue_24 : decode cX4_setQueue 24 = .ok (.if_icmp .ne 45, 3) := by decide +kernel
theorem dX4_setQueue_27 : decode cX4_setQueue 27 = .ok (.aload_n 0, 1) := by decide +kernel
theorem dX4_setQueue_28 : decode cX4_setQueue 28 = .ok (.iload_n 2, 1) := by decide +kernel
theorem dX4_setQueue_29 : decode cX4_setQueue 29 = .ok (.iconst 1, 1) := by decide +kernel
theorem dX4_setQueue_30 : decode cX4_setQueue 30 = .ok (.if_icmp .eq 25, 3) := by decide +kernel
theorem dX4_setQueue_33 : decode cX4_setQueue 33 = .ok (.iload_n 2, 1) := by decide +kernel
theorem dX4_setQueue_34 : decode cX4_setQueue 34 = .ok (.iconst 2, 1) := by decide +kernel
theorem dX4_setQueue_35 : decode cX4_setQueue 35 = .ok (.if_icmp .eq 20, 3) := by decide +kernel
theorem dX4_setQueue_38 : decode cX4_setQueue 38 = .ok (.iload_n 2, 1) := by decide +kernel
theorem dX4_setQueue_39 : decode cX4_setQueue 39 = .ok (.iconst 4, 1) := by decide +kernel
theorem dX4_setQueue_40 : decode cX4_setQueue 40 = .ok (.if_icmp .eq 15, 3) := by decide +kernel
theorem dX4_setQueue_43 : decode cX4_setQueue 43 = .ok (.iload_n 2, 1) := by decide +kernel
theorem dX4_setQueue_44 : decode cX4_setQueue 44 = .ok (.bipush 8, 2) := by decide +kernel
theorem dX4_setQueue_46 : decode cX4_setQueue 46 = .ok (.if_icmp .eq 9, 3) := by decide +kernel
theorem dX4_setQueue_49 : decode cX4_setQueue 49 = .ok (.iload_n 2, 1) := by decide +kernel
theorem dX4_setQueue_50 : decode cX4_setQueue 50 = .ok (.bipush 16, 2) := by decide +kernel
theorem dX4_setQueue_52 : decode cX4_setQueue 52 = .ok (.if_icmp .ne 7, 3) := by decide +kernel
theorem dX4_setQueue_55 : decode cX4_setQueue 55 = .ok (.iload_n 2, 1) := by decide +kernel
theorem dX4_setQueue_56 : decode cX4_setQueue 56 = .ok (.goto 7, 3) := by decide +kernel
theorem dX4_setQueue_59 : decode cX4_setQueue 59 = .ok (.aload_n 0, 1) := by decide +kernel
theorem dX4_setQueue_60 : decode cX4_setQueue 60 = .ok (.getfield 17, 3) := by decide +kernel
theorem dX4_setQueue_63 : decode cX4_setQueue 63 = .ok (.putfield 17, 3) := by decide +kernel
theorem dX4_setQueue_66 : decode cX4_setQueue 66 = .ok (.goto 95, 3) := by decide +kernel
theorem dX4_setQueue_69 : decode cX4_setQueue 69 = .ok (.iload_n 1, 1) := by decide +kernel
theorem dX4_setQueue_70 : decode cX4_setQueue 70 = .ok (.bipush 68, 2) := by decide +kernel
theorem dX4_setQueue_72 : decode cX4_setQueue 72 = .ok (.if_icmp .ne 21, 3) := by decide +kernel
theorem dX4_setQueue_75 : decode cX4_setQueue 75 = .ok (.aload_n 0, 1) := by decide +kernel
theorem dX4_setQueue_76 : decode cX4_setQueue 76 = .ok (.iload_n 2, 1) := by decide +kernel
theorem dX4_setQueue_77 : decode cX4_setQueue 77 = .ok (.iconst 2, 1) := by decide +kernel
theorem dX4_setQueue_78 : decode cX4_setQueue 78 = .ok (.irem, 1) := by decide +kernel
theorem dX4_setQueue_79 : decode cX4_setQueue 79 = .ok (.ifCond .eq 7, 3) := by decide +kernel
theorem dX4_setQueue_82 : decode cX4_setQueue 82 = .ok (.iconst 1, 1) := by decide +kernel
theorem dX4_setQueue_83 : decode cX4_setQueue 83 = .ok (.goto 4, 3) := by decide +kernel
theorem dX4_setQueue_86 : decode cX4_setQueue 86 = .ok (.iconst 0, 1) := by decide +kernel
theorem dX4_setQueue_87 : decode cX4_setQueue 87 = .ok (.putfield 87, 3) := by decide +kernel
theorem dX4_setQueue_90 : decode cX4_setQueue 90 = .ok (.goto 71, 3) := by decide +kernel
theorem dX4_setQueue_93 : decode cX4_setQueue 93 = .ok (.iload_n 1, 1) := by decide +kernel
theorem dX4_setQueue_94 : decode cX4_setQueue 94 = .ok (.sipush 128, 3) := by decide +kernel
theorem dX4_setQueue_97 : decode cX4_setQueue 97 = .ok (.isub, 1) := by decide +kernel
theorem dX4_setQueue_98 : decode cX4_setQueue 98 = .ok (.bipush 16, 2) := by decide +kernel
theorem dX4_setQueue_100 : decode cX4_setQueue 100 = .ok (.idiv, 1) := by decide +kernel
theorem dX4_setQueue_101 : decode cX4_setQueue 101 = .ok (.istore_n 3, 1) := by decide +kernel
theorem dX4_setQueue_102 : decode cX4_setQueue 102 = .ok (.aload_n 0, 1) := by decide +kernel
theorem dX4_setQueue_103 : decode cX4_setQueue 103 = .ok (.getfield 21, 3) := by decide +kernel
theorem dX4_setQueue_106 : decode cX4_setQueue 106 = .ok (.iload_n 3, 1) := by decide +kernel
theorem dX4_setQueue_107 : decode cX4_setQueue 107 = .ok (.laload, 1) := by decide +kernel
theorem dX4_setQueue_108 : decode cX4_setQueue 108 = .ok (.ldc2_w 103, 3) := by decide +kernel
theorem dX4_setQueue_111 : decode cX4_setQueue 111 = .ok (.land, 1) := by decide +kernel
theorem dX4_setQueue_112 : decode cX4_setQueue 112 = .ok (.lstore 4, 2) := by decide +kernel
theorem dX4_setQueue_114 : decode cX4_setQueue 114 = .ok (.aload_n 0, 1) := by decide +kernel
theorem dX4_setQueue_115 : decode cX4_setQueue 115 = .ok (.getfield 21, 3) := by decide +kernel
theorem dX4_setQueue_118 : decode cX4_setQueue 118 = .ok (.iload_n 3, 1) := by decide +kernel
theorem dX4_setQueue_119 : decode cX4_setQueue 119 = .ok (.laload, 1) := by decide +kernel
theorem dX4_setQueue_120 : decode cX4_setQueue 120 = .ok (.bipush 32, 2) := by decide +kernel
theorem dX4_setQueue_122 : decode cX4_setQueue 122 = .ok (.lushr, 1) := by decide +kernel
theorem dX4_setQueue_123 : decode cX4_setQueue 123 = .ok (.lstore 6, 2) := by decide +kernel
theorem dX4_setQueue_125 : decode cX4_setQueue 125 = .ok (.aload_n 0, 1) := by decide +kernel
theorem dX4_setQueue_126 : decode cX4_setQueue 126 = .ok (.getfield 21, 3) := by decide +kernel
theorem dX4_setQueue_129 : decode cX4_setQueue 129 = .ok (.iload_n 3, 1) := by decide +kernel
theorem dX4_setQueue_130 : decode cX4_setQueue 130 = .ok (.iload_n 1, 1) := by decide +kernel
theorem dX4_setQueue_131 : decode cX4_setQueue 131 = .ok (.bipush 8, 2) := by decide +kernel
theorem dX4_setQueue_133 : decode cX4_setQueue 133 = .ok (.irem, 1) := by decide +kernel
theorem dX4_setQueue_134 : decode cX4_setQueue 134 = .ok (.ifCond .ne 18, 3) := by decide +kernel
theorem dX4_setQueue_137 : decode cX4_setQueue 137 = .ok (.lload 6, 2) := by decide +kernel
theorem dX4_setQueue_139 : decode cX4_setQueue 139 = .ok (.bipush 32, 2) := by decide +kernel
theorem dX4_setQueue_141 : decode cX4_setQueue 141 = .ok (.lshl, 1) := by decide +kernel
theorem dX4_setQueue_142 : decode cX4_setQueue 142 = .ok (.iload_n 2, 1) := by decide +kernel
theorem dX4_setQueue_143 : decode cX4_setQueue 143 = .ok (.i2l, 1) := by decide +kernel
theorem dX4_setQueue_144 : decode cX4_setQueue 144 = .ok (.ldc2_w 103, 3) := by decide +kernel
theorem dX4_setQueue_147 : decode cX4_setQueue 147 = .ok (.land, 1) := by decide +kernel
theorem dX4_setQueue_148 : decode cX4_setQueue 148 = .ok (.lor, 1) := by decide +kernel
theorem dX4_setQueue_149 : decode cX4_setQueue 149 = .ok (.goto 11, 3) := by decide +kernel
theorem dX4_setQueue_152 : decode cX4_setQueue 152 = .ok (.iload_n 2, 1) := by decide +kernel
theorem dX4_setQueue_153 : decode cX4_setQueue 153 = .ok (.i2l, 1) := by decide +kernel
theorem dX4_setQueue_154 : decode cX4_setQueue 154 = .ok (.bipush 32, 2) := by decide +kernel
theorem dX4_setQueue_156 : decode cX4_setQueue 156 = .ok (.lshl, 1) := by decide +kernel
theorem dX4_setQueue_157 : decode cX4_setQueue 157 = .ok (.lload 4, 2) := by decide +kernel
theorem dX4_setQueue_159 : decode cX4_setQueue 159 = .ok (.lor, 1) := by decide +kernel
theorem dX4_setQueue_160 : decode cX4_setQueue 160 = .ok (.lastore, 1) := by decide +kernel
theorem dX4_setQueue_161 : decode cX4_setQueue 161 = .ok (.return_, 1) := by decide +kernel
