/-! words and decoded instructions -/
set_option maxRecDepth 20000 in
theorem w_7f03dcbc7b : Cond.code yX3_readSectors cX3_readSectors 7 (some .int) ∈ WW := ww_2 (List.mem_of_getElem? (i := 146) rfl) rfl
set_option maxRecDepth 20000 in
theorem w_30a8490bd5 : Cond.methodLink RX3 179 yX3_readSectors ∈ WW := ww_2 (List.mem_of_getElem? (i := 143) rfl) rfl
set_option maxRecDepth 20000 in
theorem w_3ac52a3228 : Cond.instanceMethod yX3_readSectors ∈ WW := ww_2 (List.mem_of_getElem? (i := 145) rfl) rfl
set_option maxRecDepth 20000 in
theorem w_6fe0dc273a : Cond.selects RX3 yX3_readSectors yX3_readSectors ∈ WW := ww_p (List.mem_of_getElem? (i := 14) rfl) rfl
set_option maxRecDepth 20000 in
theorem w_72d5f46826 : Cond.code yX3_writeSectors cX3_writeSectors 8 (some .int) ∈ WW := ww_2 (List.mem_of_getElem? (i := 172) rfl) rfl
set_option maxRecDepth 20000 in
theorem w_c11a0e284a : Cond.methodLink RX3 182 yX3_writeSectors ∈ WW := ww_2 (List.mem_of_getElem? (i := 169) rfl) rfl
set_option maxRecDepth 20000 in
theorem w_de100b670b : Cond.instanceMethod yX3_writeSectors ∈ WW := ww_2 (List.mem_of_getElem? (i := 171) rfl) rfl
set_option maxRecDepth 20000 in
theorem w_146e44ad5a : Cond.selects RX3 yX3_writeSectors yX3_writeSectors ∈ WW := ww_p (List.mem_of_getElem? (i := 17) rfl) rfl
set_option maxRecDepth 20000 in
theorem w_b8b2647e78 : Cond.code yX2_putName cX2_putName 5 none ∈ WW := ww_2 (List.mem_of_getElem? (i := 181) rfl) rfl
set_option maxRecDepth 20000 in
theorem w_2e5bfef2d1 : Cond.methodLink RX3 185 yX2_putName ∈ WW := ww_2 (List.mem_of_getElem? (i := 178) rfl) rfl
set_option maxRecDepth 20000 in
theorem w_f6b02fc730 : Cond.instanceMethod yX2_putName ∈ WW := ww_2 (List.mem_of_getElem? (i := 179) rfl) rfl
set_option maxRecDepth 20000 in
theorem w_a921e7b8e1 : Cond.selects RX2 yX2_putName yX2_putName ∈ WW := ww_2 (List.mem_of_getElem? (i := 180) rfl) rfl
set_option maxRecDepth 20000 in
theorem w_be4edc18b4 : Cond.fieldLink RX3 29 "QueueDisk" "queue" "LQueueDisk$Queue;" ∈ WW := ww_1 (List.mem_of_getElem? (i := 101) rfl) rfl
set_option maxRecDepth 20000 in
theorem w_eea8b576a2 : Cond.code yX1_offerPlace cX1_offerPlace 1 (some .long) ∈ WW := ww_2 (List.mem_of_getElem? (i := 80) rfl) rfl
set_option maxRecDepth 20000 in
theorem w_540792ea16 : Cond.methodLink RX3 144 yX1_offerPlace ∈ WW := ww_2 (List.mem_of_getElem? (i := 77) rfl) rfl
set_option maxRecDepth 20000 in
theorem w_a98538a0df : Cond.instanceMethod yX1_offerPlace ∈ WW := ww_2 (List.mem_of_getElem? (i := 78) rfl) rfl
set_option maxRecDepth 20000 in
theorem w_02881bc8da : Cond.selects RX1 yX1_offerPlace yX1_offerPlace ∈ WW := ww_2 (List.mem_of_getElem? (i := 79) rfl) rfl
set_option maxRecDepth 20000 in
theorem w_4351c958fa : Cond.constantLong RX3 148 2 ∈ WW := ww_2 (List.mem_of_getElem? (i := 85) rfl) rfl
set_option maxRecDepth 20000 in
theorem w_18563c33ac : Cond.methodLink RX3 111 yX0_holds ∈ WW := ww_1 (List.mem_of_getElem? (i := 227) rfl) rfl
set_option maxRecDepth 20000 in
theorem w_5c70ca836e : Cond.code yX1_canAnswer cX1_canAnswer 2 (some .boolean) ∈ WW := ww_2 (List.mem_of_getElem? (i := 89) rfl) rfl
set_option maxRecDepth 20000 in
theorem w_4e72df3d70 : Cond.methodLink RX3 150 yX1_canAnswer ∈ WW := ww_2 (List.mem_of_getElem? (i := 86) rfl) rfl
set_option maxRecDepth 20000 in
theorem w_ae84695744 : Cond.instanceMethod yX1_canAnswer ∈ WW := ww_2 (List.mem_of_getElem? (i := 87) rfl) rfl
set_option maxRecDepth 20000 in
theorem w_11171cb184 : Cond.selects RX1 yX1_canAnswer yX1_canAnswer ∈ WW := ww_2 (List.mem_of_getElem? (i := 88) rfl) rfl
set_option maxRecDepth 20000 in
theorem w_8967c802b9 : Cond.methodLink RX3 46 yX0_number ∈ WW := ww_2 (List.mem_of_getElem? (i := 7) rfl) rfl
set_option maxRecDepth 20000 in
theorem w_9dcfa9f565 : Cond.code yX2_gather cX2_gather 14 (some .boolean) ∈ WW := ww_2 (List.mem_of_getElem? (i := 102) rfl) rfl
set_option maxRecDepth 20000 in
theorem w_2693e9f908 : Cond.methodLink RX3 153 yX2_gather ∈ WW := ww_2 (List.mem_of_getElem? (i := 99) rfl) rfl
set_option maxRecDepth 20000 in
theorem w_cca3f8d52c : Cond.instanceMethod yX2_gather ∈ WW := ww_2 (List.mem_of_getElem? (i := 100) rfl) rfl
set_option maxRecDepth 20000 in
theorem w_ce54cb0a6f : Cond.selects RX2 yX2_gather yX2_gather ∈ WW := ww_2 (List.mem_of_getElem? (i := 101) rfl) rfl
set_option maxRecDepth 20000 in
theorem w_be8d583002 : Cond.code yX2_kind cX2_kind 2 (some .int) ∈ WW := ww_2 (List.mem_of_getElem? (i := 130) rfl) rfl
set_option maxRecDepth 20000 in
theorem w_bdcdd03dd4 : Cond.methodLink RX3 157 yX2_kind ∈ WW := ww_2 (List.mem_of_getElem? (i := 127) rfl) rfl
set_option maxRecDepth 20000 in
theorem w_9c109faf17 : Cond.instanceMethod yX2_kind ∈ WW := ww_2 (List.mem_of_getElem? (i := 128) rfl) rfl
set_option maxRecDepth 20000 in
theorem w_121646ce78 : Cond.selects RX2 yX2_kind yX2_kind ∈ WW := ww_2 (List.mem_of_getElem? (i := 129) rfl) rfl
set_option maxRecDepth 20000 in
theorem w_33b9546567 : Cond.code yX2_sector cX2_sector 2 (some .long) ∈ WW := ww_2 (List.mem_of_getElem? (i := 138) rfl) rfl
set_option maxRecDepth 20000 in
theorem w_f6bb795c88 : Cond.methodLink RX3 161 yX2_sector ∈ WW := ww_2 (List.mem_of_getElem? (i := 135) rfl) rfl
set_option maxRecDepth 20000 in
theorem w_a40a3c1af4 : Cond.instanceMethod yX2_sector ∈ WW := ww_2 (List.mem_of_getElem? (i := 136) rfl) rfl
set_option maxRecDepth 20000 in
theorem w_7ec5e58431 : Cond.selects RX2 yX2_sector yX2_sector ∈ WW := ww_2 (List.mem_of_getElem? (i := 137) rfl) rfl
set_option maxRecDepth 20000 in
theorem w_0c551aab73 : Cond.code yX3_perform cX3_perform 4 (some .int) ∈ WW := ww_2 (List.mem_of_getElem? (i := 142) rfl) rfl
set_option maxRecDepth 20000 in
theorem w_ab5cc7f747 : Cond.methodLink RX3 165 yX3_perform ∈ WW := ww_2 (List.mem_of_getElem? (i := 139) rfl) rfl
set_option maxRecDepth 20000 in
theorem w_8a119638c5 : Cond.instanceMethod yX3_perform ∈ WW := ww_2 (List.mem_of_getElem? (i := 141) rfl) rfl
set_option maxRecDepth 20000 in
theorem w_0670332d6d : Cond.selects RX3 yX3_perform yX3_perform ∈ WW := ww_p (List.mem_of_getElem? (i := 13) rfl) rfl
set_option maxRecDepth 20000 in
theorem w_f4bf31d62c : Cond.code yX2_resultPlace cX2_resultPlace 1 (some .long) ∈ WW := ww_2 (List.mem_of_getElem? (i := 194) rfl) rfl
set_option maxRecDepth 20000 in
theorem w_f0b077239e : Cond.methodLink RX3 169 yX2_resultPlace ∈ WW := ww_2 (List.mem_of_getElem? (i := 191) rfl) rfl
set_option maxRecDepth 20000 in
theorem w_ec0f8b00c3 : Cond.instanceMethod yX2_resultPlace ∈ WW := ww_2 (List.mem_of_getElem? (i := 192) rfl) rfl
set_option maxRecDepth 20000 in
theorem w_7edea7a5ae : Cond.selects RX2 yX2_resultPlace yX2_resultPlace ∈ WW := ww_2 (List.mem_of_getElem? (i := 193) rfl) rfl
set_option maxRecDepth 20000 in
theorem w_fdbc92d7dc : Cond.methodLink RX3 95 yX0_put ∈ WW := ww_2 (List.mem_of_getElem? (i := 195) rfl) rfl
set_option maxRecDepth 20000 in
theorem w_143ed1f1ec : Cond.code yX1_answer cX1_answer 6 none ∈ WW := ww_2 (List.mem_of_getElem? (i := 199) rfl) rfl
set_option maxRecDepth 20000 in
theorem w_75b99a3709 : Cond.methodLink RX3 175 yX1_answer ∈ WW := ww_2 (List.mem_of_getElem? (i := 196) rfl) rfl
set_option maxRecDepth 20000 in
theorem w_7360fa7eb1 : Cond.instanceMethod yX1_answer ∈ WW := ww_2 (List.mem_of_getElem? (i := 197) rfl) rfl
set_option maxRecDepth 20000 in
theorem w_dae41df6f5 : Cond.selects RX1 yX1_answer yX1_answer ∈ WW := ww_2 (List.mem_of_getElem? (i := 198) rfl) rfl
set_option maxRecDepth 20000 in
theorem w_4575277cb8 : Cond.fieldLink RX3 98 "QueueDisk" "answeredInAll" "I" ∈ WW := ww_1 (List.mem_of_getElem? (i := 107) rfl) rfl
theorem dX3_perform_0 : decode cX3_perform 0 = .ok (.iload_n 1, 1) := by decide +kernel
theorem dX3_perform_1 : decode cX3_perform 1 = .ok (.tableswitch 78 0 8 #[51, 57, 78, 78, 63, 78, 78, 78, 65], 51) := by decide +kernel
theorem dX3_perform_52 : decode cX3_perform 52 = .ok (.aload_n 0, 1) := by decide +kernel
theorem dX3_perform_53 : decode cX3_perform 53 = .ok (.lload_n 2, 1) := by decide +kernel
theorem dX3_perform_54 : decode cX3_perform 54 = .ok (.invokevirtual 179, 3) := by decide +kernel
theorem dX3_perform_57 : decode cX3_perform 57 = .ok (.ireturn, 1) := by decide +kernel
theorem dX3_perform_58 : decode cX3_perform 58 = .ok (.aload_n 0, 1) := by decide +kernel
theorem dX3_perform_59 : decode cX3_perform 59 = .ok (.lload_n 2, 1) := by decide +kernel
theorem dX3_perform_60 : decode cX3_perform 60 = .ok (.invokevirtual 182, 3) := by decide +kernel
theorem dX3_perform_63 : decode cX3_perform 63 = .ok (.ireturn, 1) := by decide +kernel
theorem dX3_perform_64 : decode cX3_perform 64 = .ok (.iconst 0, 1) := by decide +kernel
theorem dX3_perform_65 : decode cX3_perform 65 = .ok (.ireturn, 1) := by decide +kernel
theorem dX3_perform_66 : decode cX3_perform 66 = .ok (.aload_n 0, 1) := by decide +kernel
theorem dX3_perform_67 : decode cX3_perform 67 = .ok (.getfield 36, 3) := by decide +kernel
theorem dX3_perform_70 : decode cX3_perform 70 = .ok (.aload_n 0, 1) := by decide +kernel
theorem dX3_perform_71 : decode cX3_perform 71 = .ok (.getfield 19, 3) := by decide +kernel
theorem dX3_perform_74 : decode cX3_perform 74 = .ok (.invokevirtual 185, 3) := by decide +kernel
theorem dX3_perform_77 : decode cX3_perform 77 = .ok (.iconst 0, 1) := by decide +kernel
theorem dX3_perform_78 : decode cX3_perform 78 = .ok (.ireturn, 1) := by decide +kernel
theorem dX3_perform_79 : decode cX3_perform 79 = .ok (.iconst 2, 1) := by decide +kernel
theorem dX3_perform_80 : decode cX3_perform 80 = .ok (.ireturn, 1) := by decide +kernel
theorem dX3_serve_0 : decode cX3_serve 0 = .ok (.aload_n 0, 1) := by decide +kernel
theorem dX3_serve_1 : decode cX3_serve 1 = .ok (.getfield 29, 3) := by decide +kernel
theorem dX3_serve_4 : decode cX3_serve 4 = .ok (.invokevirtual 144, 3) := by decide +kernel
theorem dX3_serve_7 : decode cX3_serve 7 = .ok (.lstore_n 1, 1) := by decide +kernel
theorem dX3_serve_8 : decode cX3_serve 8 = .ok (.aload_n 0, 1) := by decide +kernel
theorem dX3_serve_9 : decode cX3_serve 9 = .ok (.getfield 19, 3) := by decide +kernel
theorem dX3_serve_12 : decode cX3_serve 12 = .ok (.lload_n 1, 1) := by decide +kernel
theorem dX3_serve_13 : decode cX3_serve 13 = .ok (.ldc2_w 148, 3) := by decide +kernel
theorem dX3_serve_16 : decode cX3_serve 16 = .ok (.invokevirtual 111, 3) := by decide +kernel
theorem dX3_serve_19 : decode cX3_serve 19 = .ok (.ifCond .eq 17, 3) := by decide +kernel
theorem dX3_serve_22 : decode cX3_serve 22 = .ok (.aload_n 0, 1) := by decide +kernel
theorem dX3_serve_23 : decode cX3_serve 23 = .ok (.getfield 29, 3) := by decide +kernel
theorem dX3_serve_26 : decode cX3_serve 26 = .ok (.aload_n 0, 1) := by decide +kernel
theorem dX3_serve_27 : decode cX3_serve 27 = .ok (.getfield 19, 3) := by decide +kernel
theorem dX3_serve_30 : decode cX3_serve 30 = .ok (.invokevirtual 150, 3) := by decide +kernel
theorem dX3_serve_33 : decode cX3_serve 33 = .ok (.ifCond .ne 5, 3) := by decide +kernel
theorem dX3_serve_36 : decode cX3_serve 36 = .ok (.iconst 0, 1) := by decide +kernel
theorem dX3_serve_37 : decode cX3_serve 37 = .ok (.ireturn, 1) := by decide +kernel
theorem dX3_serve_38 : decode cX3_serve 38 = .ok (.aload_n 0, 1) := by decide +kernel
theorem dX3_serve_39 : decode cX3_serve 39 = .ok (.getfield 19, 3) := by decide +kernel
theorem dX3_serve_42 : decode cX3_serve 42 = .ok (.lload_n 1, 1) := by decide +kernel
theorem dX3_serve_43 : decode cX3_serve 43 = .ok (.iconst 2, 1) := by decide +kernel
theorem dX3_serve_44 : decode cX3_serve 44 = .ok (.invokevirtual 46, 3) := by decide +kernel
theorem dX3_serve_47 : decode cX3_serve 47 = .ok (.l2i, 1) := by decide +kernel
theorem dX3_serve_48 : decode cX3_serve 48 = .ok (.istore_n 3, 1) := by decide +kernel
theorem dX3_serve_49 : decode cX3_serve 49 = .ok (.aload_n 0, 1) := by decide +kernel
theorem dX3_serve_50 : decode cX3_serve 50 = .ok (.getfield 36, 3) := by decide +kernel
theorem dX3_serve_53 : decode cX3_serve 53 = .ok (.aload_n 0, 1) := by decide +kernel
theorem dX3_serve_54 : decode cX3_serve 54 = .ok (.getfield 19, 3) := by decide +kernel
theorem dX3_serve_57 : decode cX3_serve 57 = .ok (.aload_n 0, 1) := by decide +kernel
theorem dX3_serve_58 : decode cX3_serve 58 = .ok (.getfield 29, 3) := by decide +kernel
theorem dX3_serve_61 : decode cX3_serve 61 = .ok (.iload_n 3, 1) := by decide +kernel
theorem dX3_serve_62 : decode cX3_serve 62 = .ok (.invokevirtual 153, 3) := by decide +kernel
theorem dX3_serve_65 : decode cX3_serve 65 = .ok (.ifCond .ne 5, 3) := by decide +kernel
theorem dX3_serve_68 : decode cX3_serve 68 = .ok (.iconst 0, 1) := by decide +kernel
theorem dX3_serve_69 : decode cX3_serve 69 = .ok (.ireturn, 1) := by decide +kernel
theorem dX3_serve_70 : decode cX3_serve 70 = .ok (.aload_n 0, 1) := by decide +kernel
theorem dX3_serve_71 : decode cX3_serve 71 = .ok (.aload_n 0, 1) := by decide +kernel
theorem dX3_serve_72 : decode cX3_serve 72 = .ok (.getfield 36, 3) := by decide +kernel
theorem dX3_serve_75 : decode cX3_serve 75 = .ok (.aload_n 0, 1) := by decide +kernel
theorem dX3_serve_76 : decode cX3_serve 76 = .ok (.getfield 19, 3) := by decide +kernel
theorem dX3_serve_79 : decode cX3_serve 79 = .ok (.invokevirtual 157, 3) := by decide +kernel
theorem dX3_serve_82 : decode cX3_serve 82 = .ok (.aload_n 0, 1) := by decide +kernel
theorem dX3_serve_83 : decode cX3_serve 83 = .ok (.getfield 36, 3) := by decide +kernel
theorem dX3_serve_86 : decode cX3_serve 86 = .ok (.aload_n 0, 1) := by decide +kernel
theorem dX3_serve_87 : decode cX3_serve 87 = .ok (.getfield 19, 3) := by decide +kernel
theorem dX3_serve_90 : decode cX3_serve 90 = .ok (.invokevirtual 161, 3) := by decide +kernel
theorem dX3_serve_93 : decode cX3_serve 93 = .ok (.invokevirtual 165, 3) := by decide +kernel
theorem dX3_serve_96 : decode cX3_serve 96 = .ok (.istore 4, 2) := by decide +kernel
theorem dX3_serve_98 : decode cX3_serve 98 = .ok (.aload_n 0, 1) := by decide +kernel
theorem dX3_serve_99 : decode cX3_serve 99 = .ok (.getfield 19, 3) := by decide +kernel
theorem dX3_serve_102 : decode cX3_serve 102 = .ok (.aload_n 0, 1) := by decide +kernel
theorem dX3_serve_103 : decode cX3_serve 103 = .ok (.getfield 36, 3) := by decide +kernel
theorem dX3_serve_106 : decode cX3_serve 106 = .ok (.invokevirtual 169, 3) := by decide +kernel
theorem dX3_serve_109 : decode cX3_serve 109 = .ok (.iload 4, 2) := by decide +kernel
theorem dX3_serve_111 : decode cX3_serve 111 = .ok (.invokevirtual 95, 3) := by decide +kernel
theorem dX3_serve_114 : decode cX3_serve 114 = .ok (.aload_n 0, 1) := by decide +kernel
theorem dX3_serve_115 : decode cX3_serve 115 = .ok (.getfield 29, 3) := by decide +kernel
theorem dX3_serve_118 : decode cX3_serve 118 = .ok (.aload_n 0, 1) := by decide +kernel
theorem dX3_serve_119 : decode cX3_serve 119 = .ok (.getfield 19, 3) := by decide +kernel
theorem dX3_serve_122 : decode cX3_serve 122 = .ok (.iload_n 3, 1) := by decide +kernel
theorem dX3_serve_123 : decode cX3_serve 123 = .ok (.aload_n 0, 1) := by decide +kernel
theorem dX3_serve_124 : decode cX3_serve 124 = .ok (.getfield 36, 3) := by decide +kernel
theorem dX3_serve_127 : decode cX3_serve 127 = .ok (.getfield 172, 3) := by decide +kernel
theorem dX3_serve_130 : decode cX3_serve 130 = .ok (.iconst 1, 1) := by decide +kernel
theorem dX3_serve_131 : decode cX3_serve 131 = .ok (.iadd, 1) := by decide +kernel
theorem dX3_serve_132 : decode cX3_serve 132 = .ok (.invokevirtual 175, 3) := by decide +kernel
theorem dX3_serve_135 : decode cX3_serve 135 = .ok (.aload_n 0, 1) := by decide +kernel
theorem dX3_serve_136 : decode cX3_serve 136 = .ok (.dup, 1) := by decide +kernel
theorem dX3_serve_137 : decode cX3_serve 137 = .ok (.getfield 98, 3) := by decide +kernel
theorem dX3_serve_140 : decode cX3_serve 140 = .ok (.iconst 1, 1) := by decide +kernel
theorem dX3_serve_141 : decode cX3_serve 141 = .ok (.iadd, 1) := by decide +kernel
theorem dX3_serve_142 : decode cX3_serve 142 = .ok (.putfield 98, 3) := by decide +kernel
theorem dX3_serve_145 : decode cX3_serve 145 = .ok (.iconst 1, 1) := by decide +kernel
theorem dX3_serve_146 : decode cX3_serve 146 = .ok (.ireturn, 1) := by decide +kernel
