/-! words and decoded instructions -/
set_option maxRecDepth 20000 in
theorem w_2c00f7fe81 : Cond.fieldLink RX1 68 "QueueDisk$Queue" "offerCount" "I" ∈ WW := ww_1 (List.mem_of_getElem? (i := 51) rfl) rfl
set_option maxRecDepth 20000 in
theorem w_485db9fa6d : Cond.fieldLink RX1 29 "QueueDisk$Queue" "taken" "I" ∈ WW := ww_1 (List.mem_of_getElem? (i := 47) rfl) rfl
set_option maxRecDepth 20000 in
theorem w_d297576465 : Cond.constant RX1 71 65535 ∈ WW := ww_2 (List.mem_of_getElem? (i := 72) rfl) rfl
set_option maxRecDepth 20000 in
theorem w_434fce38a3 : Cond.fieldLink RX1 11 "QueueDisk$Queue" "size" "I" ∈ WW := ww_1 (List.mem_of_getElem? (i := 39) rfl) rfl
set_option maxRecDepth 20000 in
theorem w_92aa121c2f : Cond.fieldLink RX1 19 "QueueDisk$Queue" "blocks" "J" ∈ WW := ww_1 (List.mem_of_getElem? (i := 44) rfl) rfl
set_option maxRecDepth 20000 in
theorem w_76207a66a1 : Cond.constantLong RX1 50 2147483648 ∈ WW := ww_2 (List.mem_of_getElem? (i := 63) rfl) rfl
set_option maxRecDepth 20000 in
theorem w_6a79d6a403 : Cond.constantLong RX1 72 16 ∈ WW := ww_2 (List.mem_of_getElem? (i := 107) rfl) rfl
set_option maxRecDepth 20000 in
theorem w_cdd8a4f183 : Cond.fieldLink RX1 23 "QueueDisk$Queue" "offers" "J" ∈ WW := ww_1 (List.mem_of_getElem? (i := 45) rfl) rfl
set_option maxRecDepth 20000 in
theorem w_932f3f98cf : Cond.constantLong RX1 52 4 ∈ WW := ww_2 (List.mem_of_getElem? (i := 64) rfl) rfl
set_option maxRecDepth 20000 in
theorem w_e99f164e50 : Cond.constantLong RX1 66 2 ∈ WW := ww_2 (List.mem_of_getElem? (i := 67) rfl) rfl
set_option maxRecDepth 20000 in
theorem w_7e01589f6b : Cond.code yX1_slot cX1_slot 2 (some .int) ∈ WW := ww_2 (List.mem_of_getElem? (i := 84) rfl) rfl
set_option maxRecDepth 20000 in
theorem w_cf66e99dd3 : Cond.initialized RX1 ∈ WW := ww_1 (List.mem_of_getElem? (i := 3) rfl) rfl
set_option maxRecDepth 20000 in
theorem w_9f53ca14e5 : Cond.methodLink RX1 74 yX1_slot ∈ WW := ww_2 (List.mem_of_getElem? (i := 81) rfl) rfl
set_option maxRecDepth 20000 in
theorem w_bed1381442 : Cond.instanceMethod yX1_slot ∈ WW := ww_2 (List.mem_of_getElem? (i := 83) rfl) rfl
set_option maxRecDepth 20000 in
theorem w_08eb20d3fa : Cond.selects RX1 yX1_slot yX1_slot ∈ WW := ww_p (List.mem_of_getElem? (i := 6) rfl) rfl
set_option maxRecDepth 20000 in
theorem w_275797ba51 : Cond.fieldLink RX1 26 "QueueDisk$Queue" "answers" "J" ∈ WW := ww_1 (List.mem_of_getElem? (i := 46) rfl) rfl
set_option maxRecDepth 20000 in
theorem w_5224a93b14 : Cond.constantLong RX1 78 8 ∈ WW := ww_2 (List.mem_of_getElem? (i := 94) rfl) rfl
set_option maxRecDepth 20000 in
theorem w_59eb6c0c73 : Cond.fieldLink RX1 32 "QueueDisk$Queue" "told" "I" ∈ WW := ww_1 (List.mem_of_getElem? (i := 48) rfl) rfl
set_option maxRecDepth 20000 in
theorem w_bb29a39b50 : Cond.code yX1_answerPlace cX1_answerPlace 1 (some .long) ∈ WW := ww_2 (List.mem_of_getElem? (i := 93) rfl) rfl
set_option maxRecDepth 20000 in
theorem w_18da88d665 : Cond.methodLink RX1 80 yX1_answerPlace ∈ WW := ww_2 (List.mem_of_getElem? (i := 90) rfl) rfl
set_option maxRecDepth 20000 in
theorem w_23aa8e6c39 : Cond.instanceMethod yX1_answerPlace ∈ WW := ww_2 (List.mem_of_getElem? (i := 92) rfl) rfl
set_option maxRecDepth 20000 in
theorem w_0da93079e3 : Cond.selects RX1 yX1_answerPlace yX1_answerPlace ∈ WW := ww_p (List.mem_of_getElem? (i := 7) rfl) rfl
set_option maxRecDepth 20000 in
theorem w_91a639c728 : Cond.methodLink RX1 54 yX0_holds ∈ WW := ww_2 (List.mem_of_getElem? (i := 65) rfl) rfl
set_option maxRecDepth 20000 in
theorem w_449aba9ddc : Cond.code yX1_answerCountPlace cX1_answerCountPlace 1 (some .long) ∈ WW := ww_2 (List.mem_of_getElem? (i := 98) rfl) rfl
set_option maxRecDepth 20000 in
theorem w_8a7c54ccc9 : Cond.methodLink RX1 84 yX1_answerCountPlace ∈ WW := ww_2 (List.mem_of_getElem? (i := 95) rfl) rfl
set_option maxRecDepth 20000 in
theorem w_eedb226694 : Cond.instanceMethod yX1_answerCountPlace ∈ WW := ww_2 (List.mem_of_getElem? (i := 97) rfl) rfl
set_option maxRecDepth 20000 in
theorem w_cd77ecfec7 : Cond.selects RX1 yX1_answerCountPlace yX1_answerCountPlace ∈ WW := ww_p (List.mem_of_getElem? (i := 8) rfl) rfl
set_option maxRecDepth 20000 in
theorem w_9a3515db1f : Cond.constantLong RX1 46 (-4294967296) ∈ WW := ww_2 (List.mem_of_getElem? (i := 220) rfl) rfl
set_option maxRecDepth 20000 in
theorem w_5d2f9febb2 : Cond.constantLong RX1 48 4294967295 ∈ WW := ww_2 (List.mem_of_getElem? (i := 221) rfl) rfl
set_option maxRecDepth 20000 in
theorem w_7aba347942 : Cond.code yX0_number cX0_number 7 (some .long) ∈ WW := ww_2 (List.mem_of_getElem? (i := 10) rfl) rfl
set_option maxRecDepth 20000 in
theorem w_6cc81048bc : Cond.methodLink RX1 60 yX0_number ∈ WW := ww_2 (List.mem_of_getElem? (i := 66) rfl) rfl
set_option maxRecDepth 20000 in
theorem w_b83b036cb8 : Cond.instanceMethod yX0_number ∈ WW := ww_2 (List.mem_of_getElem? (i := 8) rfl) rfl
set_option maxRecDepth 20000 in
theorem w_d2cb4d8771 : Cond.selects RX0 yX0_number yX0_number ∈ WW := ww_2 (List.mem_of_getElem? (i := 9) rfl) rfl
set_option maxRecDepth 20000 in
theorem w_6ff114ad55 : Cond.fieldLink RX1 63 "QueueDisk$Queue" "offerMarks" "I" ∈ WW := ww_1 (List.mem_of_getElem? (i := 49) rfl) rfl
set_option maxRecDepth 20000 in
theorem w_661ab5aac1 : Cond.code yX0_putNumber cX0_putNumber 9 none ∈ WW := ww_2 (List.mem_of_getElem? (i := 26) rfl) rfl
set_option maxRecDepth 20000 in
theorem w_94cbe7a430 : Cond.methodLink RX1 87 yX0_putNumber ∈ WW := ww_2 (List.mem_of_getElem? (i := 200) rfl) rfl
set_option maxRecDepth 20000 in
theorem w_2fdba07db2 : Cond.instanceMethod yX0_putNumber ∈ WW := ww_2 (List.mem_of_getElem? (i := 24) rfl) rfl
set_option maxRecDepth 20000 in
theorem w_80d4820def : Cond.selects RX0 yX0_putNumber yX0_putNumber ∈ WW := ww_2 (List.mem_of_getElem? (i := 25) rfl) rfl
set_option maxRecDepth 20000 in
theorem w_7364a20e3e : Cond.fieldLink RX1 15 "QueueDisk$Queue" "ready" "Z" ∈ WW := ww_1 (List.mem_of_getElem? (i := 42) rfl) rfl
set_option maxRecDepth 20000 in
theorem w_ea31ed776d : Cond.methodLink RX1 3 objectInit ∈ WW := ww_1 (List.mem_of_getElem? (i := 38) rfl) rfl
set_option maxRecDepth 20000 in
theorem w_2a3ec8270c : Cond.code yX1_withLower cX1_withLower 3 (some .long) ∈ WW := ww_2 (List.mem_of_getElem? (i := 219) rfl) rfl
set_option maxRecDepth 20000 in
theorem w_256847efc9 : Cond.methodLink RX1 39 yX1_withLower ∈ WW := ww_2 (List.mem_of_getElem? (i := 217) rfl) rfl
set_option maxRecDepth 20000 in
theorem w_761b5837ca : Cond.static yX1_withLower ∈ WW := ww_2 (List.mem_of_getElem? (i := 218) rfl) rfl
set_option maxRecDepth 20000 in
theorem w_d6274e426e : Cond.code yX1_withUpper cX1_withUpper 3 (some .long) ∈ WW := ww_2 (List.mem_of_getElem? (i := 224) rfl) rfl
set_option maxRecDepth 20000 in
theorem w_92ac5ba515 : Cond.methodLink RX1 43 yX1_withUpper ∈ WW := ww_2 (List.mem_of_getElem? (i := 222) rfl) rfl
set_option maxRecDepth 20000 in
theorem w_7d4383c839 : Cond.static yX1_withUpper ∈ WW := ww_2 (List.mem_of_getElem? (i := 223) rfl) rfl
set_option maxRecDepth 20000 in
theorem w_8fa9af6fb9 : Cond.code yX1_setUp cX1_setUp 3 none ∈ WW := ww_2 (List.mem_of_getElem? (i := 216) rfl) rfl
set_option maxRecDepth 20000 in
theorem w_7d5040bb89 : Cond.methodLink RX1 35 yX1_setUp ∈ WW := ww_2 (List.mem_of_getElem? (i := 213) rfl) rfl
set_option maxRecDepth 20000 in
theorem w_c9ff491ddd : Cond.instanceMethod yX1_setUp ∈ WW := ww_2 (List.mem_of_getElem? (i := 215) rfl) rfl
set_option maxRecDepth 20000 in
theorem w_aeddf1a29b : Cond.selects RX1 yX1_setUp yX1_setUp ∈ WW := ww_p (List.mem_of_getElem? (i := 19) rfl) rfl
theorem dX1_ahead_0 : decode cX1_ahead 0 = .ok (.aload_n 0, 1) := by decide +kernel
theorem dX1_ahead_1 : decode cX1_ahead 1 = .ok (.getfield 68, 3) := by decide +kernel
theorem dX1_ahead_4 : decode cX1_ahead 4 = .ok (.aload_n 0, 1) := by decide +kernel
theorem dX1_ahead_5 : decode cX1_ahead 5 = .ok (.getfield 29, 3) := by decide +kernel
theorem dX1_ahead_8 : decode cX1_ahead 8 = .ok (.isub, 1) := by decide +kernel
theorem dX1_ahead_9 : decode cX1_ahead 9 = .ok (.ldc 71, 2) := by decide +kernel
theorem dX1_ahead_11 : decode cX1_ahead 11 = .ok (.iand, 1) := by decide +kernel
theorem dX1_ahead_12 : decode cX1_ahead 12 = .ok (.ireturn, 1) := by decide +kernel
theorem dX1_answer_0 : decode cX1_answer 0 = .ok (.aload_n 0, 1) := by decide +kernel
theorem dX1_answer_1 : decode cX1_answer 1 = .ok (.invokevirtual 80, 3) := by decide +kernel
theorem dX1_answer_4 : decode cX1_answer 4 = .ok (.lstore 4, 2) := by decide +kernel
theorem dX1_answer_6 : decode cX1_answer 6 = .ok (.aload_n 1, 1) := by decide +kernel
theorem dX1_answer_7 : decode cX1_answer 7 = .ok (.lload 4, 2) := by decide +kernel
theorem dX1_answer_9 : decode cX1_answer 9 = .ok (.iconst 4, 1) := by decide +kernel
theorem dX1_answer_10 : decode cX1_answer 10 = .ok (.iload_n 2, 1) := by decide +kernel
theorem dX1_answer_11 : decode cX1_answer 11 = .ok (.i2l, 1) := by decide +kernel
theorem dX1_answer_12 : decode cX1_answer 12 = .ok (.invokevirtual 87, 3) := by decide +kernel
theorem dX1_answer_15 : decode cX1_answer 15 = .ok (.aload_n 1, 1) := by decide +kernel
theorem dX1_answer_16 : decode cX1_answer 16 = .ok (.lload 4, 2) := by decide +kernel
theorem dX1_answer_18 : decode cX1_answer 18 = .ok (.ldc2_w 52, 3) := by decide +kernel
theorem dX1_answer_21 : decode cX1_answer 21 = .ok (.ladd, 1) := by decide +kernel
theorem dX1_answer_22 : decode cX1_answer 22 = .ok (.iconst 4, 1) := by decide +kernel
theorem dX1_answer_23 : decode cX1_answer 23 = .ok (.iload_n 3, 1) := by decide +kernel
theorem dX1_answer_24 : decode cX1_answer 24 = .ok (.i2l, 1) := by decide +kernel
theorem dX1_answer_25 : decode cX1_answer 25 = .ok (.invokevirtual 87, 3) := by decide +kernel
theorem dX1_answer_28 : decode cX1_answer 28 = .ok (.aload_n 0, 1) := by decide +kernel
theorem dX1_answer_29 : decode cX1_answer 29 = .ok (.aload_n 0, 1) := by decide +kernel
theorem dX1_answer_30 : decode cX1_answer 30 = .ok (.getfield 29, 3) := by decide +kernel
theorem dX1_answer_33 : decode cX1_answer 33 = .ok (.iconst 1, 1) := by decide +kernel
theorem dX1_answer_34 : decode cX1_answer 34 = .ok (.iadd, 1) := by decide +kernel
theorem dX1_answer_35 : decode cX1_answer 35 = .ok (.ldc 71, 2) := by decide +kernel
theorem dX1_answer_37 : decode cX1_answer 37 = .ok (.iand, 1) := by decide +kernel
theorem dX1_answer_38 : decode cX1_answer 38 = .ok (.putfield 29, 3) := by decide +kernel
theorem dX1_answer_41 : decode cX1_answer 41 = .ok (.aload_n 0, 1) := by decide +kernel
theorem dX1_answer_42 : decode cX1_answer 42 = .ok (.aload_n 0, 1) := by decide +kernel
theorem dX1_answer_43 : decode cX1_answer 43 = .ok (.getfield 32, 3) := by decide +kernel
theorem dX1_answer_46 : decode cX1_answer 46 = .ok (.iconst 1, 1) := by decide +kernel
theorem dX1_answer_47 : decode cX1_answer 47 = .ok (.iadd, 1) := by decide +kernel
theorem dX1_answer_48 : decode cX1_answer 48 = .ok (.ldc 71, 2) := by decide +kernel
theorem dX1_answer_50 : decode cX1_answer 50 = .ok (.iand, 1) := by decide +kernel
theorem dX1_answer_51 : decode cX1_answer 51 = .ok (.putfield 32, 3) := by decide +kernel
theorem dX1_answer_54 : decode cX1_answer 54 = .ok (.aload_n 1, 1) := by decide +kernel
theorem dX1_answer_55 : decode cX1_answer 55 = .ok (.aload_n 0, 1) := by decide +kernel
theorem dX1_answer_56 : decode cX1_answer 56 = .ok (.invokevirtual 84, 3) := by decide +kernel
theorem dX1_answer_59 : decode cX1_answer 59 = .ok (.iconst 2, 1) := by decide +kernel
theorem dX1_answer_60 : decode cX1_answer 60 = .ok (.aload_n 0, 1) := by decide +kernel
theorem dX1_answer_61 : decode cX1_answer 61 = .ok (.getfield 32, 3) := by decide +kernel
theorem dX1_answer_64 : decode cX1_answer 64 = .ok (.i2l, 1) := by decide +kernel
theorem dX1_answer_65 : decode cX1_answer 65 = .ok (.invokevirtual 87, 3) := by decide +kernel
theorem dX1_answer_68 : decode cX1_answer 68 = .ok (.return_, 1) := by decide +kernel
theorem dX1_answerCountPlace_0 : decode cX1_answerCountPlace 0 = .ok (.aload_n 0, 1) := by decide +kernel
theorem dX1_answerCountPlace_1 : decode cX1_answerCountPlace 1 = .ok (.getfield 26, 3) := by decide +kernel
theorem dX1_answerCountPlace_4 : decode cX1_answerCountPlace 4 = .ok (.ldc2_w 50, 3) := by decide +kernel
theorem dX1_answerCountPlace_7 : decode cX1_answerCountPlace 7 = .ok (.lsub, 1) := by decide +kernel
theorem dX1_answerCountPlace_8 : decode cX1_answerCountPlace 8 = .ok (.ldc2_w 66, 3) := by decide +kernel
theorem dX1_answerCountPlace_11 : decode cX1_answerCountPlace 11 = .ok (.ladd, 1) := by decide +kernel
theorem dX1_answerCountPlace_12 : decode cX1_answerCountPlace 12 = .ok (.lreturn, 1) := by decide +kernel
theorem dX1_answerPlace_0 : decode cX1_answerPlace 0 = .ok (.aload_n 0, 1) := by decide +kernel
theorem dX1_answerPlace_1 : decode cX1_answerPlace 1 = .ok (.getfield 26, 3) := by decide +kernel
theorem dX1_answerPlace_4 : decode cX1_answerPlace 4 = .ok (.ldc2_w 50, 3) := by decide +kernel
theorem dX1_answerPlace_7 : decode cX1_answerPlace 7 = .ok (.lsub, 1) := by decide +kernel
theorem dX1_answerPlace_8 : decode cX1_answerPlace 8 = .ok (.ldc2_w 52, 3) := by decide +kernel
theorem dX1_answerPlace_11 : decode cX1_answerPlace 11 = .ok (.ladd, 1) := by decide +kernel
theorem dX1_answerPlace_12 : decode cX1_answerPlace 12 = .ok (.ldc2_w 78, 3) := by decide +kernel
theorem dX1_answerPlace_15 : decode cX1_answerPlace 15 = .ok (.aload_n 0, 1) := by decide +kernel
theorem dX1_answerPlace_16 : decode cX1_answerPlace 16 = .ok (.aload_n 0, 1) := by decide +kernel
theorem dX1_answerPlace_17 : decode cX1_answerPlace 17 = .ok (.getfield 32, 3) := by decide +kernel
theorem dX1_answerPlace_20 : decode cX1_answerPlace 20 = .ok (.invokevirtual 74, 3) := by decide +kernel
theorem dX1_answerPlace_23 : decode cX1_answerPlace 23 = .ok (.i2l, 1) := by decide +kernel
theorem dX1_answerPlace_24 : decode cX1_answerPlace 24 = .ok (.lmul, 1) := by decide +kernel
theorem dX1_answerPlace_25 : decode cX1_answerPlace 25 = .ok (.ladd, 1) := by decide +kernel
theorem dX1_answerPlace_26 : decode cX1_answerPlace 26 = .ok (.lreturn, 1) := by decide +kernel
theorem dX1_blockPlace_0 : decode cX1_blockPlace 0 = .ok (.aload_n 0, 1) := by decide +kernel
theorem dX1_blockPlace_1 : decode cX1_blockPlace 1 = .ok (.getfield 19, 3) := by decide +kernel
theorem dX1_blockPlace_4 : decode cX1_blockPlace 4 = .ok (.ldc2_w 50, 3) := by decide +kernel
theorem dX1_blockPlace_7 : decode cX1_blockPlace 7 = .ok (.lsub, 1) := by decide +kernel
theorem dX1_blockPlace_8 : decode cX1_blockPlace 8 = .ok (.ldc2_w 72, 3) := by decide +kernel
theorem dX1_blockPlace_11 : decode cX1_blockPlace 11 = .ok (.iload_n 1, 1) := by decide +kernel
theorem dX1_blockPlace_12 : decode cX1_blockPlace 12 = .ok (.i2l, 1) := by decide +kernel
theorem dX1_blockPlace_13 : decode cX1_blockPlace 13 = .ok (.lmul, 1) := by decide +kernel
theorem dX1_blockPlace_14 : decode cX1_blockPlace 14 = .ok (.ladd, 1) := by decide +kernel
theorem dX1_blockPlace_15 : decode cX1_blockPlace 15 = .ok (.lreturn, 1) := by decide +kernel
theorem dX1_canAnswer_0 : decode cX1_canAnswer 0 = .ok (.aload_n 1, 1) := by decide +kernel
theorem dX1_canAnswer_1 : decode cX1_canAnswer 1 = .ok (.aload_n 0, 1) := by decide +kernel
theorem dX1_canAnswer_2 : decode cX1_canAnswer 2 = .ok (.invokevirtual 80, 3) := by decide +kernel
theorem dX1_canAnswer_5 : decode cX1_canAnswer 5 = .ok (.ldc2_w 78, 3) := by decide +kernel
theorem dX1_canAnswer_8 : decode cX1_canAnswer 8 = .ok (.invokevirtual 54, 3) := by decide +kernel
theorem dX1_canAnswer_11 : decode cX1_canAnswer 11 = .ok (.ifCond .eq 21, 3) := by decide +kernel
theorem dX1_canAnswer_14 : decode cX1_canAnswer 14 = .ok (.aload_n 1, 1) := by decide +kernel
theorem dX1_canAnswer_15 : decode cX1_canAnswer 15 = .ok (.aload_n 0, 1) := by decide +kernel
theorem dX1_canAnswer_16 : decode cX1_canAnswer 16 = .ok (.invokevirtual 84, 3) := by decide +kernel
theorem dX1_canAnswer_19 : decode cX1_canAnswer 19 = .ok (.ldc2_w 66, 3) := by decide +kernel
theorem dX1_canAnswer_22 : decode cX1_canAnswer 22 = .ok (.invokevirtual 54, 3) := by decide +kernel
theorem dX1_canAnswer_25 : decode cX1_canAnswer 25 = .ok (.ifCond .eq 7, 3) := by decide +kernel
theorem dX1_canAnswer_28 : decode cX1_canAnswer 28 = .ok (.iconst 1, 1) := by decide +kernel
theorem dX1_canAnswer_29 : decode cX1_canAnswer 29 = .ok (.goto 4, 3) := by decide +kernel
theorem dX1_canAnswer_32 : decode cX1_canAnswer 32 = .ok (.iconst 0, 1) := by decide +kernel
theorem dX1_canAnswer_33 : decode cX1_canAnswer 33 = .ok (.ireturn, 1) := by decide +kernel
theorem dX1_forget_0 : decode cX1_forget 0 = .ok (.aload_n 0, 1) := by decide +kernel
theorem dX1_forget_1 : decode cX1_forget 1 = .ok (.bipush 16, 2) := by decide +kernel
theorem dX1_forget_3 : decode cX1_forget 3 = .ok (.putfield 11, 3) := by decide +kernel
theorem dX1_forget_6 : decode cX1_forget 6 = .ok (.aload_n 0, 1) := by decide +kernel
theorem dX1_forget_7 : decode cX1_forget 7 = .ok (.iconst 0, 1) := by decide +kernel
theorem dX1_forget_8 : decode cX1_forget 8 = .ok (.putfield 15, 3) := by decide +kernel
theorem dX1_forget_11 : decode cX1_forget 11 = .ok (.aload_n 0, 1) := by decide +kernel
theorem dX1_forget_12 : decode cX1_forget 12 = .ok (.lconst 0, 1) := by decide +kernel
theorem dX1_forget_13 : decode cX1_forget 13 = .ok (.putfield 19, 3) := by decide +kernel
theorem dX1_forget_16 : decode cX1_forget 16 = .ok (.aload_n 0, 1) := by decide +kernel
theorem dX1_forget_17 : decode cX1_forget 17 = .ok (.lconst 0, 1) := by decide +kernel
theorem dX1_forget_18 : decode cX1_forget 18 = .ok (.putfield 23, 3) := by decide +kernel
theorem dX1_forget_21 : decode cX1_forget 21 = .ok (.aload_n 0, 1) := by decide +kernel
theorem dX1_forget_22 : decode cX1_forget 22 = .ok (.lconst 0, 1) := by decide +kernel
theorem dX1_forget_23 : decode cX1_forget 23 = .ok (.putfield 26, 3) := by decide +kernel
theorem dX1_forget_26 : decode cX1_forget 26 = .ok (.aload_n 0, 1) := by decide +kernel
theorem dX1_forget_27 : decode cX1_forget 27 = .ok (.iconst 0, 1) := by decide +kernel
theorem dX1_forget_28 : decode cX1_forget 28 = .ok (.putfield 29, 3) := by decide +kernel
theorem dX1_forget_31 : decode cX1_forget 31 = .ok (.aload_n 0, 1) := by decide +kernel
theorem dX1_forget_32 : decode cX1_forget 32 = .ok (.iconst 0, 1) := by decide +kernel
theorem dX1_forget_33 : decode cX1_forget 33 = .ok (.putfield 32, 3) := by decide +kernel
theorem dX1_forget_36 : decode cX1_forget 36 = .ok (.return_, 1) := by decide +kernel
theorem dX1_init_0 : decode cX1_init 0 = .ok (.aload_n 0, 1) := by decide +kernel
theorem dX1_init_1 : decode cX1_init 1 = .ok (.invokespecial 3, 3) := by decide +kernel
theorem dX1_init_4 : decode cX1_init 4 = .ok (.aload_n 0, 1) := by decide +kernel
theorem dX1_init_5 : decode cX1_init 5 = .ok (.bipush 16, 2) := by decide +kernel
theorem dX1_init_7 : decode cX1_init 7 = .ok (.putfield 11, 3) := by decide +kernel
theorem dX1_init_10 : decode cX1_init 10 = .ok (.return_, 1) := by decide +kernel
theorem dX1_lookAtOffers_0 : decode cX1_lookAtOffers 0 = .ok (.aload_n 0, 1) := by decide +kernel
theorem dX1_lookAtOffers_1 : decode cX1_lookAtOffers 1 = .ok (.getfield 23, 3) := by decide +kernel
theorem dX1_lookAtOffers_4 : decode cX1_lookAtOffers 4 = .ok (.ldc2_w 50, 3) := by decide +kernel
theorem dX1_lookAtOffers_7 : decode cX1_lookAtOffers 7 = .ok (.lsub, 1) := by decide +kernel
theorem dX1_lookAtOffers_8 : decode cX1_lookAtOffers 8 = .ok (.lstore_n 2, 1) := by decide +kernel
theorem dX1_lookAtOffers_9 : decode cX1_lookAtOffers 9 = .ok (.aload_n 1, 1) := by decide +kernel
theorem dX1_lookAtOffers_10 : decode cX1_lookAtOffers 10 = .ok (.lload_n 2, 1) := by decide +kernel
theorem dX1_lookAtOffers_11 : decode cX1_lookAtOffers 11 = .ok (.ldc2_w 52, 3) := by decide +kernel
theorem dX1_lookAtOffers_14 : decode cX1_lookAtOffers 14 = .ok (.invokevirtual 54, 3) := by decide +kernel
theorem dX1_lookAtOffers_17 : decode cX1_lookAtOffers 17 = .ok (.ifCond .ne 5, 3) := by decide +kernel
theorem dX1_lookAtOffers_20 : decode cX1_lookAtOffers 20 = .ok (.iconst 0, 1) := by decide +kernel
theorem dX1_lookAtOffers_21 : decode cX1_lookAtOffers 21 = .ok (.ireturn, 1) := by decide +kernel
theorem dX1_lookAtOffers_22 : decode cX1_lookAtOffers 22 = .ok (.aload_n 0, 1) := by decide +kernel
theorem dX1_lookAtOffers_23 : decode cX1_lookAtOffers 23 = .ok (.aload_n 1, 1) := by decide +kernel
theorem dX1_lookAtOffers_24 : decode cX1_lookAtOffers 24 = .ok (.lload_n 2, 1) := by decide +kernel
theorem dX1_lookAtOffers_25 : decode cX1_lookAtOffers 25 = .ok (.iconst 2, 1) := by decide +kernel
theorem dX1_lookAtOffers_26 : decode cX1_lookAtOffers 26 = .ok (.invokevirtual 60, 3) := by decide +kernel
theorem dX1_lookAtOffers_29 : decode cX1_lookAtOffers 29 = .ok (.l2i, 1) := by decide +kernel
theorem dX1_lookAtOffers_30 : decode cX1_lookAtOffers 30 = .ok (.putfield 63, 3) := by decide +kernel
theorem dX1_lookAtOffers_33 : decode cX1_lookAtOffers 33 = .ok (.aload_n 0, 1) := by decide +kernel
theorem dX1_lookAtOffers_34 : decode cX1_lookAtOffers 34 = .ok (.aload_n 1, 1) := by decide +kernel
theorem dX1_lookAtOffers_35 : decode cX1_lookAtOffers 35 = .ok (.lload_n 2, 1) := by decide +kernel
theorem dX1_lookAtOffers_36 : decode cX1_lookAtOffers 36 = .ok (.ldc2_w 66, 3) := by decide +kernel
theorem dX1_lookAtOffers_39 : decode cX1_lookAtOffers 39 = .ok (.ladd, 1) := by decide +kernel
theorem dX1_lookAtOffers_40 : decode cX1_lookAtOffers 40 = .ok (.iconst 2, 1) := by decide +kernel
theorem dX1_lookAtOffers_41 : decode cX1_lookAtOffers 41 = .ok (.invokevirtual 60, 3) := by decide +kernel
theorem dX1_lookAtOffers_44 : decode cX1_lookAtOffers 44 = .ok (.l2i, 1) := by decide +kernel
theorem dX1_lookAtOffers_45 : decode cX1_lookAtOffers 45 = .ok (.putfield 68, 3) := by decide +kernel
theorem dX1_lookAtOffers_48 : decode cX1_lookAtOffers 48 = .ok (.iconst 1, 1) := by decide +kernel
theorem dX1_lookAtOffers_49 : decode cX1_lookAtOffers 49 = .ok (.ireturn, 1) := by decide +kernel
theorem dX1_offerPlace_0 : decode cX1_offerPlace 0 = .ok (.aload_n 0, 1) := by decide +kernel
theorem dX1_offerPlace_1 : decode cX1_offerPlace 1 = .ok (.getfield 23, 3) := by decide +kernel
theorem dX1_offerPlace_4 : decode cX1_offerPlace 4 = .ok (.ldc2_w 50, 3) := by decide +kernel
theorem dX1_offerPlace_7 : decode cX1_offerPlace 7 = .ok (.lsub, 1) := by decide +kernel
theorem dX1_offerPlace_8 : decode cX1_offerPlace 8 = .ok (.ldc2_w 52, 3) := by decide +kernel
theorem dX1_offerPlace_11 : decode cX1_offerPlace 11 = .ok (.ladd, 1) := by decide +kernel
theorem dX1_offerPlace_12 : decode cX1_offerPlace 12 = .ok (.ldc2_w 66, 3) := by decide +kernel
theorem dX1_offerPlace_15 : decode cX1_offerPlace 15 = .ok (.aload_n 0, 1) := by decide +kernel
theorem dX1_offerPlace_16 : decode cX1_offerPlace 16 = .ok (.aload_n 0, 1) := by decide +kernel
theorem dX1_offerPlace_17 : decode cX1_offerPlace 17 = .ok (.getfield 29, 3) := by decide +kernel
theorem dX1_offerPlace_20 : decode cX1_offerPlace 20 = .ok (.invokevirtual 74, 3) := by decide +kernel
theorem dX1_offerPlace_23 : decode cX1_offerPlace 23 = .ok (.i2l, 1) := by decide +kernel
theorem dX1_offerPlace_24 : decode cX1_offerPlace 24 = .ok (.lmul, 1) := by decide +kernel
theorem dX1_offerPlace_25 : decode cX1_offerPlace 25 = .ok (.ladd, 1) := by decide +kernel
theorem dX1_offerPlace_26 : decode cX1_offerPlace 26 = .ok (.lreturn, 1) := by decide +kernel
theorem dX1_set_0 : decode cX1_set 0 = .ok (.iload_n 1, 1) := by decide +kernel
theorem dX1_set_1 : decode cX1_set 1 = .ok (.bipush 68, 2) := by decide +kernel
theorem dX1_set_3 : decode cX1_set 3 = .ok (.if_icmp .ne 21, 3) := by decide +kernel
theorem dX1_set_6 : decode cX1_set 6 = .ok (.aload_n 0, 1) := by decide +kernel
theorem dX1_set_7 : decode cX1_set 7 = .ok (.iload_n 2, 1) := by decide +kernel
theorem dX1_set_8 : decode cX1_set 8 = .ok (.iconst 1, 1) := by decide +kernel
theorem dX1_set_9 : decode cX1_set 9 = .ok (.iand, 1) := by decide +kernel
theorem dX1_set_10 : decode cX1_set 10 = .ok (.ifCond .eq 7, 3) := by decide +kernel
theorem dX1_set_13 : decode cX1_set 13 = .ok (.iconst 1, 1) := by decide +kernel
theorem dX1_set_14 : decode cX1_set 14 = .ok (.goto 4, 3) := by decide +kernel
theorem dX1_set_17 : decode cX1_set 17 = .ok (.iconst 0, 1) := by decide +kernel
theorem dX1_set_18 : decode cX1_set 18 = .ok (.putfield 15, 3) := by decide +kernel
theorem dX1_set_21 : decode cX1_set 21 = .ok (.goto 16, 3) := by decide +kernel
theorem dX1_set_24 : decode cX1_set 24 = .ok (.aload_n 0, 1) := by decide +kernel
theorem dX1_set_25 : decode cX1_set 25 = .ok (.getfield 15, 3) := by decide +kernel
theorem dX1_set_28 : decode cX1_set 28 = .ok (.ifCond .ne 9, 3) := by decide +kernel
theorem dX1_set_31 : decode cX1_set 31 = .ok (.aload_n 0, 1) := by decide +kernel
theorem dX1_set_32 : decode cX1_set 32 = .ok (.iload_n 1, 1) := by decide +kernel
theorem dX1_set_33 : decode cX1_set 33 = .ok (.iload_n 2, 1) := by decide +kernel
theorem dX1_set_34 : decode cX1_set 34 = .ok (.invokevirtual 35, 3) := by decide +kernel
theorem dX1_set_37 : decode cX1_set 37 = .ok (.return_, 1) := by decide +kernel
theorem dX1_setUp_0 : decode cX1_setUp 0 = .ok (.iload_n 1, 1) := by decide +kernel
theorem dX1_setUp_1 : decode cX1_setUp 1 = .ok (.lookupswitch 192 #[(56, 67), (128, 102), (132, 117), (144, 132), (148, 147), (160, 162), (164, 177)], 67) := by decide +kernel
theorem dX1_setUp_68 : decode cX1_setUp 68 = .ok (.iload_n 2, 1) := by decide +kernel
theorem dX1_setUp_69 : decode cX1_setUp 69 = .ok (.iconst 1, 1) := by decide +kernel
theorem dX1_setUp_70 : decode cX1_setUp 70 = .ok (.if_icmp .eq 25, 3) := by decide +kernel
theorem dX1_setUp_73 : decode cX1_setUp 73 = .ok (.iload_n 2, 1) := by decide +kernel
theorem dX1_setUp_74 : decode cX1_setUp 74 = .ok (.iconst 2, 1) := by decide +kernel
theorem dX1_setUp_75 : decode cX1_setUp 75 = .ok (.if_icmp .eq 20, 3) := by decide +kernel
theorem dX1_setUp_78 : decode cX1_setUp 78 = .ok (.iload_n 2, 1) := by decide +kernel
theorem dX1_setUp_79 : decode cX1_setUp 79 = .ok (.iconst 4, 1) := by decide +kernel
theorem dX1_setUp_80 : decode cX1_setUp 80 = .ok (.if_icmp .eq 15, 3) := by decide +kernel
theorem dX1_setUp_83 : decode cX1_setUp 83 = .ok (.iload_n 2, 1) := by decide +kernel
theorem dX1_setUp_84 : decode cX1_setUp 84 = .ok (.bipush 8, 2) := by decide +kernel
theorem dX1_setUp_86 : decode cX1_setUp 86 = .ok (.if_icmp .eq 9, 3) := by decide +kernel
theorem dX1_setUp_89 : decode cX1_setUp 89 = .ok (.iload_n 2, 1) := by decide +kernel
theorem dX1_setUp_90 : decode cX1_setUp 90 = .ok (.bipush 16, 2) := by decide +kernel
theorem dX1_setUp_92 : decode cX1_setUp 92 = .ok (.if_icmp .ne 101, 3) := by decide +kernel
theorem dX1_setUp_95 : decode cX1_setUp 95 = .ok (.aload_n 0, 1) := by decide +kernel
theorem dX1_setUp_96 : decode cX1_setUp 96 = .ok (.iload_n 2, 1) := by decide +kernel
theorem dX1_setUp_97 : decode cX1_setUp 97 = .ok (.putfield 11, 3) := by decide +kernel
theorem dX1_setUp_100 : decode cX1_setUp 100 = .ok (.goto 93, 3) := by decide +kernel
theorem dX1_setUp_103 : decode cX1_setUp 103 = .ok (.aload_n 0, 1) := by decide +kernel
theorem dX1_setUp_104 : decode cX1_setUp 104 = .ok (.aload_n 0, 1) := by decide +kernel
theorem dX1_setUp_105 : decode cX1_setUp 105 = .ok (.getfield 19, 3) := by decide +kernel
theorem dX1_setUp_108 : decode cX1_setUp 108 = .ok (.iload_n 2, 1) := by decide +kernel
theorem dX1_setUp_109 : decode cX1_setUp 109 = .ok (.invokestatic 39, 3) := by decide +kernel
theorem dX1_setUp_112 : decode cX1_setUp 112 = .ok (.putfield 19, 3) := by decide +kernel
theorem dX1_setUp_115 : decode cX1_setUp 115 = .ok (.goto 78, 3) := by decide +kernel
theorem dX1_setUp_118 : decode cX1_setUp 118 = .ok (.aload_n 0, 1) := by decide +kernel
theorem dX1_setUp_119 : decode cX1_setUp 119 = .ok (.aload_n 0, 1) := by decide +kernel
theorem dX1_setUp_120 : decode cX1_setUp 120 = .ok (.getfield 19, 3) := by decide +kernel
theorem dX1_setUp_123 : decode cX1_setUp 123 = .ok (.iload_n 2, 1) := by decide +kernel
theorem dX1_setUp_124 : decode cX1_setUp 124 = .ok (.invokestatic 43, 3) := by decide +kernel
theorem dX1_setUp_127 : decode cX1_setUp 127 = .ok (.putfield 19, 3) := by decide +kernel
theorem dX1_setUp_130 : decode cX1_setUp 130 = .ok (.goto 63, 3) := by decide +kernel
theorem dX1_setUp_133 : decode cX1_setUp 133 = .ok (.aload_n 0, 1) := by decide +kernel
theorem dX1_setUp_134 : decode cX1_setUp 134 = .ok (.aload_n 0, 1) := by decide +kernel
theorem dX1_setUp_135 : decode cX1_setUp 135 = .ok (.getfield 23, 3) := by decide +kernel
theorem dX1_setUp_138 : decode cX1_setUp 138 = .ok (.iload_n 2, 1) := by decide +kernel
theorem dX1_setUp_139 : decode cX1_setUp 139 = .ok (.invokestatic 39, 3) := by decide +kernel
theorem dX1_setUp_142 : decode cX1_setUp 142 = .ok (.putfield 23, 3) := by decide +kernel
theorem dX1_setUp_145 : decode cX1_setUp 145 = .ok (.goto 48, 3) := by decide +kernel
theorem dX1_setUp_148 : decode cX1_setUp 148 = .ok (.aload_n 0, 1) := by decide +kernel
theorem dX1_setUp_149 : decode cX1_setUp 149 = .ok (.aload_n 0, 1) := by decide +kernel
theorem dX1_setUp_150 : decode cX1_setUp 150 = .ok (.getfield 23, 3) := by decide +kernel
theorem dX1_setUp_153 : decode cX1_setUp 153 = .ok (.iload_n 2, 1) := by decide +kernel
theorem dX1_setUp_154 : decode cX1_setUp 154 = .ok (.invokestatic 43, 3) := by decide +kernel
theorem dX1_setUp_157 : decode cX1_setUp 157 = .ok (.putfield 23, 3) := by decide +kernel
theorem dX1_setUp_160 : decode cX1_setUp 160 = .ok (.goto 33, 3) := by decide +kernel
theorem dX1_setUp_163 : decode cX1_setUp 163 = .ok (.aload_n 0, 1) := by decide +kernel
theorem dX1_setUp_164 : decode cX1_setUp 164 = .ok (.aload_n 0, 1) := by decide +kernel
theorem dX1_setUp_165 : decode cX1_setUp 165 = .ok (.getfield 26, 3) := by decide +kernel
theorem dX1_setUp_168 : decode cX1_setUp 168 = .ok (.iload_n 2, 1) := by decide +kernel
theorem dX1_setUp_169 : decode cX1_setUp 169 = .ok (.invokestatic 39, 3) := by decide +kernel
theorem dX1_setUp_172 : decode cX1_setUp 172 = .ok (.putfield 26, 3) := by decide +kernel
theorem dX1_setUp_175 : decode cX1_setUp 175 = .ok (.goto 18, 3) := by decide +kernel
theorem dX1_setUp_178 : decode cX1_setUp 178 = .ok (.aload_n 0, 1) := by decide +kernel
theorem dX1_setUp_179 : decode cX1_setUp 179 = .ok (.aload_n 0, 1) := by decide +kernel
theorem dX1_setUp_180 : decode cX1_setUp 180 = .ok (.getfield 26, 3) := by decide +kernel
theorem dX1_setUp_183 : decode cX1_setUp 183 = .ok (.iload_n 2, 1) := by decide +kernel
theorem dX1_setUp_184 : decode cX1_setUp 184 = .ok (.invokestatic 43, 3) := by decide +kernel
theorem dX1_setUp_187 : decode cX1_setUp 187 = .ok (.putfield 26, 3) := by decide +kernel
theorem dX1_setUp_190 : decode cX1_setUp 190 = .ok (.goto 3, 3) := by decide +kernel
theorem dX1_setUp_193 : decode cX1_setUp 193 = .ok (.return_, 1) := by decide +kernel
theorem dX1_slot_0 : decode cX1_slot 0 = .ok (.iload_n 1, 1) := by decide +kernel
theorem dX1_slot_1 : decode cX1_slot 1 = .ok (.aload_n 0, 1) := by decide +kernel
theorem dX1_slot_2 : decode cX1_slot 2 = .ok (.getfield 11, 3) := by decide +kernel
theorem dX1_slot_5 : decode cX1_slot 5 = .ok (.iconst 1, 1) := by decide +kernel
theorem dX1_slot_6 : decode cX1_slot 6 = .ok (.isub, 1) := by decide +kernel
theorem dX1_slot_7 : decode cX1_slot 7 = .ok (.iand, 1) := by decide +kernel
theorem dX1_slot_8 : decode cX1_slot 8 = .ok (.ireturn, 1) := by decide +kernel
theorem dX1_withLower_0 : decode cX1_withLower 0 = .ok (.lload_n 0, 1) := by decide +kernel
theorem dX1_withLower_1 : decode cX1_withLower 1 = .ok (.ldc2_w 46, 3) := by decide +kernel
theorem dX1_withLower_4 : decode cX1_withLower 4 = .ok (.land, 1) := by decide +kernel
theorem dX1_withLower_5 : decode cX1_withLower 5 = .ok (.iload_n 2, 1) := by decide +kernel
theorem dX1_withLower_6 : decode cX1_withLower 6 = .ok (.i2l, 1) := by decide +kernel
theorem dX1_withLower_7 : decode cX1_withLower 7 = .ok (.ldc2_w 48, 3) := by decide +kernel
theorem dX1_withLower_10 : decode cX1_withLower 10 = .ok (.land, 1) := by decide +kernel
theorem dX1_withLower_11 : decode cX1_withLower 11 = .ok (.lor, 1) := by decide +kernel
theorem dX1_withLower_12 : decode cX1_withLower 12 = .ok (.lreturn, 1) := by decide +kernel
theorem dX1_withUpper_0 : decode cX1_withUpper 0 = .ok (.iload_n 2, 1) := by decide +kernel
theorem dX1_withUpper_1 : decode cX1_withUpper 1 = .ok (.i2l, 1) := by decide +kernel
theorem dX1_withUpper_2 : decode cX1_withUpper 2 = .ok (.bipush 32, 2) := by decide +kernel
theorem dX1_withUpper_4 : decode cX1_withUpper 4 = .ok (.lshl, 1) := by decide +kernel
theorem dX1_withUpper_5 : decode cX1_withUpper 5 = .ok (.lload_n 0, 1) := by decide +kernel
theorem dX1_withUpper_6 : decode cX1_withUpper 6 = .ok (.ldc2_w 48, 3) := by decide +kernel
theorem dX1_withUpper_9 : decode cX1_withUpper 9 = .ok (.land, 1) := by decide +kernel
theorem dX1_withUpper_10 : decode cX1_withUpper 10 = .ok (.lor, 1) := by decide +kernel
theorem dX1_withUpper_11 : decode cX1_withUpper 11 = .ok (.lreturn, 1) := by decide +kernel
