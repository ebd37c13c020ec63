/-! words and decoded instructions -/
set_option maxRecDepth 20000 in
theorem w_9d57df1422 : Cond.fieldLink RX3 75 "QueueDisk" "offeredChoice" "I" ∈ WW := ww_1 (List.mem_of_getElem? (i := 103) rfl) rfl
set_option maxRecDepth 20000 in
theorem w_3e6a9d4c7b : Cond.fieldLink RX3 62 "QueueDisk" "queueChoice" "I" ∈ WW := ww_1 (List.mem_of_getElem? (i := 104) rfl) rfl
set_option maxRecDepth 20000 in
theorem w_ffd2112271 : Cond.code yX1_forget cX1_forget 1 none ∈ WW := ww_2 (List.mem_of_getElem? (i := 208) rfl) rfl
set_option maxRecDepth 20000 in
theorem w_2da3ce13bd : Cond.methodLink RX3 124 yX1_forget ∈ WW := ww_2 (List.mem_of_getElem? (i := 205) rfl) rfl
set_option maxRecDepth 20000 in
theorem w_e9d65887d2 : Cond.instanceMethod yX1_forget ∈ WW := ww_2 (List.mem_of_getElem? (i := 206) rfl) rfl
set_option maxRecDepth 20000 in
theorem w_24c4b8f1fb : Cond.selects RX1 yX1_forget yX1_forget ∈ WW := ww_2 (List.mem_of_getElem? (i := 207) rfl) rfl
theorem dX3_answered_0 : decode cX3_answered 0 = .ok (.aload_n 0, 1) := by decide +kernel
theorem dX3_answered_1 : decode cX3_answered 1 = .ok (.getfield 98, 3) := by decide +kernel
theorem dX3_answered_4 : decode cX3_answered 4 = .ok (.ireturn, 1) := by decide +kernel
theorem dX3_changeState_0 : decode cX3_changeState 0 = .ok (.iload_n 1, 1) := by decide +kernel
theorem dX3_changeState_1 : decode cX3_changeState 1 = .ok (.ifCond .ne 33, 3) := by decide +kernel
theorem dX3_changeState_4 : decode cX3_changeState 4 = .ok (.aload_n 0, 1) := by decide +kernel
theorem dX3_changeState_5 : decode cX3_changeState 5 = .ok (.iconst 0, 1) := by decide +kernel
theorem dX3_changeState_6 : decode cX3_changeState 6 = .ok (.putfield 75, 3) := by decide +kernel
theorem dX3_changeState_9 : decode cX3_changeState 9 = .ok (.aload_n 0, 1) := by decide +kernel
theorem dX3_changeState_10 : decode cX3_changeState 10 = .ok (.iconst 0, 1) := by decide +kernel
theorem dX3_changeState_11 : decode cX3_changeState 11 = .ok (.putfield 62, 3) := by decide +kernel
theorem dX3_changeState_14 : decode cX3_changeState 14 = .ok (.aload_n 0, 1) := by decide +kernel
theorem dX3_changeState_15 : decode cX3_changeState 15 = .ok (.iconst 0, 1) := by decide +kernel
theorem dX3_changeState_16 : decode cX3_changeState 16 = .ok (.putfield 69, 3) := by decide +kernel
theorem dX3_changeState_19 : decode cX3_changeState 19 = .ok (.aload_n 0, 1) := by decide +kernel
theorem dX3_changeState_20 : decode cX3_changeState 20 = .ok (.iconst 0, 1) := by decide +kernel
theorem dX3_changeState_21 : decode cX3_changeState 21 = .ok (.putfield 72, 3) := by decide +kernel
theorem dX3_changeState_24 : decode cX3_changeState 24 = .ok (.aload_n 0, 1) := by decide +kernel
theorem dX3_changeState_25 : decode cX3_changeState 25 = .ok (.getfield 29, 3) := by decide +kernel
theorem dX3_changeState_28 : decode cX3_changeState 28 = .ok (.invokevirtual 124, 3) := by decide +kernel
theorem dX3_changeState_31 : decode cX3_changeState 31 = .ok (.goto 20, 3) := by decide +kernel
theorem dX3_changeState_34 : decode cX3_changeState 34 = .ok (.aload_n 0, 1) := by decide +kernel
theorem dX3_changeState_35 : decode cX3_changeState 35 = .ok (.iload_n 1, 1) := by decide +kernel
theorem dX3_changeState_36 : decode cX3_changeState 36 = .ok (.sipush 255, 3) := by decide +kernel
theorem dX3_changeState_39 : decode cX3_changeState 39 = .ok (.iand, 1) := by decide +kernel
theorem dX3_changeState_40 : decode cX3_changeState 40 = .ok (.aload_n 0, 1) := by decide +kernel
theorem dX3_changeState_41 : decode cX3_changeState 41 = .ok (.getfield 72, 3) := by decide +kernel
theorem dX3_changeState_44 : decode cX3_changeState 44 = .ok (.bipush 64, 2) := by decide +kernel
theorem dX3_changeState_46 : decode cX3_changeState 46 = .ok (.iand, 1) := by decide +kernel
theorem dX3_changeState_47 : decode cX3_changeState 47 = .ok (.ior, 1) := by decide +kernel
theorem dX3_changeState_48 : decode cX3_changeState 48 = .ok (.putfield 72, 3) := by decide +kernel
theorem dX3_changeState_51 : decode cX3_changeState 51 = .ok (.return_, 1) := by decide +kernel
theorem dX3_changed_0 : decode cX3_changed 0 = .ok (.aload_n 0, 1) := by decide +kernel
theorem dX3_changed_1 : decode cX3_changed 1 = .ok (.getfield 101, 3) := by decide +kernel
theorem dX3_changed_4 : decode cX3_changed 4 = .ok (.ireturn, 1) := by decide +kernel
theorem dX3_line_0 : decode cX3_line 0 = .ok (.aload_n 0, 1) := by decide +kernel
theorem dX3_line_1 : decode cX3_line 1 = .ok (.getfield 69, 3) := by decide +kernel
theorem dX3_line_4 : decode cX3_line 4 = .ok (.ifCond .eq 7, 3) := by decide +kernel
theorem dX3_line_7 : decode cX3_line 7 = .ok (.iconst 1, 1) := by decide +kernel
theorem dX3_line_8 : decode cX3_line 8 = .ok (.goto 4, 3) := by decide +kernel
theorem dX3_line_11 : decode cX3_line 11 = .ok (.iconst 0, 1) := by decide +kernel
theorem dX3_line_12 : decode cX3_line 12 = .ok (.ireturn, 1) := by decide +kernel
theorem dX3_offeredWord_0 : decode cX3_offeredWord 0 = .ok (.aload_n 0, 1) := by decide +kernel
theorem dX3_offeredWord_1 : decode cX3_offeredWord 1 = .ok (.getfield 75, 3) := by decide +kernel
theorem dX3_offeredWord_4 : decode cX3_offeredWord 4 = .ok (.ifCond .ne 7, 3) := by decide +kernel
theorem dX3_offeredWord_7 : decode cX3_offeredWord 7 = .ok (.sipush 512, 3) := by decide +kernel
theorem dX3_offeredWord_10 : decode cX3_offeredWord 10 = .ok (.ireturn, 1) := by decide +kernel
theorem dX3_offeredWord_11 : decode cX3_offeredWord 11 = .ok (.aload_n 0, 1) := by decide +kernel
theorem dX3_offeredWord_12 : decode cX3_offeredWord 12 = .ok (.getfield 75, 3) := by decide +kernel
theorem dX3_offeredWord_15 : decode cX3_offeredWord 15 = .ok (.iconst 1, 1) := by decide +kernel
theorem dX3_offeredWord_16 : decode cX3_offeredWord 16 = .ok (.if_icmp .ne 7, 3) := by decide +kernel
theorem dX3_offeredWord_19 : decode cX3_offeredWord 19 = .ok (.iconst 1, 1) := by decide +kernel
theorem dX3_offeredWord_20 : decode cX3_offeredWord 20 = .ok (.goto 4, 3) := by decide +kernel
theorem dX3_offeredWord_23 : decode cX3_offeredWord 23 = .ok (.iconst 0, 1) := by decide +kernel
theorem dX3_offeredWord_24 : decode cX3_offeredWord 24 = .ok (.ireturn, 1) := by decide +kernel
