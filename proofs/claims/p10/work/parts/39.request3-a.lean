/-! words and decoded instructions -/
set_option maxRecDepth 20000 in
theorem w_4628035946 : Cond.code yX2_openLengthOf cX2_openLengthOf 2 (some .int) ∈ WW := ww_2 (List.mem_of_getElem? (i := 154) rfl) rfl
set_option maxRecDepth 20000 in
theorem w_fcc05594e2 : Cond.methodLink RX2 73 yX2_openLengthOf ∈ WW := ww_2 (List.mem_of_getElem? (i := 151) rfl) rfl
set_option maxRecDepth 20000 in
theorem w_31defdd873 : Cond.instanceMethod yX2_openLengthOf ∈ WW := ww_2 (List.mem_of_getElem? (i := 153) rfl) rfl
set_option maxRecDepth 20000 in
theorem w_fa6fe686b1 : Cond.selects RX2 yX2_openLengthOf yX2_openLengthOf ∈ WW := ww_p (List.mem_of_getElem? (i := 15) rfl) rfl
theorem dX2_closedData_0 : decode cX2_closedData 0 = .ok (.iconst 0, 1) := by decide +kernel
theorem dX2_closedData_1 : decode cX2_closedData 1 = .ok (.istore_n 1, 1) := by decide +kernel
theorem dX2_closedData_2 : decode cX2_closedData 2 = .ok (.iconst 1, 1) := by decide +kernel
theorem dX2_closedData_3 : decode cX2_closedData 3 = .ok (.istore_n 2, 1) := by decide +kernel
theorem dX2_closedData_4 : decode cX2_closedData 4 = .ok (.iload_n 2, 1) := by decide +kernel
theorem dX2_closedData_5 : decode cX2_closedData 5 = .ok (.aload_n 0, 1) := by decide +kernel
theorem dX2_closedData_6 : decode cX2_closedData 6 = .ok (.getfield 25, 3) := by decide +kernel
theorem dX2_closedData_9 : decode cX2_closedData 9 = .ok (.if_icmp .ge 17, 3) := by decide +kernel
theorem dX2_closedData_12 : decode cX2_closedData 12 = .ok (.iload_n 1, 1) := by decide +kernel
theorem dX2_closedData_13 : decode cX2_closedData 13 = .ok (.aload_n 0, 1) := by decide +kernel
theorem dX2_closedData_14 : decode cX2_closedData 14 = .ok (.iload_n 2, 1) := by decide +kernel
theorem dX2_closedData_15 : decode cX2_closedData 15 = .ok (.invokevirtual 66, 3) := by decide +kernel
theorem dX2_closedData_18 : decode cX2_closedData 18 = .ok (.iadd, 1) := by decide +kernel
theorem dX2_closedData_19 : decode cX2_closedData 19 = .ok (.istore_n 1, 1) := by decide +kernel
theorem dX2_closedData_20 : decode cX2_closedData 20 = .ok (.iinc 2 1, 3) := by decide +kernel
theorem dX2_closedData_23 : decode cX2_closedData 23 = .ok (.goto (-19), 3) := by decide +kernel
theorem dX2_closedData_26 : decode cX2_closedData 26 = .ok (.iload_n 1, 1) := by decide +kernel
theorem dX2_closedData_27 : decode cX2_closedData 27 = .ok (.ireturn, 1) := by decide +kernel
theorem dX2_openData_0 : decode cX2_openData 0 = .ok (.iconst 0, 1) := by decide +kernel
theorem dX2_openData_1 : decode cX2_openData 1 = .ok (.istore_n 1, 1) := by decide +kernel
theorem dX2_openData_2 : decode cX2_openData 2 = .ok (.aload_n 0, 1) := by decide +kernel
theorem dX2_openData_3 : decode cX2_openData 3 = .ok (.getfield 25, 3) := by decide +kernel
theorem dX2_openData_6 : decode cX2_openData 6 = .ok (.istore_n 2, 1) := by decide +kernel
theorem dX2_openData_7 : decode cX2_openData 7 = .ok (.iload_n 2, 1) := by decide +kernel
theorem dX2_openData_8 : decode cX2_openData 8 = .ok (.aload_n 0, 1) := by decide +kernel
theorem dX2_openData_9 : decode cX2_openData 9 = .ok (.getfield 21, 3) := by decide +kernel
theorem dX2_openData_12 : decode cX2_openData 12 = .ok (.if_icmp .ge 17, 3) := by decide +kernel
theorem dX2_openData_15 : decode cX2_openData 15 = .ok (.iload_n 1, 1) := by decide +kernel
theorem dX2_openData_16 : decode cX2_openData 16 = .ok (.aload_n 0, 1) := by decide +kernel
theorem dX2_openData_17 : decode cX2_openData 17 = .ok (.iload_n 2, 1) := by decide +kernel
theorem dX2_openData_18 : decode cX2_openData 18 = .ok (.invokevirtual 73, 3) := by decide +kernel
theorem dX2_openData_21 : decode cX2_openData 21 = .ok (.iadd, 1) := by decide +kernel
theorem dX2_openData_22 : decode cX2_openData 22 = .ok (.istore_n 1, 1) := by decide +kernel
theorem dX2_openData_23 : decode cX2_openData 23 = .ok (.iinc 2 1, 3) := by decide +kernel
theorem dX2_openData_26 : decode cX2_openData 26 = .ok (.goto (-19), 3) := by decide +kernel
theorem dX2_openData_29 : decode cX2_openData 29 = .ok (.iload_n 1, 1) := by decide +kernel
theorem dX2_openData_30 : decode cX2_openData 30 = .ok (.ireturn, 1) := by decide +kernel
