/-! words and decoded instructions -/
set_option maxRecDepth 20000 in
theorem w_c22586c487 : Cond.instantiable RX3 11 ∈ WW := ww_1 (List.mem_of_getElem? (i := 14) rfl) rfl
set_option maxRecDepth 20000 in
theorem w_a154da7429 : Cond.instantiable RX4 21 ∈ WW := ww_3 (List.mem_of_getElem? (i := 6) rfl) rfl
set_option maxRecDepth 20000 in
theorem w_75f9a26a27 : Cond.classLink RL 8 RX3 ∈ WW := ww_1 (List.mem_of_getElem? (i := 13) rfl) rfl
set_option maxRecDepth 20000 in
theorem w_ccf67f71d0 : Cond.methodLink RL 35 yL_cell ∈ WW := ww_1 (List.mem_of_getElem? (i := 144) rfl) rfl
set_option maxRecDepth 20000 in
theorem w_c38ad3b5c9 : Cond.static yL_cell ∈ WW := ww_1 (List.mem_of_getElem? (i := 145) rfl) rfl
set_option maxRecDepth 20000 in
theorem w_ebad46eadd : Cond.code yL_cell cL_cell 2 (some .int) ∈ WW := ww_1 (List.mem_of_getElem? (i := 146) rfl) rfl
set_option maxRecDepth 20000 in
theorem w_ee5b745435 : Cond.code yX3_init cX3_init 2 none ∈ WW := ww_1 (List.mem_of_getElem? (i := 17) rfl) rfl
set_option maxRecDepth 20000 in
theorem w_e300e6b5fe : Cond.methodLink RL 41 yX3_init ∈ WW := ww_1 (List.mem_of_getElem? (i := 15) rfl) rfl
set_option maxRecDepth 20000 in
theorem w_44227f2d6e : Cond.instanceMethod yX3_init ∈ WW := ww_1 (List.mem_of_getElem? (i := 16) rfl) rfl
set_option maxRecDepth 20000 in
theorem w_ef24bb7920 : Cond.classLink RL 44 RX4 ∈ WW := ww_3 (List.mem_of_getElem? (i := 5) rfl) rfl
set_option maxRecDepth 20000 in
theorem w_e2a7be6fb8 : Cond.code yX4_init cX4_init 2 none ∈ WW := ww_3 (List.mem_of_getElem? (i := 9) rfl) rfl
set_option maxRecDepth 20000 in
theorem w_8d14512d5e : Cond.methodLink RL 46 yX4_init ∈ WW := ww_3 (List.mem_of_getElem? (i := 7) rfl) rfl
set_option maxRecDepth 20000 in
theorem w_2b51a23556 : Cond.instanceMethod yX4_init ∈ WW := ww_3 (List.mem_of_getElem? (i := 8) rfl) rfl
theorem dL_cell_0 : decode cL_cell 0 = .ok (.iload_n 1, 1) := by decide +kernel
theorem dL_cell_1 : decode cL_cell 1 = .ok (.aload_n 0, 1) := by decide +kernel
theorem dL_cell_2 : decode cL_cell 2 = .ok (.arraylength, 1) := by decide +kernel
theorem dL_cell_3 : decode cL_cell 3 = .ok (.if_icmp .ge 9, 3) := by decide +kernel
theorem dL_cell_6 : decode cL_cell 6 = .ok (.aload_n 0, 1) := by decide +kernel
theorem dL_cell_7 : decode cL_cell 7 = .ok (.iload_n 1, 1) := by decide +kernel
theorem dL_cell_8 : decode cL_cell 8 = .ok (.iaload, 1) := by decide +kernel
theorem dL_cell_9 : decode cL_cell 9 = .ok (.goto 4, 3) := by decide +kernel
theorem dL_cell_12 : decode cL_cell 12 = .ok (.iconst 0, 1) := by decide +kernel
theorem dL_cell_13 : decode cL_cell 13 = .ok (.ireturn, 1) := by decide +kernel
