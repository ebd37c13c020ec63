set_option maxHeartbeats 4000000 in
set_option maxRecDepth 100000 in
/-- QueueDisk.answered -/
theorem d_answered (l : Launch) (dC : Nat → ClassId) (dI : Nat → Nat → Nat) (o : Nat) (sc : Int32) (b : Nat) (b2 : Nat) (uq : Nat) (rq : Nat) (fc : Int32) (qc : Int32) (cu : Int32) (sa : Int32) (aw : Int32) (cg : Int32) : Met l yX3_answered wsX3_answered ({ frames := 0, cells := 0, slots := 0, locals := 0 }) (va_Pc [.ref o] (fun U => va_P (dC, dI) vwCl [(o, .inr (3, [.int sc, .ref b, .ref b2, .ref uq, .ref rq, .int fc, .int qc, .int cu, .int sa, .int aw, .int cg]))] U.heap ∧ va_K (dC, dI) vwCl [] U ∧ ZZ (fun _ => False) U U.heap)) (vp_Si (fun r => r = aw)) 0 0 (fun _ => False) := by
  refine Met.ofW (cc := cX3_answered) (maxL := 1) (ret := (some .int)) (by decide) rfl ?_
  intro p e s m args below meth c s₁ B hml hv
  obtain ⟨rfl, hP, hK, hZ⟩ := hv
  have hx := B.exec
  have hb := B.bytes
  have hr := B.returns
  have hts := atoms_spec (ws := wsX3_answered) B.pre
  have hw : ∀ w ∈ WW, w.before _ s = true := fun w h => hts w (List.mem_cons_of_mem _ h)
  have hown : s.vm.findClass RX3 = some m.cls := findClass_of_methodNamed B.named
  have hlocks := B.notSynchronized
  have hl := lv_entry ([.ref o]) (n := 1) (Nat.le_of_ble_eq_true rfl)
  rw [lg_entry_eq]
  generalize (lg_sl ([.ref o]) ++ List.replicate (1 - (lg_sl ([.ref o])).length) Slot.unset).toArray = ls at hl ⊢
  have hl : lv_has ls 1 [(0, .ref o)] := hl
  refine lv_aload_n hx hb dX3_answered_0 rfl (lv_at hl 0 rfl) ?_
  refine va_get (D := (dC, dI)) (ci := 3) (v := .int aw) (C := RX3) (T := TX3) (N := 11) hx hb hw inX3 hown hK hP 0 rfl rfl 9 (by decide) (hw _ w_4575277cb8) (fun _ h9 => h9) rfl dX3_answered_1 ?_
  exact W.iret (v := aw) hx hb hr (fun t ht hW => ⟨_, rfl, rfl, ht⟩) t_nil dX3_answered_4
set_option maxHeartbeats 4000000 in
set_option maxRecDepth 100000 in
/-- QueueDisk.changed -/
theorem d_changed (l : Launch) (dC : Nat → ClassId) (dI : Nat → Nat → Nat) (o : Nat) (sc : Int32) (b : Nat) (b2 : Nat) (uq : Nat) (rq : Nat) (fc : Int32) (qc : Int32) (cu : Int32) (sa : Int32) (aw : Int32) (cg : Int32) : Met l yX3_changed wsX3_changed ({ frames := 0, cells := 0, slots := 0, locals := 0 }) (va_Pc [.ref o] (fun U => va_P (dC, dI) vwCl [(o, .inr (3, [.int sc, .ref b, .ref b2, .ref uq, .ref rq, .int fc, .int qc, .int cu, .int sa, .int aw, .int cg]))] U.heap ∧ va_K (dC, dI) vwCl [] U ∧ ZZ (fun _ => False) U U.heap)) (vp_Si (fun r => r = cg)) 0 0 (fun _ => False) := by
  refine Met.ofW (cc := cX3_changed) (maxL := 1) (ret := (some .int)) (by decide) rfl ?_
  intro p e s m args below meth c s₁ B hml hv
  obtain ⟨rfl, hP, hK, hZ⟩ := hv
  have hx := B.exec
  have hb := B.bytes
  have hr := B.returns
  have hts := atoms_spec (ws := wsX3_changed) B.pre
  have hw : ∀ w ∈ WW, w.before _ s = true := fun w h => hts w (List.mem_cons_of_mem _ h)
  have hown : s.vm.findClass RX3 = some m.cls := findClass_of_methodNamed B.named
  have hlocks := B.notSynchronized
  have hl := lv_entry ([.ref o]) (n := 1) (Nat.le_of_ble_eq_true rfl)
  rw [lg_entry_eq]
  generalize (lg_sl ([.ref o]) ++ List.replicate (1 - (lg_sl ([.ref o])).length) Slot.unset).toArray = ls at hl ⊢
  have hl : lv_has ls 1 [(0, .ref o)] := hl
  refine lv_aload_n hx hb dX3_changed_0 rfl (lv_at hl 0 rfl) ?_
  refine va_get (D := (dC, dI)) (ci := 3) (v := .int cg) (C := RX3) (T := TX3) (N := 11) hx hb hw inX3 hown hK hP 0 rfl rfl 10 (by decide) (hw _ w_7c03c59aed) (fun _ h9 => h9) rfl dX3_changed_1 ?_
  exact W.iret (v := cg) hx hb hr (fun t ht hW => ⟨_, rfl, rfl, ht⟩) t_nil dX3_changed_4
set_option maxHeartbeats 4000000 in
set_option maxRecDepth 100000 in
/-- QueueDisk.line -/
theorem d_line (l : Launch) (dC : Nat → ClassId) (dI : Nat → Nat → Nat) (o : Nat) (sc : Int32) (b : Nat) (b2 : Nat) (uq : Nat) (rq : Nat) (fc : Int32) (qc : Int32) (cu : Int32) (sa : Int32) (aw : Int32) (cg : Int32) : Met l yX3_line wsX3_line ({ frames := 0, cells := 0, slots := 0, locals := 0 }) (va_Pc [.ref o] (fun U => va_P (dC, dI) vwCl [(o, .inr (3, [.int sc, .ref b, .ref b2, .ref uq, .ref rq, .int fc, .int qc, .int cu, .int sa, .int aw, .int cg]))] U.heap ∧ va_K (dC, dI) vwCl [] U ∧ ZZ (fun _ => False) U U.heap)) (vp_Si (fun r => r = bI (¬ cu = 0))) 0 0 (fun _ => False) := by
  refine Met.ofW (cc := cX3_line) (maxL := 1) (ret := (some .boolean)) (by decide) rfl ?_
  intro p e s m args below meth c s₁ B hml hv
  obtain ⟨rfl, hP, hK, hZ⟩ := hv
  have hx := B.exec
  have hb := B.bytes
  have hr := B.returns
  have hts := atoms_spec (ws := wsX3_line) B.pre
  have hw : ∀ w ∈ WW, w.before _ s = true := fun w h => hts w (List.mem_cons_of_mem _ h)
  have hown : s.vm.findClass RX3 = some m.cls := findClass_of_methodNamed B.named
  have hlocks := B.notSynchronized
  have hl := lv_entry ([.ref o]) (n := 1) (Nat.le_of_ble_eq_true rfl)
  rw [lg_entry_eq]
  generalize (lg_sl ([.ref o]) ++ List.replicate (1 - (lg_sl ([.ref o])).length) Slot.unset).toArray = ls at hl ⊢
  have hl : lv_has ls 1 [(0, .ref o)] := hl
  refine lv_aload_n hx hb dX3_line_0 rfl (lv_at hl 0 rfl) ?_
  refine va_get (D := (dC, dI)) (ci := 3) (v := .int cu) (C := RX3) (T := TX3) (N := 11) hx hb hw inX3 hown hK hP 0 rfl rfl 7 (by decide) (hw _ w_a5d7e13dd3) (fun _ h9 => h9) rfl dX3_line_1 ?_
  refine lv_if_eq (tgt := 11) hx hb dX3_line_4 (by decide) (fun c_1 => ?_) (fun c_1 => ?_)
  · skip
    refine lv_iconst (v := 0) hx hb dX3_line_11 (by decide) ?_
    exact W.zret (v := 0) hx hb hr rfl (fun t ht hW => ⟨_, rfl, (bI_f (fun z => z c_1)).symm, ht⟩) t_nil dX3_line_12
  · skip
    refine lv_iconst (v := 1) hx hb dX3_line_7 (by decide) ?_
    refine lv_goto (tgt := 12) hx hb dX3_line_8 (by decide) ?_
    exact W.zret (v := 1) hx hb hr rfl (fun t ht hW => ⟨_, rfl, (bI_t c_1).symm, ht⟩) t_nil dX3_line_12
set_option maxHeartbeats 4000000 in
set_option maxRecDepth 100000 in
/-- QueueDisk.offeredWord -/
theorem d_offeredWord (l : Launch) (dC : Nat → ClassId) (dI : Nat → Nat → Nat) (o : Nat) (sc : Int32) (b : Nat) (b2 : Nat) (uq : Nat) (rq : Nat) (fc : Int32) (qc : Int32) (cu : Int32) (sa : Int32) (aw : Int32) (cg : Int32) : Met l yX3_offeredWord wsX3_offeredWord ({ frames := 0, cells := 0, slots := 0, locals := 0 }) (va_Pc [.ref o] (fun U => va_P (dC, dI) vwCl [(o, .inr (3, [.int sc, .ref b, .ref b2, .ref uq, .ref rq, .int fc, .int qc, .int cu, .int sa, .int aw, .int cg]))] U.heap ∧ va_K (dC, dI) vwCl [] U ∧ ZZ (fun _ => False) U U.heap)) (vp_Si (fun r => r = if fc = 0 then 512 else if fc = 1 then 1 else 0)) 0 0 (fun _ => False) := by
  refine Met.ofW (cc := cX3_offeredWord) (maxL := 1) (ret := (some .int)) (by decide) rfl ?_
  intro p e s m args below meth c s₁ B hml hv
  obtain ⟨rfl, hP, hK, hZ⟩ := hv
  have hx := B.exec
  have hb := B.bytes
  have hr := B.returns
  have hts := atoms_spec (ws := wsX3_offeredWord) B.pre
  have hw : ∀ w ∈ WW, w.before _ s = true := fun w h => hts w (List.mem_cons_of_mem _ h)
  have hown : s.vm.findClass RX3 = some m.cls := findClass_of_methodNamed B.named
  have hlocks := B.notSynchronized
  have hl := lv_entry ([.ref o]) (n := 1) (Nat.le_of_ble_eq_true rfl)
  rw [lg_entry_eq]
  generalize (lg_sl ([.ref o]) ++ List.replicate (1 - (lg_sl ([.ref o])).length) Slot.unset).toArray = ls at hl ⊢
  have hl : lv_has ls 1 [(0, .ref o)] := hl
  refine lv_aload_n hx hb dX3_offeredWord_0 rfl (lv_at hl 0 rfl) ?_
  refine va_get (D := (dC, dI)) (ci := 3) (v := .int fc) (C := RX3) (T := TX3) (N := 11) hx hb hw inX3 hown hK hP 0 rfl rfl 5 (by decide) (hw _ w_9d57df1422) (fun _ h9 => h9) rfl dX3_offeredWord_1 ?_
  refine lv_if_ne (tgt := 11) hx hb dX3_offeredWord_4 (by decide) (fun c_1 => ?_) (fun c_1 => ?_)
  · skip
    refine lv_aload_n hx hb dX3_offeredWord_11 rfl (lv_at hl 0 rfl) ?_
    refine va_get (D := (dC, dI)) (ci := 3) (v := .int fc) (C := RX3) (T := TX3) (N := 11) hx hb hw inX3 hown hK hP 0 rfl rfl 5 (by decide) (hw _ w_9d57df1422) (fun _ h9 => h9) rfl dX3_offeredWord_12 ?_
    refine lv_iconst (v := 1) hx hb dX3_offeredWord_15 (by decide) ?_
    refine lv_icmp_ne (tgt := 23) hx hb dX3_offeredWord_16 (by decide) (fun c_2 => ?_) (fun c_2 => ?_)
    · skip
      refine lv_iconst (v := 0) hx hb dX3_offeredWord_23 (by decide) ?_
      exact W.iret (v := 0) hx hb hr (fun t ht hW => ⟨_, rfl, (by rw [if_neg c_1, if_neg c_2]), ht⟩) t_nil dX3_offeredWord_24
    · skip
      refine lv_iconst (v := 1) hx hb dX3_offeredWord_19 (by decide) ?_
      refine lv_goto (tgt := 24) hx hb dX3_offeredWord_20 (by decide) ?_
      exact W.iret (v := 1) hx hb hr (fun t ht hW => ⟨_, rfl, (by rw [if_neg c_1, if_pos c_2]), ht⟩) t_nil dX3_offeredWord_24
  · skip
    refine lv_sipush (v := 512) hx hb dX3_offeredWord_7 (by decide) ?_
    exact W.iret (v := 512) hx hb hr (fun t ht hW => ⟨_, rfl, (if_pos c_1).symm, ht⟩) t_nil dX3_offeredWord_10
set_option maxHeartbeats 4000000 in
set_option maxRecDepth 100000 in
/-- QueueDisk.changeState -/
theorem d_changeState (l : Launch) (dC : Nat → ClassId) (dI : Nat → Nat → Nat) (o : Nat) (sc : Int32) (b : Nat) (b2 : Nat) (uq : Nat) (rq : Nat) (fc : Int32) (qc : Int32) (cu : Int32) (sa : Int32) (aw : Int32) (cg : Int32) (sz : Int32) (rd : Int32) (bl : Int64) (of : Int64) (an : Int64) (tk : Int32) (td : Int32) (om : Int32) (oc : Int32) (x : Int32) (zS : Nat) : Met l yX3_changeState wsX3_changeState ({ frames := 1, cells := 0, slots := 0, locals := 40 }) (va_Pc [.ref o, .int x] (fun U => U.heap.size = zS ∧ va_P (dC, dI) vwCl [(o, .inr (3, [.int sc, .ref b, .ref b2, .ref uq, .ref rq, .int fc, .int qc, .int cu, .int sa, .int aw, .int cg])), (uq, .inr (1, [.int sz, .int rd, .long bl, .long of, .long an, .int tk, .int td, .int om, .int oc]))] U.heap ∧ va_K (dC, dI) vwCl [] U ∧ va_D (fun _ => True) [(o, .inr (3, [.int sc, .ref b, .ref b2, .ref uq, .ref rq, .int fc, .int qc, .int cu, .int sa, .int aw, .int cg])), (uq, .inr (1, [.int sz, .int rd, .long bl, .long of, .long an, .int tk, .int td, .int om, .int oc]))] ∧ ZZ (va_A [(o, .inr (3, [.int sc, .ref b, .ref b2, .ref uq, .ref rq, .int fc, .int qc, .int cu, .int sa, .int aw, .int cg])), (uq, .inr (1, [.int sz, .int rd, .long bl, .long of, .long an, .int tk, .int td, .int om, .int oc]))] zS) U U.heap)) (va_Qv (fun (u : Int32 × Int32 × Int32 × Int32 × Int32 × Int32 × Int64 × Int64 × Int64 × Int32 × Int32) => match u with | (fc2, qc2, cu2, sa2, sz2, rd2, bl2, of2, an2, tk2, td2) => (x = 0 → fc2 = 0 ∧ qc2 = 0 ∧ cu2 = 0 ∧ sa2 = 0 ∧ sz2 = 16 ∧ rd2 = 0 ∧ bl2 = 0 ∧ of2 = 0 ∧ an2 = 0 ∧ tk2 = 0 ∧ td2 = 0) ∧ (¬ x = 0 → fc2 = fc ∧ qc2 = qc ∧ cu2 = cu ∧ sa2 = (x &&& 255) ||| (sa &&& 64) ∧ sz2 = sz ∧ rd2 = rd ∧ bl2 = bl ∧ of2 = of ∧ an2 = an ∧ tk2 = tk ∧ td2 = td)) (fun (u : Int32 × Int32 × Int32 × Int32 × Int32 × Int32 × Int64 × Int64 × Int64 × Int32 × Int32) (t : State) => match u with | (fc2, qc2, cu2, sa2, sz2, rd2, bl2, of2, an2, tk2, td2) => va_P (dC, dI) vwCl [(o, .inr (3, [.int sc, .ref b, .ref b2, .ref uq, .ref rq, .int fc2, .int qc2, .int cu2, .int sa2, .int aw, .int cg])), (uq, .inr (1, [.int sz2, .int rd2, .long bl2, .long of2, .long an2, .int tk2, .int td2, .int om, .int oc]))] t.heap ∧ va_K (dC, dI) vwCl [] t ∧ va_D (va_A [(o, .inr (3, [.int sc, .ref b, .ref b2, .ref uq, .ref rq, .int fc, .int qc, .int cu, .int sa, .int aw, .int cg])), (uq, .inr (1, [.int sz, .int rd, .long bl, .long of, .long an, .int tk, .int td, .int om, .int oc]))] zS) [(o, .inr (3, [.int sc, .ref b, .ref b2, .ref uq, .ref rq, .int fc2, .int qc2, .int cu2, .int sa2, .int aw, .int cg])), (uq, .inr (1, [.int sz2, .int rd2, .long bl2, .long of2, .long an2, .int tk2, .int td2, .int om, .int oc]))]) (va_A [(o, .inr (3, [.int sc, .ref b, .ref b2, .ref uq, .ref rq, .int fc, .int qc, .int cu, .int sa, .int aw, .int cg])), (uq, .inr (1, [.int sz, .int rd, .long bl, .long of, .long an, .int tk, .int td, .int om, .int oc]))] zS)) 0 0 (va_A [(o, .inr (3, [.int sc, .ref b, .ref b2, .ref uq, .ref rq, .int fc, .int qc, .int cu, .int sa, .int aw, .int cg])), (uq, .inr (1, [.int sz, .int rd, .long bl, .long of, .long an, .int tk, .int td, .int om, .int oc]))] zS) := by
  refine Met.ofW (cc := cX3_changeState) (maxL := 2) (ret := (none)) (by decide) rfl ?_
  intro p e s m args below meth c s₁ B hml hv
  obtain ⟨rfl, hsz, hP, hK, hD0, hZ⟩ := hv
  have hx := B.exec
  have hb := B.bytes
  have hr := B.returns
  have hts := atoms_spec (ws := wsX3_changeState) B.pre
  have hw : ∀ w ∈ WW, w.before _ s = true := fun w h => hts w (List.mem_cons_of_mem _ h)
  have hown : s.vm.findClass RX3 = some m.cls := findClass_of_methodNamed B.named
  have hlocks := B.notSynchronized
  subst hsz
  have hD := hD0.self (sz := s.heap.size)
  generalize hAe : va_A [(o, .inr (3, [.int sc, .ref b, .ref b2, .ref uq, .ref rq, .int fc, .int qc, .int cu, .int sa, .int aw, .int cg])), (uq, .inr (1, [.int sz, .int rd, .long bl, .long of, .long an, .int tk, .int td, .int om, .int oc]))] s.heap.size = A at hD hZ ⊢
  have hA : ∀ q : Nat, s.heap.size ≤ q → A q := fun q h => by rw [← hAe]; exact Or.inr h
  have hS : va_S A s.heap s.heap [] := va_S.rf
  have hP : va_P (dC, dI) vwCl [(o, .inr (3, [.int sc, .ref b, .ref b2, .ref uq, .ref rq, .int fc, .int qc, .int cu, .int sa, .int aw, .int cg])), (uq, .inr (1, [.int sz, .int rd, .long bl, .long of, .long an, .int tk, .int td, .int om, .int oc]))] s.heap := hP
  have hl := lv_entry ([.ref o, .int x]) (n := 2) (Nat.le_of_ble_eq_true rfl)
  rw [lg_entry_eq]
  generalize (lg_sl ([.ref o, .int x]) ++ List.replicate (2 - (lg_sl ([.ref o, .int x])).length) Slot.unset).toArray = ls at hl ⊢
  have hl : lv_has ls 2 [(0, .ref o), (1, .int x)] := hl
  refine lv_iload_n hx hb dX3_changeState_0 rfl (lv_at hl 1 rfl) ?_
  refine lv_if_ne (tgt := 34) hx hb dX3_changeState_1 (by decide) (fun c_1 => ?_) (fun c_1 => ?_)
  · skip
    refine lv_aload_n hx hb dX3_changeState_34 rfl (lv_at hl 0 rfl) ?_
    refine lv_iload_n hx hb dX3_changeState_35 rfl (lv_at hl 1 rfl) ?_
    refine lv_sipush (v := 255) hx hb dX3_changeState_36 (by decide) ?_
    refine lv_iand hx hb dX3_changeState_39 ?_
    refine lv_aload_n hx hb dX3_changeState_40 rfl (lv_at hl 0 rfl) ?_
    refine va_get (D := (dC, dI)) (ci := 3) (v := .int sa) (C := RX3) (T := TX3) (N := 11) hx hb hw inX3 hown hK hP 0 rfl rfl 8 (by decide) (hw _ w_45d7c9e8af) (fun _ h9 => h9) rfl dX3_changeState_41 ?_
    refine lv_bipush (v := 64) hx hb dX3_changeState_44 (by decide) ?_
    refine lv_iand hx hb dX3_changeState_46 ?_
    refine lv_ior hx hb dX3_changeState_47 ?_
    refine lv_topi (fun x_2 ex_2 => ?_)
    refine va_put (D := (dC, dI)) (ci := 3) (v := .int x_2) (ty := .int) (C := RX3) (T := TX3) (N := 11) hx hb hw inX3 tyX3 tyX3_ok nmX3 hown hK hP hD hS 0 rfl rfl 8 (by decide) (hw _ w_45d7c9e8af) (fun _ h9 => h9) rfl (by decide +kernel) rfl rfl (Nat.le_of_ble_eq_true rfl) dX3_changeState_48 (fun H locs hP hD hS => ?_)
    have hP : va_P (dC, dI) vwCl [(o, .inr (3, [.int sc, .ref b, .ref b2, .ref uq, .ref rq, .int fc, .int qc, .int cu, .int x_2, .int aw, .int cg])), (uq, .inr (1, [.int sz, .int rd, .long bl, .long of, .long an, .int tk, .int td, .int om, .int oc]))] H := hP
    have hD : va_D A [(o, .inr (3, [.int sc, .ref b, .ref b2, .ref uq, .ref rq, .int fc, .int qc, .int cu, .int x_2, .int aw, .int cg])), (uq, .inr (1, [.int sz, .int rd, .long bl, .long of, .long an, .int tk, .int td, .int om, .int oc]))] := hD
    have hP9 : va_P (dC, dI) vwCl [(o, .inr (3, [.int sc, .ref b, .ref b2, .ref uq, .ref rq, .int fc, .int qc, .int cu, .int x_2, .int aw, .int cg])), (uq, .inr (1, [.int sz, .int rd, .long bl, .long of, .long an, .int tk, .int td, .int om, .int oc]))] H := by exact hP.sub (ws' := [(o, .inr (3, [.int sc, .ref b, .ref b2, .ref uq, .ref rq, .int fc, .int qc, .int cu, .int x_2, .int aw, .int cg])), (uq, .inr (1, [.int sz, .int rd, .long bl, .long of, .long an, .int tk, .int td, .int om, .int oc]))]) [0, 1] rfl
    have hD9 : va_D A [(o, .inr (3, [.int sc, .ref b, .ref b2, .ref uq, .ref rq, .int fc, .int qc, .int cu, .int x_2, .int aw, .int cg])), (uq, .inr (1, [.int sz, .int rd, .long bl, .long of, .long an, .int tk, .int td, .int om, .int oc]))] := by exact hD.sub (ws' := [(o, .inr (3, [.int sc, .ref b, .ref b2, .ref uq, .ref rq, .int fc, .int qc, .int cu, .int x_2, .int aw, .int cg])), (uq, .inr (1, [.int sz, .int rd, .long bl, .long of, .long an, .int tk, .int td, .int om, .int oc]))]) [0, 1] (by decide) rfl
    have hK9 := hK.sub (tys' := []) [] rfl
    exact W.vret hx hb hr (fun t ht hW => ⟨⟨(fc, qc, cu, x_2, sz, rd, bl, of, an, tk, td), rfl, ⟨fun z => absurd z c_1, fun _ => ⟨rfl, rfl, rfl, ex_2, rfl, rfl, rfl, rfl, rfl, rfl, rfl⟩⟩, by rw [ht]; exact hP9, va_K.moved hW.alike hK9, hD9⟩, hS.F ht⟩) hS.2.2 dX3_changeState_51
  · skip
    refine lv_aload_n hx hb dX3_changeState_4 rfl (lv_at hl 0 rfl) ?_
    refine lv_iconst (v := 0) hx hb dX3_changeState_5 (by decide) ?_
    refine va_put (D := (dC, dI)) (ci := 3) (v := .int 0) (ty := .int) (C := RX3) (T := TX3) (N := 11) hx hb hw inX3 tyX3 tyX3_ok nmX3 hown hK hP hD hS 0 rfl rfl 5 (by decide) (hw _ w_9d57df1422) (fun _ h9 => h9) rfl (by decide +kernel) rfl rfl (Nat.le_of_ble_eq_true rfl) dX3_changeState_6 (fun H locs hP hD hS => ?_)
    have hP : va_P (dC, dI) vwCl [(o, .inr (3, [.int sc, .ref b, .ref b2, .ref uq, .ref rq, .int 0, .int qc, .int cu, .int sa, .int aw, .int cg])), (uq, .inr (1, [.int sz, .int rd, .long bl, .long of, .long an, .int tk, .int td, .int om, .int oc]))] H := hP
    have hD : va_D A [(o, .inr (3, [.int sc, .ref b, .ref b2, .ref uq, .ref rq, .int 0, .int qc, .int cu, .int sa, .int aw, .int cg])), (uq, .inr (1, [.int sz, .int rd, .long bl, .long of, .long an, .int tk, .int td, .int om, .int oc]))] := hD
    refine lv_aload_n hx hb dX3_changeState_9 rfl (lv_at hl 0 rfl) ?_
    refine lv_iconst (v := 0) hx hb dX3_changeState_10 (by decide) ?_
    refine va_put (D := (dC, dI)) (ci := 3) (v := .int 0) (ty := .int) (C := RX3) (T := TX3) (N := 11) hx hb hw inX3 tyX3 tyX3_ok nmX3 hown hK hP hD hS 0 rfl rfl 6 (by decide) (hw _ w_3e6a9d4c7b) (fun _ h9 => h9) rfl (by decide +kernel) rfl rfl (Nat.le_of_ble_eq_true rfl) dX3_changeState_11 (fun H locs hP hD hS => ?_)
    have hP : va_P (dC, dI) vwCl [(o, .inr (3, [.int sc, .ref b, .ref b2, .ref uq, .ref rq, .int 0, .int 0, .int cu, .int sa, .int aw, .int cg])), (uq, .inr (1, [.int sz, .int rd, .long bl, .long of, .long an, .int tk, .int td, .int om, .int oc]))] H := hP
    have hD : va_D A [(o, .inr (3, [.int sc, .ref b, .ref b2, .ref uq, .ref rq, .int 0, .int 0, .int cu, .int sa, .int aw, .int cg])), (uq, .inr (1, [.int sz, .int rd, .long bl, .long of, .long an, .int tk, .int td, .int om, .int oc]))] := hD
    refine lv_aload_n hx hb dX3_changeState_14 rfl (lv_at hl 0 rfl) ?_
    refine lv_iconst (v := 0) hx hb dX3_changeState_15 (by decide) ?_
    refine va_put (D := (dC, dI)) (ci := 3) (v := .int 0) (ty := .int) (C := RX3) (T := TX3) (N := 11) hx hb hw inX3 tyX3 tyX3_ok nmX3 hown hK hP hD hS 0 rfl rfl 7 (by decide) (hw _ w_a5d7e13dd3) (fun _ h9 => h9) rfl (by decide +kernel) rfl rfl (Nat.le_of_ble_eq_true rfl) dX3_changeState_16 (fun H locs hP hD hS => ?_)
    have hP : va_P (dC, dI) vwCl [(o, .inr (3, [.int sc, .ref b, .ref b2, .ref uq, .ref rq, .int 0, .int 0, .int 0, .int sa, .int aw, .int cg])), (uq, .inr (1, [.int sz, .int rd, .long bl, .long of, .long an, .int tk, .int td, .int om, .int oc]))] H := hP
    have hD : va_D A [(o, .inr (3, [.int sc, .ref b, .ref b2, .ref uq, .ref rq, .int 0, .int 0, .int 0, .int sa, .int aw, .int cg])), (uq, .inr (1, [.int sz, .int rd, .long bl, .long of, .long an, .int tk, .int td, .int om, .int oc]))] := hD
    refine lv_aload_n hx hb dX3_changeState_19 rfl (lv_at hl 0 rfl) ?_
    refine lv_iconst (v := 0) hx hb dX3_changeState_20 (by decide) ?_
    refine va_put (D := (dC, dI)) (ci := 3) (v := .int 0) (ty := .int) (C := RX3) (T := TX3) (N := 11) hx hb hw inX3 tyX3 tyX3_ok nmX3 hown hK hP hD hS 0 rfl rfl 8 (by decide) (hw _ w_45d7c9e8af) (fun _ h9 => h9) rfl (by decide +kernel) rfl rfl (Nat.le_of_ble_eq_true rfl) dX3_changeState_21 (fun H locs hP hD hS => ?_)
    have hP : va_P (dC, dI) vwCl [(o, .inr (3, [.int sc, .ref b, .ref b2, .ref uq, .ref rq, .int 0, .int 0, .int 0, .int 0, .int aw, .int cg])), (uq, .inr (1, [.int sz, .int rd, .long bl, .long of, .long an, .int tk, .int td, .int om, .int oc]))] H := hP
    have hD : va_D A [(o, .inr (3, [.int sc, .ref b, .ref b2, .ref uq, .ref rq, .int 0, .int 0, .int 0, .int 0, .int aw, .int cg])), (uq, .inr (1, [.int sz, .int rd, .long bl, .long of, .long an, .int tk, .int td, .int om, .int oc]))] := hD
    refine lv_aload_n hx hb dX3_changeState_24 rfl (lv_at hl 0 rfl) ?_
    refine va_get (D := (dC, dI)) (ci := 3) (v := .ref uq) (C := RX3) (T := TX3) (N := 11) hx hb hw inX3 hown hK hP 0 rfl rfl 3 (by decide) (hw _ w_be4edc18b4) (fun _ h9 => h9) rfl dX3_changeState_25 ?_
    have hPc := hP.sub (ws' := [(uq, .inr (1, [.int sz, .int rd, .long bl, .long of, .long an, .int tk, .int td, .int om, .int oc]))]) [1] rfl
    have hKc := hK.sub (tys' := []) [] rfl
    have hDc := hD.sub (ws' := [(uq, .inr (1, [.int sz, .int rd, .long bl, .long of, .long an, .int tk, .int td, .int om, .int oc]))]) [1] (by decide) rfl
    have hFc := va_free (wc := [(uq, .inr (1, [.int sz, .int rd, .long bl, .long of, .long an, .int tk, .int td, .int om, .int oc]))]) hD hS hA [1] rfl
    have hZc : ZZ (va_A [(uq, .inr (1, [.int sz, .int rd, .long bl, .long of, .long an, .int tk, .int td, .int om, .int oc]))] H.size) s H := (hZ.kept hS.2.1).narrow hFc
    refine va_callv (va_runV (As := []) (rest := []) ⟨hx, hb, hml, hown, hw⟩ (q_forget l dC dI uq sz rd bl of an tk td om oc H.size) (cwV 0 hw (gV w_2da3ce13bd w_e9d65887d2 w_24c4b8f1fb w_cf66e99dd3 w_ffd2112271) rfl rfl rfl (by decide +kernel) ⟨Nat.le_of_ble_eq_true rfl, Nat.le_of_ble_eq_true rfl⟩) ⟨fun a U g mk q => by obtain ⟨q0, q1, qP, qK, qD, qZ⟩ := q; exact ⟨q0, q1, qP, va_K.moved (u := U) (U := U.calling g mk a) (Vm.Alike.refl U.vm) qK, qD, ZZ.same (u := U) (U := U.calling g mk a) rfl qZ⟩, va_recv hKc hPc (ci := 1) (q0 := 0) rfl rfl, fun U hU hW => ⟨rfl, by rw [hU], by rw [hU]; exact hPc, va_K.moved hW.alike hKc, hDc.weaken (fun _ _ _ _ => trivial), by rw [hU]; exact ZZ.warm hW hZc⟩⟩ rfl rfl hl.1 rfl (lv_room (Nat.le_of_ble_eq_true rfl)) dX3_changeState_28 ⟨Nat.zero_le _, Nat.zero_le _⟩) hS (fun q _ h => hFc q h) hFc (fun u t H1 locs ht hvm hw2 hB hz1 hk1 hS => ?_)
    obtain ⟨hP1, hK1, hD1⟩ := hB
    rw [ht] at hP1
    have hK1 := va_K.moved hvm.symm hK1
    try dsimp only at hw2
    obtain ⟨hP, hD⟩ := va_join (wr := [(o, .inr (3, [.int sc, .ref b, .ref b2, .ref uq, .ref rq, .int 0, .int 0, .int 0, .int 0, .int aw, .int cg]))]) (w1 := [(uq, .inr (1, [.int 16, .int 0, .long 0, .long 0, .long 0, .int 0, .int 0, .int om, .int oc]))]) hP hD [1] [0] rfl rfl (by decide) (by decide) hk1 hFc hP1 hD1
    generalize H1 = H at hP hS hk1 ⊢
    have hP : va_P (dC, dI) vwCl [(o, .inr (3, [.int sc, .ref b, .ref b2, .ref uq, .ref rq, .int 0, .int 0, .int 0, .int 0, .int aw, .int cg])), (uq, .inr (1, [.int 16, .int 0, .long 0, .long 0, .long 0, .int 0, .int 0, .int om, .int oc]))] H := hP
    have hD : va_D A [(o, .inr (3, [.int sc, .ref b, .ref b2, .ref uq, .ref rq, .int 0, .int 0, .int 0, .int 0, .int aw, .int cg])), (uq, .inr (1, [.int 16, .int 0, .long 0, .long 0, .long 0, .int 0, .int 0, .int om, .int oc]))] := hD
    have hw_3 : True := hw2
    refine lv_goto (tgt := 51) hx hb dX3_changeState_31 (by decide) ?_
    have hP9 : va_P (dC, dI) vwCl [(o, .inr (3, [.int sc, .ref b, .ref b2, .ref uq, .ref rq, .int 0, .int 0, .int 0, .int 0, .int aw, .int cg])), (uq, .inr (1, [.int 16, .int 0, .long 0, .long 0, .long 0, .int 0, .int 0, .int om, .int oc]))] H := by exact hP.sub (ws' := [(o, .inr (3, [.int sc, .ref b, .ref b2, .ref uq, .ref rq, .int 0, .int 0, .int 0, .int 0, .int aw, .int cg])), (uq, .inr (1, [.int 16, .int 0, .long 0, .long 0, .long 0, .int 0, .int 0, .int om, .int oc]))]) [0, 1] rfl
    have hD9 : va_D A [(o, .inr (3, [.int sc, .ref b, .ref b2, .ref uq, .ref rq, .int 0, .int 0, .int 0, .int 0, .int aw, .int cg])), (uq, .inr (1, [.int 16, .int 0, .long 0, .long 0, .long 0, .int 0, .int 0, .int om, .int oc]))] := by exact hD.sub (ws' := [(o, .inr (3, [.int sc, .ref b, .ref b2, .ref uq, .ref rq, .int 0, .int 0, .int 0, .int 0, .int aw, .int cg])), (uq, .inr (1, [.int 16, .int 0, .long 0, .long 0, .long 0, .int 0, .int 0, .int om, .int oc]))]) [0, 1] (by decide) rfl
    have hK9 := hK.sub (tys' := []) [] rfl
    exact W.vret hx hb hr (fun t ht hW => ⟨⟨(0, 0, 0, 0, 16, 0, 0, 0, 0, 0, 0), rfl, ⟨fun _ => ⟨rfl, rfl, rfl, rfl, rfl, rfl, rfl, rfl, rfl, rfl, rfl⟩, fun z => absurd c_1 z⟩, by rw [ht]; exact hP9, va_K.moved hW.alike hK9, hD9⟩, hS.F ht⟩) hS.2.2 dX3_changeState_51
