set_option maxHeartbeats 4000000 in
set_option maxRecDepth 100000 in
/-- QueueDisk.refuseNoRegister -/
theorem d_refuseNoRegister (l : Launch) (dC : Nat → ClassId) (dI : Nat → Nat → Nat) (o : Nat) (sc : Int32) (b : Nat) (b2 : Nat) (uq : Nat) (rq : Nat) (fc : Int32) (qc : Int32) (cu : Int32) (sa : Int32) (aw : Int32) (cg : Int32) (x : Int32) (zS : Nat) (hst : l.stackTraces = false) : vx_Met l yX3_refuseNoRegister wsX3_refuseNoRegister ({ frames := 6, cells := 1, slots := 6, locals := 82 }) (va_Pc [.ref o, .int x] (fun U => U.heap.size = zS ∧ va_P (dC, dI) vwCl [(o, .inr (3, [.int sc, .ref b, .ref b2, .ref uq, .ref rq, .int fc, .int qc, .int cu, .int sa, .int aw, .int cg]))] U.heap ∧ va_K (dC, dI) vwCl [] U ∧ va_D (fun _ => True) [(o, .inr (3, [.int sc, .ref b, .ref b2, .ref uq, .ref rq, .int fc, .int qc, .int cu, .int sa, .int aw, .int cg]))] ∧ ZZ (va_A [(o, .inr (3, [.int sc, .ref b, .ref b2, .ref uq, .ref rq, .int fc, .int qc, .int cu, .int sa, .int aw, .int cg]))] zS) U U.heap)) (va_Qv (fun (_ : Unit) => ¬ noP x) (fun (_ : Unit) (t : State) => va_P (dC, dI) vwCl [(o, .inr (3, [.int sc, .ref b, .ref b2, .ref uq, .ref rq, .int fc, .int qc, .int cu, .int sa, .int aw, .int cg]))] t.heap ∧ va_K (dC, dI) vwCl [] t ∧ va_D (va_A [(o, .inr (3, [.int sc, .ref b, .ref b2, .ref uq, .ref rq, .int fc, .int qc, .int cu, .int sa, .int aw, .int cg]))] zS) [(o, .inr (3, [.int sc, .ref b, .ref b2, .ref uq, .ref rq, .int fc, .int qc, .int cu, .int sa, .int aw, .int cg]))]) (va_A [(o, .inr (3, [.int sc, .ref b, .ref b2, .ref uq, .ref rq, .int fc, .int qc, .int cu, .int sa, .int aw, .int cg]))] zS)) (vx_X (fun (_ : Unit) => True) (fun (E : String) (_ : Unit) (_ : State) => E = eB ∧ noP x) (fun _ => False)) 1 6 (va_A [(o, .inr (3, [.int sc, .ref b, .ref b2, .ref uq, .ref rq, .int fc, .int qc, .int cu, .int sa, .int aw, .int cg]))] zS) := by
  refine vx_ofW (cc := cX3_refuseNoRegister) (maxL := 2) (ret := (none)) (by decide) rfl ?_
  intro p e s m args below meth c s₁ B hml htab hv
  obtain ⟨rfl, hsz, hP, hK, hD0, hZ⟩ := hv
  have hx := B.exec
  have hb := B.bytes
  have hr := B.returns
  have hts := atoms_spec (ws := wsX3_refuseNoRegister) B.pre
  have hw : ∀ w ∈ WW, w.before _ s = true := fun w h => hts w (List.mem_cons_of_mem _ h)
  have hown : s.vm.findClass RX3 = some m.cls := findClass_of_methodNamed B.named
  have hlocks := B.notSynchronized
  subst hsz
  have hD := hD0.self (sz := s.heap.size)
  generalize hAe : va_A [(o, .inr (3, [.int sc, .ref b, .ref b2, .ref uq, .ref rq, .int fc, .int qc, .int cu, .int sa, .int aw, .int cg]))] s.heap.size = A at hD hZ ⊢
  have hA : ∀ q : Nat, s.heap.size ≤ q → A q := fun q h => by rw [← hAe]; exact Or.inr h
  have hS : va_S A s.heap s.heap [] := va_S.rf
  have hP : va_P (dC, dI) vwCl [(o, .inr (3, [.int sc, .ref b, .ref b2, .ref uq, .ref rq, .int fc, .int qc, .int cu, .int sa, .int aw, .int cg]))] s.heap := hP
  have hl := lv_entry ([.ref o, .int x]) (n := 2) (Nat.le_of_ble_eq_true rfl)
  rw [lg_entry_eq]
  generalize (lg_sl ([.ref o, .int x]) ++ List.replicate (2 - (lg_sl ([.ref o, .int x])).length) Slot.unset).toArray = ls at hl ⊢
  have hl : lv_has ls 2 [(0, .ref o), (1, .int x)] := hl
  refine lv_iload_n hx hb dX3_refuseNoRegister_0 rfl (lv_at hl 1 rfl) ?_
  refine lv_if_lt (tgt := 17) hx hb dX3_refuseNoRegister_1 (by decide) (fun c_1 => ?_) (fun c_1 => ?_)
  · skip
    obtain ⟨sa, hstr⟩ := hZ.2.2.2.1
    exact vx_throwS (names := eN) hx hb hst hown (by decide +kernel) (by decide +kernel) (hw _ w_97c97d339d) (hw _ w_09a086a1da) hstr (eB_at hw hZ.1) eB_ot hZ.2.2.2.2.2.1 hZ.2.2.2.2.2.2.1 hS (hl.1.trans hml.symm) dX3_refuseNoRegister_17 dX3_refuseNoRegister_20 dX3_refuseNoRegister_21 dX3_refuseNoRegister_23 dX3_refuseNoRegister_26 (fun x hx => (htab x hx).elim) (Nat.le_of_ble_eq_true rfl) (Nat.le_of_ble_eq_true rfl) (Nat.le_of_ble_eq_true rfl) (Nat.le_of_ble_eq_true rfl) hlocks (fun t _ hz hk => ⟨(), trivial, ⟨rfl, no_1 c_1⟩, hz, fun q hq _ => hk q hq⟩) hS.2.2 (Nat.le_of_ble_eq_true rfl) (Nat.le_of_ble_eq_true rfl)
  · skip
    refine lv_iload_n hx hb dX3_refuseNoRegister_4 rfl (lv_at hl 1 rfl) ?_
    refine lv_sipush (v := 508) hx hb dX3_refuseNoRegister_5 (by decide) ?_
    refine lv_icmp_gt (tgt := 17) hx hb dX3_refuseNoRegister_8 (by decide) (fun c_2 => ?_) (fun c_2 => ?_)
    · skip
      obtain ⟨sa, hstr⟩ := hZ.2.2.2.1
      exact vx_throwS (names := eN) hx hb hst hown (by decide +kernel) (by decide +kernel) (hw _ w_97c97d339d) (hw _ w_09a086a1da) hstr (eB_at hw hZ.1) eB_ot hZ.2.2.2.2.2.1 hZ.2.2.2.2.2.2.1 hS (hl.1.trans hml.symm) dX3_refuseNoRegister_17 dX3_refuseNoRegister_20 dX3_refuseNoRegister_21 dX3_refuseNoRegister_23 dX3_refuseNoRegister_26 (fun x hx => (htab x hx).elim) (Nat.le_of_ble_eq_true rfl) (Nat.le_of_ble_eq_true rfl) (Nat.le_of_ble_eq_true rfl) (Nat.le_of_ble_eq_true rfl) hlocks (fun t _ hz hk => ⟨(), trivial, ⟨rfl, no_2 c_2⟩, hz, fun q hq _ => hk q hq⟩) hS.2.2 (Nat.le_of_ble_eq_true rfl) (Nat.le_of_ble_eq_true rfl)
    · skip
      refine lv_iload_n hx hb dX3_refuseNoRegister_11 rfl (lv_at hl 1 rfl) ?_
      refine lv_iconst (v := 3) hx hb dX3_refuseNoRegister_12 (by decide) ?_
      refine lv_iand hx hb dX3_refuseNoRegister_13 ?_
      refine lv_if_eq (tgt := 27) hx hb dX3_refuseNoRegister_14 (by decide) (fun c_3 => ?_) (fun c_3 => ?_)
      · skip
        have hP9 : va_P (dC, dI) vwCl [(o, .inr (3, [.int sc, .ref b, .ref b2, .ref uq, .ref rq, .int fc, .int qc, .int cu, .int sa, .int aw, .int cg]))] s.heap := by exact hP.sub (ws' := [(o, .inr (3, [.int sc, .ref b, .ref b2, .ref uq, .ref rq, .int fc, .int qc, .int cu, .int sa, .int aw, .int cg]))]) [0] rfl
        have hD9 : va_D A [(o, .inr (3, [.int sc, .ref b, .ref b2, .ref uq, .ref rq, .int fc, .int qc, .int cu, .int sa, .int aw, .int cg]))] := by exact hD.sub (ws' := [(o, .inr (3, [.int sc, .ref b, .ref b2, .ref uq, .ref rq, .int fc, .int qc, .int cu, .int sa, .int aw, .int cg]))]) [0] (by decide) rfl
        have hK9 := hK.sub (tys' := []) [] rfl
        refine vx_ret ?_
        refine W.widen (k := 1) (n := 6) (by omega) (by omega) ?_
        exact W.vret hx hb hr (fun t ht hW => ⟨⟨(), rfl, (no_6 c_1 c_2 c_3), by rw [ht]; exact hP9, va_K.moved hW.alike hK9, hD9⟩, hS.F ht⟩) hS.2.2 dX3_refuseNoRegister_27
      · skip
        obtain ⟨sa, hstr⟩ := hZ.2.2.2.1
        exact vx_throwS (names := eN) hx hb hst hown (by decide +kernel) (by decide +kernel) (hw _ w_97c97d339d) (hw _ w_09a086a1da) hstr (eB_at hw hZ.1) eB_ot hZ.2.2.2.2.2.1 hZ.2.2.2.2.2.2.1 hS (hl.1.trans hml.symm) dX3_refuseNoRegister_17 dX3_refuseNoRegister_20 dX3_refuseNoRegister_21 dX3_refuseNoRegister_23 dX3_refuseNoRegister_26 (fun x hx => (htab x hx).elim) (Nat.le_of_ble_eq_true rfl) (Nat.le_of_ble_eq_true rfl) (Nat.le_of_ble_eq_true rfl) (Nat.le_of_ble_eq_true rfl) hlocks (fun t _ hz hk => ⟨(), trivial, ⟨rfl, no_5 c_1 c_2 c_3⟩, hz, fun q hq _ => hk q hq⟩) hS.2.2 (Nat.le_of_ble_eq_true rfl) (Nat.le_of_ble_eq_true rfl)
set_option maxHeartbeats 4000000 in
set_option maxRecDepth 100000 in
/-- QueueDisk.refuseOutsideMemory -/
theorem d_refuseOutsideMemory (l : Launch) (dC : Nat → ClassId) (dI : Nat → Nat → Nat) (o : Nat) (sc : Int32) (b : Nat) (b2 : Nat) (uq : Nat) (rq : Nat) (fc : Int32) (qc : Int32) (cu : Int32) (sa : Int32) (aw : Int32) (cg : Int32) (q : Nat) (cB_ : ClassId) (M : Nat → Nat) (a : Int64) (x : Int32) (zS : Nat) (hst : l.stackTraces = false) : vx_Met l yX3_refuseOutsideMemory wsX3_refuseOutsideMemory ({ frames := 6, cells := 1, slots := 6, locals := 82 }) (va_Pc [.ref o, .long a, .int x] (fun U => U.heap.size = zS ∧ va_P (dC, dI) vwCl [(o, .inr (3, [.int sc, .ref b, .ref b2, .ref uq, .ref rq, .int fc, .int qc, .int cu, .int sa, .int aw, .int cg])), (b, .inr (0, [.ref q])), (q, .inl (cB_, 65536, .inl (cB M)))] U.heap ∧ va_K (dC, dI) vwCl [(cB_, .byte)] U ∧ va_D (fun _ => True) [(o, .inr (3, [.int sc, .ref b, .ref b2, .ref uq, .ref rq, .int fc, .int qc, .int cu, .int sa, .int aw, .int cg])), (b, .inr (0, [.ref q])), (q, .inl (cB_, 65536, .inl (cB M)))] ∧ ZZ (va_A [(o, .inr (3, [.int sc, .ref b, .ref b2, .ref uq, .ref rq, .int fc, .int qc, .int cu, .int sa, .int aw, .int cg])), (b, .inr (0, [.ref q])), (q, .inl (cB_, 65536, .inl (cB M)))] zS) U U.heap)) (va_Qv (fun (_ : Unit) => ldc a x = 0) (fun (_ : Unit) (t : State) => va_P (dC, dI) vwCl [(o, .inr (3, [.int sc, .ref b, .ref b2, .ref uq, .ref rq, .int fc, .int qc, .int cu, .int sa, .int aw, .int cg])), (b, .inr (0, [.ref q])), (q, .inl (cB_, 65536, .inl (cB M)))] t.heap ∧ va_K (dC, dI) vwCl [(cB_, .byte)] t ∧ va_D (va_A [(o, .inr (3, [.int sc, .ref b, .ref b2, .ref uq, .ref rq, .int fc, .int qc, .int cu, .int sa, .int aw, .int cg])), (b, .inr (0, [.ref q])), (q, .inl (cB_, 65536, .inl (cB M)))] zS) [(o, .inr (3, [.int sc, .ref b, .ref b2, .ref uq, .ref rq, .int fc, .int qc, .int cu, .int sa, .int aw, .int cg])), (b, .inr (0, [.ref q])), (q, .inl (cB_, 65536, .inl (cB M)))]) (va_A [(o, .inr (3, [.int sc, .ref b, .ref b2, .ref uq, .ref rq, .int fc, .int qc, .int cu, .int sa, .int aw, .int cg])), (b, .inr (0, [.ref q])), (q, .inl (cB_, 65536, .inl (cB M)))] zS)) (vx_X (fun (_ : Unit) => True) (fun (E : String) (_ : Unit) (_ : State) => (E = eA ∧ ldc a x = 1) ∨ (E = eB ∧ ldc a x = 2)) (fun _ => False)) 1 6 (va_A [(o, .inr (3, [.int sc, .ref b, .ref b2, .ref uq, .ref rq, .int fc, .int qc, .int cu, .int sa, .int aw, .int cg])), (b, .inr (0, [.ref q])), (q, .inl (cB_, 65536, .inl (cB M)))] zS) := by
  refine vx_ofW (cc := cX3_refuseOutsideMemory) (maxL := 4) (ret := (none)) (by decide) rfl ?_
  intro p e s m args below meth c s₁ B hml htab hv
  obtain ⟨rfl, hsz, hP, hK, hD0, hZ⟩ := hv
  have hx := B.exec
  have hb := B.bytes
  have hr := B.returns
  have hts := atoms_spec (ws := wsX3_refuseOutsideMemory) B.pre
  have hw : ∀ w ∈ WW, w.before _ s = true := fun w h => hts w (List.mem_cons_of_mem _ h)
  have hown : s.vm.findClass RX3 = some m.cls := findClass_of_methodNamed B.named
  have hlocks := B.notSynchronized
  subst hsz
  have hD := hD0.self (sz := s.heap.size)
  generalize hAe : va_A [(o, .inr (3, [.int sc, .ref b, .ref b2, .ref uq, .ref rq, .int fc, .int qc, .int cu, .int sa, .int aw, .int cg])), (b, .inr (0, [.ref q])), (q, .inl (cB_, 65536, .inl (cB M)))] s.heap.size = A at hD hZ ⊢
  have hA : ∀ q : Nat, s.heap.size ≤ q → A q := fun q h => by rw [← hAe]; exact Or.inr h
  have hS : va_S A s.heap s.heap [] := va_S.rf
  have hP : va_P (dC, dI) vwCl [(o, .inr (3, [.int sc, .ref b, .ref b2, .ref uq, .ref rq, .int fc, .int qc, .int cu, .int sa, .int aw, .int cg])), (b, .inr (0, [.ref q])), (q, .inl (cB_, 65536, .inl (cB M)))] s.heap := hP
  have hl := lv_entry ([.ref o, .long a, .int x]) (n := 4) (Nat.le_of_ble_eq_true rfl)
  rw [lg_entry_eq]
  generalize (lg_sl ([.ref o, .long a, .int x]) ++ List.replicate (4 - (lg_sl ([.ref o, .long a, .int x])).length) Slot.unset).toArray = ls at hl ⊢
  have hl : lv_has ls 4 [(0, .ref o), (1, .long a), (3, .int x)] := hl
  refine lv_iload_n hx hb dX3_refuseOutsideMemory_0 rfl (lv_at hl 2 rfl) ?_
  refine lv_iconst (v := 1) hx hb dX3_refuseOutsideMemory_1 (by decide) ?_
  refine lv_icmp_eq (tgt := 31) hx hb dX3_refuseOutsideMemory_2 (by decide) (fun c_1 => ?_) (fun c_1 => ?_)
  · skip
    have hsz : szP x := by first | exact Or.inl c_1 | exact Or.inr (Or.inl c_1) | exact Or.inr (Or.inr (Or.inl c_1)) | exact Or.inr (Or.inr (Or.inr c_1))
    have hpo : 0 < x.toInt64.toInt := szP_pos hsz
    refine lv_aload_n hx hb dX3_refuseOutsideMemory_31 rfl (lv_at hl 0 rfl) ?_
    refine va_get (D := (dC, dI)) (ci := 3) (v := .ref b) (C := RX3) (T := TX3) (N := 11) hx hb hw inX3 hown hK hP 0 rfl rfl 1 (by decide) (hw _ w_a82c1ee35f) (fun _ h9 => h9) rfl dX3_refuseOutsideMemory_32 ?_
    refine lv_lload_n hx hb dX3_refuseOutsideMemory_35 rfl (lv_at hl 1 rfl) ?_
    refine lv_ldc2 (v := 2147483648) hx hb hown (hw _ w_a0d67afbf5) dX3_refuseOutsideMemory_36 ?_
    refine lv_lsub hx hb dX3_refuseOutsideMemory_39 ?_
    refine lv_iload_n hx hb dX3_refuseOutsideMemory_40 rfl (lv_at hl 2 rfl) ?_
    refine lv_i2l (v := x.toInt64) hx hb dX3_refuseOutsideMemory_41 rfl ?_
    have hPc := hP.sub (ws' := [(b, .inr (0, [.ref q])), (q, .inl (cB_, 65536, .inl (cB M)))]) [1, 2] rfl
    have hKc := hK.sub (tys' := [(cB_, .byte)]) [0] rfl
    have hZc := (hZ.kept hS.2.1).narrow (B := fun _ => False) (fun _ h => h.elim)
    refine vp_callSi (va_runV (As := [.long (a - 2147483648), .long x.toInt64]) (rest := []) ⟨hx, hb, hml, hown, hw⟩ (c_holds l dC dI b q cB_ 65536 (cB M) (a - 2147483648) x.toInt64 (by decide)) (cwV 2 hw (gV w_18563c33ac w_bd9bccf83c w_88968f97c9 w_82b0ef516c w_0dba9a2727) rfl rfl rfl (by decide +kernel) ⟨Nat.le_of_ble_eq_true rfl, Nat.le_of_ble_eq_true rfl⟩) ⟨fun a U g mk q => by obtain ⟨q0, qP, qK, qZ⟩ := q; exact ⟨q0, qP, va_K.moved (u := U) (U := U.calling g mk a) (Vm.Alike.refl U.vm) qK, ZZ.same (u := U) (U := U.calling g mk a) rfl qZ⟩, va_recv hKc hPc (ci := 0) (q0 := 0) rfl rfl, fun U hU hW => ⟨rfl, by rw [hU]; exact hPc, va_K.moved hW.alike hKc, by rw [hU]; exact ZZ.warm hW hZc⟩⟩ rfl rfl hl.1 rfl (lv_room (Nat.le_of_ble_eq_true rfl)) dX3_refuseOutsideMemory_42 ⟨Nat.zero_le _, Nat.zero_le _⟩).run (fun r_2 hr_2 => ?_)
    have hr_2 : r_2 = bI (hoP 65536 (a - 2147483648) x.toInt64) := hr_2
    refine lv_if_ne (tgt := 58) hx hb dX3_refuseOutsideMemory_45 (by decide) (fun c_3 => ?_) (fun c_3 => ?_)
    · skip
      have b_4 : (hoP 65536 (a - 2147483648) x.toInt64) := bI_1 (by rw [← hr_2]; exact c_3)
      have hP9 : va_P (dC, dI) vwCl [(o, .inr (3, [.int sc, .ref b, .ref b2, .ref uq, .ref rq, .int fc, .int qc, .int cu, .int sa, .int aw, .int cg])), (b, .inr (0, [.ref q])), (q, .inl (cB_, 65536, .inl (cB M)))] s.heap := by exact hP.sub (ws' := [(o, .inr (3, [.int sc, .ref b, .ref b2, .ref uq, .ref rq, .int fc, .int qc, .int cu, .int sa, .int aw, .int cg])), (b, .inr (0, [.ref q])), (q, .inl (cB_, 65536, .inl (cB M)))]) [0, 1, 2] rfl
      have hD9 : va_D A [(o, .inr (3, [.int sc, .ref b, .ref b2, .ref uq, .ref rq, .int fc, .int qc, .int cu, .int sa, .int aw, .int cg])), (b, .inr (0, [.ref q])), (q, .inl (cB_, 65536, .inl (cB M)))] := by exact hD.sub (ws' := [(o, .inr (3, [.int sc, .ref b, .ref b2, .ref uq, .ref rq, .int fc, .int qc, .int cu, .int sa, .int aw, .int cg])), (b, .inr (0, [.ref q])), (q, .inl (cB_, 65536, .inl (cB M)))]) [0, 1, 2] (by decide) rfl
      have hK9 := hK.sub (tys' := [(cB_, .byte)]) [0] rfl
      refine vx_ret ?_
      refine W.widen (k := 1) (n := 6) (by omega) (by omega) ?_
      exact W.vret hx hb hr (fun t ht hW => ⟨⟨(), rfl, (ldc_0 hsz ((ho_th2 hpo).mp b_4)), by rw [ht]; exact hP9, va_K.moved hW.alike hK9, hD9⟩, hS.F ht⟩) hS.2.2 dX3_refuseOutsideMemory_58
    · skip
      have b_5 : ¬ (hoP 65536 (a - 2147483648) x.toInt64) := bI_0 (by rw [← hr_2]; exact c_3)
      obtain ⟨sa, hstr⟩ := hZ.2.2.1
      exact vx_throwS (names := eN) hx hb hst hown (by decide +kernel) (by decide +kernel) (hw _ w_97c97d339d) (hw _ w_09a086a1da) hstr (eB_at hw hZ.1) eB_ot hZ.2.2.2.2.2.1 hZ.2.2.2.2.2.2.1 hS (hl.1.trans hml.symm) dX3_refuseOutsideMemory_48 dX3_refuseOutsideMemory_51 dX3_refuseOutsideMemory_52 dX3_refuseOutsideMemory_54 dX3_refuseOutsideMemory_57 (fun x hx => (htab x hx).elim) (Nat.le_of_ble_eq_true rfl) (Nat.le_of_ble_eq_true rfl) (Nat.le_of_ble_eq_true rfl) (Nat.le_of_ble_eq_true rfl) hlocks (fun t _ hz hk => ⟨(), trivial, Or.inr ⟨rfl, ldc_2 hsz (fun z => b_5 ((ho_th2 hpo).mpr z))⟩, hz, fun q hq _ => hk q hq⟩) hS.2.2 (Nat.le_of_ble_eq_true rfl) (Nat.le_of_ble_eq_true rfl)
  · skip
    refine lv_iload_n hx hb dX3_refuseOutsideMemory_5 rfl (lv_at hl 2 rfl) ?_
    refine lv_iconst (v := 2) hx hb dX3_refuseOutsideMemory_6 (by decide) ?_
    refine lv_icmp_eq (tgt := 31) hx hb dX3_refuseOutsideMemory_7 (by decide) (fun c_6 => ?_) (fun c_6 => ?_)
    · skip
      have hsz : szP x := by first | exact Or.inl c_6 | exact Or.inr (Or.inl c_6) | exact Or.inr (Or.inr (Or.inl c_6)) | exact Or.inr (Or.inr (Or.inr c_6))
      have hpo : 0 < x.toInt64.toInt := szP_pos hsz
      refine lv_aload_n hx hb dX3_refuseOutsideMemory_31 rfl (lv_at hl 0 rfl) ?_
      refine va_get (D := (dC, dI)) (ci := 3) (v := .ref b) (C := RX3) (T := TX3) (N := 11) hx hb hw inX3 hown hK hP 0 rfl rfl 1 (by decide) (hw _ w_a82c1ee35f) (fun _ h9 => h9) rfl dX3_refuseOutsideMemory_32 ?_
      refine lv_lload_n hx hb dX3_refuseOutsideMemory_35 rfl (lv_at hl 1 rfl) ?_
      refine lv_ldc2 (v := 2147483648) hx hb hown (hw _ w_a0d67afbf5) dX3_refuseOutsideMemory_36 ?_
      refine lv_lsub hx hb dX3_refuseOutsideMemory_39 ?_
      refine lv_iload_n hx hb dX3_refuseOutsideMemory_40 rfl (lv_at hl 2 rfl) ?_
      refine lv_i2l (v := x.toInt64) hx hb dX3_refuseOutsideMemory_41 rfl ?_
      have hPc := hP.sub (ws' := [(b, .inr (0, [.ref q])), (q, .inl (cB_, 65536, .inl (cB M)))]) [1, 2] rfl
      have hKc := hK.sub (tys' := [(cB_, .byte)]) [0] rfl
      have hZc := (hZ.kept hS.2.1).narrow (B := fun _ => False) (fun _ h => h.elim)
      refine vp_callSi (va_runV (As := [.long (a - 2147483648), .long x.toInt64]) (rest := []) ⟨hx, hb, hml, hown, hw⟩ (c_holds l dC dI b q cB_ 65536 (cB M) (a - 2147483648) x.toInt64 (by decide)) (cwV 2 hw (gV w_18563c33ac w_bd9bccf83c w_88968f97c9 w_82b0ef516c w_0dba9a2727) rfl rfl rfl (by decide +kernel) ⟨Nat.le_of_ble_eq_true rfl, Nat.le_of_ble_eq_true rfl⟩) ⟨fun a U g mk q => by obtain ⟨q0, qP, qK, qZ⟩ := q; exact ⟨q0, qP, va_K.moved (u := U) (U := U.calling g mk a) (Vm.Alike.refl U.vm) qK, ZZ.same (u := U) (U := U.calling g mk a) rfl qZ⟩, va_recv hKc hPc (ci := 0) (q0 := 0) rfl rfl, fun U hU hW => ⟨rfl, by rw [hU]; exact hPc, va_K.moved hW.alike hKc, by rw [hU]; exact ZZ.warm hW hZc⟩⟩ rfl rfl hl.1 rfl (lv_room (Nat.le_of_ble_eq_true rfl)) dX3_refuseOutsideMemory_42 ⟨Nat.zero_le _, Nat.zero_le _⟩).run (fun r_7 hr_7 => ?_)
      have hr_7 : r_7 = bI (hoP 65536 (a - 2147483648) x.toInt64) := hr_7
      refine lv_if_ne (tgt := 58) hx hb dX3_refuseOutsideMemory_45 (by decide) (fun c_8 => ?_) (fun c_8 => ?_)
      · skip
        have b_9 : (hoP 65536 (a - 2147483648) x.toInt64) := bI_1 (by rw [← hr_7]; exact c_8)
        have hP9 : va_P (dC, dI) vwCl [(o, .inr (3, [.int sc, .ref b, .ref b2, .ref uq, .ref rq, .int fc, .int qc, .int cu, .int sa, .int aw, .int cg])), (b, .inr (0, [.ref q])), (q, .inl (cB_, 65536, .inl (cB M)))] s.heap := by exact hP.sub (ws' := [(o, .inr (3, [.int sc, .ref b, .ref b2, .ref uq, .ref rq, .int fc, .int qc, .int cu, .int sa, .int aw, .int cg])), (b, .inr (0, [.ref q])), (q, .inl (cB_, 65536, .inl (cB M)))]) [0, 1, 2] rfl
        have hD9 : va_D A [(o, .inr (3, [.int sc, .ref b, .ref b2, .ref uq, .ref rq, .int fc, .int qc, .int cu, .int sa, .int aw, .int cg])), (b, .inr (0, [.ref q])), (q, .inl (cB_, 65536, .inl (cB M)))] := by exact hD.sub (ws' := [(o, .inr (3, [.int sc, .ref b, .ref b2, .ref uq, .ref rq, .int fc, .int qc, .int cu, .int sa, .int aw, .int cg])), (b, .inr (0, [.ref q])), (q, .inl (cB_, 65536, .inl (cB M)))]) [0, 1, 2] (by decide) rfl
        have hK9 := hK.sub (tys' := [(cB_, .byte)]) [0] rfl
        refine vx_ret ?_
        refine W.widen (k := 1) (n := 6) (by omega) (by omega) ?_
        exact W.vret hx hb hr (fun t ht hW => ⟨⟨(), rfl, (ldc_0 hsz ((ho_th2 hpo).mp b_9)), by rw [ht]; exact hP9, va_K.moved hW.alike hK9, hD9⟩, hS.F ht⟩) hS.2.2 dX3_refuseOutsideMemory_58
      · skip
        have b_10 : ¬ (hoP 65536 (a - 2147483648) x.toInt64) := bI_0 (by rw [← hr_7]; exact c_8)
        obtain ⟨sa, hstr⟩ := hZ.2.2.1
        exact vx_throwS (names := eN) hx hb hst hown (by decide +kernel) (by decide +kernel) (hw _ w_97c97d339d) (hw _ w_09a086a1da) hstr (eB_at hw hZ.1) eB_ot hZ.2.2.2.2.2.1 hZ.2.2.2.2.2.2.1 hS (hl.1.trans hml.symm) dX3_refuseOutsideMemory_48 dX3_refuseOutsideMemory_51 dX3_refuseOutsideMemory_52 dX3_refuseOutsideMemory_54 dX3_refuseOutsideMemory_57 (fun x hx => (htab x hx).elim) (Nat.le_of_ble_eq_true rfl) (Nat.le_of_ble_eq_true rfl) (Nat.le_of_ble_eq_true rfl) (Nat.le_of_ble_eq_true rfl) hlocks (fun t _ hz hk => ⟨(), trivial, Or.inr ⟨rfl, ldc_2 hsz (fun z => b_10 ((ho_th2 hpo).mpr z))⟩, hz, fun q hq _ => hk q hq⟩) hS.2.2 (Nat.le_of_ble_eq_true rfl) (Nat.le_of_ble_eq_true rfl)
    · skip
      refine lv_iload_n hx hb dX3_refuseOutsideMemory_10 rfl (lv_at hl 2 rfl) ?_
      refine lv_iconst (v := 4) hx hb dX3_refuseOutsideMemory_11 (by decide) ?_
      refine lv_icmp_eq (tgt := 31) hx hb dX3_refuseOutsideMemory_12 (by decide) (fun c_11 => ?_) (fun c_11 => ?_)
      · skip
        have hsz : szP x := by first | exact Or.inl c_11 | exact Or.inr (Or.inl c_11) | exact Or.inr (Or.inr (Or.inl c_11)) | exact Or.inr (Or.inr (Or.inr c_11))
        have hpo : 0 < x.toInt64.toInt := szP_pos hsz
        refine lv_aload_n hx hb dX3_refuseOutsideMemory_31 rfl (lv_at hl 0 rfl) ?_
        refine va_get (D := (dC, dI)) (ci := 3) (v := .ref b) (C := RX3) (T := TX3) (N := 11) hx hb hw inX3 hown hK hP 0 rfl rfl 1 (by decide) (hw _ w_a82c1ee35f) (fun _ h9 => h9) rfl dX3_refuseOutsideMemory_32 ?_
        refine lv_lload_n hx hb dX3_refuseOutsideMemory_35 rfl (lv_at hl 1 rfl) ?_
        refine lv_ldc2 (v := 2147483648) hx hb hown (hw _ w_a0d67afbf5) dX3_refuseOutsideMemory_36 ?_
        refine lv_lsub hx hb dX3_refuseOutsideMemory_39 ?_
        refine lv_iload_n hx hb dX3_refuseOutsideMemory_40 rfl (lv_at hl 2 rfl) ?_
        refine lv_i2l (v := x.toInt64) hx hb dX3_refuseOutsideMemory_41 rfl ?_
        have hPc := hP.sub (ws' := [(b, .inr (0, [.ref q])), (q, .inl (cB_, 65536, .inl (cB M)))]) [1, 2] rfl
        have hKc := hK.sub (tys' := [(cB_, .byte)]) [0] rfl
        have hZc := (hZ.kept hS.2.1).narrow (B := fun _ => False) (fun _ h => h.elim)
        refine vp_callSi (va_runV (As := [.long (a - 2147483648), .long x.toInt64]) (rest := []) ⟨hx, hb, hml, hown, hw⟩ (c_holds l dC dI b q cB_ 65536 (cB M) (a - 2147483648) x.toInt64 (by decide)) (cwV 2 hw (gV w_18563c33ac w_bd9bccf83c w_88968f97c9 w_82b0ef516c w_0dba9a2727) rfl rfl rfl (by decide +kernel) ⟨Nat.le_of_ble_eq_true rfl, Nat.le_of_ble_eq_true rfl⟩) ⟨fun a U g mk q => by obtain ⟨q0, qP, qK, qZ⟩ := q; exact ⟨q0, qP, va_K.moved (u := U) (U := U.calling g mk a) (Vm.Alike.refl U.vm) qK, ZZ.same (u := U) (U := U.calling g mk a) rfl qZ⟩, va_recv hKc hPc (ci := 0) (q0 := 0) rfl rfl, fun U hU hW => ⟨rfl, by rw [hU]; exact hPc, va_K.moved hW.alike hKc, by rw [hU]; exact ZZ.warm hW hZc⟩⟩ rfl rfl hl.1 rfl (lv_room (Nat.le_of_ble_eq_true rfl)) dX3_refuseOutsideMemory_42 ⟨Nat.zero_le _, Nat.zero_le _⟩).run (fun r_12 hr_12 => ?_)
        have hr_12 : r_12 = bI (hoP 65536 (a - 2147483648) x.toInt64) := hr_12
        refine lv_if_ne (tgt := 58) hx hb dX3_refuseOutsideMemory_45 (by decide) (fun c_13 => ?_) (fun c_13 => ?_)
        · skip
          have b_14 : (hoP 65536 (a - 2147483648) x.toInt64) := bI_1 (by rw [← hr_12]; exact c_13)
          have hP9 : va_P (dC, dI) vwCl [(o, .inr (3, [.int sc, .ref b, .ref b2, .ref uq, .ref rq, .int fc, .int qc, .int cu, .int sa, .int aw, .int cg])), (b, .inr (0, [.ref q])), (q, .inl (cB_, 65536, .inl (cB M)))] s.heap := by exact hP.sub (ws' := [(o, .inr (3, [.int sc, .ref b, .ref b2, .ref uq, .ref rq, .int fc, .int qc, .int cu, .int sa, .int aw, .int cg])), (b, .inr (0, [.ref q])), (q, .inl (cB_, 65536, .inl (cB M)))]) [0, 1, 2] rfl
          have hD9 : va_D A [(o, .inr (3, [.int sc, .ref b, .ref b2, .ref uq, .ref rq, .int fc, .int qc, .int cu, .int sa, .int aw, .int cg])), (b, .inr (0, [.ref q])), (q, .inl (cB_, 65536, .inl (cB M)))] := by exact hD.sub (ws' := [(o, .inr (3, [.int sc, .ref b, .ref b2, .ref uq, .ref rq, .int fc, .int qc, .int cu, .int sa, .int aw, .int cg])), (b, .inr (0, [.ref q])), (q, .inl (cB_, 65536, .inl (cB M)))]) [0, 1, 2] (by decide) rfl
          have hK9 := hK.sub (tys' := [(cB_, .byte)]) [0] rfl
          refine vx_ret ?_
          refine W.widen (k := 1) (n := 6) (by omega) (by omega) ?_
          exact W.vret hx hb hr (fun t ht hW => ⟨⟨(), rfl, (ldc_0 hsz ((ho_th2 hpo).mp b_14)), by rw [ht]; exact hP9, va_K.moved hW.alike hK9, hD9⟩, hS.F ht⟩) hS.2.2 dX3_refuseOutsideMemory_58
        · skip
          have b_15 : ¬ (hoP 65536 (a - 2147483648) x.toInt64) := bI_0 (by rw [← hr_12]; exact c_13)
          obtain ⟨sa, hstr⟩ := hZ.2.2.1
          exact vx_throwS (names := eN) hx hb hst hown (by decide +kernel) (by decide +kernel) (hw _ w_97c97d339d) (hw _ w_09a086a1da) hstr (eB_at hw hZ.1) eB_ot hZ.2.2.2.2.2.1 hZ.2.2.2.2.2.2.1 hS (hl.1.trans hml.symm) dX3_refuseOutsideMemory_48 dX3_refuseOutsideMemory_51 dX3_refuseOutsideMemory_52 dX3_refuseOutsideMemory_54 dX3_refuseOutsideMemory_57 (fun x hx => (htab x hx).elim) (Nat.le_of_ble_eq_true rfl) (Nat.le_of_ble_eq_true rfl) (Nat.le_of_ble_eq_true rfl) (Nat.le_of_ble_eq_true rfl) hlocks (fun t _ hz hk => ⟨(), trivial, Or.inr ⟨rfl, ldc_2 hsz (fun z => b_15 ((ho_th2 hpo).mpr z))⟩, hz, fun q hq _ => hk q hq⟩) hS.2.2 (Nat.le_of_ble_eq_true rfl) (Nat.le_of_ble_eq_true rfl)
      · skip
        refine lv_iload_n hx hb dX3_refuseOutsideMemory_15 rfl (lv_at hl 2 rfl) ?_
        refine lv_bipush (v := 8) hx hb dX3_refuseOutsideMemory_16 (by decide) ?_
        refine lv_icmp_eq (tgt := 31) hx hb dX3_refuseOutsideMemory_18 (by decide) (fun c_16 => ?_) (fun c_16 => ?_)
        · skip
          have hsz : szP x := by first | exact Or.inl c_16 | exact Or.inr (Or.inl c_16) | exact Or.inr (Or.inr (Or.inl c_16)) | exact Or.inr (Or.inr (Or.inr c_16))
          have hpo : 0 < x.toInt64.toInt := szP_pos hsz
          refine lv_aload_n hx hb dX3_refuseOutsideMemory_31 rfl (lv_at hl 0 rfl) ?_
          refine va_get (D := (dC, dI)) (ci := 3) (v := .ref b) (C := RX3) (T := TX3) (N := 11) hx hb hw inX3 hown hK hP 0 rfl rfl 1 (by decide) (hw _ w_a82c1ee35f) (fun _ h9 => h9) rfl dX3_refuseOutsideMemory_32 ?_
          refine lv_lload_n hx hb dX3_refuseOutsideMemory_35 rfl (lv_at hl 1 rfl) ?_
          refine lv_ldc2 (v := 2147483648) hx hb hown (hw _ w_a0d67afbf5) dX3_refuseOutsideMemory_36 ?_
          refine lv_lsub hx hb dX3_refuseOutsideMemory_39 ?_
          refine lv_iload_n hx hb dX3_refuseOutsideMemory_40 rfl (lv_at hl 2 rfl) ?_
          refine lv_i2l (v := x.toInt64) hx hb dX3_refuseOutsideMemory_41 rfl ?_
          have hPc := hP.sub (ws' := [(b, .inr (0, [.ref q])), (q, .inl (cB_, 65536, .inl (cB M)))]) [1, 2] rfl
          have hKc := hK.sub (tys' := [(cB_, .byte)]) [0] rfl
          have hZc := (hZ.kept hS.2.1).narrow (B := fun _ => False) (fun _ h => h.elim)
          refine vp_callSi (va_runV (As := [.long (a - 2147483648), .long x.toInt64]) (rest := []) ⟨hx, hb, hml, hown, hw⟩ (c_holds l dC dI b q cB_ 65536 (cB M) (a - 2147483648) x.toInt64 (by decide)) (cwV 2 hw (gV w_18563c33ac w_bd9bccf83c w_88968f97c9 w_82b0ef516c w_0dba9a2727) rfl rfl rfl (by decide +kernel) ⟨Nat.le_of_ble_eq_true rfl, Nat.le_of_ble_eq_true rfl⟩) ⟨fun a U g mk q => by obtain ⟨q0, qP, qK, qZ⟩ := q; exact ⟨q0, qP, va_K.moved (u := U) (U := U.calling g mk a) (Vm.Alike.refl U.vm) qK, ZZ.same (u := U) (U := U.calling g mk a) rfl qZ⟩, va_recv hKc hPc (ci := 0) (q0 := 0) rfl rfl, fun U hU hW => ⟨rfl, by rw [hU]; exact hPc, va_K.moved hW.alike hKc, by rw [hU]; exact ZZ.warm hW hZc⟩⟩ rfl rfl hl.1 rfl (lv_room (Nat.le_of_ble_eq_true rfl)) dX3_refuseOutsideMemory_42 ⟨Nat.zero_le _, Nat.zero_le _⟩).run (fun r_17 hr_17 => ?_)
          have hr_17 : r_17 = bI (hoP 65536 (a - 2147483648) x.toInt64) := hr_17
          refine lv_if_ne (tgt := 58) hx hb dX3_refuseOutsideMemory_45 (by decide) (fun c_18 => ?_) (fun c_18 => ?_)
          · skip
            have b_19 : (hoP 65536 (a - 2147483648) x.toInt64) := bI_1 (by rw [← hr_17]; exact c_18)
            have hP9 : va_P (dC, dI) vwCl [(o, .inr (3, [.int sc, .ref b, .ref b2, .ref uq, .ref rq, .int fc, .int qc, .int cu, .int sa, .int aw, .int cg])), (b, .inr (0, [.ref q])), (q, .inl (cB_, 65536, .inl (cB M)))] s.heap := by exact hP.sub (ws' := [(o, .inr (3, [.int sc, .ref b, .ref b2, .ref uq, .ref rq, .int fc, .int qc, .int cu, .int sa, .int aw, .int cg])), (b, .inr (0, [.ref q])), (q, .inl (cB_, 65536, .inl (cB M)))]) [0, 1, 2] rfl
            have hD9 : va_D A [(o, .inr (3, [.int sc, .ref b, .ref b2, .ref uq, .ref rq, .int fc, .int qc, .int cu, .int sa, .int aw, .int cg])), (b, .inr (0, [.ref q])), (q, .inl (cB_, 65536, .inl (cB M)))] := by exact hD.sub (ws' := [(o, .inr (3, [.int sc, .ref b, .ref b2, .ref uq, .ref rq, .int fc, .int qc, .int cu, .int sa, .int aw, .int cg])), (b, .inr (0, [.ref q])), (q, .inl (cB_, 65536, .inl (cB M)))]) [0, 1, 2] (by decide) rfl
            have hK9 := hK.sub (tys' := [(cB_, .byte)]) [0] rfl
            refine vx_ret ?_
            refine W.widen (k := 1) (n := 6) (by omega) (by omega) ?_
            exact W.vret hx hb hr (fun t ht hW => ⟨⟨(), rfl, (ldc_0 hsz ((ho_th2 hpo).mp b_19)), by rw [ht]; exact hP9, va_K.moved hW.alike hK9, hD9⟩, hS.F ht⟩) hS.2.2 dX3_refuseOutsideMemory_58
          · skip
            have b_20 : ¬ (hoP 65536 (a - 2147483648) x.toInt64) := bI_0 (by rw [← hr_17]; exact c_18)
            obtain ⟨sa, hstr⟩ := hZ.2.2.1
            exact vx_throwS (names := eN) hx hb hst hown (by decide +kernel) (by decide +kernel) (hw _ w_97c97d339d) (hw _ w_09a086a1da) hstr (eB_at hw hZ.1) eB_ot hZ.2.2.2.2.2.1 hZ.2.2.2.2.2.2.1 hS (hl.1.trans hml.symm) dX3_refuseOutsideMemory_48 dX3_refuseOutsideMemory_51 dX3_refuseOutsideMemory_52 dX3_refuseOutsideMemory_54 dX3_refuseOutsideMemory_57 (fun x hx => (htab x hx).elim) (Nat.le_of_ble_eq_true rfl) (Nat.le_of_ble_eq_true rfl) (Nat.le_of_ble_eq_true rfl) (Nat.le_of_ble_eq_true rfl) hlocks (fun t _ hz hk => ⟨(), trivial, Or.inr ⟨rfl, ldc_2 hsz (fun z => b_20 ((ho_th2 hpo).mpr z))⟩, hz, fun q hq _ => hk q hq⟩) hS.2.2 (Nat.le_of_ble_eq_true rfl) (Nat.le_of_ble_eq_true rfl)
        · skip
          obtain ⟨sa, hstr⟩ := hZ.2.1
          exact vx_throwS (names := eN) hx hb hst hown (by decide +kernel) (by decide +kernel) (hw _ w_6d848071f2) (hw _ w_6e2069b840) hstr (eA_at hw hZ.1) eA_ot hZ.2.2.2.2.2.1 hZ.2.2.2.2.2.2.1 hS (hl.1.trans hml.symm) dX3_refuseOutsideMemory_21 dX3_refuseOutsideMemory_24 dX3_refuseOutsideMemory_25 dX3_refuseOutsideMemory_27 dX3_refuseOutsideMemory_30 (fun x hx => (htab x hx).elim) (Nat.le_of_ble_eq_true rfl) (Nat.le_of_ble_eq_true rfl) (Nat.le_of_ble_eq_true rfl) (Nat.le_of_ble_eq_true rfl) hlocks (fun t _ hz hk => ⟨(), trivial, Or.inl ⟨rfl, if_neg (fun z => z.elim c_1 (fun z => z.elim c_6 (fun z => z.elim c_11 c_16)))⟩, hz, fun q hq _ => hk q hq⟩) hS.2.2 (Nat.le_of_ble_eq_true rfl) (Nat.le_of_ble_eq_true rfl)
set_option maxHeartbeats 4000000 in
set_option maxRecDepth 100000 in
/-- QueueDisk.refuseOutsideDisk -/
theorem d_refuseOutsideDisk (l : Launch) (dC : Nat → ClassId) (dI : Nat → Nat → Nat) (o : Nat) (sc : Int32) (b : Nat) (b2 : Nat) (uq : Nat) (rq : Nat) (fc : Int32) (qc : Int32) (cu : Int32) (sa : Int32) (aw : Int32) (cg : Int32) (q2 : Nat) (cB2 : ClassId) (nn : Nat) (Dk : Nat → Nat) (x : Int32) (zS : Nat) (hst : l.stackTraces = false) (hnn : nn ≤ 2048) : vx_Met l yX3_refuseOutsideDisk wsX3_refuseOutsideDisk ({ frames := 6, cells := 1, slots := 6, locals := 82 }) (va_Pc [.ref o, .int x] (fun U => U.heap.size = zS ∧ va_P (dC, dI) vwCl [(o, .inr (3, [.int sc, .ref b, .ref b2, .ref uq, .ref rq, .int fc, .int qc, .int cu, .int sa, .int aw, .int cg])), (b2, .inr (0, [.ref q2])), (q2, .inl (cB2, 512 * nn, .inl (cB Dk)))] U.heap ∧ va_K (dC, dI) vwCl [(cB2, .byte)] U ∧ va_D (fun _ => True) [(o, .inr (3, [.int sc, .ref b, .ref b2, .ref uq, .ref rq, .int fc, .int qc, .int cu, .int sa, .int aw, .int cg])), (b2, .inr (0, [.ref q2])), (q2, .inl (cB2, 512 * nn, .inl (cB Dk)))] ∧ ZZ (va_A [(o, .inr (3, [.int sc, .ref b, .ref b2, .ref uq, .ref rq, .int fc, .int qc, .int cu, .int sa, .int aw, .int cg])), (b2, .inr (0, [.ref q2])), (q2, .inl (cB2, 512 * nn, .inl (cB Dk)))] zS) U U.heap)) (va_Qv (fun (_ : Unit) => ¬ npP x nn) (fun (_ : Unit) (t : State) => va_P (dC, dI) vwCl [(o, .inr (3, [.int sc, .ref b, .ref b2, .ref uq, .ref rq, .int fc, .int qc, .int cu, .int sa, .int aw, .int cg])), (b2, .inr (0, [.ref q2])), (q2, .inl (cB2, 512 * nn, .inl (cB Dk)))] t.heap ∧ va_K (dC, dI) vwCl [(cB2, .byte)] t ∧ va_D (va_A [(o, .inr (3, [.int sc, .ref b, .ref b2, .ref uq, .ref rq, .int fc, .int qc, .int cu, .int sa, .int aw, .int cg])), (b2, .inr (0, [.ref q2])), (q2, .inl (cB2, 512 * nn, .inl (cB Dk)))] zS) [(o, .inr (3, [.int sc, .ref b, .ref b2, .ref uq, .ref rq, .int fc, .int qc, .int cu, .int sa, .int aw, .int cg])), (b2, .inr (0, [.ref q2])), (q2, .inl (cB2, 512 * nn, .inl (cB Dk)))]) (va_A [(o, .inr (3, [.int sc, .ref b, .ref b2, .ref uq, .ref rq, .int fc, .int qc, .int cu, .int sa, .int aw, .int cg])), (b2, .inr (0, [.ref q2])), (q2, .inl (cB2, 512 * nn, .inl (cB Dk)))] zS)) (vx_X (fun (_ : Unit) => True) (fun (E : String) (_ : Unit) (_ : State) => E = eB ∧ npP x nn) (fun _ => False)) 1 6 (va_A [(o, .inr (3, [.int sc, .ref b, .ref b2, .ref uq, .ref rq, .int fc, .int qc, .int cu, .int sa, .int aw, .int cg])), (b2, .inr (0, [.ref q2])), (q2, .inl (cB2, 512 * nn, .inl (cB Dk)))] zS) := by
  refine vx_ofW (cc := cX3_refuseOutsideDisk) (maxL := 2) (ret := (none)) (by decide) rfl ?_
  intro p e s m args below meth c s₁ B hml htab hv
  obtain ⟨rfl, hsz, hP, hK, hD0, hZ⟩ := hv
  have hx := B.exec
  have hb := B.bytes
  have hr := B.returns
  have hts := atoms_spec (ws := wsX3_refuseOutsideDisk) B.pre
  have hw : ∀ w ∈ WW, w.before _ s = true := fun w h => hts w (List.mem_cons_of_mem _ h)
  have hown : s.vm.findClass RX3 = some m.cls := findClass_of_methodNamed B.named
  have hlocks := B.notSynchronized
  subst hsz
  have hD := hD0.self (sz := s.heap.size)
  generalize hAe : va_A [(o, .inr (3, [.int sc, .ref b, .ref b2, .ref uq, .ref rq, .int fc, .int qc, .int cu, .int sa, .int aw, .int cg])), (b2, .inr (0, [.ref q2])), (q2, .inl (cB2, 512 * nn, .inl (cB Dk)))] s.heap.size = A at hD hZ ⊢
  have hA : ∀ q : Nat, s.heap.size ≤ q → A q := fun q h => by rw [← hAe]; exact Or.inr h
  have hS : va_S A s.heap s.heap [] := va_S.rf
  have hP : va_P (dC, dI) vwCl [(o, .inr (3, [.int sc, .ref b, .ref b2, .ref uq, .ref rq, .int fc, .int qc, .int cu, .int sa, .int aw, .int cg])), (b2, .inr (0, [.ref q2])), (q2, .inl (cB2, 512 * nn, .inl (cB Dk)))] s.heap := hP
  have hl := lv_entry ([.ref o, .int x]) (n := 2) (Nat.le_of_ble_eq_true rfl)
  rw [lg_entry_eq]
  generalize (lg_sl ([.ref o, .int x]) ++ List.replicate (2 - (lg_sl ([.ref o, .int x])).length) Slot.unset).toArray = ls at hl ⊢
  have hl : lv_has ls 2 [(0, .ref o), (1, .int x)] := hl
  refine lv_aload_n hx hb dX3_refuseOutsideDisk_0 rfl (lv_at hl 0 rfl) ?_
  refine va_get (D := (dC, dI)) (ci := 3) (v := .ref b2) (C := RX3) (T := TX3) (N := 11) hx hb hw inX3 hown hK hP 0 rfl rfl 2 (by decide) (hw _ w_f4937b3b24) (fun _ h9 => h9) rfl dX3_refuseOutsideDisk_1 ?_
  refine lv_iload_n hx hb dX3_refuseOutsideDisk_4 rfl (lv_at hl 1 rfl) ?_
  refine lv_i2l (v := x.toInt64) hx hb dX3_refuseOutsideDisk_5 rfl ?_
  refine lv_lconst (v := 1) hx hb dX3_refuseOutsideDisk_6 (by decide) ?_
  have hPc := hP.sub (ws' := [(b2, .inr (0, [.ref q2])), (q2, .inl (cB2, 512 * nn, .inl (cB Dk)))]) [1, 2] rfl
  have hKc := hK.sub (tys' := [(cB2, .byte)]) [0] rfl
  have hZc := (hZ.kept hS.2.1).narrow (B := fun _ => False) (fun _ h => h.elim)
  refine vp_callSi (va_runV (As := [.long x.toInt64, .long 1]) (rest := []) ⟨hx, hb, hml, hown, hw⟩ (c_holds l dC dI b2 q2 cB2 (512 * nn) (cB Dk) x.toInt64 1 (by omega)) (cwV 2 hw (gV w_18563c33ac w_bd9bccf83c w_88968f97c9 w_82b0ef516c w_0dba9a2727) rfl rfl rfl (by decide +kernel) ⟨Nat.le_of_ble_eq_true rfl, Nat.le_of_ble_eq_true rfl⟩) ⟨fun a U g mk q => by obtain ⟨q0, qP, qK, qZ⟩ := q; exact ⟨q0, qP, va_K.moved (u := U) (U := U.calling g mk a) (Vm.Alike.refl U.vm) qK, ZZ.same (u := U) (U := U.calling g mk a) rfl qZ⟩, va_recv hKc hPc (ci := 0) (q0 := 0) rfl rfl, fun U hU hW => ⟨rfl, by rw [hU]; exact hPc, va_K.moved hW.alike hKc, by rw [hU]; exact ZZ.warm hW hZc⟩⟩ rfl rfl hl.1 rfl (lv_room (Nat.le_of_ble_eq_true rfl)) dX3_refuseOutsideDisk_7 ⟨Nat.zero_le _, Nat.zero_le _⟩).run (fun r_1 hr_1 => ?_)
  have hr_1 : r_1 = bI (hoP (512 * nn) x.toInt64 1) := hr_1
  refine lv_if_ne (tgt := 23) hx hb dX3_refuseOutsideDisk_10 (by decide) (fun c_2 => ?_) (fun c_2 => ?_)
  · skip
    have b_3 : (hoP (512 * nn) x.toInt64 1) := bI_1 (by rw [← hr_1]; exact c_2)
    have hP9 : va_P (dC, dI) vwCl [(o, .inr (3, [.int sc, .ref b, .ref b2, .ref uq, .ref rq, .int fc, .int qc, .int cu, .int sa, .int aw, .int cg])), (b2, .inr (0, [.ref q2])), (q2, .inl (cB2, 512 * nn, .inl (cB Dk)))] s.heap := by exact hP.sub (ws' := [(o, .inr (3, [.int sc, .ref b, .ref b2, .ref uq, .ref rq, .int fc, .int qc, .int cu, .int sa, .int aw, .int cg])), (b2, .inr (0, [.ref q2])), (q2, .inl (cB2, 512 * nn, .inl (cB Dk)))]) [0, 1, 2] rfl
    have hD9 : va_D A [(o, .inr (3, [.int sc, .ref b, .ref b2, .ref uq, .ref rq, .int fc, .int qc, .int cu, .int sa, .int aw, .int cg])), (b2, .inr (0, [.ref q2])), (q2, .inl (cB2, 512 * nn, .inl (cB Dk)))] := by exact hD.sub (ws' := [(o, .inr (3, [.int sc, .ref b, .ref b2, .ref uq, .ref rq, .int fc, .int qc, .int cu, .int sa, .int aw, .int cg])), (b2, .inr (0, [.ref q2])), (q2, .inl (cB2, 512 * nn, .inl (cB Dk)))]) [0, 1, 2] (by decide) rfl
    have hK9 := hK.sub (tys' := [(cB2, .byte)]) [0] rfl
    refine vx_ret ?_
    refine W.widen (k := 1) (n := 6) (by omega) (by omega) ?_
    exact W.vret hx hb hr (fun t ht hW => ⟨⟨(), rfl, (ho_np.mp b_3), by rw [ht]; exact hP9, va_K.moved hW.alike hK9, hD9⟩, hS.F ht⟩) hS.2.2 dX3_refuseOutsideDisk_23
  · skip
    have b_4 : ¬ (hoP (512 * nn) x.toInt64 1) := bI_0 (by rw [← hr_1]; exact c_2)
    obtain ⟨sa, hstr⟩ := hZ.2.2.2.2.1
    exact vx_throwS (names := eN) hx hb hst hown (by decide +kernel) (by decide +kernel) (hw _ w_97c97d339d) (hw _ w_09a086a1da) hstr (eB_at hw hZ.1) eB_ot hZ.2.2.2.2.2.1 hZ.2.2.2.2.2.2.1 hS (hl.1.trans hml.symm) dX3_refuseOutsideDisk_13 dX3_refuseOutsideDisk_16 dX3_refuseOutsideDisk_17 dX3_refuseOutsideDisk_19 dX3_refuseOutsideDisk_22 (fun x hx => (htab x hx).elim) (Nat.le_of_ble_eq_true rfl) (Nat.le_of_ble_eq_true rfl) (Nat.le_of_ble_eq_true rfl) (Nat.le_of_ble_eq_true rfl) hlocks (fun t _ hz hk => ⟨(), trivial, ⟨rfl, Decidable.byContradiction (fun z => b_4 (ho_np.mpr z))⟩, hz, fun q hq _ => hk q hq⟩) hS.2.2 (Nat.le_of_ble_eq_true rfl) (Nat.le_of_ble_eq_true rfl)
