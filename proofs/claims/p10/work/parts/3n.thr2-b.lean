set_option maxHeartbeats 4000000 in
set_option maxRecDepth 100000 in
/-- QueueDisk.load -/
theorem d_load (l : Launch) (dC : Nat → ClassId) (dI : Nat → Nat → Nat) (o : Nat) (sc : Int32) (b : Nat) (b2 : Nat) (uq : Nat) (rq : Nat) (fc : Int32) (qc : Int32) (cu : Int32) (sa : Int32) (aw : Int32) (cg : Int32) (q : Nat) (cB_ : ClassId) (M : Nat → Nat) (a : Int64) (x : Int32) (zS : Nat) (hst : l.stackTraces = false) (hM : byt M) : vx_Met l yX3_load wsX3_load ({ frames := 7, cells := 1, slots := 6, locals := 110 }) (va_Pc [.ref o, .long a, .int x] (fun U => U.heap.size = zS ∧ va_P (dC, dI) vwCl [(o, .inr (3, [.int sc, .ref b, .ref b2, .ref uq, .ref rq, .int fc, .int qc, .int cu, .int sa, .int aw, .int cg])), (b, .inr (0, [.ref q])), (q, .inl (cB_, 65536, .inl (cB M)))] U.heap ∧ va_K (dC, dI) vwCl [(cB_, .byte)] U ∧ va_D (fun _ => True) [(o, .inr (3, [.int sc, .ref b, .ref b2, .ref uq, .ref rq, .int fc, .int qc, .int cu, .int sa, .int aw, .int cg])), (b, .inr (0, [.ref q])), (q, .inl (cB_, 65536, .inl (cB M)))] ∧ ZZ (va_A [(o, .inr (3, [.int sc, .ref b, .ref b2, .ref uq, .ref rq, .int fc, .int qc, .int cu, .int sa, .int aw, .int cg])), (b, .inr (0, [.ref q])), (q, .inl (cB_, 65536, .inl (cB M)))] zS) U U.heap)) (va_Ql (fun (r : Int64) (_ : Unit) => ldc a x = 0 ∧ r = lN (nbs M (off a) x.toInt.toNat)) (fun (_ : Unit) (t : State) => va_P (dC, dI) vwCl [(o, .inr (3, [.int sc, .ref b, .ref b2, .ref uq, .ref rq, .int fc, .int qc, .int cu, .int sa, .int aw, .int cg])), (b, .inr (0, [.ref q])), (q, .inl (cB_, 65536, .inl (cB M)))] t.heap ∧ va_K (dC, dI) vwCl [(cB_, .byte)] t ∧ va_D (va_A [(o, .inr (3, [.int sc, .ref b, .ref b2, .ref uq, .ref rq, .int fc, .int qc, .int cu, .int sa, .int aw, .int cg])), (b, .inr (0, [.ref q])), (q, .inl (cB_, 65536, .inl (cB M)))] zS) [(o, .inr (3, [.int sc, .ref b, .ref b2, .ref uq, .ref rq, .int fc, .int qc, .int cu, .int sa, .int aw, .int cg])), (b, .inr (0, [.ref q])), (q, .inl (cB_, 65536, .inl (cB M)))]) (va_A [(o, .inr (3, [.int sc, .ref b, .ref b2, .ref uq, .ref rq, .int fc, .int qc, .int cu, .int sa, .int aw, .int cg])), (b, .inr (0, [.ref q])), (q, .inl (cB_, 65536, .inl (cB M)))] zS)) (vx_X (fun (_ : Unit) => True) (fun (E : String) (_ : Unit) (_ : State) => (E = eA ∧ ldc a x = 1) ∨ (E = eB ∧ ldc a x = 2)) (fun _ => False)) 1 6 (va_A [(o, .inr (3, [.int sc, .ref b, .ref b2, .ref uq, .ref rq, .int fc, .int qc, .int cu, .int sa, .int aw, .int cg])), (b, .inr (0, [.ref q])), (q, .inl (cB_, 65536, .inl (cB M)))] zS) := by
  refine vx_ofW (cc := cX3_load) (maxL := 4) (ret := (some .long)) (by decide) rfl ?_
  intro p e s m args below meth c s₁ B hml htab hv
  obtain ⟨rfl, hsz, hP, hK, hD0, hZ⟩ := hv
  have hx := B.exec
  have hb := B.bytes
  have hr := B.returns
  have hts := atoms_spec (ws := wsX3_load) B.pre
  have hw : ∀ w ∈ WW, w.before _ s = true := fun w h => hts w (List.mem_cons_of_mem _ h)
  have hown : s.vm.findClass RX3 = some m.cls := findClass_of_methodNamed B.named
  have hlocks := B.notSynchronized
  subst hsz
  have hD := hD0.self (sz := s.heap.size)
  generalize hAe : va_A [(o, .inr (3, [.int sc, .ref b, .ref b2, .ref uq, .ref rq, .int fc, .int qc, .int cu, .int sa, .int aw, .int cg])), (b, .inr (0, [.ref q])), (q, .inl (cB_, 65536, .inl (cB M)))] s.heap.size = A at hD hZ ⊢
  have hA : ∀ q : Nat, s.heap.size ≤ q → A q := fun q h => by rw [← hAe]; exact Or.inr h
  have hS : va_S A s.heap s.heap [] := va_S.rf
  have hP : va_P (dC, dI) vwCl [(o, .inr (3, [.int sc, .ref b, .ref b2, .ref uq, .ref rq, .int fc, .int qc, .int cu, .int sa, .int aw, .int cg])), (b, .inr (0, [.ref q])), (q, .inl (cB_, 65536, .inl (cB M)))] s.heap := hP
  have hl := lv_entry ([.ref o, .long a, .int x]) (n := 4) (Nat.le_of_ble_eq_true rfl)
  rw [lg_entry_eq]
  generalize (lg_sl ([.ref o, .long a, .int x]) ++ List.replicate (4 - (lg_sl ([.ref o, .long a, .int x])).length) Slot.unset).toArray = ls at hl ⊢
  have hl : lv_has ls 4 [(0, .ref o), (1, .long a), (3, .int x)] := hl
  refine lv_aload_n hx hb dX3_load_0 rfl (lv_at hl 0 rfl) ?_
  refine lv_lload_n hx hb dX3_load_1 rfl (lv_at hl 1 rfl) ?_
  refine lv_iload_n hx hb dX3_load_2 rfl (lv_at hl 2 rfl) ?_
  have hPc := hP.sub (ws' := [(o, .inr (3, [.int sc, .ref b, .ref b2, .ref uq, .ref rq, .int fc, .int qc, .int cu, .int sa, .int aw, .int cg])), (b, .inr (0, [.ref q])), (q, .inl (cB_, 65536, .inl (cB M)))]) [0, 1, 2] rfl
  have hKc := hK.sub (tys' := [(cB_, .byte)]) [0] rfl
  have hDc := hD.sub (ws' := [(o, .inr (3, [.int sc, .ref b, .ref b2, .ref uq, .ref rq, .int fc, .int qc, .int cu, .int sa, .int aw, .int cg])), (b, .inr (0, [.ref q])), (q, .inl (cB_, 65536, .inl (cB M)))]) [0, 1, 2] (by decide) rfl
  have hFc := va_free (wc := [(o, .inr (3, [.int sc, .ref b, .ref b2, .ref uq, .ref rq, .int fc, .int qc, .int cu, .int sa, .int aw, .int cg])), (b, .inr (0, [.ref q])), (q, .inl (cB_, 65536, .inl (cB M)))]) hD hS hA [0, 1, 2] rfl
  have hZc : ZZ (va_A [(o, .inr (3, [.int sc, .ref b, .ref b2, .ref uq, .ref rq, .int fc, .int qc, .int cu, .int sa, .int aw, .int cg])), (b, .inr (0, [.ref q])), (q, .inl (cB_, 65536, .inl (cB M)))] s.heap.size) s s.heap := (hZ.kept hS.2.1).narrow hFc
  refine vx_callv (vx_runV (As := [.long a, .int x]) (rest := []) ⟨hx, hb, hml, hown, hw⟩ (d_refuseOutsideMemory l dC dI o sc b b2 uq rq fc qc cu sa aw cg q cB_ M a x s.heap.size hst) (cwV 2 hw (gV w_79bd63e8c9 w_4aa4e243d7 w_754f553ad3 w_106b72596f w_fbd5f30fcb) rfl rfl rfl (by decide +kernel) ⟨Nat.le_of_ble_eq_true rfl, Nat.le_of_ble_eq_true rfl⟩) ⟨fun a U g mk q => by obtain ⟨q0, q1, qP, qK, qD, qZ⟩ := q; exact ⟨q0, q1, qP, va_K.moved (u := U) (U := U.calling g mk a) (Vm.Alike.refl U.vm) qK, qD, ZZ.same (u := U) (U := U.calling g mk a) rfl qZ⟩, va_recv hKc hPc (ci := 3) (q0 := 0) rfl rfl, fun U hU hW => ⟨rfl, by rw [hU], by rw [hU]; exact hPc, va_K.moved hW.alike hKc, hDc.weaken (fun _ _ _ _ => trivial), by rw [hU]; exact ZZ.warm hW hZc⟩⟩ rfl rfl hl.1 rfl (lv_room (Nat.le_of_ble_eq_true rfl)) dX3_load_3 ⟨Nat.le_of_ble_eq_true rfl, Nat.le_of_ble_eq_true rfl⟩) hS (fun q _ h => hFc q h) hFc (fun _ _ h => h.elim) (fun E9 ce9 q9 u9 t H1 locs9 ht hvm hpx hbx hz1 hk1 hS9 hce hcv hcl => ?_) (fun u t H1 locs ht hvm hw2 hB hz1 hk1 hS => ?_)
  · skip
    have hbx : (E9 = eA ∧ ldc a x = 1) ∨ (E9 = eB ∧ ldc a x = 2) := hbx
    exact vx_out (fun x hx => (htab x hx).elim) hlocks hce hcv hcl (fun t2 ht2 _ => ⟨(), trivial, hbx, by rw [ht2]; exact hz1, fun q hq _ => by rw [ht2]; exact hk1 q hq (fun h => h)⟩) hS9.2.2 (Nat.le_of_ble_eq_true rfl) (Nat.le_of_ble_eq_true rfl)
  obtain ⟨hP1, hK1, hD1⟩ := hB
  rw [ht] at hP1
  have hK1 := va_K.moved hvm.symm hK1
  try dsimp only at hw2
  obtain ⟨hP, hD⟩ := va_join (wr := []) (w1 := [(o, .inr (3, [.int sc, .ref b, .ref b2, .ref uq, .ref rq, .int fc, .int qc, .int cu, .int sa, .int aw, .int cg])), (b, .inr (0, [.ref q])), (q, .inl (cB_, 65536, .inl (cB M)))]) hP hD [0, 1, 2] [] rfl rfl (by decide) (by decide) hk1 hFc hP1 hD1
  generalize H1 = H at hP hS hk1 ⊢
  refine W.cs (cells' := 1) (slots' := 6) (by omega) (by omega) ?_
  have hP : va_P (dC, dI) vwCl [(o, .inr (3, [.int sc, .ref b, .ref b2, .ref uq, .ref rq, .int fc, .int qc, .int cu, .int sa, .int aw, .int cg])), (b, .inr (0, [.ref q])), (q, .inl (cB_, 65536, .inl (cB M)))] H := hP
  have hD : va_D A [(o, .inr (3, [.int sc, .ref b, .ref b2, .ref uq, .ref rq, .int fc, .int qc, .int cu, .int sa, .int aw, .int cg])), (b, .inr (0, [.ref q])), (q, .inl (cB_, 65536, .inl (cB M)))] := hD
  have hw_1 : ldc a x = 0 := hw2
  have hl0 := hw_1
  obtain ⟨hs9, ht9⟩ := ldc_i hl0
  obtain ⟨j, hxj, hj1, hj8, hoa, hof, hxn⟩ := mem_ok hs9 ht9
  refine lv_aload_n hx hb dX3_load_6 rfl (lv_at hl 0 rfl) ?_
  refine va_get (D := (dC, dI)) (ci := 3) (v := .ref b) (C := RX3) (T := TX3) (N := 11) hx hb hw inX3 hown hK hP 0 rfl rfl 1 (by decide) (hw _ w_a82c1ee35f) (fun _ h9 => h9) rfl dX3_load_7 ?_
  refine lv_lload_n hx hb dX3_load_10 rfl (lv_at hl 1 rfl) ?_
  refine lv_ldc2 (v := 2147483648) hx hb hown (hw _ w_a0d67afbf5) dX3_load_11 ?_
  refine lv_lsub hx hb dX3_load_14 ?_
  refine lv_iload_n hx hb dX3_load_15 rfl (lv_at hl 2 rfl) ?_
  have hPc := hP.sub (ws' := [(b, .inr (0, [.ref q])), (q, .inl (cB_, 65536, .inl (cB M)))]) [1, 2] rfl
  have hKc := hK.sub (tys' := [(cB_, .byte)]) [0] rfl
  have hZc := (hZ.kept hS.2.1).narrow (B := fun _ => False) (fun _ h => h.elim)
  refine vp_callSl (va_runV (As := [.long (a - 2147483648), .int x]) (rest := []) ⟨hx, hb, hml, hown, hw⟩ (c_number l dC dI b q cB_ 65536 M (a - 2147483648) x j (off a) (by decide) hxj hj8 hoa hof hM) (cwV 2 hw (gV w_8967c802b9 w_b83b036cb8 w_d2cb4d8771 w_82b0ef516c w_7aba347942) rfl rfl rfl (by decide +kernel) ⟨Nat.le_of_ble_eq_true rfl, Nat.le_of_ble_eq_true rfl⟩) ⟨fun a U g mk q => by obtain ⟨q0, qP, qK, qZ⟩ := q; exact ⟨q0, qP, va_K.moved (u := U) (U := U.calling g mk a) (Vm.Alike.refl U.vm) qK, ZZ.same (u := U) (U := U.calling g mk a) rfl qZ⟩, va_recv hKc hPc (ci := 0) (q0 := 0) rfl rfl, fun U hU hW => ⟨rfl, by rw [hU]; exact hPc, va_K.moved hW.alike hKc, by rw [hU]; exact ZZ.warm hW hZc⟩⟩ rfl rfl hl.1 rfl (lv_room (Nat.le_of_ble_eq_true rfl)) dX3_load_16 ⟨Nat.le_of_ble_eq_true rfl, Nat.le_of_ble_eq_true rfl⟩).run (fun r_2 hr_2 => ?_)
  have hr_2 : r_2 = lN (nbs M (off a) j) := hr_2
  have hP9 : va_P (dC, dI) vwCl [(o, .inr (3, [.int sc, .ref b, .ref b2, .ref uq, .ref rq, .int fc, .int qc, .int cu, .int sa, .int aw, .int cg])), (b, .inr (0, [.ref q])), (q, .inl (cB_, 65536, .inl (cB M)))] H := by exact hP.sub (ws' := [(o, .inr (3, [.int sc, .ref b, .ref b2, .ref uq, .ref rq, .int fc, .int qc, .int cu, .int sa, .int aw, .int cg])), (b, .inr (0, [.ref q])), (q, .inl (cB_, 65536, .inl (cB M)))]) [0, 1, 2] rfl
  have hD9 : va_D A [(o, .inr (3, [.int sc, .ref b, .ref b2, .ref uq, .ref rq, .int fc, .int qc, .int cu, .int sa, .int aw, .int cg])), (b, .inr (0, [.ref q])), (q, .inl (cB_, 65536, .inl (cB M)))] := by exact hD.sub (ws' := [(o, .inr (3, [.int sc, .ref b, .ref b2, .ref uq, .ref rq, .int fc, .int qc, .int cu, .int sa, .int aw, .int cg])), (b, .inr (0, [.ref q])), (q, .inl (cB_, 65536, .inl (cB M)))]) [0, 1, 2] (by decide) rfl
  have hK9 := hK.sub (tys' := [(cB_, .byte)]) [0] rfl
  refine vx_ret ?_
  refine W.widen (k := 1) (n := 6) (by omega) (by omega) ?_
  exact W.lret (v := r_2) hx hb hr (fun t ht hW => ⟨⟨_, (), rfl, ⟨hl0, by rw [hxn]; exact hr_2⟩, by rw [ht]; exact hP9, va_K.moved hW.alike hK9, hD9⟩, hS.F ht⟩) hS.2.2 dX3_load_19
set_option maxHeartbeats 4000000 in
set_option maxRecDepth 100000 in
/-- QueueDisk.store -/
theorem d_store (l : Launch) (dC : Nat → ClassId) (dI : Nat → Nat → Nat) (o : Nat) (sc : Int32) (b : Nat) (b2 : Nat) (uq : Nat) (rq : Nat) (fc : Int32) (qc : Int32) (cu : Int32) (sa : Int32) (aw : Int32) (cg : Int32) (q : Nat) (cB_ : ClassId) (M : Nat → Nat) (a : Int64) (x : Int32) (vv : Int64) (w : Nat) (zS : Nat) (hst : l.stackTraces = false) (hM : byt M) (hv : vv = lN w) (hwl : w < 2 ^ 64) : vx_Met l yX3_store wsX3_store ({ frames := 7, cells := 1, slots := 6, locals := 110 }) (va_Pc [.ref o, .long a, .int x, .long vv] (fun U => U.heap.size = zS ∧ va_P (dC, dI) vwCl [(o, .inr (3, [.int sc, .ref b, .ref b2, .ref uq, .ref rq, .int fc, .int qc, .int cu, .int sa, .int aw, .int cg])), (b, .inr (0, [.ref q])), (q, .inl (cB_, 65536, .inl (cB M)))] U.heap ∧ va_K (dC, dI) vwCl [(cB_, .byte)] U ∧ va_D (fun _ => True) [(o, .inr (3, [.int sc, .ref b, .ref b2, .ref uq, .ref rq, .int fc, .int qc, .int cu, .int sa, .int aw, .int cg])), (b, .inr (0, [.ref q])), (q, .inl (cB_, 65536, .inl (cB M)))] ∧ ZZ (va_A [(o, .inr (3, [.int sc, .ref b, .ref b2, .ref uq, .ref rq, .int fc, .int qc, .int cu, .int sa, .int aw, .int cg])), (b, .inr (0, [.ref q])), (q, .inl (cB_, 65536, .inl (cB M)))] zS) U U.heap)) (va_Qv (fun (u : (Nat → Int32)) => match u with | g => ldc a x = 0 ∧ g = cB (stM M a x w)) (fun (u : (Nat → Int32)) (t : State) => match u with | g => va_P (dC, dI) vwCl [(o, .inr (3, [.int sc, .ref b, .ref b2, .ref uq, .ref rq, .int fc, .int qc, .int cu, .int sa, .int aw, .int cg])), (b, .inr (0, [.ref q])), (q, .inl (cB_, 65536, .inl g))] t.heap ∧ va_K (dC, dI) vwCl [(cB_, .byte)] t ∧ va_D (va_A [(o, .inr (3, [.int sc, .ref b, .ref b2, .ref uq, .ref rq, .int fc, .int qc, .int cu, .int sa, .int aw, .int cg])), (b, .inr (0, [.ref q])), (q, .inl (cB_, 65536, .inl (cB M)))] zS) [(o, .inr (3, [.int sc, .ref b, .ref b2, .ref uq, .ref rq, .int fc, .int qc, .int cu, .int sa, .int aw, .int cg])), (b, .inr (0, [.ref q])), (q, .inl (cB_, 65536, .inl g))]) (va_A [(o, .inr (3, [.int sc, .ref b, .ref b2, .ref uq, .ref rq, .int fc, .int qc, .int cu, .int sa, .int aw, .int cg])), (b, .inr (0, [.ref q])), (q, .inl (cB_, 65536, .inl (cB M)))] zS)) (vx_X (fun (_ : Unit) => True) (fun (E : String) (_ : Unit) (_ : State) => (E = eA ∧ ldc a x = 1) ∨ (E = eB ∧ ldc a x = 2)) (fun _ => False)) 1 6 (va_A [(o, .inr (3, [.int sc, .ref b, .ref b2, .ref uq, .ref rq, .int fc, .int qc, .int cu, .int sa, .int aw, .int cg])), (b, .inr (0, [.ref q])), (q, .inl (cB_, 65536, .inl (cB M)))] zS) := by
  refine vx_ofW (cc := cX3_store) (maxL := 6) (ret := (none)) (by decide) rfl ?_
  intro p e s m args below meth c s₁ B hml htab hv
  obtain ⟨rfl, hsz, hP, hK, hD0, hZ⟩ := hv
  have hx := B.exec
  have hb := B.bytes
  have hr := B.returns
  have hts := atoms_spec (ws := wsX3_store) B.pre
  have hw : ∀ w ∈ WW, w.before _ s = true := fun w h => hts w (List.mem_cons_of_mem _ h)
  have hown : s.vm.findClass RX3 = some m.cls := findClass_of_methodNamed B.named
  have hlocks := B.notSynchronized
  subst hsz
  have hD := hD0.self (sz := s.heap.size)
  generalize hAe : va_A [(o, .inr (3, [.int sc, .ref b, .ref b2, .ref uq, .ref rq, .int fc, .int qc, .int cu, .int sa, .int aw, .int cg])), (b, .inr (0, [.ref q])), (q, .inl (cB_, 65536, .inl (cB M)))] s.heap.size = A at hD hZ ⊢
  have hA : ∀ q : Nat, s.heap.size ≤ q → A q := fun q h => by rw [← hAe]; exact Or.inr h
  have hS : va_S A s.heap s.heap [] := va_S.rf
  have hP : va_P (dC, dI) vwCl [(o, .inr (3, [.int sc, .ref b, .ref b2, .ref uq, .ref rq, .int fc, .int qc, .int cu, .int sa, .int aw, .int cg])), (b, .inr (0, [.ref q])), (q, .inl (cB_, 65536, .inl (cB M)))] s.heap := hP
  have hl := lv_entry ([.ref o, .long a, .int x, .long vv]) (n := 6) (Nat.le_of_ble_eq_true rfl)
  rw [lg_entry_eq]
  generalize (lg_sl ([.ref o, .long a, .int x, .long vv]) ++ List.replicate (6 - (lg_sl ([.ref o, .long a, .int x, .long vv])).length) Slot.unset).toArray = ls at hl ⊢
  have hl : lv_has ls 6 [(0, .ref o), (1, .long a), (3, .int x), (4, .long vv)] := hl
  refine lv_aload_n hx hb dX3_store_0 rfl (lv_at hl 0 rfl) ?_
  refine lv_lload_n hx hb dX3_store_1 rfl (lv_at hl 1 rfl) ?_
  refine lv_iload_n hx hb dX3_store_2 rfl (lv_at hl 2 rfl) ?_
  have hPc := hP.sub (ws' := [(o, .inr (3, [.int sc, .ref b, .ref b2, .ref uq, .ref rq, .int fc, .int qc, .int cu, .int sa, .int aw, .int cg])), (b, .inr (0, [.ref q])), (q, .inl (cB_, 65536, .inl (cB M)))]) [0, 1, 2] rfl
  have hKc := hK.sub (tys' := [(cB_, .byte)]) [0] rfl
  have hDc := hD.sub (ws' := [(o, .inr (3, [.int sc, .ref b, .ref b2, .ref uq, .ref rq, .int fc, .int qc, .int cu, .int sa, .int aw, .int cg])), (b, .inr (0, [.ref q])), (q, .inl (cB_, 65536, .inl (cB M)))]) [0, 1, 2] (by decide) rfl
  have hFc := va_free (wc := [(o, .inr (3, [.int sc, .ref b, .ref b2, .ref uq, .ref rq, .int fc, .int qc, .int cu, .int sa, .int aw, .int cg])), (b, .inr (0, [.ref q])), (q, .inl (cB_, 65536, .inl (cB M)))]) hD hS hA [0, 1, 2] rfl
  have hZc : ZZ (va_A [(o, .inr (3, [.int sc, .ref b, .ref b2, .ref uq, .ref rq, .int fc, .int qc, .int cu, .int sa, .int aw, .int cg])), (b, .inr (0, [.ref q])), (q, .inl (cB_, 65536, .inl (cB M)))] s.heap.size) s s.heap := (hZ.kept hS.2.1).narrow hFc
  refine vx_callv (vx_runV (As := [.long a, .int x]) (rest := []) ⟨hx, hb, hml, hown, hw⟩ (d_refuseOutsideMemory l dC dI o sc b b2 uq rq fc qc cu sa aw cg q cB_ M a x s.heap.size hst) (cwV 2 hw (gV w_79bd63e8c9 w_4aa4e243d7 w_754f553ad3 w_106b72596f w_fbd5f30fcb) rfl rfl rfl (by decide +kernel) ⟨Nat.le_of_ble_eq_true rfl, Nat.le_of_ble_eq_true rfl⟩) ⟨fun a U g mk q => by obtain ⟨q0, q1, qP, qK, qD, qZ⟩ := q; exact ⟨q0, q1, qP, va_K.moved (u := U) (U := U.calling g mk a) (Vm.Alike.refl U.vm) qK, qD, ZZ.same (u := U) (U := U.calling g mk a) rfl qZ⟩, va_recv hKc hPc (ci := 3) (q0 := 0) rfl rfl, fun U hU hW => ⟨rfl, by rw [hU], by rw [hU]; exact hPc, va_K.moved hW.alike hKc, hDc.weaken (fun _ _ _ _ => trivial), by rw [hU]; exact ZZ.warm hW hZc⟩⟩ rfl rfl hl.1 rfl (lv_room (Nat.le_of_ble_eq_true rfl)) dX3_store_3 ⟨Nat.le_of_ble_eq_true rfl, Nat.le_of_ble_eq_true rfl⟩) hS (fun q _ h => hFc q h) hFc (fun _ _ h => h.elim) (fun E9 ce9 q9 u9 t H1 locs9 ht hvm hpx hbx hz1 hk1 hS9 hce hcv hcl => ?_) (fun u t H1 locs ht hvm hw2 hB hz1 hk1 hS => ?_)
  · skip
    have hbx : (E9 = eA ∧ ldc a x = 1) ∨ (E9 = eB ∧ ldc a x = 2) := hbx
    exact vx_out (fun x hx => (htab x hx).elim) hlocks hce hcv hcl (fun t2 ht2 _ => ⟨(), trivial, hbx, by rw [ht2]; exact hz1, fun q hq _ => by rw [ht2]; exact hk1 q hq (fun h => h)⟩) hS9.2.2 (Nat.le_of_ble_eq_true rfl) (Nat.le_of_ble_eq_true rfl)
  obtain ⟨hP1, hK1, hD1⟩ := hB
  rw [ht] at hP1
  have hK1 := va_K.moved hvm.symm hK1
  try dsimp only at hw2
  obtain ⟨hP, hD⟩ := va_join (wr := []) (w1 := [(o, .inr (3, [.int sc, .ref b, .ref b2, .ref uq, .ref rq, .int fc, .int qc, .int cu, .int sa, .int aw, .int cg])), (b, .inr (0, [.ref q])), (q, .inl (cB_, 65536, .inl (cB M)))]) hP hD [0, 1, 2] [] rfl rfl (by decide) (by decide) hk1 hFc hP1 hD1
  generalize H1 = H at hP hS hk1 ⊢
  refine W.cs (cells' := 1) (slots' := 6) (by omega) (by omega) ?_
  have hP : va_P (dC, dI) vwCl [(o, .inr (3, [.int sc, .ref b, .ref b2, .ref uq, .ref rq, .int fc, .int qc, .int cu, .int sa, .int aw, .int cg])), (b, .inr (0, [.ref q])), (q, .inl (cB_, 65536, .inl (cB M)))] H := hP
  have hD : va_D A [(o, .inr (3, [.int sc, .ref b, .ref b2, .ref uq, .ref rq, .int fc, .int qc, .int cu, .int sa, .int aw, .int cg])), (b, .inr (0, [.ref q])), (q, .inl (cB_, 65536, .inl (cB M)))] := hD
  have hw_1 : ldc a x = 0 := hw2
  have hl0 := hw_1
  obtain ⟨hs9, ht9⟩ := ldc_i hl0
  obtain ⟨j, hxj, hj1, hj8, hoa, hof, hxn⟩ := mem_ok hs9 ht9
  refine lv_aload_n hx hb dX3_store_6 rfl (lv_at hl 0 rfl) ?_
  refine va_get (D := (dC, dI)) (ci := 3) (v := .ref b) (C := RX3) (T := TX3) (N := 11) hx hb hw inX3 hown hK hP 0 rfl rfl 1 (by decide) (hw _ w_a82c1ee35f) (fun _ h9 => h9) rfl dX3_store_7 ?_
  refine lv_lload_n hx hb dX3_store_10 rfl (lv_at hl 1 rfl) ?_
  refine lv_ldc2 (v := 2147483648) hx hb hown (hw _ w_a0d67afbf5) dX3_store_11 ?_
  refine lv_lsub hx hb dX3_store_14 ?_
  refine lv_iload_n hx hb dX3_store_15 rfl (lv_at hl 2 rfl) ?_
  refine lv_lload hx hb dX3_store_16 (lv_at hl 3 rfl) ?_
  have hPc := hP.sub (ws' := [(b, .inr (0, [.ref q])), (q, .inl (cB_, 65536, .inl (cB M)))]) [1, 2] rfl
  have hKc := hK.sub (tys' := [(cB_, .byte)]) [0] rfl
  have hDc := hD.sub (ws' := [(b, .inr (0, [.ref q])), (q, .inl (cB_, 65536, .inl (cB M)))]) [1, 2] (by decide) rfl
  have hFc := va_free (wc := [(b, .inr (0, [.ref q])), (q, .inl (cB_, 65536, .inl (cB M)))]) hD hS hA [1, 2] rfl
  have hZc : ZZ (va_A [(b, .inr (0, [.ref q])), (q, .inl (cB_, 65536, .inl (cB M)))] H.size) s H := (hZ.kept hS.2.1).narrow hFc
  refine va_callv (va_runV (As := [.long (a - 2147483648), .int x, .long vv]) (rest := []) ⟨hx, hb, hml, hown, hw⟩ (c_putNumber l dC dI b q cB_ 65536 M (a - 2147483648) x vv j (off a) w H.size (by decide) hxj hj8 hoa hof hM hv hwl) (cwV 3 hw (gV w_8b1ecd563c w_2fdba07db2 w_80d4820def w_82b0ef516c w_661ab5aac1) rfl rfl rfl (by decide +kernel) ⟨Nat.le_of_ble_eq_true rfl, Nat.le_of_ble_eq_true rfl⟩) ⟨fun a U g mk q => by obtain ⟨q0, q1, qP, qK, qD, qZ⟩ := q; exact ⟨q0, q1, qP, va_K.moved (u := U) (U := U.calling g mk a) (Vm.Alike.refl U.vm) qK, qD, ZZ.same (u := U) (U := U.calling g mk a) rfl qZ⟩, va_recv hKc hPc (ci := 0) (q0 := 0) rfl rfl, fun U hU hW => ⟨rfl, by rw [hU], by rw [hU]; exact hPc, va_K.moved hW.alike hKc, hDc.weaken (fun _ _ _ _ => trivial), by rw [hU]; exact ZZ.warm hW hZc⟩⟩ rfl rfl hl.1 rfl (lv_room (Nat.le_of_ble_eq_true rfl)) dX3_store_18 ⟨Nat.le_of_ble_eq_true rfl, Nat.le_of_ble_eq_true rfl⟩) hS (fun q _ h => hFc q h) hFc (fun u t H1 locs ht hvm hw2 hB hz1 hk1 hS => ?_)
  obtain ⟨g_2, rfl⟩ : ∃ z, z = u := ⟨_, rfl⟩
  obtain ⟨hP1, hK1, hD1⟩ := hB
  rw [ht] at hP1
  have hK1 := va_K.moved hvm.symm hK1
  try dsimp only at hw2
  obtain ⟨hP, hD⟩ := va_join (wr := [(o, .inr (3, [.int sc, .ref b, .ref b2, .ref uq, .ref rq, .int fc, .int qc, .int cu, .int sa, .int aw, .int cg]))]) (w1 := [(b, .inr (0, [.ref q])), (q, .inl (cB_, 65536, .inl g_2))]) hP hD [1, 2] [0] rfl rfl (by decide) (by decide) hk1 hFc hP1 hD1
  generalize H1 = H at hP hS hk1 ⊢
  have hP : va_P (dC, dI) vwCl [(o, .inr (3, [.int sc, .ref b, .ref b2, .ref uq, .ref rq, .int fc, .int qc, .int cu, .int sa, .int aw, .int cg])), (b, .inr (0, [.ref q])), (q, .inl (cB_, 65536, .inl g_2))] H := hP
  have hD : va_D A [(o, .inr (3, [.int sc, .ref b, .ref b2, .ref uq, .ref rq, .int fc, .int qc, .int cu, .int sa, .int aw, .int cg])), (b, .inr (0, [.ref q])), (q, .inl (cB_, 65536, .inl g_2))] := hD
  have hw_3 : g_2 = cB (pbs M (off a) w j) := hw2
  have hP9 : va_P (dC, dI) vwCl [(o, .inr (3, [.int sc, .ref b, .ref b2, .ref uq, .ref rq, .int fc, .int qc, .int cu, .int sa, .int aw, .int cg])), (b, .inr (0, [.ref q])), (q, .inl (cB_, 65536, .inl g_2))] H := by exact hP.sub (ws' := [(o, .inr (3, [.int sc, .ref b, .ref b2, .ref uq, .ref rq, .int fc, .int qc, .int cu, .int sa, .int aw, .int cg])), (b, .inr (0, [.ref q])), (q, .inl (cB_, 65536, .inl g_2))]) [0, 1, 2] rfl
  have hD9 : va_D A [(o, .inr (3, [.int sc, .ref b, .ref b2, .ref uq, .ref rq, .int fc, .int qc, .int cu, .int sa, .int aw, .int cg])), (b, .inr (0, [.ref q])), (q, .inl (cB_, 65536, .inl g_2))] := by exact hD.sub (ws' := [(o, .inr (3, [.int sc, .ref b, .ref b2, .ref uq, .ref rq, .int fc, .int qc, .int cu, .int sa, .int aw, .int cg])), (b, .inr (0, [.ref q])), (q, .inl (cB_, 65536, .inl g_2))]) [0, 1, 2] (by decide) rfl
  have hK9 := hK.sub (tys' := [(cB_, .byte)]) [0] rfl
  refine vx_ret ?_
  refine W.widen (k := 1) (n := 6) (by omega) (by omega) ?_
  exact W.vret hx hb hr (fun t ht hW => ⟨⟨(g_2), rfl, ⟨hl0, by rw [hw_3]; unfold stM; rw [if_pos hl0, hxn]⟩, by rw [ht]; exact hP9, va_K.moved hW.alike hK9, hD9⟩, hS.F ht⟩) hS.2.2 dX3_store_21
set_option maxHeartbeats 4000000 in
set_option maxRecDepth 100000 in
/-- QueueDisk.disk -/
theorem d_disk (l : Launch) (dC : Nat → ClassId) (dI : Nat → Nat → Nat) (o : Nat) (sc : Int32) (b : Nat) (b2 : Nat) (uq : Nat) (rq : Nat) (fc : Int32) (qc : Int32) (cu : Int32) (sa : Int32) (aw : Int32) (cg : Int32) (q2 : Nat) (cB2 : ClassId) (nn : Nat) (Dk : Nat → Nat) (x : Int32) (zS : Nat) (hst : l.stackTraces = false) (hnn : nn ≤ 2048) (hDk : byt Dk) : vx_Met l yX3_disk wsX3_disk ({ frames := 7, cells := 1, slots := 6, locals := 110 }) (va_Pc [.ref o, .int x] (fun U => U.heap.size = zS ∧ va_P (dC, dI) vwCl [(o, .inr (3, [.int sc, .ref b, .ref b2, .ref uq, .ref rq, .int fc, .int qc, .int cu, .int sa, .int aw, .int cg])), (b2, .inr (0, [.ref q2])), (q2, .inl (cB2, 512 * nn, .inl (cB Dk)))] U.heap ∧ va_K (dC, dI) vwCl [(cB2, .byte)] U ∧ va_D (fun _ => True) [(o, .inr (3, [.int sc, .ref b, .ref b2, .ref uq, .ref rq, .int fc, .int qc, .int cu, .int sa, .int aw, .int cg])), (b2, .inr (0, [.ref q2])), (q2, .inl (cB2, 512 * nn, .inl (cB Dk)))] ∧ ZZ (va_A [(o, .inr (3, [.int sc, .ref b, .ref b2, .ref uq, .ref rq, .int fc, .int qc, .int cu, .int sa, .int aw, .int cg])), (b2, .inr (0, [.ref q2])), (q2, .inl (cB2, 512 * nn, .inl (cB Dk)))] zS) U U.heap)) (va_Qi (fun (r : Int32) (_ : Unit) => ¬ npP x nn ∧ r = nI (Dk x.toInt.toNat)) (fun (_ : Unit) (t : State) => va_P (dC, dI) vwCl [(o, .inr (3, [.int sc, .ref b, .ref b2, .ref uq, .ref rq, .int fc, .int qc, .int cu, .int sa, .int aw, .int cg])), (b2, .inr (0, [.ref q2])), (q2, .inl (cB2, 512 * nn, .inl (cB Dk)))] t.heap ∧ va_K (dC, dI) vwCl [(cB2, .byte)] t ∧ va_D (va_A [(o, .inr (3, [.int sc, .ref b, .ref b2, .ref uq, .ref rq, .int fc, .int qc, .int cu, .int sa, .int aw, .int cg])), (b2, .inr (0, [.ref q2])), (q2, .inl (cB2, 512 * nn, .inl (cB Dk)))] zS) [(o, .inr (3, [.int sc, .ref b, .ref b2, .ref uq, .ref rq, .int fc, .int qc, .int cu, .int sa, .int aw, .int cg])), (b2, .inr (0, [.ref q2])), (q2, .inl (cB2, 512 * nn, .inl (cB Dk)))]) (va_A [(o, .inr (3, [.int sc, .ref b, .ref b2, .ref uq, .ref rq, .int fc, .int qc, .int cu, .int sa, .int aw, .int cg])), (b2, .inr (0, [.ref q2])), (q2, .inl (cB2, 512 * nn, .inl (cB Dk)))] zS)) (vx_X (fun (_ : Unit) => True) (fun (E : String) (_ : Unit) (_ : State) => E = eB ∧ npP x nn) (fun _ => False)) 1 6 (va_A [(o, .inr (3, [.int sc, .ref b, .ref b2, .ref uq, .ref rq, .int fc, .int qc, .int cu, .int sa, .int aw, .int cg])), (b2, .inr (0, [.ref q2])), (q2, .inl (cB2, 512 * nn, .inl (cB Dk)))] zS) := by
  refine vx_ofW (cc := cX3_disk) (maxL := 2) (ret := (some .int)) (by decide) rfl ?_
  intro p e s m args below meth c s₁ B hml htab hv
  obtain ⟨rfl, hsz, hP, hK, hD0, hZ⟩ := hv
  have hx := B.exec
  have hb := B.bytes
  have hr := B.returns
  have hts := atoms_spec (ws := wsX3_disk) B.pre
  have hw : ∀ w ∈ WW, w.before _ s = true := fun w h => hts w (List.mem_cons_of_mem _ h)
  have hown : s.vm.findClass RX3 = some m.cls := findClass_of_methodNamed B.named
  have hlocks := B.notSynchronized
  subst hsz
  have hD := hD0.self (sz := s.heap.size)
  generalize hAe : va_A [(o, .inr (3, [.int sc, .ref b, .ref b2, .ref uq, .ref rq, .int fc, .int qc, .int cu, .int sa, .int aw, .int cg])), (b2, .inr (0, [.ref q2])), (q2, .inl (cB2, 512 * nn, .inl (cB Dk)))] s.heap.size = A at hD hZ ⊢
  have hA : ∀ q : Nat, s.heap.size ≤ q → A q := fun q h => by rw [← hAe]; exact Or.inr h
  have hS : va_S A s.heap s.heap [] := va_S.rf
  have hP : va_P (dC, dI) vwCl [(o, .inr (3, [.int sc, .ref b, .ref b2, .ref uq, .ref rq, .int fc, .int qc, .int cu, .int sa, .int aw, .int cg])), (b2, .inr (0, [.ref q2])), (q2, .inl (cB2, 512 * nn, .inl (cB Dk)))] s.heap := hP
  have hl := lv_entry ([.ref o, .int x]) (n := 2) (Nat.le_of_ble_eq_true rfl)
  rw [lg_entry_eq]
  generalize (lg_sl ([.ref o, .int x]) ++ List.replicate (2 - (lg_sl ([.ref o, .int x])).length) Slot.unset).toArray = ls at hl ⊢
  have hl : lv_has ls 2 [(0, .ref o), (1, .int x)] := hl
  refine lv_aload_n hx hb dX3_disk_0 rfl (lv_at hl 0 rfl) ?_
  refine lv_iload_n hx hb dX3_disk_1 rfl (lv_at hl 1 rfl) ?_
  have hPc := hP.sub (ws' := [(o, .inr (3, [.int sc, .ref b, .ref b2, .ref uq, .ref rq, .int fc, .int qc, .int cu, .int sa, .int aw, .int cg])), (b2, .inr (0, [.ref q2])), (q2, .inl (cB2, 512 * nn, .inl (cB Dk)))]) [0, 1, 2] rfl
  have hKc := hK.sub (tys' := [(cB2, .byte)]) [0] rfl
  have hDc := hD.sub (ws' := [(o, .inr (3, [.int sc, .ref b, .ref b2, .ref uq, .ref rq, .int fc, .int qc, .int cu, .int sa, .int aw, .int cg])), (b2, .inr (0, [.ref q2])), (q2, .inl (cB2, 512 * nn, .inl (cB Dk)))]) [0, 1, 2] (by decide) rfl
  have hFc := va_free (wc := [(o, .inr (3, [.int sc, .ref b, .ref b2, .ref uq, .ref rq, .int fc, .int qc, .int cu, .int sa, .int aw, .int cg])), (b2, .inr (0, [.ref q2])), (q2, .inl (cB2, 512 * nn, .inl (cB Dk)))]) hD hS hA [0, 1, 2] rfl
  have hZc : ZZ (va_A [(o, .inr (3, [.int sc, .ref b, .ref b2, .ref uq, .ref rq, .int fc, .int qc, .int cu, .int sa, .int aw, .int cg])), (b2, .inr (0, [.ref q2])), (q2, .inl (cB2, 512 * nn, .inl (cB Dk)))] s.heap.size) s s.heap := (hZ.kept hS.2.1).narrow hFc
  refine vx_callv (vx_runV (As := [.int x]) (rest := []) ⟨hx, hb, hml, hown, hw⟩ (d_refuseOutsideDisk l dC dI o sc b b2 uq rq fc qc cu sa aw cg q2 cB2 nn Dk x s.heap.size hst hnn) (cwV 1 hw (gV w_d59c4cbb13 w_ac117f1441 w_123e8cfdb0 w_106b72596f w_c455415437) rfl rfl rfl (by decide +kernel) ⟨Nat.le_of_ble_eq_true rfl, Nat.le_of_ble_eq_true rfl⟩) ⟨fun a U g mk q => by obtain ⟨q0, q1, qP, qK, qD, qZ⟩ := q; exact ⟨q0, q1, qP, va_K.moved (u := U) (U := U.calling g mk a) (Vm.Alike.refl U.vm) qK, qD, ZZ.same (u := U) (U := U.calling g mk a) rfl qZ⟩, va_recv hKc hPc (ci := 3) (q0 := 0) rfl rfl, fun U hU hW => ⟨rfl, by rw [hU], by rw [hU]; exact hPc, va_K.moved hW.alike hKc, hDc.weaken (fun _ _ _ _ => trivial), by rw [hU]; exact ZZ.warm hW hZc⟩⟩ rfl rfl hl.1 rfl (lv_room (Nat.le_of_ble_eq_true rfl)) dX3_disk_2 ⟨Nat.le_of_ble_eq_true rfl, Nat.le_of_ble_eq_true rfl⟩) hS (fun q _ h => hFc q h) hFc (fun _ _ h => h.elim) (fun E9 ce9 q9 u9 t H1 locs9 ht hvm hpx hbx hz1 hk1 hS9 hce hcv hcl => ?_) (fun u t H1 locs ht hvm hw2 hB hz1 hk1 hS => ?_)
  · skip
    have hbx : E9 = eB ∧ npP x nn := hbx
    exact vx_out (fun x hx => (htab x hx).elim) hlocks hce hcv hcl (fun t2 ht2 _ => ⟨(), trivial, hbx, by rw [ht2]; exact hz1, fun q hq _ => by rw [ht2]; exact hk1 q hq (fun h => h)⟩) hS9.2.2 (Nat.le_of_ble_eq_true rfl) (Nat.le_of_ble_eq_true rfl)
  obtain ⟨hP1, hK1, hD1⟩ := hB
  rw [ht] at hP1
  have hK1 := va_K.moved hvm.symm hK1
  try dsimp only at hw2
  obtain ⟨hP, hD⟩ := va_join (wr := []) (w1 := [(o, .inr (3, [.int sc, .ref b, .ref b2, .ref uq, .ref rq, .int fc, .int qc, .int cu, .int sa, .int aw, .int cg])), (b2, .inr (0, [.ref q2])), (q2, .inl (cB2, 512 * nn, .inl (cB Dk)))]) hP hD [0, 1, 2] [] rfl rfl (by decide) (by decide) hk1 hFc hP1 hD1
  generalize H1 = H at hP hS hk1 ⊢
  refine W.cs (cells' := 1) (slots' := 6) (by omega) (by omega) ?_
  have hP : va_P (dC, dI) vwCl [(o, .inr (3, [.int sc, .ref b, .ref b2, .ref uq, .ref rq, .int fc, .int qc, .int cu, .int sa, .int aw, .int cg])), (b2, .inr (0, [.ref q2])), (q2, .inl (cB2, 512 * nn, .inl (cB Dk)))] H := hP
  have hD : va_D A [(o, .inr (3, [.int sc, .ref b, .ref b2, .ref uq, .ref rq, .int fc, .int qc, .int cu, .int sa, .int aw, .int cg])), (b2, .inr (0, [.ref q2])), (q2, .inl (cB2, 512 * nn, .inl (cB Dk)))] := hD
  have hw_1 : ¬ npP x nn := hw2
  have hnp := hw_1
  refine lv_aload_n hx hb dX3_disk_5 rfl (lv_at hl 0 rfl) ?_
  refine va_get (D := (dC, dI)) (ci := 3) (v := .ref b2) (C := RX3) (T := TX3) (N := 11) hx hb hw inX3 hown hK hP 0 rfl rfl 2 (by decide) (hw _ w_f4937b3b24) (fun _ h9 => h9) rfl dX3_disk_6 ?_
  refine lv_iload_n hx hb dX3_disk_9 rfl (lv_at hl 1 rfl) ?_
  refine lv_i2l (v := x.toInt64) hx hb dX3_disk_10 rfl ?_
  have hPc := hP.sub (ws' := [(b2, .inr (0, [.ref q2])), (q2, .inl (cB2, 512 * nn, .inl (cB Dk)))]) [1, 2] rfl
  have hKc := hK.sub (tys' := [(cB2, .byte)]) [0] rfl
  have hZc := (hZ.kept hS.2.1).narrow (B := fun _ => False) (fun _ h => h.elim)
  refine vp_callSi (va_runV (As := [.long x.toInt64]) (rest := []) ⟨hx, hb, hml, hown, hw⟩ (c_at l dC dI b2 q2 cB2 (512 * nn) (cB Dk) x.toInt64 (by omega)) (cwV 1 hw (gV w_16292aec33 w_1a56f4b40f w_10ab65b0be w_82b0ef516c w_7216235d52) rfl rfl rfl (by decide +kernel) ⟨Nat.le_of_ble_eq_true rfl, Nat.le_of_ble_eq_true rfl⟩) ⟨fun a U g mk q => by obtain ⟨q0, qP, qK, qZ⟩ := q; exact ⟨q0, qP, va_K.moved (u := U) (U := U.calling g mk a) (Vm.Alike.refl U.vm) qK, ZZ.same (u := U) (U := U.calling g mk a) rfl qZ⟩, va_recv hKc hPc (ci := 0) (q0 := 0) rfl rfl, fun U hU hW => ⟨rfl, by rw [hU]; exact hPc, va_K.moved hW.alike hKc, by rw [hU]; exact ZZ.warm hW hZc⟩⟩ rfl rfl hl.1 rfl (lv_room (Nat.le_of_ble_eq_true rfl)) dX3_disk_11 ⟨Nat.le_of_ble_eq_true rfl, Nat.le_of_ble_eq_true rfl⟩).run (fun r_2 hr_2 => ?_)
  have hr_2 : r_2 = atS (512 * nn) (cB Dk) x.toInt64 := hr_2
  have hP9 : va_P (dC, dI) vwCl [(o, .inr (3, [.int sc, .ref b, .ref b2, .ref uq, .ref rq, .int fc, .int qc, .int cu, .int sa, .int aw, .int cg])), (b2, .inr (0, [.ref q2])), (q2, .inl (cB2, 512 * nn, .inl (cB Dk)))] H := by exact hP.sub (ws' := [(o, .inr (3, [.int sc, .ref b, .ref b2, .ref uq, .ref rq, .int fc, .int qc, .int cu, .int sa, .int aw, .int cg])), (b2, .inr (0, [.ref q2])), (q2, .inl (cB2, 512 * nn, .inl (cB Dk)))]) [0, 1, 2] rfl
  have hD9 : va_D A [(o, .inr (3, [.int sc, .ref b, .ref b2, .ref uq, .ref rq, .int fc, .int qc, .int cu, .int sa, .int aw, .int cg])), (b2, .inr (0, [.ref q2])), (q2, .inl (cB2, 512 * nn, .inl (cB Dk)))] := by exact hD.sub (ws' := [(o, .inr (3, [.int sc, .ref b, .ref b2, .ref uq, .ref rq, .int fc, .int qc, .int cu, .int sa, .int aw, .int cg])), (b2, .inr (0, [.ref q2])), (q2, .inl (cB2, 512 * nn, .inl (cB Dk)))]) [0, 1, 2] (by decide) rfl
  have hK9 := hK.sub (tys' := [(cB2, .byte)]) [0] rfl
  refine vx_ret ?_
  refine W.widen (k := 1) (n := 6) (by omega) (by omega) ?_
  exact W.iret (v := r_2) hx hb hr (fun t ht hW => ⟨⟨_, (), rfl, ⟨hnp, by rw [hr_2]; exact at_np hDk hnp⟩, by rw [ht]; exact hP9, va_K.moved hW.alike hK9, hD9⟩, hS.F ht⟩) hS.2.2 dX3_disk_14
set_option maxHeartbeats 4000000 in
set_option maxRecDepth 100000 in
/-- QueueDisk.setDisk -/
theorem d_setDisk (l : Launch) (dC : Nat → ClassId) (dI : Nat → Nat → Nat) (o : Nat) (sc : Int32) (b : Nat) (b2 : Nat) (uq : Nat) (rq : Nat) (fc : Int32) (qc : Int32) (cu : Int32) (sa : Int32) (aw : Int32) (cg : Int32) (q2 : Nat) (cB2 : ClassId) (nn : Nat) (Dk : Nat → Nat) (x : Int32) (v : Int32) (zS : Nat) (hst : l.stackTraces = false) (hnn : nn ≤ 2048) (hDk : byt Dk) : vx_Met l yX3_setDisk wsX3_setDisk ({ frames := 7, cells := 1, slots := 6, locals := 110 }) (va_Pc [.ref o, .int x, .int v] (fun U => U.heap.size = zS ∧ va_P (dC, dI) vwCl [(o, .inr (3, [.int sc, .ref b, .ref b2, .ref uq, .ref rq, .int fc, .int qc, .int cu, .int sa, .int aw, .int cg])), (b2, .inr (0, [.ref q2])), (q2, .inl (cB2, 512 * nn, .inl (cB Dk)))] U.heap ∧ va_K (dC, dI) vwCl [(cB2, .byte)] U ∧ va_D (fun _ => True) [(o, .inr (3, [.int sc, .ref b, .ref b2, .ref uq, .ref rq, .int fc, .int qc, .int cu, .int sa, .int aw, .int cg])), (b2, .inr (0, [.ref q2])), (q2, .inl (cB2, 512 * nn, .inl (cB Dk)))] ∧ ZZ (va_A [(o, .inr (3, [.int sc, .ref b, .ref b2, .ref uq, .ref rq, .int fc, .int qc, .int cu, .int sa, .int aw, .int cg])), (b2, .inr (0, [.ref q2])), (q2, .inl (cB2, 512 * nn, .inl (cB Dk)))] zS) U U.heap)) (va_Qv (fun (u : (Nat → Int32)) => match u with | g => ¬ npP x nn ∧ g = cB (va_up Dk x.toInt.toNat (v.toBitVec.toNat % 256))) (fun (u : (Nat → Int32)) (t : State) => match u with | g => va_P (dC, dI) vwCl [(o, .inr (3, [.int sc, .ref b, .ref b2, .ref uq, .ref rq, .int fc, .int qc, .int cu, .int sa, .int aw, .int cg])), (b2, .inr (0, [.ref q2])), (q2, .inl (cB2, 512 * nn, .inl g))] t.heap ∧ va_K (dC, dI) vwCl [(cB2, .byte)] t ∧ va_D (va_A [(o, .inr (3, [.int sc, .ref b, .ref b2, .ref uq, .ref rq, .int fc, .int qc, .int cu, .int sa, .int aw, .int cg])), (b2, .inr (0, [.ref q2])), (q2, .inl (cB2, 512 * nn, .inl (cB Dk)))] zS) [(o, .inr (3, [.int sc, .ref b, .ref b2, .ref uq, .ref rq, .int fc, .int qc, .int cu, .int sa, .int aw, .int cg])), (b2, .inr (0, [.ref q2])), (q2, .inl (cB2, 512 * nn, .inl g))]) (va_A [(o, .inr (3, [.int sc, .ref b, .ref b2, .ref uq, .ref rq, .int fc, .int qc, .int cu, .int sa, .int aw, .int cg])), (b2, .inr (0, [.ref q2])), (q2, .inl (cB2, 512 * nn, .inl (cB Dk)))] zS)) (vx_X (fun (_ : Unit) => True) (fun (E : String) (_ : Unit) (_ : State) => E = eB ∧ npP x nn) (fun _ => False)) 1 6 (va_A [(o, .inr (3, [.int sc, .ref b, .ref b2, .ref uq, .ref rq, .int fc, .int qc, .int cu, .int sa, .int aw, .int cg])), (b2, .inr (0, [.ref q2])), (q2, .inl (cB2, 512 * nn, .inl (cB Dk)))] zS) := by
  refine vx_ofW (cc := cX3_setDisk) (maxL := 3) (ret := (none)) (by decide) rfl ?_
  intro p e s m args below meth c s₁ B hml htab hv
  obtain ⟨rfl, hsz, hP, hK, hD0, hZ⟩ := hv
  have hx := B.exec
  have hb := B.bytes
  have hr := B.returns
  have hts := atoms_spec (ws := wsX3_setDisk) B.pre
  have hw : ∀ w ∈ WW, w.before _ s = true := fun w h => hts w (List.mem_cons_of_mem _ h)
  have hown : s.vm.findClass RX3 = some m.cls := findClass_of_methodNamed B.named
  have hlocks := B.notSynchronized
  subst hsz
  have hD := hD0.self (sz := s.heap.size)
  generalize hAe : va_A [(o, .inr (3, [.int sc, .ref b, .ref b2, .ref uq, .ref rq, .int fc, .int qc, .int cu, .int sa, .int aw, .int cg])), (b2, .inr (0, [.ref q2])), (q2, .inl (cB2, 512 * nn, .inl (cB Dk)))] s.heap.size = A at hD hZ ⊢
  have hA : ∀ q : Nat, s.heap.size ≤ q → A q := fun q h => by rw [← hAe]; exact Or.inr h
  have hS : va_S A s.heap s.heap [] := va_S.rf
  have hP : va_P (dC, dI) vwCl [(o, .inr (3, [.int sc, .ref b, .ref b2, .ref uq, .ref rq, .int fc, .int qc, .int cu, .int sa, .int aw, .int cg])), (b2, .inr (0, [.ref q2])), (q2, .inl (cB2, 512 * nn, .inl (cB Dk)))] s.heap := hP
  have hl := lv_entry ([.ref o, .int x, .int v]) (n := 3) (Nat.le_of_ble_eq_true rfl)
  rw [lg_entry_eq]
  generalize (lg_sl ([.ref o, .int x, .int v]) ++ List.replicate (3 - (lg_sl ([.ref o, .int x, .int v])).length) Slot.unset).toArray = ls at hl ⊢
  have hl : lv_has ls 3 [(0, .ref o), (1, .int x), (2, .int v)] := hl
  refine lv_aload_n hx hb dX3_setDisk_0 rfl (lv_at hl 0 rfl) ?_
  refine lv_iload_n hx hb dX3_setDisk_1 rfl (lv_at hl 1 rfl) ?_
  have hPc := hP.sub (ws' := [(o, .inr (3, [.int sc, .ref b, .ref b2, .ref uq, .ref rq, .int fc, .int qc, .int cu, .int sa, .int aw, .int cg])), (b2, .inr (0, [.ref q2])), (q2, .inl (cB2, 512 * nn, .inl (cB Dk)))]) [0, 1, 2] rfl
  have hKc := hK.sub (tys' := [(cB2, .byte)]) [0] rfl
  have hDc := hD.sub (ws' := [(o, .inr (3, [.int sc, .ref b, .ref b2, .ref uq, .ref rq, .int fc, .int qc, .int cu, .int sa, .int aw, .int cg])), (b2, .inr (0, [.ref q2])), (q2, .inl (cB2, 512 * nn, .inl (cB Dk)))]) [0, 1, 2] (by decide) rfl
  have hFc := va_free (wc := [(o, .inr (3, [.int sc, .ref b, .ref b2, .ref uq, .ref rq, .int fc, .int qc, .int cu, .int sa, .int aw, .int cg])), (b2, .inr (0, [.ref q2])), (q2, .inl (cB2, 512 * nn, .inl (cB Dk)))]) hD hS hA [0, 1, 2] rfl
  have hZc : ZZ (va_A [(o, .inr (3, [.int sc, .ref b, .ref b2, .ref uq, .ref rq, .int fc, .int qc, .int cu, .int sa, .int aw, .int cg])), (b2, .inr (0, [.ref q2])), (q2, .inl (cB2, 512 * nn, .inl (cB Dk)))] s.heap.size) s s.heap := (hZ.kept hS.2.1).narrow hFc
  refine vx_callv (vx_runV (As := [.int x]) (rest := []) ⟨hx, hb, hml, hown, hw⟩ (d_refuseOutsideDisk l dC dI o sc b b2 uq rq fc qc cu sa aw cg q2 cB2 nn Dk x s.heap.size hst hnn) (cwV 1 hw (gV w_d59c4cbb13 w_ac117f1441 w_123e8cfdb0 w_106b72596f w_c455415437) rfl rfl rfl (by decide +kernel) ⟨Nat.le_of_ble_eq_true rfl, Nat.le_of_ble_eq_true rfl⟩) ⟨fun a U g mk q => by obtain ⟨q0, q1, qP, qK, qD, qZ⟩ := q; exact ⟨q0, q1, qP, va_K.moved (u := U) (U := U.calling g mk a) (Vm.Alike.refl U.vm) qK, qD, ZZ.same (u := U) (U := U.calling g mk a) rfl qZ⟩, va_recv hKc hPc (ci := 3) (q0 := 0) rfl rfl, fun U hU hW => ⟨rfl, by rw [hU], by rw [hU]; exact hPc, va_K.moved hW.alike hKc, hDc.weaken (fun _ _ _ _ => trivial), by rw [hU]; exact ZZ.warm hW hZc⟩⟩ rfl rfl hl.1 rfl (lv_room (Nat.le_of_ble_eq_true rfl)) dX3_setDisk_2 ⟨Nat.le_of_ble_eq_true rfl, Nat.le_of_ble_eq_true rfl⟩) hS (fun q _ h => hFc q h) hFc (fun _ _ h => h.elim) (fun E9 ce9 q9 u9 t H1 locs9 ht hvm hpx hbx hz1 hk1 hS9 hce hcv hcl => ?_) (fun u t H1 locs ht hvm hw2 hB hz1 hk1 hS => ?_)
  · skip
    have hbx : E9 = eB ∧ npP x nn := hbx
    exact vx_out (fun x hx => (htab x hx).elim) hlocks hce hcv hcl (fun t2 ht2 _ => ⟨(), trivial, hbx, by rw [ht2]; exact hz1, fun q hq _ => by rw [ht2]; exact hk1 q hq (fun h => h)⟩) hS9.2.2 (Nat.le_of_ble_eq_true rfl) (Nat.le_of_ble_eq_true rfl)
  obtain ⟨hP1, hK1, hD1⟩ := hB
  rw [ht] at hP1
  have hK1 := va_K.moved hvm.symm hK1
  try dsimp only at hw2
  obtain ⟨hP, hD⟩ := va_join (wr := []) (w1 := [(o, .inr (3, [.int sc, .ref b, .ref b2, .ref uq, .ref rq, .int fc, .int qc, .int cu, .int sa, .int aw, .int cg])), (b2, .inr (0, [.ref q2])), (q2, .inl (cB2, 512 * nn, .inl (cB Dk)))]) hP hD [0, 1, 2] [] rfl rfl (by decide) (by decide) hk1 hFc hP1 hD1
  generalize H1 = H at hP hS hk1 ⊢
  refine W.cs (cells' := 1) (slots' := 6) (by omega) (by omega) ?_
  have hP : va_P (dC, dI) vwCl [(o, .inr (3, [.int sc, .ref b, .ref b2, .ref uq, .ref rq, .int fc, .int qc, .int cu, .int sa, .int aw, .int cg])), (b2, .inr (0, [.ref q2])), (q2, .inl (cB2, 512 * nn, .inl (cB Dk)))] H := hP
  have hD : va_D A [(o, .inr (3, [.int sc, .ref b, .ref b2, .ref uq, .ref rq, .int fc, .int qc, .int cu, .int sa, .int aw, .int cg])), (b2, .inr (0, [.ref q2])), (q2, .inl (cB2, 512 * nn, .inl (cB Dk)))] := hD
  have hw_1 : ¬ npP x nn := hw2
  have hnp := hw_1
  refine lv_aload_n hx hb dX3_setDisk_5 rfl (lv_at hl 0 rfl) ?_
  refine va_get (D := (dC, dI)) (ci := 3) (v := .ref b2) (C := RX3) (T := TX3) (N := 11) hx hb hw inX3 hown hK hP 0 rfl rfl 2 (by decide) (hw _ w_f4937b3b24) (fun _ h9 => h9) rfl dX3_setDisk_6 ?_
  refine lv_iload_n hx hb dX3_setDisk_9 rfl (lv_at hl 1 rfl) ?_
  refine lv_i2l (v := x.toInt64) hx hb dX3_setDisk_10 rfl ?_
  refine lv_iload_n hx hb dX3_setDisk_11 rfl (lv_at hl 2 rfl) ?_
  have hPc := hP.sub (ws' := [(b2, .inr (0, [.ref q2])), (q2, .inl (cB2, 512 * nn, .inl (cB Dk)))]) [1, 2] rfl
  have hKc := hK.sub (tys' := [(cB2, .byte)]) [0] rfl
  have hDc := hD.sub (ws' := [(b2, .inr (0, [.ref q2])), (q2, .inl (cB2, 512 * nn, .inl (cB Dk)))]) [1, 2] (by decide) rfl
  have hFc := va_free (wc := [(b2, .inr (0, [.ref q2])), (q2, .inl (cB2, 512 * nn, .inl (cB Dk)))]) hD hS hA [1, 2] rfl
  have hZc : ZZ (va_A [(b2, .inr (0, [.ref q2])), (q2, .inl (cB2, 512 * nn, .inl (cB Dk)))] H.size) s H := (hZ.kept hS.2.1).narrow hFc
  refine va_callv (va_runV (As := [.long x.toInt64, .int v]) (rest := []) ⟨hx, hb, hml, hown, hw⟩ (c_put l dC dI b2 q2 cB2 (512 * nn) (cB Dk) x.toInt64 v H.size (by omega)) (cwV 2 hw (gV w_fdbc92d7dc w_a98a2cb77c w_35af0b375c w_82b0ef516c w_9c05d6145f) rfl rfl rfl (by decide +kernel) ⟨Nat.le_of_ble_eq_true rfl, Nat.le_of_ble_eq_true rfl⟩) ⟨fun a U g mk q => by obtain ⟨q0, q1, qP, qK, qD, qZ⟩ := q; exact ⟨q0, q1, qP, va_K.moved (u := U) (U := U.calling g mk a) (Vm.Alike.refl U.vm) qK, qD, ZZ.same (u := U) (U := U.calling g mk a) rfl qZ⟩, va_recv hKc hPc (ci := 0) (q0 := 0) rfl rfl, fun U hU hW => ⟨rfl, by rw [hU], by rw [hU]; exact hPc, va_K.moved hW.alike hKc, hDc.weaken (fun _ _ _ _ => trivial), by rw [hU]; exact ZZ.warm hW hZc⟩⟩ rfl rfl hl.1 rfl (lv_room (Nat.le_of_ble_eq_true rfl)) dX3_setDisk_12 ⟨Nat.le_of_ble_eq_true rfl, Nat.le_of_ble_eq_true rfl⟩) hS (fun q _ h => hFc q h) hFc (fun u t H1 locs ht hvm hw2 hB hz1 hk1 hS => ?_)
  obtain ⟨g_2, rfl⟩ : ∃ z, z = u := ⟨_, rfl⟩
  obtain ⟨hP1, hK1, hD1⟩ := hB
  rw [ht] at hP1
  have hK1 := va_K.moved hvm.symm hK1
  try dsimp only at hw2
  obtain ⟨hP, hD⟩ := va_join (wr := [(o, .inr (3, [.int sc, .ref b, .ref b2, .ref uq, .ref rq, .int fc, .int qc, .int cu, .int sa, .int aw, .int cg]))]) (w1 := [(b2, .inr (0, [.ref q2])), (q2, .inl (cB2, (512 * nn), .inl g_2))]) hP hD [1, 2] [0] rfl rfl (by decide) (by decide) hk1 hFc hP1 hD1
  generalize H1 = H at hP hS hk1 ⊢
  have hP : va_P (dC, dI) vwCl [(o, .inr (3, [.int sc, .ref b, .ref b2, .ref uq, .ref rq, .int fc, .int qc, .int cu, .int sa, .int aw, .int cg])), (b2, .inr (0, [.ref q2])), (q2, .inl (cB2, (512 * nn), .inl g_2))] H := hP
  have hD : va_D A [(o, .inr (3, [.int sc, .ref b, .ref b2, .ref uq, .ref rq, .int fc, .int qc, .int cu, .int sa, .int aw, .int cg])), (b2, .inr (0, [.ref q2])), (q2, .inl (cB2, (512 * nn), .inl g_2))] := hD
  have hw_3 : g_2 = putS (512 * nn) (cB Dk) x.toInt64 v := hw2
  have hP9 : va_P (dC, dI) vwCl [(o, .inr (3, [.int sc, .ref b, .ref b2, .ref uq, .ref rq, .int fc, .int qc, .int cu, .int sa, .int aw, .int cg])), (b2, .inr (0, [.ref q2])), (q2, .inl (cB2, 512 * nn, .inl g_2))] H := by exact hP.sub (ws' := [(o, .inr (3, [.int sc, .ref b, .ref b2, .ref uq, .ref rq, .int fc, .int qc, .int cu, .int sa, .int aw, .int cg])), (b2, .inr (0, [.ref q2])), (q2, .inl (cB2, (512 * nn), .inl g_2))]) [0, 1, 2] rfl
  have hD9 : va_D A [(o, .inr (3, [.int sc, .ref b, .ref b2, .ref uq, .ref rq, .int fc, .int qc, .int cu, .int sa, .int aw, .int cg])), (b2, .inr (0, [.ref q2])), (q2, .inl (cB2, 512 * nn, .inl g_2))] := by exact hD.sub (ws' := [(o, .inr (3, [.int sc, .ref b, .ref b2, .ref uq, .ref rq, .int fc, .int qc, .int cu, .int sa, .int aw, .int cg])), (b2, .inr (0, [.ref q2])), (q2, .inl (cB2, (512 * nn), .inl g_2))]) [0, 1, 2] (by decide) rfl
  have hK9 := hK.sub (tys' := [(cB2, .byte)]) [0] rfl
  refine vx_ret ?_
  refine W.widen (k := 1) (n := 6) (by omega) (by omega) ?_
  exact W.vret hx hb hr (fun t ht hW => ⟨⟨(g_2), rfl, ⟨hnp, by rw [hw_3]; exact put_np hnp⟩, by rw [ht]; exact hP9, va_K.moved hW.alike hK9, hD9⟩, hS.F ht⟩) hS.2.2 dX3_setDisk_15
set_option maxHeartbeats 4000000 in
set_option maxRecDepth 100000 in
/-- QueueDisk.read -/
theorem d_read (l : Launch) (dC : Nat → ClassId) (dI : Nat → Nat → Nat) (o : Nat) (sc : Int32) (b : Nat) (b2 : Nat) (uq : Nat) (rq : Nat) (fc : Int32) (qc : Int32) (cu : Int32) (sa : Int32) (aw : Int32) (cg : Int32) (sz : Int32) (rd : Int32) (bl : Int64) (of : Int64) (an : Int64) (tk : Int32) (td : Int32) (om : Int32) (oc : Int32) (x : Int32) (zS : Nat) (hst : l.stackTraces = false) : vx_Met l yX3_read wsX3_read ({ frames := 7, cells := 1, slots := 6, locals := 110 }) (va_Pc [.ref o, .int x] (fun U => U.heap.size = zS ∧ va_P (dC, dI) vwCl [(o, .inr (3, [.int sc, .ref b, .ref b2, .ref uq, .ref rq, .int fc, .int qc, .int cu, .int sa, .int aw, .int cg])), (uq, .inr (1, [.int sz, .int rd, .long bl, .long of, .long an, .int tk, .int td, .int om, .int oc]))] U.heap ∧ va_K (dC, dI) vwCl [] U ∧ va_D (fun _ => True) [(o, .inr (3, [.int sc, .ref b, .ref b2, .ref uq, .ref rq, .int fc, .int qc, .int cu, .int sa, .int aw, .int cg])), (uq, .inr (1, [.int sz, .int rd, .long bl, .long of, .long an, .int tk, .int td, .int om, .int oc]))] ∧ ZZ (va_A [(o, .inr (3, [.int sc, .ref b, .ref b2, .ref uq, .ref rq, .int fc, .int qc, .int cu, .int sa, .int aw, .int cg])), (uq, .inr (1, [.int sz, .int rd, .long bl, .long of, .long an, .int tk, .int td, .int om, .int oc]))] zS) U U.heap)) (va_Qi (fun (r : Int32) (_ : Unit) => ¬ noP x ∧ r = rdS x fc qc rd cu sa sc) (fun (_ : Unit) (t : State) => va_P (dC, dI) vwCl [(o, .inr (3, [.int sc, .ref b, .ref b2, .ref uq, .ref rq, .int fc, .int qc, .int cu, .int sa, .int aw, .int cg])), (uq, .inr (1, [.int sz, .int rd, .long bl, .long of, .long an, .int tk, .int td, .int om, .int oc]))] t.heap ∧ va_K (dC, dI) vwCl [] t ∧ va_D (va_A [(o, .inr (3, [.int sc, .ref b, .ref b2, .ref uq, .ref rq, .int fc, .int qc, .int cu, .int sa, .int aw, .int cg])), (uq, .inr (1, [.int sz, .int rd, .long bl, .long of, .long an, .int tk, .int td, .int om, .int oc]))] zS) [(o, .inr (3, [.int sc, .ref b, .ref b2, .ref uq, .ref rq, .int fc, .int qc, .int cu, .int sa, .int aw, .int cg])), (uq, .inr (1, [.int sz, .int rd, .long bl, .long of, .long an, .int tk, .int td, .int om, .int oc]))]) (va_A [(o, .inr (3, [.int sc, .ref b, .ref b2, .ref uq, .ref rq, .int fc, .int qc, .int cu, .int sa, .int aw, .int cg])), (uq, .inr (1, [.int sz, .int rd, .long bl, .long of, .long an, .int tk, .int td, .int om, .int oc]))] zS)) (vx_X (fun (_ : Unit) => True) (fun (E : String) (_ : Unit) (_ : State) => E = eB ∧ noP x) (fun _ => False)) 1 6 (va_A [(o, .inr (3, [.int sc, .ref b, .ref b2, .ref uq, .ref rq, .int fc, .int qc, .int cu, .int sa, .int aw, .int cg])), (uq, .inr (1, [.int sz, .int rd, .long bl, .long of, .long an, .int tk, .int td, .int om, .int oc]))] zS) := by
  refine vx_ofW (cc := cX3_read) (maxL := 2) (ret := (some .int)) (by decide) rfl ?_
  intro p e s m args below meth c s₁ B hml htab hv
  obtain ⟨rfl, hsz, hP, hK, hD0, hZ⟩ := hv
  have hx := B.exec
  have hb := B.bytes
  have hr := B.returns
  have hts := atoms_spec (ws := wsX3_read) B.pre
  have hw : ∀ w ∈ WW, w.before _ s = true := fun w h => hts w (List.mem_cons_of_mem _ h)
  have hown : s.vm.findClass RX3 = some m.cls := findClass_of_methodNamed B.named
  have hlocks := B.notSynchronized
  subst hsz
  have hD := hD0.self (sz := s.heap.size)
  generalize hAe : va_A [(o, .inr (3, [.int sc, .ref b, .ref b2, .ref uq, .ref rq, .int fc, .int qc, .int cu, .int sa, .int aw, .int cg])), (uq, .inr (1, [.int sz, .int rd, .long bl, .long of, .long an, .int tk, .int td, .int om, .int oc]))] s.heap.size = A at hD hZ ⊢
  have hA : ∀ q : Nat, s.heap.size ≤ q → A q := fun q h => by rw [← hAe]; exact Or.inr h
  have hS : va_S A s.heap s.heap [] := va_S.rf
  have hP : va_P (dC, dI) vwCl [(o, .inr (3, [.int sc, .ref b, .ref b2, .ref uq, .ref rq, .int fc, .int qc, .int cu, .int sa, .int aw, .int cg])), (uq, .inr (1, [.int sz, .int rd, .long bl, .long of, .long an, .int tk, .int td, .int om, .int oc]))] s.heap := hP
  have hl := lv_entry ([.ref o, .int x]) (n := 2) (Nat.le_of_ble_eq_true rfl)
  rw [lg_entry_eq]
  generalize (lg_sl ([.ref o, .int x]) ++ List.replicate (2 - (lg_sl ([.ref o, .int x])).length) Slot.unset).toArray = ls at hl ⊢
  have hl : lv_has ls 2 [(0, .ref o), (1, .int x)] := hl
  refine lv_aload_n hx hb dX3_read_0 rfl (lv_at hl 0 rfl) ?_
  refine lv_iload_n hx hb dX3_read_1 rfl (lv_at hl 1 rfl) ?_
  have hPc := hP.sub (ws' := [(o, .inr (3, [.int sc, .ref b, .ref b2, .ref uq, .ref rq, .int fc, .int qc, .int cu, .int sa, .int aw, .int cg]))]) [0] rfl
  have hKc := hK.sub (tys' := []) [] rfl
  have hDc := hD.sub (ws' := [(o, .inr (3, [.int sc, .ref b, .ref b2, .ref uq, .ref rq, .int fc, .int qc, .int cu, .int sa, .int aw, .int cg]))]) [0] (by decide) rfl
  have hFc := va_free (wc := [(o, .inr (3, [.int sc, .ref b, .ref b2, .ref uq, .ref rq, .int fc, .int qc, .int cu, .int sa, .int aw, .int cg]))]) hD hS hA [0] rfl
  have hZc : ZZ (va_A [(o, .inr (3, [.int sc, .ref b, .ref b2, .ref uq, .ref rq, .int fc, .int qc, .int cu, .int sa, .int aw, .int cg]))] s.heap.size) s s.heap := (hZ.kept hS.2.1).narrow hFc
  refine vx_callv (vx_runV (As := [.int x]) (rest := []) ⟨hx, hb, hml, hown, hw⟩ (d_refuseNoRegister l dC dI o sc b b2 uq rq fc qc cu sa aw cg x s.heap.size hst) (cwV 1 hw (gV w_5caa21029e w_c4732795e6 w_ae26f7476a w_106b72596f w_616820ed85) rfl rfl rfl (by decide +kernel) ⟨Nat.le_of_ble_eq_true rfl, Nat.le_of_ble_eq_true rfl⟩) ⟨fun a U g mk q => by obtain ⟨q0, q1, qP, qK, qD, qZ⟩ := q; exact ⟨q0, q1, qP, va_K.moved (u := U) (U := U.calling g mk a) (Vm.Alike.refl U.vm) qK, qD, ZZ.same (u := U) (U := U.calling g mk a) rfl qZ⟩, va_recv hKc hPc (ci := 3) (q0 := 0) rfl rfl, fun U hU hW => ⟨rfl, by rw [hU], by rw [hU]; exact hPc, va_K.moved hW.alike hKc, hDc.weaken (fun _ _ _ _ => trivial), by rw [hU]; exact ZZ.warm hW hZc⟩⟩ rfl rfl hl.1 rfl (lv_room (Nat.le_of_ble_eq_true rfl)) dX3_read_2 ⟨Nat.le_of_ble_eq_true rfl, Nat.le_of_ble_eq_true rfl⟩) hS (fun q _ h => hFc q h) hFc (fun _ _ h => h.elim) (fun E9 ce9 q9 u9 t H1 locs9 ht hvm hpx hbx hz1 hk1 hS9 hce hcv hcl => ?_) (fun u t H1 locs ht hvm hw2 hB hz1 hk1 hS => ?_)
  · skip
    have hbx : E9 = eB ∧ noP x := hbx
    exact vx_out (fun x hx => (htab x hx).elim) hlocks hce hcv hcl (fun t2 ht2 _ => ⟨(), trivial, hbx, by rw [ht2]; exact hz1, fun q hq _ => by rw [ht2]; exact hk1 q hq (fun h => h)⟩) hS9.2.2 (Nat.le_of_ble_eq_true rfl) (Nat.le_of_ble_eq_true rfl)
  obtain ⟨hP1, hK1, hD1⟩ := hB
  rw [ht] at hP1
  have hK1 := va_K.moved hvm.symm hK1
  try dsimp only at hw2
  obtain ⟨hP, hD⟩ := va_join (wr := [(uq, .inr (1, [.int sz, .int rd, .long bl, .long of, .long an, .int tk, .int td, .int om, .int oc]))]) (w1 := [(o, .inr (3, [.int sc, .ref b, .ref b2, .ref uq, .ref rq, .int fc, .int qc, .int cu, .int sa, .int aw, .int cg]))]) hP hD [0] [1] rfl rfl (by decide) (by decide) hk1 hFc hP1 hD1
  generalize H1 = H at hP hS hk1 ⊢
  refine W.cs (cells' := 1) (slots' := 6) (by omega) (by omega) ?_
  have hP : va_P (dC, dI) vwCl [(uq, .inr (1, [.int sz, .int rd, .long bl, .long of, .long an, .int tk, .int td, .int om, .int oc])), (o, .inr (3, [.int sc, .ref b, .ref b2, .ref uq, .ref rq, .int fc, .int qc, .int cu, .int sa, .int aw, .int cg]))] H := hP
  have hD : va_D A [(uq, .inr (1, [.int sz, .int rd, .long bl, .long of, .long an, .int tk, .int td, .int om, .int oc])), (o, .inr (3, [.int sc, .ref b, .ref b2, .ref uq, .ref rq, .int fc, .int qc, .int cu, .int sa, .int aw, .int cg]))] := hD
  have hw_1 : ¬ noP x := hw2
  have hnp := hw_1
  refine lv_iload_n hx hb dX3_read_5 rfl (lv_at hl 1 rfl) ?_
  by_cases c_2 : x = (0 : Int32)
  · skip
    refine lv_lookup (off := 82) (tgt := 88) hx hb dX3_read_6 (by decide) (by rw [c_2]; decide) (by decide) ?_
    refine lv_ldc (v := 1953655158) hx hb hown (hw _ w_5221cb92dd) dX3_read_88 ?_
    have hP9 : va_P (dC, dI) vwCl [(o, .inr (3, [.int sc, .ref b, .ref b2, .ref uq, .ref rq, .int fc, .int qc, .int cu, .int sa, .int aw, .int cg])), (uq, .inr (1, [.int sz, .int rd, .long bl, .long of, .long an, .int tk, .int td, .int om, .int oc]))] H := by exact hP.sub (ws' := [(o, .inr (3, [.int sc, .ref b, .ref b2, .ref uq, .ref rq, .int fc, .int qc, .int cu, .int sa, .int aw, .int cg])), (uq, .inr (1, [.int sz, .int rd, .long bl, .long of, .long an, .int tk, .int td, .int om, .int oc]))]) [1, 0] rfl
    have hD9 : va_D A [(o, .inr (3, [.int sc, .ref b, .ref b2, .ref uq, .ref rq, .int fc, .int qc, .int cu, .int sa, .int aw, .int cg])), (uq, .inr (1, [.int sz, .int rd, .long bl, .long of, .long an, .int tk, .int td, .int om, .int oc]))] := by exact hD.sub (ws' := [(o, .inr (3, [.int sc, .ref b, .ref b2, .ref uq, .ref rq, .int fc, .int qc, .int cu, .int sa, .int aw, .int cg])), (uq, .inr (1, [.int sz, .int rd, .long bl, .long of, .long an, .int tk, .int td, .int om, .int oc]))]) [1, 0] (by decide) rfl
    have hK9 := hK.sub (tys' := []) [] rfl
    refine vx_ret ?_
    refine W.widen (k := 1) (n := 6) (by omega) (by omega) ?_
    exact W.iret (v := 1953655158) hx hb hr (fun t ht hW => ⟨⟨_, (), rfl, ⟨hnp, by unfold rdS; rw [if_pos c_2]⟩, by rw [ht]; exact hP9, va_K.moved hW.alike hK9, hD9⟩, hS.F ht⟩) hS.2.2 dX3_read_90
  · skip
    by_cases c_3 : x = (4 : Int32)
    · skip
      refine lv_lookup (off := 85) (tgt := 91) hx hb dX3_read_6 (by decide) (by rw [c_3]; decide) (by decide) ?_
      refine lv_iconst (v := 2) hx hb dX3_read_91 (by decide) ?_
      have hP9 : va_P (dC, dI) vwCl [(o, .inr (3, [.int sc, .ref b, .ref b2, .ref uq, .ref rq, .int fc, .int qc, .int cu, .int sa, .int aw, .int cg])), (uq, .inr (1, [.int sz, .int rd, .long bl, .long of, .long an, .int tk, .int td, .int om, .int oc]))] H := by exact hP.sub (ws' := [(o, .inr (3, [.int sc, .ref b, .ref b2, .ref uq, .ref rq, .int fc, .int qc, .int cu, .int sa, .int aw, .int cg])), (uq, .inr (1, [.int sz, .int rd, .long bl, .long of, .long an, .int tk, .int td, .int om, .int oc]))]) [1, 0] rfl
      have hD9 : va_D A [(o, .inr (3, [.int sc, .ref b, .ref b2, .ref uq, .ref rq, .int fc, .int qc, .int cu, .int sa, .int aw, .int cg])), (uq, .inr (1, [.int sz, .int rd, .long bl, .long of, .long an, .int tk, .int td, .int om, .int oc]))] := by exact hD.sub (ws' := [(o, .inr (3, [.int sc, .ref b, .ref b2, .ref uq, .ref rq, .int fc, .int qc, .int cu, .int sa, .int aw, .int cg])), (uq, .inr (1, [.int sz, .int rd, .long bl, .long of, .long an, .int tk, .int td, .int om, .int oc]))]) [1, 0] (by decide) rfl
      have hK9 := hK.sub (tys' := []) [] rfl
      refine vx_ret ?_
      refine W.widen (k := 1) (n := 6) (by omega) (by omega) ?_
      exact W.iret (v := 2) hx hb hr (fun t ht hW => ⟨⟨_, (), rfl, ⟨hnp, by unfold rdS; rw [if_neg c_2, if_pos c_3]⟩, by rw [ht]; exact hP9, va_K.moved hW.alike hK9, hD9⟩, hS.F ht⟩) hS.2.2 dX3_read_92
    · skip
      by_cases c_4 : x = (8 : Int32)
      · skip
        refine lv_lookup (off := 85) (tgt := 91) hx hb dX3_read_6 (by decide) (by rw [c_4]; decide) (by decide) ?_
        refine lv_iconst (v := 2) hx hb dX3_read_91 (by decide) ?_
        have hP9 : va_P (dC, dI) vwCl [(o, .inr (3, [.int sc, .ref b, .ref b2, .ref uq, .ref rq, .int fc, .int qc, .int cu, .int sa, .int aw, .int cg])), (uq, .inr (1, [.int sz, .int rd, .long bl, .long of, .long an, .int tk, .int td, .int om, .int oc]))] H := by exact hP.sub (ws' := [(o, .inr (3, [.int sc, .ref b, .ref b2, .ref uq, .ref rq, .int fc, .int qc, .int cu, .int sa, .int aw, .int cg])), (uq, .inr (1, [.int sz, .int rd, .long bl, .long of, .long an, .int tk, .int td, .int om, .int oc]))]) [1, 0] rfl
        have hD9 : va_D A [(o, .inr (3, [.int sc, .ref b, .ref b2, .ref uq, .ref rq, .int fc, .int qc, .int cu, .int sa, .int aw, .int cg])), (uq, .inr (1, [.int sz, .int rd, .long bl, .long of, .long an, .int tk, .int td, .int om, .int oc]))] := by exact hD.sub (ws' := [(o, .inr (3, [.int sc, .ref b, .ref b2, .ref uq, .ref rq, .int fc, .int qc, .int cu, .int sa, .int aw, .int cg])), (uq, .inr (1, [.int sz, .int rd, .long bl, .long of, .long an, .int tk, .int td, .int om, .int oc]))]) [1, 0] (by decide) rfl
        have hK9 := hK.sub (tys' := []) [] rfl
        refine vx_ret ?_
        refine W.widen (k := 1) (n := 6) (by omega) (by omega) ?_
        exact W.iret (v := 2) hx hb hr (fun t ht hW => ⟨⟨_, (), rfl, ⟨hnp, by unfold rdS; rw [if_neg c_2, if_neg c_3, if_pos c_4]⟩, by rw [ht]; exact hP9, va_K.moved hW.alike hK9, hD9⟩, hS.F ht⟩) hS.2.2 dX3_read_92
      · skip
        by_cases c_5 : x = (16 : Int32)
        · skip
          refine lv_lookup (off := 87) (tgt := 93) hx hb dX3_read_6 (by decide) (by rw [c_5]; decide) (by decide) ?_
          refine lv_aload_n hx hb dX3_read_93 rfl (lv_at hl 0 rfl) ?_
          have hPc := hP.sub (ws' := [(o, .inr (3, [.int sc, .ref b, .ref b2, .ref uq, .ref rq, .int fc, .int qc, .int cu, .int sa, .int aw, .int cg]))]) [1] rfl
          have hKc := hK.sub (tys' := []) [] rfl
          have hZc := (hZ.kept hS.2.1).narrow (B := fun _ => False) (fun _ h => h.elim)
          refine vp_callSi (va_runV (As := []) (rest := []) ⟨hx, hb, hml, hown, hw⟩ (d_offeredWord l dC dI o sc b b2 uq rq fc qc cu sa aw cg) (cwV 0 hw (gV w_0c03b8476c w_5593e2d2bd w_a67bf3ea62 w_106b72596f w_b1d700018f) rfl rfl rfl (by decide +kernel) ⟨Nat.le_of_ble_eq_true rfl, Nat.le_of_ble_eq_true rfl⟩) ⟨fun a U g mk q => by obtain ⟨q0, qP, qK, qZ⟩ := q; exact ⟨q0, qP, va_K.moved (u := U) (U := U.calling g mk a) (Vm.Alike.refl U.vm) qK, ZZ.same (u := U) (U := U.calling g mk a) rfl qZ⟩, va_recv hKc hPc (ci := 3) (q0 := 0) rfl rfl, fun U hU hW => ⟨rfl, by rw [hU]; exact hPc, va_K.moved hW.alike hKc, by rw [hU]; exact ZZ.warm hW hZc⟩⟩ rfl rfl hl.1 rfl (lv_room (Nat.le_of_ble_eq_true rfl)) dX3_read_94 ⟨Nat.le_of_ble_eq_true rfl, Nat.le_of_ble_eq_true rfl⟩).run (fun r_6 hr_6 => ?_)
          have hr_6 : r_6 = if fc = 0 then 512 else if fc = 1 then 1 else 0 := hr_6
          have hP9 : va_P (dC, dI) vwCl [(o, .inr (3, [.int sc, .ref b, .ref b2, .ref uq, .ref rq, .int fc, .int qc, .int cu, .int sa, .int aw, .int cg])), (uq, .inr (1, [.int sz, .int rd, .long bl, .long of, .long an, .int tk, .int td, .int om, .int oc]))] H := by exact hP.sub (ws' := [(o, .inr (3, [.int sc, .ref b, .ref b2, .ref uq, .ref rq, .int fc, .int qc, .int cu, .int sa, .int aw, .int cg])), (uq, .inr (1, [.int sz, .int rd, .long bl, .long of, .long an, .int tk, .int td, .int om, .int oc]))]) [1, 0] rfl
          have hD9 : va_D A [(o, .inr (3, [.int sc, .ref b, .ref b2, .ref uq, .ref rq, .int fc, .int qc, .int cu, .int sa, .int aw, .int cg])), (uq, .inr (1, [.int sz, .int rd, .long bl, .long of, .long an, .int tk, .int td, .int om, .int oc]))] := by exact hD.sub (ws' := [(o, .inr (3, [.int sc, .ref b, .ref b2, .ref uq, .ref rq, .int fc, .int qc, .int cu, .int sa, .int aw, .int cg])), (uq, .inr (1, [.int sz, .int rd, .long bl, .long of, .long an, .int tk, .int td, .int om, .int oc]))]) [1, 0] (by decide) rfl
          have hK9 := hK.sub (tys' := []) [] rfl
          refine vx_ret ?_
          refine W.widen (k := 1) (n := 6) (by omega) (by omega) ?_
          exact W.iret (v := r_6) hx hb hr (fun t ht hW => ⟨⟨_, (), rfl, ⟨hnp, by rw [hr_6]; unfold rdS; rw [if_neg c_2, if_neg c_3, if_neg c_4, if_pos c_5]⟩, by rw [ht]; exact hP9, va_K.moved hW.alike hK9, hD9⟩, hS.F ht⟩) hS.2.2 dX3_read_97
        · skip
          by_cases c_7 : x = (52 : Int32)
          · skip
            refine lv_lookup (off := 92) (tgt := 98) hx hb dX3_read_6 (by decide) (by rw [c_7]; decide) (by decide) ?_
            refine lv_aload_n hx hb dX3_read_98 rfl (lv_at hl 0 rfl) ?_
            refine va_get (D := (dC, dI)) (ci := 3) (v := .int qc) (C := RX3) (T := TX3) (N := 11) hx hb hw inX3 hown hK hP 1 rfl rfl 6 (by decide) (hw _ w_3e6a9d4c7b) (fun _ h9 => h9) rfl dX3_read_99 ?_
            refine lv_if_ne (tgt := 110) hx hb dX3_read_102 (by decide) (fun c_8 => ?_) (fun c_8 => ?_)
            · skip
              refine lv_iconst (v := 0) hx hb dX3_read_110 (by decide) ?_
              have hP9 : va_P (dC, dI) vwCl [(o, .inr (3, [.int sc, .ref b, .ref b2, .ref uq, .ref rq, .int fc, .int qc, .int cu, .int sa, .int aw, .int cg])), (uq, .inr (1, [.int sz, .int rd, .long bl, .long of, .long an, .int tk, .int td, .int om, .int oc]))] H := by exact hP.sub (ws' := [(o, .inr (3, [.int sc, .ref b, .ref b2, .ref uq, .ref rq, .int fc, .int qc, .int cu, .int sa, .int aw, .int cg])), (uq, .inr (1, [.int sz, .int rd, .long bl, .long of, .long an, .int tk, .int td, .int om, .int oc]))]) [1, 0] rfl
              have hD9 : va_D A [(o, .inr (3, [.int sc, .ref b, .ref b2, .ref uq, .ref rq, .int fc, .int qc, .int cu, .int sa, .int aw, .int cg])), (uq, .inr (1, [.int sz, .int rd, .long bl, .long of, .long an, .int tk, .int td, .int om, .int oc]))] := by exact hD.sub (ws' := [(o, .inr (3, [.int sc, .ref b, .ref b2, .ref uq, .ref rq, .int fc, .int qc, .int cu, .int sa, .int aw, .int cg])), (uq, .inr (1, [.int sz, .int rd, .long bl, .long of, .long an, .int tk, .int td, .int om, .int oc]))]) [1, 0] (by decide) rfl
              have hK9 := hK.sub (tys' := []) [] rfl
              refine vx_ret ?_
              refine W.widen (k := 1) (n := 6) (by omega) (by omega) ?_
              exact W.iret (v := 0) hx hb hr (fun t ht hW => ⟨⟨_, (), rfl, ⟨hnp, by unfold rdS; rw [if_neg c_2, if_neg c_3, if_neg c_4, if_neg c_5, if_pos c_7, if_neg c_8]⟩, by rw [ht]; exact hP9, va_K.moved hW.alike hK9, hD9⟩, hS.F ht⟩) hS.2.2 dX3_read_111
            · skip
              refine lv_bipush (v := 16) hx hb dX3_read_105 (by decide) ?_
              refine lv_goto (tgt := 111) hx hb dX3_read_107 (by decide) ?_
              have hP9 : va_P (dC, dI) vwCl [(o, .inr (3, [.int sc, .ref b, .ref b2, .ref uq, .ref rq, .int fc, .int qc, .int cu, .int sa, .int aw, .int cg])), (uq, .inr (1, [.int sz, .int rd, .long bl, .long of, .long an, .int tk, .int td, .int om, .int oc]))] H := by exact hP.sub (ws' := [(o, .inr (3, [.int sc, .ref b, .ref b2, .ref uq, .ref rq, .int fc, .int qc, .int cu, .int sa, .int aw, .int cg])), (uq, .inr (1, [.int sz, .int rd, .long bl, .long of, .long an, .int tk, .int td, .int om, .int oc]))]) [1, 0] rfl
              have hD9 : va_D A [(o, .inr (3, [.int sc, .ref b, .ref b2, .ref uq, .ref rq, .int fc, .int qc, .int cu, .int sa, .int aw, .int cg])), (uq, .inr (1, [.int sz, .int rd, .long bl, .long of, .long an, .int tk, .int td, .int om, .int oc]))] := by exact hD.sub (ws' := [(o, .inr (3, [.int sc, .ref b, .ref b2, .ref uq, .ref rq, .int fc, .int qc, .int cu, .int sa, .int aw, .int cg])), (uq, .inr (1, [.int sz, .int rd, .long bl, .long of, .long an, .int tk, .int td, .int om, .int oc]))]) [1, 0] (by decide) rfl
              have hK9 := hK.sub (tys' := []) [] rfl
              refine vx_ret ?_
              refine W.widen (k := 1) (n := 6) (by omega) (by omega) ?_
              exact W.iret (v := 16) hx hb hr (fun t ht hW => ⟨⟨_, (), rfl, ⟨hnp, by unfold rdS; rw [if_neg c_2, if_neg c_3, if_neg c_4, if_neg c_5, if_pos c_7, if_pos c_8]⟩, by rw [ht]; exact hP9, va_K.moved hW.alike hK9, hD9⟩, hS.F ht⟩) hS.2.2 dX3_read_111
          · skip
            by_cases c_9 : x = (68 : Int32)
            · skip
              refine lv_lookup (off := 106) (tgt := 112) hx hb dX3_read_6 (by decide) (by rw [c_9]; decide) (by decide) ?_
              refine lv_aload_n hx hb dX3_read_112 rfl (lv_at hl 0 rfl) ?_
              refine va_get (D := (dC, dI)) (ci := 3) (v := .ref uq) (C := RX3) (T := TX3) (N := 11) hx hb hw inX3 hown hK hP 1 rfl rfl 3 (by decide) (hw _ w_be4edc18b4) (fun _ h9 => h9) rfl dX3_read_113 ?_
              refine va_getN (D := (dC, dI)) (ci := 1) (v := .int rd) (C := RX1) (T := TX1) (N := 9) hx hb hw inX1 hown hK hP 0 rfl rfl 1 (by decide) ((hZ.1 _ (List.mem_of_getElem? (i := 3) rfl)).use rfl) (fun _ h9 => h9) rfl dX3_read_116 ?_
              refine lv_if_eq (tgt := 133) hx hb dX3_read_119 (by decide) (fun c_10 => ?_) (fun c_10 => ?_)
              · skip
                refine lv_iconst (v := 0) hx hb dX3_read_133 (by decide) ?_
                have hP9 : va_P (dC, dI) vwCl [(o, .inr (3, [.int sc, .ref b, .ref b2, .ref uq, .ref rq, .int fc, .int qc, .int cu, .int sa, .int aw, .int cg])), (uq, .inr (1, [.int sz, .int rd, .long bl, .long of, .long an, .int tk, .int td, .int om, .int oc]))] H := by exact hP.sub (ws' := [(o, .inr (3, [.int sc, .ref b, .ref b2, .ref uq, .ref rq, .int fc, .int qc, .int cu, .int sa, .int aw, .int cg])), (uq, .inr (1, [.int sz, .int rd, .long bl, .long of, .long an, .int tk, .int td, .int om, .int oc]))]) [1, 0] rfl
                have hD9 : va_D A [(o, .inr (3, [.int sc, .ref b, .ref b2, .ref uq, .ref rq, .int fc, .int qc, .int cu, .int sa, .int aw, .int cg])), (uq, .inr (1, [.int sz, .int rd, .long bl, .long of, .long an, .int tk, .int td, .int om, .int oc]))] := by exact hD.sub (ws' := [(o, .inr (3, [.int sc, .ref b, .ref b2, .ref uq, .ref rq, .int fc, .int qc, .int cu, .int sa, .int aw, .int cg])), (uq, .inr (1, [.int sz, .int rd, .long bl, .long of, .long an, .int tk, .int td, .int om, .int oc]))]) [1, 0] (by decide) rfl
                have hK9 := hK.sub (tys' := []) [] rfl
                refine vx_ret ?_
                refine W.widen (k := 1) (n := 6) (by omega) (by omega) ?_
                exact W.iret (v := 0) hx hb hr (fun t ht hW => ⟨⟨_, (), rfl, ⟨hnp, by unfold rdS; rw [if_neg c_2, if_neg c_3, if_neg c_4, if_neg c_5, if_neg c_7, if_pos c_9, if_pos c_10]⟩, by rw [ht]; exact hP9, va_K.moved hW.alike hK9, hD9⟩, hS.F ht⟩) hS.2.2 dX3_read_134
              · skip
                refine lv_aload_n hx hb dX3_read_122 rfl (lv_at hl 0 rfl) ?_
                refine va_get (D := (dC, dI)) (ci := 3) (v := .int qc) (C := RX3) (T := TX3) (N := 11) hx hb hw inX3 hown hK hP 1 rfl rfl 6 (by decide) (hw _ w_3e6a9d4c7b) (fun _ h9 => h9) rfl dX3_read_123 ?_
                refine lv_if_ne (tgt := 133) hx hb dX3_read_126 (by decide) (fun c_11 => ?_) (fun c_11 => ?_)
                · skip
                  refine lv_iconst (v := 0) hx hb dX3_read_133 (by decide) ?_
                  have hP9 : va_P (dC, dI) vwCl [(o, .inr (3, [.int sc, .ref b, .ref b2, .ref uq, .ref rq, .int fc, .int qc, .int cu, .int sa, .int aw, .int cg])), (uq, .inr (1, [.int sz, .int rd, .long bl, .long of, .long an, .int tk, .int td, .int om, .int oc]))] H := by exact hP.sub (ws' := [(o, .inr (3, [.int sc, .ref b, .ref b2, .ref uq, .ref rq, .int fc, .int qc, .int cu, .int sa, .int aw, .int cg])), (uq, .inr (1, [.int sz, .int rd, .long bl, .long of, .long an, .int tk, .int td, .int om, .int oc]))]) [1, 0] rfl
                  have hD9 : va_D A [(o, .inr (3, [.int sc, .ref b, .ref b2, .ref uq, .ref rq, .int fc, .int qc, .int cu, .int sa, .int aw, .int cg])), (uq, .inr (1, [.int sz, .int rd, .long bl, .long of, .long an, .int tk, .int td, .int om, .int oc]))] := by exact hD.sub (ws' := [(o, .inr (3, [.int sc, .ref b, .ref b2, .ref uq, .ref rq, .int fc, .int qc, .int cu, .int sa, .int aw, .int cg])), (uq, .inr (1, [.int sz, .int rd, .long bl, .long of, .long an, .int tk, .int td, .int om, .int oc]))]) [1, 0] (by decide) rfl
                  have hK9 := hK.sub (tys' := []) [] rfl
                  refine vx_ret ?_
                  refine W.widen (k := 1) (n := 6) (by omega) (by omega) ?_
                  exact W.iret (v := 0) hx hb hr (fun t ht hW => ⟨⟨_, (), rfl, ⟨hnp, by unfold rdS; rw [if_neg c_2, if_neg c_3, if_neg c_4, if_neg c_5, if_neg c_7, if_pos c_9, if_neg c_10, if_neg c_11]⟩, by rw [ht]; exact hP9, va_K.moved hW.alike hK9, hD9⟩, hS.F ht⟩) hS.2.2 dX3_read_134
                · skip
                  refine lv_iconst (v := 1) hx hb dX3_read_129 (by decide) ?_
                  refine lv_goto (tgt := 134) hx hb dX3_read_130 (by decide) ?_
                  have hP9 : va_P (dC, dI) vwCl [(o, .inr (3, [.int sc, .ref b, .ref b2, .ref uq, .ref rq, .int fc, .int qc, .int cu, .int sa, .int aw, .int cg])), (uq, .inr (1, [.int sz, .int rd, .long bl, .long of, .long an, .int tk, .int td, .int om, .int oc]))] H := by exact hP.sub (ws' := [(o, .inr (3, [.int sc, .ref b, .ref b2, .ref uq, .ref rq, .int fc, .int qc, .int cu, .int sa, .int aw, .int cg])), (uq, .inr (1, [.int sz, .int rd, .long bl, .long of, .long an, .int tk, .int td, .int om, .int oc]))]) [1, 0] rfl
                  have hD9 : va_D A [(o, .inr (3, [.int sc, .ref b, .ref b2, .ref uq, .ref rq, .int fc, .int qc, .int cu, .int sa, .int aw, .int cg])), (uq, .inr (1, [.int sz, .int rd, .long bl, .long of, .long an, .int tk, .int td, .int om, .int oc]))] := by exact hD.sub (ws' := [(o, .inr (3, [.int sc, .ref b, .ref b2, .ref uq, .ref rq, .int fc, .int qc, .int cu, .int sa, .int aw, .int cg])), (uq, .inr (1, [.int sz, .int rd, .long bl, .long of, .long an, .int tk, .int td, .int om, .int oc]))]) [1, 0] (by decide) rfl
                  have hK9 := hK.sub (tys' := []) [] rfl
                  refine vx_ret ?_
                  refine W.widen (k := 1) (n := 6) (by omega) (by omega) ?_
                  exact W.iret (v := 1) hx hb hr (fun t ht hW => ⟨⟨_, (), rfl, ⟨hnp, by unfold rdS; rw [if_neg c_2, if_neg c_3, if_neg c_4, if_neg c_5, if_neg c_7, if_pos c_9, if_neg c_10, if_pos c_11]⟩, by rw [ht]; exact hP9, va_K.moved hW.alike hK9, hD9⟩, hS.F ht⟩) hS.2.2 dX3_read_134
            · skip
              by_cases c_12 : x = (96 : Int32)
              · skip
                refine lv_lookup (off := 129) (tgt := 135) hx hb dX3_read_6 (by decide) (by rw [c_12]; decide) (by decide) ?_
                refine lv_aload_n hx hb dX3_read_135 rfl (lv_at hl 0 rfl) ?_
                refine va_get (D := (dC, dI)) (ci := 3) (v := .int cu) (C := RX3) (T := TX3) (N := 11) hx hb hw inX3 hown hK hP 1 rfl rfl 7 (by decide) (hw _ w_a5d7e13dd3) (fun _ h9 => h9) rfl dX3_read_136 ?_
                have hP9 : va_P (dC, dI) vwCl [(o, .inr (3, [.int sc, .ref b, .ref b2, .ref uq, .ref rq, .int fc, .int qc, .int cu, .int sa, .int aw, .int cg])), (uq, .inr (1, [.int sz, .int rd, .long bl, .long of, .long an, .int tk, .int td, .int om, .int oc]))] H := by exact hP.sub (ws' := [(o, .inr (3, [.int sc, .ref b, .ref b2, .ref uq, .ref rq, .int fc, .int qc, .int cu, .int sa, .int aw, .int cg])), (uq, .inr (1, [.int sz, .int rd, .long bl, .long of, .long an, .int tk, .int td, .int om, .int oc]))]) [1, 0] rfl
                have hD9 : va_D A [(o, .inr (3, [.int sc, .ref b, .ref b2, .ref uq, .ref rq, .int fc, .int qc, .int cu, .int sa, .int aw, .int cg])), (uq, .inr (1, [.int sz, .int rd, .long bl, .long of, .long an, .int tk, .int td, .int om, .int oc]))] := by exact hD.sub (ws' := [(o, .inr (3, [.int sc, .ref b, .ref b2, .ref uq, .ref rq, .int fc, .int qc, .int cu, .int sa, .int aw, .int cg])), (uq, .inr (1, [.int sz, .int rd, .long bl, .long of, .long an, .int tk, .int td, .int om, .int oc]))]) [1, 0] (by decide) rfl
                have hK9 := hK.sub (tys' := []) [] rfl
                refine vx_ret ?_
                refine W.widen (k := 1) (n := 6) (by omega) (by omega) ?_
                exact W.iret (v := cu) hx hb hr (fun t ht hW => ⟨⟨_, (), rfl, ⟨hnp, by unfold rdS; rw [if_neg c_2, if_neg c_3, if_neg c_4, if_neg c_5, if_neg c_7, if_neg c_9, if_pos c_12]⟩, by rw [ht]; exact hP9, va_K.moved hW.alike hK9, hD9⟩, hS.F ht⟩) hS.2.2 dX3_read_139
              · skip
                by_cases c_13 : x = (112 : Int32)
                · skip
                  refine lv_lookup (off := 134) (tgt := 140) hx hb dX3_read_6 (by decide) (by rw [c_13]; decide) (by decide) ?_
                  refine lv_aload_n hx hb dX3_read_140 rfl (lv_at hl 0 rfl) ?_
                  refine va_get (D := (dC, dI)) (ci := 3) (v := .int sa) (C := RX3) (T := TX3) (N := 11) hx hb hw inX3 hown hK hP 1 rfl rfl 8 (by decide) (hw _ w_45d7c9e8af) (fun _ h9 => h9) rfl dX3_read_141 ?_
                  have hP9 : va_P (dC, dI) vwCl [(o, .inr (3, [.int sc, .ref b, .ref b2, .ref uq, .ref rq, .int fc, .int qc, .int cu, .int sa, .int aw, .int cg])), (uq, .inr (1, [.int sz, .int rd, .long bl, .long of, .long an, .int tk, .int td, .int om, .int oc]))] H := by exact hP.sub (ws' := [(o, .inr (3, [.int sc, .ref b, .ref b2, .ref uq, .ref rq, .int fc, .int qc, .int cu, .int sa, .int aw, .int cg])), (uq, .inr (1, [.int sz, .int rd, .long bl, .long of, .long an, .int tk, .int td, .int om, .int oc]))]) [1, 0] rfl
                  have hD9 : va_D A [(o, .inr (3, [.int sc, .ref b, .ref b2, .ref uq, .ref rq, .int fc, .int qc, .int cu, .int sa, .int aw, .int cg])), (uq, .inr (1, [.int sz, .int rd, .long bl, .long of, .long an, .int tk, .int td, .int om, .int oc]))] := by exact hD.sub (ws' := [(o, .inr (3, [.int sc, .ref b, .ref b2, .ref uq, .ref rq, .int fc, .int qc, .int cu, .int sa, .int aw, .int cg])), (uq, .inr (1, [.int sz, .int rd, .long bl, .long of, .long an, .int tk, .int td, .int om, .int oc]))]) [1, 0] (by decide) rfl
                  have hK9 := hK.sub (tys' := []) [] rfl
                  refine vx_ret ?_
                  refine W.widen (k := 1) (n := 6) (by omega) (by omega) ?_
                  exact W.iret (v := sa) hx hb hr (fun t ht hW => ⟨⟨_, (), rfl, ⟨hnp, by unfold rdS; rw [if_neg c_2, if_neg c_3, if_neg c_4, if_neg c_5, if_neg c_7, if_neg c_9, if_neg c_12, if_pos c_13]⟩, by rw [ht]; exact hP9, va_K.moved hW.alike hK9, hD9⟩, hS.F ht⟩) hS.2.2 dX3_read_144
                · skip
                  by_cases c_14 : x = (256 : Int32)
                  · skip
                    refine lv_lookup (off := 139) (tgt := 145) hx hb dX3_read_6 (by decide) (by rw [c_14]; decide) (by decide) ?_
                    refine lv_aload_n hx hb dX3_read_145 rfl (lv_at hl 0 rfl) ?_
                    refine va_get (D := (dC, dI)) (ci := 3) (v := .int sc) (C := RX3) (T := TX3) (N := 11) hx hb hw inX3 hown hK hP 1 rfl rfl 0 (by decide) (hw _ w_0715ce2be7) (fun _ h9 => h9) rfl dX3_read_146 ?_
                    have hP9 : va_P (dC, dI) vwCl [(o, .inr (3, [.int sc, .ref b, .ref b2, .ref uq, .ref rq, .int fc, .int qc, .int cu, .int sa, .int aw, .int cg])), (uq, .inr (1, [.int sz, .int rd, .long bl, .long of, .long an, .int tk, .int td, .int om, .int oc]))] H := by exact hP.sub (ws' := [(o, .inr (3, [.int sc, .ref b, .ref b2, .ref uq, .ref rq, .int fc, .int qc, .int cu, .int sa, .int aw, .int cg])), (uq, .inr (1, [.int sz, .int rd, .long bl, .long of, .long an, .int tk, .int td, .int om, .int oc]))]) [1, 0] rfl
                    have hD9 : va_D A [(o, .inr (3, [.int sc, .ref b, .ref b2, .ref uq, .ref rq, .int fc, .int qc, .int cu, .int sa, .int aw, .int cg])), (uq, .inr (1, [.int sz, .int rd, .long bl, .long of, .long an, .int tk, .int td, .int om, .int oc]))] := by exact hD.sub (ws' := [(o, .inr (3, [.int sc, .ref b, .ref b2, .ref uq, .ref rq, .int fc, .int qc, .int cu, .int sa, .int aw, .int cg])), (uq, .inr (1, [.int sz, .int rd, .long bl, .long of, .long an, .int tk, .int td, .int om, .int oc]))]) [1, 0] (by decide) rfl
                    have hK9 := hK.sub (tys' := []) [] rfl
                    refine vx_ret ?_
                    refine W.widen (k := 1) (n := 6) (by omega) (by omega) ?_
                    exact W.iret (v := sc) hx hb hr (fun t ht hW => ⟨⟨_, (), rfl, ⟨hnp, by unfold rdS; rw [if_neg c_2, if_neg c_3, if_neg c_4, if_neg c_5, if_neg c_7, if_neg c_9, if_neg c_12, if_neg c_13, if_pos c_14]⟩, by rw [ht]; exact hP9, va_K.moved hW.alike hK9, hD9⟩, hS.F ht⟩) hS.2.2 dX3_read_149
                  · skip
                    refine lv_lookup (off := 144) (tgt := 150) hx hb dX3_read_6 (by decide) (show Op.lookupswitch.offset [(0, 82), (4, 85), (8, 85), (16, 87), (52, 92), (68, 106), (96, 129), (112, 134), (256, 139)] 144 (x).toInt = 144 by rw [lv_osw c_2 (by decide), lv_osw c_3 (by decide), lv_osw c_4 (by decide), lv_osw c_5 (by decide), lv_osw c_7 (by decide), lv_osw c_9 (by decide), lv_osw c_12 (by decide), lv_osw c_13 (by decide), lv_osw c_14 (by decide)]; rfl) (by decide) ?_
                    refine lv_iconst (v := 0) hx hb dX3_read_150 (by decide) ?_
                    have hP9 : va_P (dC, dI) vwCl [(o, .inr (3, [.int sc, .ref b, .ref b2, .ref uq, .ref rq, .int fc, .int qc, .int cu, .int sa, .int aw, .int cg])), (uq, .inr (1, [.int sz, .int rd, .long bl, .long of, .long an, .int tk, .int td, .int om, .int oc]))] H := by exact hP.sub (ws' := [(o, .inr (3, [.int sc, .ref b, .ref b2, .ref uq, .ref rq, .int fc, .int qc, .int cu, .int sa, .int aw, .int cg])), (uq, .inr (1, [.int sz, .int rd, .long bl, .long of, .long an, .int tk, .int td, .int om, .int oc]))]) [1, 0] rfl
                    have hD9 : va_D A [(o, .inr (3, [.int sc, .ref b, .ref b2, .ref uq, .ref rq, .int fc, .int qc, .int cu, .int sa, .int aw, .int cg])), (uq, .inr (1, [.int sz, .int rd, .long bl, .long of, .long an, .int tk, .int td, .int om, .int oc]))] := by exact hD.sub (ws' := [(o, .inr (3, [.int sc, .ref b, .ref b2, .ref uq, .ref rq, .int fc, .int qc, .int cu, .int sa, .int aw, .int cg])), (uq, .inr (1, [.int sz, .int rd, .long bl, .long of, .long an, .int tk, .int td, .int om, .int oc]))]) [1, 0] (by decide) rfl
                    have hK9 := hK.sub (tys' := []) [] rfl
                    refine vx_ret ?_
                    refine W.widen (k := 1) (n := 6) (by omega) (by omega) ?_
                    exact W.iret (v := 0) hx hb hr (fun t ht hW => ⟨⟨_, (), rfl, ⟨hnp, by unfold rdS; rw [if_neg c_2, if_neg c_3, if_neg c_4, if_neg c_5, if_neg c_7, if_neg c_9, if_neg c_12, if_neg c_13, if_neg c_14]⟩, by rw [ht]; exact hP9, va_K.moved hW.alike hK9, hD9⟩, hS.F ht⟩) hS.2.2 dX3_read_151
