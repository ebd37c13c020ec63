set_option maxHeartbeats 4000000 in
set_option maxRecDepth 100000 in
/-- Bytes.holds -/
theorem c_holds (l : Launch) (dC : Nat → ClassId) (dI : Nat → Nat → Nat) (b : Nat) (q : Nat) (cB_ : ClassId) (n : Nat) (f : Nat → Int32) (pl : Int64) (ct : Int64) (hn : n < 2 ^ 31) : Met l yX0_holds wsX0_holds ({ frames := 0, cells := 0, slots := 0, locals := 0 }) (va_Pc [.ref b, .long pl, .long ct] (fun U => va_P (dC, dI) vwCl [(b, .inr (0, [.ref q])), (q, .inl (cB_, n, .inl f))] U.heap ∧ va_K (dC, dI) vwCl [(cB_, .byte)] U ∧ ZZ (fun _ => False) U U.heap)) (vp_Si (fun r => r = bI (hoP n pl ct))) 0 0 (fun _ => False) := by
  refine Met.ofW (cc := cX0_holds) (maxL := 5) (ret := (some .boolean)) (by decide) rfl ?_
  intro p e s m args below meth c s₁ B hml hv
  obtain ⟨rfl, hP, hK, hZ⟩ := hv
  have hx := B.exec
  have hb := B.bytes
  have hr := B.returns
  have hts := atoms_spec (ws := wsX0_holds) B.pre
  have hw : ∀ w ∈ WW, w.before _ s = true := fun w h => hts w (List.mem_cons_of_mem _ h)
  have hown : s.vm.findClass RX0 = some m.cls := findClass_of_methodNamed B.named
  have hlocks := B.notSynchronized
  have hl := lv_entry ([.ref b, .long pl, .long ct]) (n := 5) (Nat.le_of_ble_eq_true rfl)
  rw [lg_entry_eq]
  generalize (lg_sl ([.ref b, .long pl, .long ct]) ++ List.replicate (5 - (lg_sl ([.ref b, .long pl, .long ct])).length) Slot.unset).toArray = ls at hl ⊢
  have hl : lv_has ls 5 [(0, .ref b), (1, .long pl), (3, .long ct)] := hl
  refine lv_lload_n hx hb dX0_holds_0 rfl (lv_at hl 1 rfl) ?_
  refine lv_lconst (v := 0) hx hb dX0_holds_1 (by decide) ?_
  refine W.lcmp hx hb dX0_holds_2 ?_
  refine lv_if_lt (tgt := 40) hx hb dX0_holds_3 (by decide) (fun c_1 => ?_) (fun c_1 => ?_)
  · skip
    refine lv_iconst (v := 0) hx hb dX0_holds_40 (by decide) ?_
    exact W.zret (v := 0) hx hb hr rfl (fun t ht hW => ⟨_, rfl, (bI_f (ho_n1 c_1)).symm, ht⟩) t_nil dX0_holds_41
  · skip
    refine lv_lload_n hx hb dX0_holds_6 rfl (lv_at hl 2 rfl) ?_
    refine lv_lconst (v := 0) hx hb dX0_holds_7 (by decide) ?_
    refine W.lcmp hx hb dX0_holds_8 ?_
    refine lv_if_lt (tgt := 40) hx hb dX0_holds_9 (by decide) (fun c_2 => ?_) (fun c_2 => ?_)
    · skip
      refine lv_iconst (v := 0) hx hb dX0_holds_40 (by decide) ?_
      exact W.zret (v := 0) hx hb hr rfl (fun t ht hW => ⟨_, rfl, (bI_f (ho_n2 c_2)).symm, ht⟩) t_nil dX0_holds_41
    · skip
      refine lv_lload_n hx hb dX0_holds_12 rfl (lv_at hl 2 rfl) ?_
      refine lv_aload_n hx hb dX0_holds_13 rfl (lv_at hl 0 rfl) ?_
      refine va_get (D := (dC, dI)) (ci := 0) (v := .ref q) (C := RX0) (T := TX0) (N := 1) hx hb hw inX0 hown hK hP 0 rfl rfl 0 (by decide) (hw _ w_dc5be6518e) (fun _ h9 => h9) rfl dX0_holds_14 ?_
      refine va_alen hx hb hK hP 1 0 rfl rfl (v := nI n) rfl dX0_holds_17 ?_
      refine lv_i2l (v := (nI n).toInt64) hx hb dX0_holds_18 rfl ?_
      refine W.lcmp hx hb dX0_holds_19 ?_
      refine lv_if_gt (tgt := 40) hx hb dX0_holds_20 (by decide) (fun c_3 => ?_) (fun c_3 => ?_)
      · skip
        refine lv_iconst (v := 0) hx hb dX0_holds_40 (by decide) ?_
        exact W.zret (v := 0) hx hb hr rfl (fun t ht hW => ⟨_, rfl, (bI_f (ho_n3 hn c_3)).symm, ht⟩) t_nil dX0_holds_41
      · skip
        refine lv_lload_n hx hb dX0_holds_23 rfl (lv_at hl 1 rfl) ?_
        refine lv_aload_n hx hb dX0_holds_24 rfl (lv_at hl 0 rfl) ?_
        refine va_get (D := (dC, dI)) (ci := 0) (v := .ref q) (C := RX0) (T := TX0) (N := 1) hx hb hw inX0 hown hK hP 0 rfl rfl 0 (by decide) (hw _ w_dc5be6518e) (fun _ h9 => h9) rfl dX0_holds_25 ?_
        refine va_alen hx hb hK hP 1 0 rfl rfl (v := nI n) rfl dX0_holds_28 ?_
        refine lv_i2l (v := (nI n).toInt64) hx hb dX0_holds_29 rfl ?_
        refine lv_lload_n hx hb dX0_holds_30 rfl (lv_at hl 2 rfl) ?_
        refine lv_lsub hx hb dX0_holds_31 ?_
        refine W.lcmp hx hb dX0_holds_32 ?_
        refine lv_if_gt (tgt := 40) hx hb dX0_holds_33 (by decide) (fun c_4 => ?_) (fun c_4 => ?_)
        · skip
          refine lv_iconst (v := 0) hx hb dX0_holds_40 (by decide) ?_
          exact W.zret (v := 0) hx hb hr rfl (fun t ht hW => ⟨_, rfl, (bI_f (ho_n4 hn c_2 c_4)).symm, ht⟩) t_nil dX0_holds_41
        · skip
          refine lv_iconst (v := 1) hx hb dX0_holds_36 (by decide) ?_
          refine lv_goto (tgt := 41) hx hb dX0_holds_37 (by decide) ?_
          exact W.zret (v := 1) hx hb hr rfl (fun t ht hW => ⟨_, rfl, (bI_t (ho_y hn c_1 c_2 c_3 c_4)).symm, ht⟩) t_nil dX0_holds_41
set_option maxHeartbeats 4000000 in
set_option maxRecDepth 100000 in
/-- Bytes.at -/
theorem c_at (l : Launch) (dC : Nat → ClassId) (dI : Nat → Nat → Nat) (b : Nat) (q : Nat) (cB_ : ClassId) (n : Nat) (f : Nat → Int32) (pl : Int64) (hn : n < 2 ^ 31) : Met l yX0_at wsX0_at ({ frames := 1, cells := 0, slots := 0, locals := 40 }) (va_Pc [.ref b, .long pl] (fun U => va_P (dC, dI) vwCl [(b, .inr (0, [.ref q])), (q, .inl (cB_, n, .inl f))] U.heap ∧ va_K (dC, dI) vwCl [(cB_, .byte)] U ∧ ZZ (fun _ => False) U U.heap)) (vp_Si (fun r => r = atS n f pl)) 0 0 (fun _ => False) := by
  refine Met.ofW (cc := cX0_at) (maxL := 3) (ret := (some .int)) (by decide) rfl ?_
  intro p e s m args below meth c s₁ B hml hv
  obtain ⟨rfl, hP, hK, hZ⟩ := hv
  have hx := B.exec
  have hb := B.bytes
  have hr := B.returns
  have hts := atoms_spec (ws := wsX0_at) B.pre
  have hw : ∀ w ∈ WW, w.before _ s = true := fun w h => hts w (List.mem_cons_of_mem _ h)
  have hown : s.vm.findClass RX0 = some m.cls := findClass_of_methodNamed B.named
  have hlocks := B.notSynchronized
  have hl := lv_entry ([.ref b, .long pl]) (n := 3) (Nat.le_of_ble_eq_true rfl)
  rw [lg_entry_eq]
  generalize (lg_sl ([.ref b, .long pl]) ++ List.replicate (3 - (lg_sl ([.ref b, .long pl])).length) Slot.unset).toArray = ls at hl ⊢
  have hl : lv_has ls 3 [(0, .ref b), (1, .long pl)] := hl
  refine lv_aload_n hx hb dX0_at_0 rfl (lv_at hl 0 rfl) ?_
  refine lv_lload_n hx hb dX0_at_1 rfl (lv_at hl 1 rfl) ?_
  refine lv_lconst (v := 1) hx hb dX0_at_2 (by decide) ?_
  have hPc := hP.sub (ws' := [(b, .inr (0, [.ref q])), (q, .inl (cB_, n, .inl f))]) [0, 1] rfl
  have hKc := hK.sub (tys' := [(cB_, .byte)]) [0] rfl
  have hZc := hZ
  refine vp_callSi (va_runV (As := [.long pl, .long 1]) (rest := []) ⟨hx, hb, hml, hown, hw⟩ (c_holds l dC dI b q cB_ n f pl 1 (by assumption)) (cwV 2 hw (gV w_2af9ab2b3b w_bd9bccf83c w_88968f97c9 w_82b0ef516c w_0dba9a2727) rfl rfl rfl (by decide +kernel) ⟨Nat.le_of_ble_eq_true rfl, Nat.le_of_ble_eq_true rfl⟩) ⟨fun a U g mk q => by obtain ⟨q0, qP, qK, qZ⟩ := q; exact ⟨q0, qP, va_K.moved (u := U) (U := U.calling g mk a) (Vm.Alike.refl U.vm) qK, ZZ.same (u := U) (U := U.calling g mk a) rfl qZ⟩, va_recv hKc hPc (ci := 0) (q0 := 0) rfl rfl, fun U hU hW => ⟨rfl, by rw [hU]; exact hPc, va_K.moved hW.alike hKc, by rw [hU]; exact ZZ.warm hW hZc⟩⟩ rfl rfl hl.1 rfl (lv_room (Nat.le_of_ble_eq_true rfl)) dX0_at_3 ⟨Nat.zero_le _, Nat.zero_le _⟩).run (fun r_1 hr_1 => ?_)
  have hr_1 : r_1 = bI (hoP n pl 1) := hr_1
  refine lv_if_eq (tgt := 23) hx hb dX0_at_6 (by decide) (fun c_2 => ?_) (fun c_2 => ?_)
  · skip
    have b_3 : ¬ (hoP n pl 1) := bI_0 (by rw [← hr_1]; exact c_2)
    refine lv_iconst (v := 0) hx hb dX0_at_23 (by decide) ?_
    exact W.iret (v := 0) hx hb hr (fun t ht hW => ⟨_, rfl, (if_neg b_3).symm, ht⟩) t_nil dX0_at_24
  · skip
    have b_4 : (hoP n pl 1) := bI_1 (by rw [← hr_1]; exact c_2)
    refine lv_aload_n hx hb dX0_at_9 rfl (lv_at hl 0 rfl) ?_
    refine va_get (D := (dC, dI)) (ci := 0) (v := .ref q) (C := RX0) (T := TX0) (N := 1) hx hb hw inX0 hown hK hP 0 rfl rfl 0 (by decide) (hw _ w_dc5be6518e) (fun _ h9 => h9) rfl dX0_at_10 ?_
    refine lv_lload_n hx hb dX0_at_13 rfl (lv_at hl 1 rfl) ?_
    refine lv_l2i (v := pl.toInt32) hx hb dX0_at_14 rfl ?_
    refine va_bald hx hb hK hP 1 0 rfl rfl (ho_in hn (by decide) b_4).1 dX0_at_15 ?_
    refine lv_sipush (v := 255) hx hb dX0_at_16 (by decide) ?_
    refine lv_iand hx hb dX0_at_19 ?_
    refine lv_goto (tgt := 24) hx hb dX0_at_20 (by decide) ?_
    exact W.iret (v := (f pl.toInt32.toNatClampNeg) &&& 255) hx hb hr (fun t ht hW => ⟨_, rfl, (by rw [(ho_in hn (by decide) b_4).2]; exact (if_pos b_4).symm), ht⟩) t_nil dX0_at_24
set_option maxHeartbeats 4000000 in
set_option maxRecDepth 100000 in
/-- Bytes.put -/
theorem c_put (l : Launch) (dC : Nat → ClassId) (dI : Nat → Nat → Nat) (b : Nat) (q : Nat) (cB_ : ClassId) (n : Nat) (f : Nat → Int32) (pl : Int64) (v : Int32) (zS : Nat) (hn : n < 2 ^ 31) : Met l yX0_put wsX0_put ({ frames := 1, cells := 0, slots := 0, locals := 40 }) (va_Pc [.ref b, .long pl, .int v] (fun U => U.heap.size = zS ∧ va_P (dC, dI) vwCl [(b, .inr (0, [.ref q])), (q, .inl (cB_, n, .inl f))] U.heap ∧ va_K (dC, dI) vwCl [(cB_, .byte)] U ∧ va_D (fun _ => True) [(b, .inr (0, [.ref q])), (q, .inl (cB_, n, .inl f))] ∧ ZZ (va_A [(b, .inr (0, [.ref q])), (q, .inl (cB_, n, .inl f))] zS) U U.heap)) (va_Qv (fun (u : (Nat → Int32)) => match u with | g => g = putS n f pl v) (fun (u : (Nat → Int32)) (t : State) => match u with | g => va_P (dC, dI) vwCl [(b, .inr (0, [.ref q])), (q, .inl (cB_, n, .inl g))] t.heap ∧ va_K (dC, dI) vwCl [(cB_, .byte)] t ∧ va_D (va_A [(b, .inr (0, [.ref q])), (q, .inl (cB_, n, .inl f))] zS) [(b, .inr (0, [.ref q])), (q, .inl (cB_, n, .inl g))]) (va_A [(b, .inr (0, [.ref q])), (q, .inl (cB_, n, .inl f))] zS)) 0 0 (va_A [(b, .inr (0, [.ref q])), (q, .inl (cB_, n, .inl f))] zS) := by
  refine Met.ofW (cc := cX0_put) (maxL := 4) (ret := (none)) (by decide) rfl ?_
  intro p e s m args below meth c s₁ B hml hv
  obtain ⟨rfl, hsz, hP, hK, hD0, hZ⟩ := hv
  have hx := B.exec
  have hb := B.bytes
  have hr := B.returns
  have hts := atoms_spec (ws := wsX0_put) B.pre
  have hw : ∀ w ∈ WW, w.before _ s = true := fun w h => hts w (List.mem_cons_of_mem _ h)
  have hown : s.vm.findClass RX0 = some m.cls := findClass_of_methodNamed B.named
  have hlocks := B.notSynchronized
  subst hsz
  have hD := hD0.self (sz := s.heap.size)
  generalize hAe : va_A [(b, .inr (0, [.ref q])), (q, .inl (cB_, n, .inl f))] s.heap.size = A at hD hZ ⊢
  have hA : ∀ q : Nat, s.heap.size ≤ q → A q := fun q h => by rw [← hAe]; exact Or.inr h
  have hS : va_S A s.heap s.heap [] := va_S.rf
  have hP : va_P (dC, dI) vwCl [(b, .inr (0, [.ref q])), (q, .inl (cB_, n, .inl f))] s.heap := hP
  have hl := lv_entry ([.ref b, .long pl, .int v]) (n := 4) (Nat.le_of_ble_eq_true rfl)
  rw [lg_entry_eq]
  generalize (lg_sl ([.ref b, .long pl, .int v]) ++ List.replicate (4 - (lg_sl ([.ref b, .long pl, .int v])).length) Slot.unset).toArray = ls at hl ⊢
  have hl : lv_has ls 4 [(0, .ref b), (1, .long pl), (3, .int v)] := hl
  refine lv_aload_n hx hb dX0_put_0 rfl (lv_at hl 0 rfl) ?_
  refine lv_lload_n hx hb dX0_put_1 rfl (lv_at hl 1 rfl) ?_
  refine lv_lconst (v := 1) hx hb dX0_put_2 (by decide) ?_
  have hPc := hP.sub (ws' := [(b, .inr (0, [.ref q])), (q, .inl (cB_, n, .inl f))]) [0, 1] rfl
  have hKc := hK.sub (tys' := [(cB_, .byte)]) [0] rfl
  have hZc := (hZ.kept hS.2.1).narrow (B := fun _ => False) (fun _ h => h.elim)
  refine vp_callSi (va_runV (As := [.long pl, .long 1]) (rest := []) ⟨hx, hb, hml, hown, hw⟩ (c_holds l dC dI b q cB_ n f pl 1 (by assumption)) (cwV 2 hw (gV w_2af9ab2b3b w_bd9bccf83c w_88968f97c9 w_82b0ef516c w_0dba9a2727) rfl rfl rfl (by decide +kernel) ⟨Nat.le_of_ble_eq_true rfl, Nat.le_of_ble_eq_true rfl⟩) ⟨fun a U g mk q => by obtain ⟨q0, qP, qK, qZ⟩ := q; exact ⟨q0, qP, va_K.moved (u := U) (U := U.calling g mk a) (Vm.Alike.refl U.vm) qK, ZZ.same (u := U) (U := U.calling g mk a) rfl qZ⟩, va_recv hKc hPc (ci := 0) (q0 := 0) rfl rfl, fun U hU hW => ⟨rfl, by rw [hU]; exact hPc, va_K.moved hW.alike hKc, by rw [hU]; exact ZZ.warm hW hZc⟩⟩ rfl rfl hl.1 rfl (lv_room (Nat.le_of_ble_eq_true rfl)) dX0_put_3 ⟨Nat.zero_le _, Nat.zero_le _⟩).run (fun r_1 hr_1 => ?_)
  have hr_1 : r_1 = bI (hoP n pl 1) := hr_1
  refine lv_if_eq (tgt := 18) hx hb dX0_put_6 (by decide) (fun c_2 => ?_) (fun c_2 => ?_)
  · skip
    have b_3 : ¬ (hoP n pl 1) := bI_0 (by rw [← hr_1]; exact c_2)
    have hP9 : va_P (dC, dI) vwCl [(b, .inr (0, [.ref q])), (q, .inl (cB_, n, .inl f))] s.heap := by exact hP.sub (ws' := [(b, .inr (0, [.ref q])), (q, .inl (cB_, n, .inl f))]) [0, 1] rfl
    have hD9 : va_D A [(b, .inr (0, [.ref q])), (q, .inl (cB_, n, .inl f))] := by exact hD.sub (ws' := [(b, .inr (0, [.ref q])), (q, .inl (cB_, n, .inl f))]) [0, 1] (by decide) rfl
    have hK9 := hK.sub (tys' := [(cB_, .byte)]) [0] rfl
    exact W.vret hx hb hr (fun t ht hW => ⟨⟨(f), rfl, (if_neg b_3).symm, by rw [ht]; exact hP9, va_K.moved hW.alike hK9, hD9⟩, hS.F ht⟩) hS.2.2 dX0_put_18
  · skip
    have b_4 : (hoP n pl 1) := bI_1 (by rw [← hr_1]; exact c_2)
    refine lv_aload_n hx hb dX0_put_9 rfl (lv_at hl 0 rfl) ?_
    refine va_get (D := (dC, dI)) (ci := 0) (v := .ref q) (C := RX0) (T := TX0) (N := 1) hx hb hw inX0 hown hK hP 0 rfl rfl 0 (by decide) (hw _ w_dc5be6518e) (fun _ h9 => h9) rfl dX0_put_10 ?_
    refine lv_lload_n hx hb dX0_put_13 rfl (lv_at hl 1 rfl) ?_
    refine lv_l2i (v := pl.toInt32) hx hb dX0_put_14 rfl ?_
    refine lv_iload_n hx hb dX0_put_15 rfl (lv_at hl 2 rfl) ?_
    refine lv_i2b (v := v.toInt8.toInt32) hx hb dX0_put_16 rfl ?_
    refine lv_topi (fun x_5 ex_5 => ?_)
    refine va_bast hx hb hK hP hD hS 1 0 rfl rfl (ho_in hn (by decide) b_4).1 dX0_put_17 (fun H locs hP hD hS => ?_)
    have hP : va_P (dC, dI) vwCl [(b, .inr (0, [.ref q])), (q, .inl (cB_, n, .inl (upd f pl.toInt32.toNatClampNeg (vp_nar .byte x_5))))] H := hP
    have hD : va_D A [(b, .inr (0, [.ref q])), (q, .inl (cB_, n, .inl (upd f pl.toInt32.toNatClampNeg (vp_nar .byte x_5))))] := hD
    have hP9 : va_P (dC, dI) vwCl [(b, .inr (0, [.ref q])), (q, .inl (cB_, n, .inl (upd f pl.toInt32.toNatClampNeg (vp_nar .byte x_5))))] H := by exact hP.sub (ws' := [(b, .inr (0, [.ref q])), (q, .inl (cB_, n, .inl (upd f pl.toInt32.toNatClampNeg (vp_nar .byte x_5))))]) [0, 1] rfl
    have hD9 : va_D A [(b, .inr (0, [.ref q])), (q, .inl (cB_, n, .inl (upd f pl.toInt32.toNatClampNeg (vp_nar .byte x_5))))] := by exact hD.sub (ws' := [(b, .inr (0, [.ref q])), (q, .inl (cB_, n, .inl (upd f pl.toInt32.toNatClampNeg (vp_nar .byte x_5))))]) [0, 1] (by decide) rfl
    have hK9 := hK.sub (tys' := [(cB_, .byte)]) [0] rfl
    exact W.vret hx hb hr (fun t ht hW => ⟨⟨(upd f pl.toInt32.toNatClampNeg (vp_nar .byte x_5)), rfl, (by rw [ex_5, pk_vb, (ho_in hn (by decide) b_4).2]; exact (if_pos b_4).symm), by rw [ht]; exact hP9, va_K.moved hW.alike hK9, hD9⟩, hS.F ht⟩) hS.2.2 dX0_put_18
set_option maxHeartbeats 4000000 in
set_option maxRecDepth 100000 in
/-- Bytes.number -/
theorem c_number (l : Launch) (dC : Nat → ClassId) (dI : Nat → Nat → Nat) (b : Nat) (q : Nat) (cB_ : ClassId) (n : Nat) (M : Nat → Nat) (pl : Int64) (zz : Int32) (j : Nat) (p0 : Nat) (hn : n < 2 ^ 31) (hz : zz = nI j) (hj : j ≤ 8) (hpl : pl = lN p0) (hp : p0 + j ≤ n) (hM : byt M) : Met l yX0_number wsX0_number ({ frames := 2, cells := 0, slots := 0, locals := 80 }) (va_Pc [.ref b, .long pl, .int zz] (fun U => va_P (dC, dI) vwCl [(b, .inr (0, [.ref q])), (q, .inl (cB_, n, .inl (cB M)))] U.heap ∧ va_K (dC, dI) vwCl [(cB_, .byte)] U ∧ ZZ (fun _ => False) U U.heap)) (vp_Sl (fun r => r = lN (nbs M p0 j))) 0 0 (fun _ => False) := by
  refine Met.ofW (cc := cX0_number) (maxL := 7) (ret := (some .long)) (by decide) rfl ?_
  intro p e s m args below meth c s₁ B hml hv
  obtain ⟨rfl, hP, hK, hZ⟩ := hv
  have hx := B.exec
  have hb := B.bytes
  have hr := B.returns
  have hts := atoms_spec (ws := wsX0_number) B.pre
  have hw : ∀ w ∈ WW, w.before _ s = true := fun w h => hts w (List.mem_cons_of_mem _ h)
  have hown : s.vm.findClass RX0 = some m.cls := findClass_of_methodNamed B.named
  have hlocks := B.notSynchronized
  have hl := lv_entry ([.ref b, .long pl, .int zz]) (n := 7) (Nat.le_of_ble_eq_true rfl)
  rw [lg_entry_eq]
  generalize (lg_sl ([.ref b, .long pl, .int zz]) ++ List.replicate (7 - (lg_sl ([.ref b, .long pl, .int zz])).length) Slot.unset).toArray = ls at hl ⊢
  have hl : lv_has ls 7 [(0, .ref b), (1, .long pl), (3, .int zz)] := hl
  refine lv_lconst (v := 0) hx hb dX0_number_0 (by decide) ?_
  refine lv_lstore (lv' := [(4, .long 0), (0, .ref b), (1, .long pl), (3, .int zz)]) hx hb dX0_number_1 hl (by decide) rfl (fun ls hl => ?_)
  refine lv_iload_n hx hb dX0_number_3 rfl (lv_at hl 3 rfl) ?_
  refine lv_iconst (v := 1) hx hb dX0_number_4 (by decide) ?_
  refine lv_isub hx hb dX0_number_5 ?_
  refine lv_topi (fun x_1 ex_1 => ?_)
  refine lv_istore (lv' := [(6, .int x_1), (4, .long 0), (0, .ref b), (1, .long pl), (3, .int zz)]) hx hb dX0_number_6 hl (by decide) rfl (fun ls hl => ?_)
  have loop : ∀ (N : Nat) (k : Nat) (a : Int64) (x : Int32) (hN : k < N) (ex : x = nI k - 1) (hk : k ≤ 8) (hs : numF n (cB M) pl k a = numF n (cB M) pl j 0) (ls : Array Slot) (hl : lv_has ls 7 [(6, .int x), (4, .long a), (0, .ref b), (1, .long pl), (3, .int zz)]), W p l e (headSpec wsX0_number ({ frames := 2, cells := 0, slots := 0, locals := 80 })).room s m [.ref b, .long pl, .int zz].toArray below meth c s.heap [] 0 0 (MQ below (vp_Sl (fun r => r = lN (nbs M p0 j))) [.ref b, .long pl, .int zz].toArray s 0 0 (fun _ => False)) (F0 m 8 ls []) := by
    intro N
    induction N with
    | zero => intro k a x hN ex hk hs ls hl; exact absurd hN (Nat.not_lt_zero _)
    | succ N ih =>
      intro k a x hN ex hk hs ls hl
      refine lv_iload hx hb dX0_number_8 (lv_at hl 0 rfl) ?_
      refine lv_if_lt (tgt := 37) hx hb dX0_number_10 (by decide) (fun c_2 => ?_) (fun c_2 => ?_)
      · skip
        have hk0 : k = 0 := num_end (k := k) hk (by rw [← ex]; exact c_2)
        subst hk0
        refine lv_lload hx hb dX0_number_37 (lv_at hl 1 rfl) ?_
        exact W.lret (v := a) hx hb hr (fun t ht hW => ⟨_, rfl, (by rw [show a = numF n (cB M) pl j 0 from hs, hpl]; exact numF_0 hM hn hj hp), ht⟩) t_nil dX0_number_39
      · skip
        obtain ⟨k0, rfl⟩ := num_more (k := k) hk (by rw [← ex]; exact c_2)
        refine lv_lload hx hb dX0_number_13 (lv_at hl 1 rfl) ?_
        refine lv_bipush (v := 8) hx hb dX0_number_15 (by decide) ?_
        refine lv_lshl (v := a <<< ((8 : Int32).toInt64 &&& 63)) hx hb dX0_number_17 rfl ?_
        refine lv_aload_n hx hb dX0_number_18 rfl (lv_at hl 2 rfl) ?_
        refine lv_lload_n hx hb dX0_number_19 rfl (lv_at hl 3 rfl) ?_
        refine lv_iload hx hb dX0_number_20 (lv_at hl 0 rfl) ?_
        refine lv_i2l (v := x.toInt64) hx hb dX0_number_22 rfl ?_
        refine lv_ladd hx hb dX0_number_23 ?_
        have hPc := hP.sub (ws' := [(b, .inr (0, [.ref q])), (q, .inl (cB_, n, .inl (cB M)))]) [0, 1] rfl
        have hKc := hK.sub (tys' := [(cB_, .byte)]) [0] rfl
        have hZc := hZ
        refine vp_callSi (va_runV (As := [.long (pl + x.toInt64)]) (rest := [.long (a <<< ((8 : Int32).toInt64 &&& 63))]) ⟨hx, hb, hml, hown, hw⟩ (c_at l dC dI b q cB_ n (cB M) (pl + x.toInt64) (by assumption)) (cwV 1 hw (gV w_fc0a358c90 w_1a56f4b40f w_10ab65b0be w_82b0ef516c w_7216235d52) rfl rfl rfl (by decide +kernel) ⟨Nat.le_of_ble_eq_true rfl, Nat.le_of_ble_eq_true rfl⟩) ⟨fun a U g mk q => by obtain ⟨q0, qP, qK, qZ⟩ := q; exact ⟨q0, qP, va_K.moved (u := U) (U := U.calling g mk a) (Vm.Alike.refl U.vm) qK, ZZ.same (u := U) (U := U.calling g mk a) rfl qZ⟩, va_recv hKc hPc (ci := 0) (q0 := 0) rfl rfl, fun U hU hW => ⟨rfl, by rw [hU]; exact hPc, va_K.moved hW.alike hKc, by rw [hU]; exact ZZ.warm hW hZc⟩⟩ rfl rfl hl.1 rfl (lv_room (Nat.le_of_ble_eq_true rfl)) dX0_number_24 ⟨Nat.zero_le _, Nat.zero_le _⟩).run (fun r_3 hr_3 => ?_)
        have hr_3 : r_3 = atS n (cB M) (pl + x.toInt64) := hr_3
        refine lv_i2l (v := r_3.toInt64) hx hb dX0_number_27 rfl ?_
        refine lv_lor hx hb dX0_number_28 ?_
        refine lv_topl (fun x_4 ex_4 => ?_)
        refine lv_lstore (lv' := [(4, .long x_4), (6, .int x), (0, .ref b), (1, .long pl), (3, .int zz)]) hx hb dX0_number_29 hl (by decide) rfl (fun ls hl => ?_)
        obtain ⟨x_5, ex_5⟩ : ∃ y : Int32, y = x + (-1) := ⟨_, rfl⟩
        refine lv_iinc (v := x_5) (lv' := [(6, .int x_5), (4, .long x_4), (0, .ref b), (1, .long pl), (3, .int zz)]) hx hb dX0_number_31 hl (k := 1) rfl (by rw [ex_5]; rfl) (by decide) rfl (fun ls hl => ?_)
        refine lv_goto (tgt := 8) hx hb dX0_number_34 (by decide) ?_
        exact ih k0 x_4 x_5 (by omega) (by rw [ex_5, ex, nI_pred, Int32.sub_eq_add_neg]) (by omega) (by rw [← hs, ex_4, hr_3, ex, nI_pred]; rfl) ls (lv_sub hl [0, 1, 2, 3, 4] rfl)
  exact loop (j + 1) j 0 x_1 (Nat.lt_succ_self j) (by rw [ex_1, hz]) (hj) (rfl) ls (lv_sub hl [0, 1, 2, 3, 4] rfl)
set_option maxHeartbeats 4000000 in
set_option maxRecDepth 100000 in
/-- Bytes.putNumber -/
theorem c_putNumber (l : Launch) (dC : Nat → ClassId) (dI : Nat → Nat → Nat) (b : Nat) (q : Nat) (cB_ : ClassId) (n : Nat) (M : Nat → Nat) (pl : Int64) (zz : Int32) (vv : Int64) (j : Nat) (p0 : Nat) (w : Nat) (zS : Nat) (hn : n < 2 ^ 31) (hz : zz = nI j) (hj : j ≤ 8) (hpl : pl = lN p0) (hp : p0 + j ≤ n) (hM : byt M) (hv : vv = lN w) (hwl : w < 2 ^ 64) : Met l yX0_putNumber wsX0_putNumber ({ frames := 2, cells := 0, slots := 0, locals := 80 }) (va_Pc [.ref b, .long pl, .int zz, .long vv] (fun U => U.heap.size = zS ∧ va_P (dC, dI) vwCl [(b, .inr (0, [.ref q])), (q, .inl (cB_, n, .inl (cB M)))] U.heap ∧ va_K (dC, dI) vwCl [(cB_, .byte)] U ∧ va_D (fun _ => True) [(b, .inr (0, [.ref q])), (q, .inl (cB_, n, .inl (cB M)))] ∧ ZZ (va_A [(b, .inr (0, [.ref q])), (q, .inl (cB_, n, .inl (cB M)))] zS) U U.heap)) (va_Qv (fun (u : (Nat → Int32)) => match u with | g => g = cB (pbs M p0 w j)) (fun (u : (Nat → Int32)) (t : State) => match u with | g => va_P (dC, dI) vwCl [(b, .inr (0, [.ref q])), (q, .inl (cB_, n, .inl g))] t.heap ∧ va_K (dC, dI) vwCl [(cB_, .byte)] t ∧ va_D (va_A [(b, .inr (0, [.ref q])), (q, .inl (cB_, n, .inl (cB M)))] zS) [(b, .inr (0, [.ref q])), (q, .inl (cB_, n, .inl g))]) (va_A [(b, .inr (0, [.ref q])), (q, .inl (cB_, n, .inl (cB M)))] zS)) 0 0 (va_A [(b, .inr (0, [.ref q])), (q, .inl (cB_, n, .inl (cB M)))] zS) := by
  refine Met.ofW (cc := cX0_putNumber) (maxL := 9) (ret := (none)) (by decide) rfl ?_
  intro p e s m args below meth c s₁ B hml hv
  obtain ⟨rfl, hsz, hP, hK, hD0, hZ⟩ := hv
  have hx := B.exec
  have hb := B.bytes
  have hr := B.returns
  have hts := atoms_spec (ws := wsX0_putNumber) B.pre
  have hw : ∀ w ∈ WW, w.before _ s = true := fun w h => hts w (List.mem_cons_of_mem _ h)
  have hown : s.vm.findClass RX0 = some m.cls := findClass_of_methodNamed B.named
  have hlocks := B.notSynchronized
  subst hsz
  have hD := hD0.self (sz := s.heap.size)
  generalize hAe : va_A [(b, .inr (0, [.ref q])), (q, .inl (cB_, n, .inl (cB M)))] s.heap.size = A at hD hZ ⊢
  have hA : ∀ q : Nat, s.heap.size ≤ q → A q := fun q h => by rw [← hAe]; exact Or.inr h
  have hS : va_S A s.heap s.heap [] := va_S.rf
  have hP : va_P (dC, dI) vwCl [(b, .inr (0, [.ref q])), (q, .inl (cB_, n, .inl (cB M)))] s.heap := hP
  have hl := lv_entry ([.ref b, .long pl, .int zz, .long vv]) (n := 9) (Nat.le_of_ble_eq_true rfl)
  rw [lg_entry_eq]
  generalize (lg_sl ([.ref b, .long pl, .int zz, .long vv]) ++ List.replicate (9 - (lg_sl ([.ref b, .long pl, .int zz, .long vv])).length) Slot.unset).toArray = ls at hl ⊢
  have hl : lv_has ls 9 [(0, .ref b), (1, .long pl), (3, .int zz), (4, .long vv)] := hl
  refine lv_lload hx hb dX0_putNumber_0 (lv_at hl 3 rfl) ?_
  refine lv_lstore (lv' := [(6, .long vv), (0, .ref b), (1, .long pl), (3, .int zz), (4, .long vv)]) hx hb dX0_putNumber_2 hl (by decide) rfl (fun ls hl => ?_)
  refine lv_iconst (v := 0) hx hb dX0_putNumber_4 (by decide) ?_
  refine lv_istore (lv' := [(8, .int 0), (6, .long vv), (0, .ref b), (1, .long pl), (3, .int zz), (4, .long vv)]) hx hb dX0_putNumber_5 hl (by decide) rfl (fun ls hl => ?_)
  have loop : ∀ (N : Nat) (k : Nat) (x : Int32) (y : Int64) (g : Nat → Int32) (hN : j - k < N) (ex : x = nI k) (ey : y = lN (w / 2 ^ (8 * k))) (eg : g = cB (pbs M p0 w k)) (hk : k ≤ j) (H : Heap) (locs : List Loc) (hP : va_P (dC, dI) vwCl [(b, .inr (0, [.ref q])), (q, .inl (cB_, n, .inl g))] H) (hD : va_D A [(b, .inr (0, [.ref q])), (q, .inl (cB_, n, .inl g))]) (hS : va_S A s.heap H locs) (ls : Array Slot) (hl : lv_has ls 9 [(8, .int x), (6, .long y), (0, .ref b), (1, .long pl), (3, .int zz), (4, .long vv)]), W p l e (headSpec wsX0_putNumber ({ frames := 2, cells := 0, slots := 0, locals := 80 })).room s m [.ref b, .long pl, .int zz, .long vv].toArray below meth c H locs 0 0 (MQ below (va_Qv (fun (u : (Nat → Int32)) => match u with | g => g = cB (pbs M p0 w j)) (fun (u : (Nat → Int32)) (t : State) => match u with | g => va_P (dC, dI) vwCl [(b, .inr (0, [.ref q])), (q, .inl (cB_, n, .inl g))] t.heap ∧ va_K (dC, dI) vwCl [(cB_, .byte)] t ∧ va_D A [(b, .inr (0, [.ref q])), (q, .inl (cB_, n, .inl g))]) A) [.ref b, .long pl, .int zz, .long vv].toArray s 0 0 A) (F0 m 7 ls []) := by
    intro N
    induction N with
    | zero => intro k x y g hN ex ey eg hk H locs hP hD hS ls hl; exact absurd hN (Nat.not_lt_zero _)
    | succ N ih =>
      intro k x y g hN ex ey eg hk H locs hP hD hS ls hl
      refine lv_iload hx hb dX0_putNumber_7 (lv_at hl 0 rfl) ?_
      refine lv_iload_n hx hb dX0_putNumber_9 rfl (lv_at hl 4 rfl) ?_
      refine lv_icmp_ge (tgt := 38) hx hb dX0_putNumber_10 (by decide) (fun c_1 => ?_) (fun c_1 => ?_)
      · skip
        have hk0 : k = j := by rw [ex, hz, nI_leI (by omega) (by omega)] at c_1; omega
        subst hk0
        have hP9 : va_P (dC, dI) vwCl [(b, .inr (0, [.ref q])), (q, .inl (cB_, n, .inl g))] H := by exact hP.sub (ws' := [(b, .inr (0, [.ref q])), (q, .inl (cB_, n, .inl g))]) [0, 1] rfl
        have hD9 : va_D A [(b, .inr (0, [.ref q])), (q, .inl (cB_, n, .inl g))] := by exact hD.sub (ws' := [(b, .inr (0, [.ref q])), (q, .inl (cB_, n, .inl g))]) [0, 1] (by decide) rfl
        have hK9 := hK.sub (tys' := [(cB_, .byte)]) [0] rfl
        exact W.vret hx hb hr (fun t ht hW => ⟨⟨(g), rfl, eg, by rw [ht]; exact hP9, va_K.moved hW.alike hK9, hD9⟩, hS.F ht⟩) hS.2.2 dX0_putNumber_38
      · skip
        have hk0 : k < j := by rw [ex, hz, nI_leI (by omega) (by omega)] at c_1; omega
        subst eg
        refine lv_aload_n hx hb dX0_putNumber_13 rfl (lv_at hl 2 rfl) ?_
        refine lv_lload_n hx hb dX0_putNumber_14 rfl (lv_at hl 3 rfl) ?_
        refine lv_iload hx hb dX0_putNumber_15 (lv_at hl 0 rfl) ?_
        refine lv_i2l (v := x.toInt64) hx hb dX0_putNumber_17 rfl ?_
        refine lv_ladd hx hb dX0_putNumber_18 ?_
        refine lv_lload hx hb dX0_putNumber_19 (lv_at hl 1 rfl) ?_
        refine lv_l2i (v := y.toInt32) hx hb dX0_putNumber_21 rfl ?_
        have hPc := hP.sub (ws' := [(b, .inr (0, [.ref q])), (q, .inl (cB_, n, .inl (cB (pbs M p0 w k))))]) [0, 1] rfl
        have hKc := hK.sub (tys' := [(cB_, .byte)]) [0] rfl
        have hDc := hD.sub (ws' := [(b, .inr (0, [.ref q])), (q, .inl (cB_, n, .inl (cB (pbs M p0 w k))))]) [0, 1] (by decide) rfl
        have hFc := va_free (wc := [(b, .inr (0, [.ref q])), (q, .inl (cB_, n, .inl (cB (pbs M p0 w k))))]) hD hS hA [0, 1] rfl
        have hZc : ZZ (va_A [(b, .inr (0, [.ref q])), (q, .inl (cB_, n, .inl (cB (pbs M p0 w k))))] H.size) s H := (hZ.kept hS.2.1).narrow hFc
        refine va_callv (va_runV (As := [.long (pl + x.toInt64), .int y.toInt32]) (rest := []) ⟨hx, hb, hml, hown, hw⟩ (c_put l dC dI b q cB_ n (cB (pbs M p0 w k)) (pl + x.toInt64) y.toInt32 H.size (by assumption)) (cwV 2 hw (gV w_1458ea6b13 w_a98a2cb77c w_35af0b375c w_82b0ef516c w_9c05d6145f) rfl rfl rfl (by decide +kernel) ⟨Nat.le_of_ble_eq_true rfl, Nat.le_of_ble_eq_true rfl⟩) ⟨fun a U g mk q => by obtain ⟨q0, q1, qP, qK, qD, qZ⟩ := q; exact ⟨q0, q1, qP, va_K.moved (u := U) (U := U.calling g mk a) (Vm.Alike.refl U.vm) qK, qD, ZZ.same (u := U) (U := U.calling g mk a) rfl qZ⟩, va_recv hKc hPc (ci := 0) (q0 := 0) rfl rfl, fun U hU hW => ⟨rfl, by rw [hU], by rw [hU]; exact hPc, va_K.moved hW.alike hKc, hDc.weaken (fun _ _ _ _ => trivial), by rw [hU]; exact ZZ.warm hW hZc⟩⟩ rfl rfl hl.1 rfl (lv_room (Nat.le_of_ble_eq_true rfl)) dX0_putNumber_22 ⟨Nat.zero_le _, Nat.zero_le _⟩) hS (fun q _ h => hFc q h) hFc (fun u t H1 locs ht hvm hw2 hB hz1 hk1 hS => ?_)
        obtain ⟨g_2, rfl⟩ : ∃ z, z = u := ⟨_, rfl⟩
        obtain ⟨hP1, hK1, hD1⟩ := hB
        rw [ht] at hP1
        have hK1 := va_K.moved hvm.symm hK1
        try dsimp only at hw2
        obtain ⟨hP, hD⟩ := va_join (wr := []) (w1 := [(b, .inr (0, [.ref q])), (q, .inl (cB_, n, .inl g_2))]) hP hD [0, 1] [] rfl rfl (by decide) (by decide) hk1 hFc hP1 hD1
        generalize H1 = H at hP hS hk1 ⊢
        have hP : va_P (dC, dI) vwCl [(b, .inr (0, [.ref q])), (q, .inl (cB_, n, .inl g_2))] H := hP
        have hD : va_D A [(b, .inr (0, [.ref q])), (q, .inl (cB_, n, .inl g_2))] := hD
        have hw_3 : g_2 = putS n (cB (pbs M p0 w k)) (pl + x.toInt64) y.toInt32 := hw2
        refine lv_lload hx hb dX0_putNumber_25 (lv_at hl 1 rfl) ?_
        refine lv_bipush (v := 8) hx hb dX0_putNumber_27 (by decide) ?_
        refine lv_lushr (v := (y.toUInt64 >>> ((8 : Int32).toInt64.toUInt64 &&& Int64.toUInt64 63)).toInt64) hx hb dX0_putNumber_29 rfl ?_
        refine lv_topl (fun x_4 ex_4 => ?_)
        refine lv_lstore (lv' := [(6, .long x_4), (8, .int x), (0, .ref b), (1, .long pl), (3, .int zz), (4, .long vv)]) hx hb dX0_putNumber_30 hl (by decide) rfl (fun ls hl => ?_)
        obtain ⟨x_5, ex_5⟩ : ∃ y : Int32, y = x + 1 := ⟨_, rfl⟩
        refine lv_iinc (v := x_5) (lv' := [(8, .int x_5), (6, .long x_4), (0, .ref b), (1, .long pl), (3, .int zz), (4, .long vv)]) hx hb dX0_putNumber_32 hl (k := 1) rfl (by rw [ex_5]; rfl) (by decide) rfl (fun ls hl => ?_)
        refine lv_goto (tgt := 7) hx hb dX0_putNumber_35 (by decide) ?_
        exact ih (k + 1) x_5 x_4 g_2 (by omega) (by rw [ex_5, ex]; exact nI_1 k) (by rw [ex_4, ey, sh8 (Nat.lt_of_le_of_lt (Nat.div_le_self _ _) hwl), Nat.div_div_eq_div_mul, ← Nat.pow_add, show 8 * k + 8 = 8 * (k + 1) by omega]) (by rw [hw_3, ex, ey, hpl, nI_l (by omega), lN_add, putS_ok hn (by omega), lN_i, nI_256]; rfl) (by omega) _ _ (hP.sub [0, 1] rfl) (hD.sub [0, 1] (by decide) rfl) hS ls (lv_sub hl [0, 1, 2, 3, 4, 5] rfl)
  exact loop (j + 1) 0 0 vv (cB M) (by omega) (rfl) (by rw [hv, Nat.mul_zero, Nat.pow_zero, Nat.div_one]) (rfl) (Nat.zero_le j) _ _ (hP.sub [0, 1] rfl) (hD.sub [0, 1] (by decide) rfl) hS ls (lv_sub hl [0, 1, 2, 3, 4, 5] rfl)
set_option maxHeartbeats 4000000 in
set_option maxRecDepth 100000 in
/-- Bytes.copyTo -/
theorem c_copyTo (l : Launch) (dC : Nat → ClassId) (dI : Nat → Nat → Nat) (b : Nat) (q : Nat) (cB_ : ClassId) (n : Nat) (M : Nat → Nat) (b2 : Nat) (q2 : Nat) (cB2 : ClassId) (n2 : Nat) (D : Nat → Nat) (pl : Int64) (pl2 : Int64) (x : Int32) (zS : Nat) (hn : n < 2 ^ 31) (hn2 : n2 < 2 ^ 31) : Met l yX0_copyTo wsX0_copyTo ({ frames := 1, cells := 0, slots := 0, locals := 40 }) (va_Pc [.ref b, .long pl, .ref b2, .long pl2, .int x] (fun U => U.heap.size = zS ∧ va_P (dC, dI) vwCl [(b, .inr (0, [.ref q])), (q, .inl (cB_, n, .inl (cB M))), (b2, .inr (0, [.ref q2])), (q2, .inl (cB2, n2, .inl (cB D)))] U.heap ∧ va_K (dC, dI) vwCl [(cB_, .byte), (cB2, .byte)] U ∧ va_D (fun _ => True) [(b, .inr (0, [.ref q])), (q, .inl (cB_, n, .inl (cB M))), (b2, .inr (0, [.ref q2])), (q2, .inl (cB2, n2, .inl (cB D)))] ∧ ZZ (va_A [(b, .inr (0, [.ref q])), (q, .inl (cB_, n, .inl (cB M))), (b2, .inr (0, [.ref q2])), (q2, .inl (cB2, n2, .inl (cB D)))] zS) U U.heap)) (va_Qv (fun (u : (Nat → Int32)) => match u with | g => g = cB (cpB n n2 M D pl pl2 x)) (fun (u : (Nat → Int32)) (t : State) => match u with | g => va_P (dC, dI) vwCl [(b, .inr (0, [.ref q])), (q, .inl (cB_, n, .inl (cB M))), (b2, .inr (0, [.ref q2])), (q2, .inl (cB2, n2, .inl g))] t.heap ∧ va_K (dC, dI) vwCl [(cB_, .byte), (cB2, .byte)] t ∧ va_D (va_A [(b, .inr (0, [.ref q])), (q, .inl (cB_, n, .inl (cB M))), (b2, .inr (0, [.ref q2])), (q2, .inl (cB2, n2, .inl (cB D)))] zS) [(b, .inr (0, [.ref q])), (q, .inl (cB_, n, .inl (cB M))), (b2, .inr (0, [.ref q2])), (q2, .inl (cB2, n2, .inl g))]) (va_A [(b, .inr (0, [.ref q])), (q, .inl (cB_, n, .inl (cB M))), (b2, .inr (0, [.ref q2])), (q2, .inl (cB2, n2, .inl (cB D)))] zS)) 0 0 (va_A [(b, .inr (0, [.ref q])), (q, .inl (cB_, n, .inl (cB M))), (b2, .inr (0, [.ref q2])), (q2, .inl (cB2, n2, .inl (cB D)))] zS) := by
  refine Met.ofW (cc := cX0_copyTo) (maxL := 7) (ret := (none)) (by decide) rfl ?_
  intro p e s m args below meth c s₁ B hml hv
  obtain ⟨rfl, hsz, hP, hK, hD0, hZ⟩ := hv
  have hx := B.exec
  have hb := B.bytes
  have hr := B.returns
  have hts := atoms_spec (ws := wsX0_copyTo) B.pre
  have hw : ∀ w ∈ WW, w.before _ s = true := fun w h => hts w (List.mem_cons_of_mem _ h)
  have hown : s.vm.findClass RX0 = some m.cls := findClass_of_methodNamed B.named
  have hlocks := B.notSynchronized
  subst hsz
  have hD := hD0.self (sz := s.heap.size)
  generalize hAe : va_A [(b, .inr (0, [.ref q])), (q, .inl (cB_, n, .inl (cB M))), (b2, .inr (0, [.ref q2])), (q2, .inl (cB2, n2, .inl (cB D)))] s.heap.size = A at hD hZ ⊢
  have hA : ∀ q : Nat, s.heap.size ≤ q → A q := fun q h => by rw [← hAe]; exact Or.inr h
  have hS : va_S A s.heap s.heap [] := va_S.rf
  have hP : va_P (dC, dI) vwCl [(b, .inr (0, [.ref q])), (q, .inl (cB_, n, .inl (cB M))), (b2, .inr (0, [.ref q2])), (q2, .inl (cB2, n2, .inl (cB D)))] s.heap := hP
  have hl := lv_entry ([.ref b, .long pl, .ref b2, .long pl2, .int x]) (n := 7) (Nat.le_of_ble_eq_true rfl)
  rw [lg_entry_eq]
  generalize (lg_sl ([.ref b, .long pl, .ref b2, .long pl2, .int x]) ++ List.replicate (7 - (lg_sl ([.ref b, .long pl, .ref b2, .long pl2, .int x])).length) Slot.unset).toArray = ls at hl ⊢
  have hl : lv_has ls 7 [(0, .ref b), (1, .long pl), (3, .ref b2), (4, .long pl2), (6, .int x)] := hl
  refine lv_aload_n hx hb dX0_copyTo_0 rfl (lv_at hl 0 rfl) ?_
  refine lv_lload_n hx hb dX0_copyTo_1 rfl (lv_at hl 1 rfl) ?_
  refine lv_iload hx hb dX0_copyTo_2 (lv_at hl 4 rfl) ?_
  refine lv_i2l (v := x.toInt64) hx hb dX0_copyTo_4 rfl ?_
  have hPc := hP.sub (ws' := [(b, .inr (0, [.ref q])), (q, .inl (cB_, n, .inl (cB M)))]) [0, 1] rfl
  have hKc := hK.sub (tys' := [(cB_, .byte)]) [0] rfl
  have hZc := (hZ.kept hS.2.1).narrow (B := fun _ => False) (fun _ h => h.elim)
  refine vp_callSi (va_runV (As := [.long pl, .long x.toInt64]) (rest := []) ⟨hx, hb, hml, hown, hw⟩ (c_holds l dC dI b q cB_ n (cB M) pl x.toInt64 hn) (cwV 2 hw (gV w_2af9ab2b3b w_bd9bccf83c w_88968f97c9 w_82b0ef516c w_0dba9a2727) rfl rfl rfl (by decide +kernel) ⟨Nat.le_of_ble_eq_true rfl, Nat.le_of_ble_eq_true rfl⟩) ⟨fun a U g mk q => by obtain ⟨q0, qP, qK, qZ⟩ := q; exact ⟨q0, qP, va_K.moved (u := U) (U := U.calling g mk a) (Vm.Alike.refl U.vm) qK, ZZ.same (u := U) (U := U.calling g mk a) rfl qZ⟩, va_recv hKc hPc (ci := 0) (q0 := 0) rfl rfl, fun U hU hW => ⟨rfl, by rw [hU]; exact hPc, va_K.moved hW.alike hKc, by rw [hU]; exact ZZ.warm hW hZc⟩⟩ rfl rfl hl.1 rfl (lv_room (Nat.le_of_ble_eq_true rfl)) dX0_copyTo_5 ⟨Nat.zero_le _, Nat.zero_le _⟩).run (fun r_1 hr_1 => ?_)
  have hr_1 : r_1 = bI (hoP n pl x.toInt64) := hr_1
  refine lv_if_eq (tgt := 41) hx hb dX0_copyTo_8 (by decide) (fun c_2 => ?_) (fun c_2 => ?_)
  · skip
    have b_3 : ¬ (hoP n pl x.toInt64) := bI_0 (by rw [← hr_1]; exact c_2)
    have hP9 : va_P (dC, dI) vwCl [(b, .inr (0, [.ref q])), (q, .inl (cB_, n, .inl (cB M))), (b2, .inr (0, [.ref q2])), (q2, .inl (cB2, n2, .inl (cB D)))] s.heap := by exact hP.sub (ws' := [(b, .inr (0, [.ref q])), (q, .inl (cB_, n, .inl (cB M))), (b2, .inr (0, [.ref q2])), (q2, .inl (cB2, n2, .inl (cB D)))]) [0, 1, 2, 3] rfl
    have hD9 : va_D A [(b, .inr (0, [.ref q])), (q, .inl (cB_, n, .inl (cB M))), (b2, .inr (0, [.ref q2])), (q2, .inl (cB2, n2, .inl (cB D)))] := by exact hD.sub (ws' := [(b, .inr (0, [.ref q])), (q, .inl (cB_, n, .inl (cB M))), (b2, .inr (0, [.ref q2])), (q2, .inl (cB2, n2, .inl (cB D)))]) [0, 1, 2, 3] (by decide) rfl
    have hK9 := hK.sub (tys' := [(cB_, .byte), (cB2, .byte)]) [0, 1] rfl
    exact W.vret hx hb hr (fun t ht hW => ⟨⟨(cB D), rfl, (by unfold cpB; rw [if_neg (fun z => b_3 z.1)]), by rw [ht]; exact hP9, va_K.moved hW.alike hK9, hD9⟩, hS.F ht⟩) hS.2.2 dX0_copyTo_41
  · skip
    have b_4 : (hoP n pl x.toInt64) := bI_1 (by rw [← hr_1]; exact c_2)
    refine lv_aload_n hx hb dX0_copyTo_11 rfl (lv_at hl 2 rfl) ?_
    refine lv_lload hx hb dX0_copyTo_12 (lv_at hl 3 rfl) ?_
    refine lv_iload hx hb dX0_copyTo_14 (lv_at hl 4 rfl) ?_
    refine lv_i2l (v := x.toInt64) hx hb dX0_copyTo_16 rfl ?_
    have hPc := hP.sub (ws' := [(b2, .inr (0, [.ref q2])), (q2, .inl (cB2, n2, .inl (cB D)))]) [2, 3] rfl
    have hKc := hK.sub (tys' := [(cB2, .byte)]) [1] rfl
    have hZc := (hZ.kept hS.2.1).narrow (B := fun _ => False) (fun _ h => h.elim)
    refine vp_callSi (va_runV (As := [.long pl2, .long x.toInt64]) (rest := []) ⟨hx, hb, hml, hown, hw⟩ (c_holds l dC dI b2 q2 cB2 n2 (cB D) pl2 x.toInt64 hn2) (cwV 2 hw (gV w_2af9ab2b3b w_bd9bccf83c w_88968f97c9 w_82b0ef516c w_0dba9a2727) rfl rfl rfl (by decide +kernel) ⟨Nat.le_of_ble_eq_true rfl, Nat.le_of_ble_eq_true rfl⟩) ⟨fun a U g mk q => by obtain ⟨q0, qP, qK, qZ⟩ := q; exact ⟨q0, qP, va_K.moved (u := U) (U := U.calling g mk a) (Vm.Alike.refl U.vm) qK, ZZ.same (u := U) (U := U.calling g mk a) rfl qZ⟩, va_recv hKc hPc (ci := 0) (q0 := 0) rfl rfl, fun U hU hW => ⟨rfl, by rw [hU]; exact hPc, va_K.moved hW.alike hKc, by rw [hU]; exact ZZ.warm hW hZc⟩⟩ rfl rfl hl.1 rfl (lv_room (Nat.le_of_ble_eq_true rfl)) dX0_copyTo_17 ⟨Nat.zero_le _, Nat.zero_le _⟩).run (fun r_5 hr_5 => ?_)
    have hr_5 : r_5 = bI (hoP n2 pl2 x.toInt64) := hr_5
    refine lv_if_eq (tgt := 41) hx hb dX0_copyTo_20 (by decide) (fun c_6 => ?_) (fun c_6 => ?_)
    · skip
      have b_7 : ¬ (hoP n2 pl2 x.toInt64) := bI_0 (by rw [← hr_5]; exact c_6)
      have hP9 : va_P (dC, dI) vwCl [(b, .inr (0, [.ref q])), (q, .inl (cB_, n, .inl (cB M))), (b2, .inr (0, [.ref q2])), (q2, .inl (cB2, n2, .inl (cB D)))] s.heap := by exact hP.sub (ws' := [(b, .inr (0, [.ref q])), (q, .inl (cB_, n, .inl (cB M))), (b2, .inr (0, [.ref q2])), (q2, .inl (cB2, n2, .inl (cB D)))]) [0, 1, 2, 3] rfl
      have hD9 : va_D A [(b, .inr (0, [.ref q])), (q, .inl (cB_, n, .inl (cB M))), (b2, .inr (0, [.ref q2])), (q2, .inl (cB2, n2, .inl (cB D)))] := by exact hD.sub (ws' := [(b, .inr (0, [.ref q])), (q, .inl (cB_, n, .inl (cB M))), (b2, .inr (0, [.ref q2])), (q2, .inl (cB2, n2, .inl (cB D)))]) [0, 1, 2, 3] (by decide) rfl
      have hK9 := hK.sub (tys' := [(cB_, .byte), (cB2, .byte)]) [0, 1] rfl
      exact W.vret hx hb hr (fun t ht hW => ⟨⟨(cB D), rfl, (by unfold cpB; rw [if_neg (fun z => b_7 z.2)]), by rw [ht]; exact hP9, va_K.moved hW.alike hK9, hD9⟩, hS.F ht⟩) hS.2.2 dX0_copyTo_41
    · skip
      have b_8 : (hoP n2 pl2 x.toInt64) := bI_1 (by rw [← hr_5]; exact c_6)
      refine lv_aload_n hx hb dX0_copyTo_23 rfl (lv_at hl 0 rfl) ?_
      refine va_get (D := (dC, dI)) (ci := 0) (v := .ref q) (C := RX0) (T := TX0) (N := 1) hx hb hw inX0 hown hK hP 0 rfl rfl 0 (by decide) (hw _ w_dc5be6518e) (fun _ h9 => h9) rfl dX0_copyTo_24 ?_
      refine lv_lload_n hx hb dX0_copyTo_27 rfl (lv_at hl 1 rfl) ?_
      refine lv_l2i (v := pl.toInt32) hx hb dX0_copyTo_28 rfl ?_
      refine lv_aload_n hx hb dX0_copyTo_29 rfl (lv_at hl 2 rfl) ?_
      refine va_get (D := (dC, dI)) (ci := 0) (v := .ref q2) (C := RX0) (T := TX0) (N := 1) hx hb hw inX0 hown hK hP 2 rfl rfl 0 (by decide) (hw _ w_dc5be6518e) (fun _ h9 => h9) rfl dX0_copyTo_30 ?_
      refine lv_lload hx hb dX0_copyTo_33 (lv_at hl 3 rfl) ?_
      refine lv_l2i (v := pl2.toInt32) hx hb dX0_copyTo_35 rfl ?_
      refine lv_iload hx hb dX0_copyTo_36 (lv_at hl 4 rfl) ?_
      have hA1 := ho_cl hn b_4
      have hA2 := ho_cl hn2 b_8
      have hx1 : ¬ x < 0 ∧ x.toNatClampNeg = x.toInt.toNat := ⟨by rw [Int32.lt_iff_toInt_lt, i0]; have h1 := b_4.2.1; rw [Int32.toInt_toInt64] at h1; omega, rfl⟩
      have hx2 : pl.toInt + x.toInt ≤ n ∧ pl2.toInt + x.toInt ≤ n2 ∧ 0 ≤ x.toInt ∧ 0 ≤ pl.toInt ∧ 0 ≤ pl2.toInt := by have h1 := b_4; have h2 := b_8; have e := Int32.toInt_toInt64 x; omega
      refine va_copyi (ty := .byte) hx hb (by rw [hml]; exact hl.1.symm) hown (hw _ w_5ff2c2c852) (hw _ w_3d26558896) (hw _ w_b29db29120) (hw _ w_a5e0699f43) hK hP hD hS 1 3 0 1 rfl rfl rfl rfl rfl hA1.2 hA2.2 hx1.1 (by rw [hA1.1, hx1.2]; omega) (by rw [hA2.1, hx1.2]; omega) (fun i _ => cB_fit M _) (Nat.le_of_ble_eq_true rfl) (Nat.le_of_ble_eq_true rfl) dX0_copyTo_38 (fun H locs hP hD hS => ?_)
      have hP : va_P (dC, dI) vwCl [(b, .inr (0, [.ref q])), (q, .inl (cB_, n, .inl (cB M))), (b2, .inr (0, [.ref q2])), (q2, .inl (cB2, n2, .inl (va_cpy (cB M) (cB D) pl.toInt32.toNatClampNeg pl2.toInt32.toNatClampNeg x.toNatClampNeg)))] H := hP
      have hD : va_D A [(b, .inr (0, [.ref q])), (q, .inl (cB_, n, .inl (cB M))), (b2, .inr (0, [.ref q2])), (q2, .inl (cB2, n2, .inl (va_cpy (cB M) (cB D) pl.toInt32.toNatClampNeg pl2.toInt32.toNatClampNeg x.toNatClampNeg)))] := hD
      have hP9 : va_P (dC, dI) vwCl [(b, .inr (0, [.ref q])), (q, .inl (cB_, n, .inl (cB M))), (b2, .inr (0, [.ref q2])), (q2, .inl (cB2, n2, .inl (va_cpy (cB M) (cB D) pl.toInt32.toNatClampNeg pl2.toInt32.toNatClampNeg x.toNatClampNeg)))] H := by exact hP.sub (ws' := [(b, .inr (0, [.ref q])), (q, .inl (cB_, n, .inl (cB M))), (b2, .inr (0, [.ref q2])), (q2, .inl (cB2, n2, .inl (va_cpy (cB M) (cB D) pl.toInt32.toNatClampNeg pl2.toInt32.toNatClampNeg x.toNatClampNeg)))]) [0, 1, 2, 3] rfl
      have hD9 : va_D A [(b, .inr (0, [.ref q])), (q, .inl (cB_, n, .inl (cB M))), (b2, .inr (0, [.ref q2])), (q2, .inl (cB2, n2, .inl (va_cpy (cB M) (cB D) pl.toInt32.toNatClampNeg pl2.toInt32.toNatClampNeg x.toNatClampNeg)))] := by exact hD.sub (ws' := [(b, .inr (0, [.ref q])), (q, .inl (cB_, n, .inl (cB M))), (b2, .inr (0, [.ref q2])), (q2, .inl (cB2, n2, .inl (va_cpy (cB M) (cB D) pl.toInt32.toNatClampNeg pl2.toInt32.toNatClampNeg x.toNatClampNeg)))]) [0, 1, 2, 3] (by decide) rfl
      have hK9 := hK.sub (tys' := [(cB_, .byte), (cB2, .byte)]) [0, 1] rfl
      exact W.vret hx hb hr (fun t ht hW => ⟨⟨(va_cpy (cB M) (cB D) pl.toInt32.toNatClampNeg pl2.toInt32.toNatClampNeg x.toNatClampNeg), rfl, (by unfold cpB; rw [if_pos ⟨b_4, b_8⟩, cB_cpy, hA1.1, hA2.1, hx1.2]), by rw [ht]; exact hP9, va_K.moved hW.alike hK9, hD9⟩, hS.F ht⟩) hS.2.2 dX0_copyTo_41
set_option maxHeartbeats 4000000 in
set_option maxRecDepth 100000 in
/-- Bytes.<init> -/
theorem c_Bytes_init (l : Launch) (dC : Nat → ClassId) (dI : Nat → Nat → Nat) (b : Nat) (x : Int32) (n : Nat) (zS : Nat) (hxn : x = nI n) (hn : n ≤ 1048576) : Met l yX0_init wsX0_init ({ frames := 1, cells := 1, slots := n, locals := 20 }) (va_Pc [.ref b, .int x] (fun U => U.heap.size = zS ∧ va_P (dC, dI) vwCl [(b, .inr (0, [.null]))] U.heap ∧ va_K (dC, dI) vwCl [] U ∧ va_D (fun _ => True) [(b, .inr (0, [.null]))] ∧ ZZ (va_A [(b, .inr (0, [.null]))] zS) U U.heap)) (va_Qv (fun (_ : Unit) => True) (fun (_ : Unit) (t : State) => ∃ q : Nat, ∃ cB_ : ClassId, va_P (dC, dI) vwCl [(b, .inr (0, [.ref q])), (q, .inl (cB_, n, .inl (cB (fun _ => 0))))] t.heap ∧ va_K (dC, dI) vwCl [(cB_, .byte)] t ∧ va_D (va_A [(b, .inr (0, [.null]))] zS) [(b, .inr (0, [.ref q])), (q, .inl (cB_, n, .inl (cB (fun _ => 0))))]) (va_A [(b, .inr (0, [.null]))] zS)) 1 n (va_A [(b, .inr (0, [.null]))] zS) := by
  refine Met.ofW (cc := cX0_init) (maxL := 2) (ret := (none)) (by decide) rfl ?_
  intro p e s m args below meth c s₁ B hml hv
  obtain ⟨rfl, hsz, hP, hK, hD0, hZ⟩ := hv
  have hx := B.exec
  have hb := B.bytes
  have hr := B.returns
  have hts := atoms_spec (ws := wsX0_init) B.pre
  have hw : ∀ w ∈ WW, w.before _ s = true := fun w h => hts w (List.mem_cons_of_mem _ h)
  have hown : s.vm.findClass RX0 = some m.cls := findClass_of_methodNamed B.named
  have hlocks := B.notSynchronized
  have hin : meth.name = "<init>" := (name_of_methodNamed B.named B.method).1
  subst hsz
  have hD := hD0.self (sz := s.heap.size)
  generalize hAe : va_A [(b, .inr (0, [.null]))] s.heap.size = A at hD hZ ⊢
  have hA : ∀ q : Nat, s.heap.size ≤ q → A q := fun q h => by rw [← hAe]; exact Or.inr h
  have hS : va_S A s.heap s.heap [] := va_S.rf
  have hP : va_P (dC, dI) vwCl [(b, .inr (0, [.null]))] s.heap := hP
  have hl := lv_entry ([.ref b, .int x]) (n := 2) (Nat.le_of_ble_eq_true rfl)
  rw [lg_entry_eq]
  generalize (lg_sl ([.ref b, .int x]) ++ List.replicate (2 - (lg_sl ([.ref b, .int x])).length) Slot.unset).toArray = ls at hl ⊢
  have hl : lv_has ls 2 [(0, .ref b), (1, .int x)] := hl
  refine lv_aload_n hx hb dX0_init_0 rfl (lv_at hl 0 rfl) ?_
  refine W.objInit hx hb hown (hw _ w_495d8fa308) (hw _ w_e68b0fb77c) (hw _ w_f29cc5b5a1) rfl (by rw [hml]; exact hl.1) rfl dX0_init_1 (Nat.le_of_ble_eq_true rfl) (Nat.le_of_ble_eq_true rfl) ?_
  refine W.eq (g2 := F0 m 4 ls []) rfl ?_
  refine lv_aload_n hx hb dX0_init_4 rfl (lv_at hl 0 rfl) ?_
  refine lv_iload_n hx hb dX0_init_5 rfl (lv_at hl 1 rfl) ?_
  refine lv_if_ge (tgt := 13) hx hb dX0_init_6 (by decide) (fun c_1 => ?_) (fun c_1 => ?_)
  · skip
    refine lv_iload_n hx hb dX0_init_13 rfl (lv_at hl 1 rfl) ?_
    refine va_newa (atype := .byte) (ty := .byte) (N' := n) (a0 := (n, .inl (fun _ => 0))) hx hb (hw _ w_0b5f1ea06e) rfl hK hP hD hS hA (fun _ => rfl) (by rw [hxn]; exact nI_pos (by omega)) (by rw [hxn, nI_clamp (by omega)]) (by show n * 1 ≤ 536870912; omega) (Nat.le_refl 1) (by show 0 + n ≤ n; omega) dX0_init_14 (fun qa_2 cA_3 H hK hP hD hS => ?_)
    refine W.cs (cells' := 1) (slots' := n) (by omega) (by omega) ?_
    have hP : va_P (dC, dI) vwCl [(b, .inr (0, [.null])), (qa_2, .inl (cA_3, n, .inl (fun _ => 0)))] H := hP
    have hD : va_D A [(b, .inr (0, [.null])), (qa_2, .inl (cA_3, n, .inl (fun _ => 0)))] := hD
    have hK : va_K (dC, dI) vwCl [(cA_3, .byte)] s := hK
    refine va_putF (D := (dC, dI)) (ci := 0) (v := .ref qa_2) (ty := (.array .byte)) (C := RX0) (T := TX0) (N := 1) hx hb hw inX0 tyX0 tyX0_ok nmX0 hown hK hP hD hS 0 rfl rfl 0 (by decide) (hw _ w_dc5be6518e) (fun _ h9 => h9) rfl hin rfl (by decide +kernel) rfl rfl (Nat.le_of_ble_eq_true rfl) dX0_init_16 (fun H locs hP hD hS => ?_)
    have hP : va_P (dC, dI) vwCl [(b, .inr (0, [.ref qa_2])), (qa_2, .inl (cA_3, n, .inl (fun _ => 0)))] H := hP
    have hD : va_D A [(b, .inr (0, [.ref qa_2])), (qa_2, .inl (cA_3, n, .inl (fun _ => 0)))] := hD
    have hP9 : va_P (dC, dI) vwCl [(b, .inr (0, [.ref qa_2])), (qa_2, .inl (cA_3, n, .inl (cB (fun _ => 0))))] H := by rw [← cB_0]; exact hP.sub (ws' := [(b, .inr (0, [.ref qa_2])), (qa_2, .inl (cA_3, n, .inl (fun _ => 0)))]) [0, 1] rfl
    have hD9 : va_D A [(b, .inr (0, [.ref qa_2])), (qa_2, .inl (cA_3, n, .inl (cB (fun _ => 0))))] := by rw [← cB_0]; exact hD.sub (ws' := [(b, .inr (0, [.ref qa_2])), (qa_2, .inl (cA_3, n, .inl (fun _ => 0)))]) [0, 1] (by decide) rfl
    have hK9 := hK.sub (tys' := [(cA_3, .byte)]) [0] rfl
    refine W.widen (k := 1) (n := n) (by omega) (by omega) ?_
    exact W.vret hx hb hr (fun t ht hW => ⟨⟨(), rfl, trivial, qa_2, cA_3, by rw [ht]; exact hP9, va_K.moved hW.alike hK9, hD9⟩, hS.F ht⟩) hS.2.2 dX0_init_19
  · skip
    exact absurd (by rw [hxn]; exact nI_pos' (by omega)) c_1
