set_option maxHeartbeats 4000000 in
set_option maxRecDepth 100000 in
/-- Model.byteOf -/
theorem m_byteOf (l : Launch) (dC : Nat → ClassId) (dI : Nat → Nat → Nat) (q : Nat) (cJ : ClassId) (N : Nat) (M : Nat → Nat) (x : Int32) (i : Nat) (hx0 : x = nI i) (hi : i < 8 * N) (hN : 8 * N < 2 ^ 31) (hM : byt M) : Met l yX4_byteOf wsX4_byteOf ({ frames := 0, cells := 0, slots := 0, locals := 0 }) (va_Pc [.ref q, .int x] (fun U => va_P (dC, dI) vwCl [(q, .inl (cJ, N, .inr (.inl (mL M))))] U.heap ∧ va_K (dC, dI) vwCl [(cJ, .long)] U ∧ ZZ (fun _ => False) U U.heap)) (vp_Si (fun r => r = nI (M i))) 0 0 (fun _ => False) := by
  refine Met.ofW (cc := cX4_byteOf) (maxL := 2) (ret := (some .int)) (by decide) rfl ?_
  intro p e s m args below meth c s₁ B hml hv
  obtain ⟨rfl, hP, hK, hZ⟩ := hv
  have hx := B.exec
  have hb := B.bytes
  have hr := B.returns
  have hts := atoms_spec (ws := wsX4_byteOf) B.pre
  have hw : ∀ w ∈ WW, w.before _ s = true := fun w h => hts w (List.mem_cons_of_mem _ h)
  have hown : s.vm.findClass RX4 = some m.cls := findClass_of_methodNamed B.named
  have hlocks := B.notSynchronized
  have hl := lv_entry ([.ref q, .int x]) (n := 2) (Nat.le_of_ble_eq_true rfl)
  rw [lg_entry_eq]
  generalize (lg_sl ([.ref q, .int x]) ++ List.replicate (2 - (lg_sl ([.ref q, .int x])).length) Slot.unset).toArray = ls at hl ⊢
  have hl : lv_has ls 2 [(0, .ref q), (1, .int x)] := hl
  refine lv_aload_n hx hb dX4_byteOf_0 rfl (lv_at hl 0 rfl) ?_
  refine lv_iload_n hx hb dX4_byteOf_1 rfl (lv_at hl 1 rfl) ?_
  refine lv_bipush (v := 8) hx hb dX4_byteOf_2 (by decide) ?_
  refine lv_idiv hx hb dX4_byteOf_4 (by decide) ?_
  refine va_lald hx hb hK hP 0 0 rfl rfl (by rw [hx0, dv8 (by omega)]; exact vp_in_nI (by omega) (by omega)) dX4_byteOf_5 ?_
  refine lv_bipush (v := 8) hx hb dX4_byteOf_6 (by decide) ?_
  refine lv_iload_n hx hb dX4_byteOf_8 rfl (lv_at hl 1 rfl) ?_
  refine lv_bipush (v := 8) hx hb dX4_byteOf_9 (by decide) ?_
  refine lv_irem hx hb dX4_byteOf_11 (by decide) ?_
  refine lv_imul hx hb dX4_byteOf_12 ?_
  refine lv_lushr (v := (((mL M) (x / 8).toNatClampNeg).toUInt64 >>> ((8 * (x - x / 8 * 8)).toInt64.toUInt64 &&& Int64.toUInt64 63)).toInt64) hx hb dX4_byteOf_13 rfl ?_
  refine lv_l2i (v := ((((mL M) (x / 8).toNatClampNeg).toUInt64 >>> ((8 * (x - x / 8 * 8)).toInt64.toUInt64 &&& Int64.toUInt64 63)).toInt64).toInt32) hx hb dX4_byteOf_14 rfl ?_
  refine lv_sipush (v := 255) hx hb dX4_byteOf_15 (by decide) ?_
  refine lv_iand hx hb dX4_byteOf_18 ?_
  exact W.iret (v := (((((mL M) (x / 8).toNatClampNeg).toUInt64 >>> ((8 * (x - x / 8 * 8)).toInt64.toUInt64 &&& Int64.toUInt64 63)).toInt64).toInt32) &&& 255) hx hb hr (fun t ht hW => ⟨_, rfl, (by rw [hx0]; exact mL_get hM (by omega)), ht⟩) t_nil dX4_byteOf_19
set_option maxHeartbeats 4000000 in
set_option maxRecDepth 100000 in
/-- Model.putByte -/
theorem m_putByte (l : Launch) (dC : Nat → ClassId) (dI : Nat → Nat → Nat) (q : Nat) (cJ : ClassId) (N : Nat) (M : Nat → Nat) (x : Int32) (i : Nat) (v : Int32) (zS : Nat) (hx0 : x = nI i) (hi : i < 8 * N) (hN : 8 * N < 2 ^ 31) (hM : byt M) : Met l yX4_putByte wsX4_putByte ({ frames := 0, cells := 0, slots := 0, locals := 0 }) (va_Pc [.ref q, .int x, .int v] (fun U => U.heap.size = zS ∧ va_P (dC, dI) vwCl [(q, .inl (cJ, N, .inr (.inl (mL M))))] U.heap ∧ va_K (dC, dI) vwCl [(cJ, .long)] U ∧ va_D (fun _ => True) [(q, .inl (cJ, N, .inr (.inl (mL M))))] ∧ ZZ (va_A [(q, .inl (cJ, N, .inr (.inl (mL M))))] zS) U U.heap)) (va_Qv (fun (u : (Nat → Int64)) => match u with | g => g = mL (va_up M i (v.toBitVec.toNat % 256))) (fun (u : (Nat → Int64)) (t : State) => match u with | g => va_P (dC, dI) vwCl [(q, .inl (cJ, N, .inr (.inl g)))] t.heap ∧ va_K (dC, dI) vwCl [(cJ, .long)] t ∧ va_D (va_A [(q, .inl (cJ, N, .inr (.inl (mL M))))] zS) [(q, .inl (cJ, N, .inr (.inl g)))]) (va_A [(q, .inl (cJ, N, .inr (.inl (mL M))))] zS)) 0 0 (va_A [(q, .inl (cJ, N, .inr (.inl (mL M))))] zS) := by
  refine Met.ofW (cc := cX4_putByte) (maxL := 4) (ret := (none)) (by decide) rfl ?_
  intro p e s m args below meth c s₁ B hml hv
  obtain ⟨rfl, hsz, hP, hK, hD0, hZ⟩ := hv
  have hx := B.exec
  have hb := B.bytes
  have hr := B.returns
  have hts := atoms_spec (ws := wsX4_putByte) B.pre
  have hw : ∀ w ∈ WW, w.before _ s = true := fun w h => hts w (List.mem_cons_of_mem _ h)
  have hown : s.vm.findClass RX4 = some m.cls := findClass_of_methodNamed B.named
  have hlocks := B.notSynchronized
  subst hsz
  have hD := hD0.self (sz := s.heap.size)
  generalize hAe : va_A [(q, .inl (cJ, N, .inr (.inl (mL M))))] s.heap.size = A at hD hZ ⊢
  have hA : ∀ q : Nat, s.heap.size ≤ q → A q := fun q h => by rw [← hAe]; exact Or.inr h
  have hS : va_S A s.heap s.heap [] := va_S.rf
  have hP : va_P (dC, dI) vwCl [(q, .inl (cJ, N, .inr (.inl (mL M))))] s.heap := hP
  have hl := lv_entry ([.ref q, .int x, .int v]) (n := 4) (Nat.le_of_ble_eq_true rfl)
  rw [lg_entry_eq]
  generalize (lg_sl ([.ref q, .int x, .int v]) ++ List.replicate (4 - (lg_sl ([.ref q, .int x, .int v])).length) Slot.unset).toArray = ls at hl ⊢
  have hl : lv_has ls 4 [(0, .ref q), (1, .int x), (2, .int v)] := hl
  refine lv_bipush (v := 8) hx hb dX4_putByte_0 (by decide) ?_
  refine lv_iload_n hx hb dX4_putByte_2 rfl (lv_at hl 1 rfl) ?_
  refine lv_bipush (v := 8) hx hb dX4_putByte_3 (by decide) ?_
  refine lv_irem hx hb dX4_putByte_5 (by decide) ?_
  refine lv_imul hx hb dX4_putByte_6 ?_
  refine lv_topi (fun x_1 ex_1 => ?_)
  refine lv_istore_n (lv' := [(3, .int x_1), (0, .ref q), (1, .int x), (2, .int v)]) hx hb dX4_putByte_7 rfl hl (by decide) rfl (fun ls hl => ?_)
  refine lv_aload_n hx hb dX4_putByte_8 rfl (lv_at hl 1 rfl) ?_
  refine lv_iload_n hx hb dX4_putByte_9 rfl (lv_at hl 2 rfl) ?_
  refine lv_bipush (v := 8) hx hb dX4_putByte_10 (by decide) ?_
  refine lv_idiv hx hb dX4_putByte_12 (by decide) ?_
  refine lv_aload_n hx hb dX4_putByte_13 rfl (lv_at hl 1 rfl) ?_
  refine lv_iload_n hx hb dX4_putByte_14 rfl (lv_at hl 2 rfl) ?_
  refine lv_bipush (v := 8) hx hb dX4_putByte_15 (by decide) ?_
  refine lv_idiv hx hb dX4_putByte_17 (by decide) ?_
  refine va_lald hx hb hK hP 0 0 rfl rfl (by rw [hx0, dv8 (by omega)]; exact vp_in_nI (by omega) (by omega)) dX4_putByte_18 ?_
  refine lv_ldc2 (v := 255) hx hb hown (hw _ w_18a4d6a983) dX4_putByte_19 ?_
  refine lv_iload_n hx hb dX4_putByte_22 rfl (lv_at hl 0 rfl) ?_
  refine lv_lshl (v := 255 <<< (x_1.toInt64 &&& 63)) hx hb dX4_putByte_23 rfl ?_
  refine lv_ldc2 (v := (-1)) hx hb hown (hw _ w_2cff31ae2b) dX4_putByte_24 ?_
  refine lv_lxor hx hb dX4_putByte_27 ?_
  refine lv_land hx hb dX4_putByte_28 ?_
  refine lv_iload_n hx hb dX4_putByte_29 rfl (lv_at hl 3 rfl) ?_
  refine lv_i2l (v := v.toInt64) hx hb dX4_putByte_30 rfl ?_
  refine lv_ldc2 (v := 255) hx hb hown (hw _ w_18a4d6a983) dX4_putByte_31 ?_
  refine lv_land hx hb dX4_putByte_34 ?_
  refine lv_iload_n hx hb dX4_putByte_35 rfl (lv_at hl 0 rfl) ?_
  refine lv_lshl (v := (v.toInt64 &&& 255) <<< (x_1.toInt64 &&& 63)) hx hb dX4_putByte_36 rfl ?_
  refine lv_lor hx hb dX4_putByte_37 ?_
  refine lv_topl (fun x_2 ex_2 => ?_)
  refine va_last hx hb hK hP hD hS 0 0 rfl rfl (by rw [hx0, dv8 (by omega)]; exact vp_in_nI (by omega) (by omega)) dX4_putByte_38 (fun H locs hP hD hS => ?_)
  have hP : va_P (dC, dI) vwCl [(q, .inl (cJ, N, .inr (.inl (vp_updL (mL M) (x / 8).toNatClampNeg x_2))))] H := hP
  have hD : va_D A [(q, .inl (cJ, N, .inr (.inl (vp_updL (mL M) (x / 8).toNatClampNeg x_2))))] := hD
  have hP9 : va_P (dC, dI) vwCl [(q, .inl (cJ, N, .inr (.inl (vp_updL (mL M) (x / 8).toNatClampNeg x_2))))] H := by exact hP.sub (ws' := [(q, .inl (cJ, N, .inr (.inl (vp_updL (mL M) (x / 8).toNatClampNeg x_2))))]) [0] rfl
  have hD9 : va_D A [(q, .inl (cJ, N, .inr (.inl (vp_updL (mL M) (x / 8).toNatClampNeg x_2))))] := by exact hD.sub (ws' := [(q, .inl (cJ, N, .inr (.inl (vp_updL (mL M) (x / 8).toNatClampNeg x_2))))]) [0] (by decide) rfl
  have hK9 := hK.sub (tys' := [(cJ, .long)]) [0] rfl
  exact W.vret hx hb hr (fun t ht hW => ⟨⟨(vp_updL (mL M) (x / 8).toNatClampNeg x_2), rfl, (by rw [ex_2, ex_1, hx0]; exact mL_put hM (by omega) v), by rw [ht]; exact hP9, va_K.moved hW.alike hK9, hD9⟩, hS.F ht⟩) hS.2.2 dX4_putByte_39
set_option maxHeartbeats 4000000 in
set_option maxRecDepth 100000 in
/-- Model.isThere -/
theorem m_isThere (l : Launch) (dC : Nat → ClassId) (dI : Nat → Nat → Nat) (a : Int64) (ct : Int64) : Met l yX4_isThere wsX4_isThere ({ frames := 0, cells := 0, slots := 0, locals := 0 }) (va_Pc [.long a, .long ct] (fun U => va_P (dC, dI) vwCl [] U.heap ∧ va_K (dC, dI) vwCl [] U ∧ ZZ (fun _ => False) U U.heap)) (vp_Si (fun r => r = bI (thP a ct))) 0 0 (fun _ => False) := by
  refine Met.ofW (cc := cX4_isThere) (maxL := 4) (ret := (some .boolean)) (by decide) rfl ?_
  intro p e s m args below meth c s₁ B hml hv
  obtain ⟨rfl, hP, hK, hZ⟩ := hv
  have hx := B.exec
  have hb := B.bytes
  have hr := B.returns
  have hts := atoms_spec (ws := wsX4_isThere) B.pre
  have hw : ∀ w ∈ WW, w.before _ s = true := fun w h => hts w (List.mem_cons_of_mem _ h)
  have hown : s.vm.findClass RX4 = some m.cls := findClass_of_methodNamed B.named
  have hlocks := B.notSynchronized
  have hl := lv_entry ([.long a, .long ct]) (n := 4) (Nat.le_of_ble_eq_true rfl)
  rw [lg_entry_eq]
  generalize (lg_sl ([.long a, .long ct]) ++ List.replicate (4 - (lg_sl ([.long a, .long ct])).length) Slot.unset).toArray = ls at hl ⊢
  have hl : lv_has ls 4 [(0, .long a), (2, .long ct)] := hl
  refine lv_lload_n hx hb dX4_isThere_0 rfl (lv_at hl 1 rfl) ?_
  refine lv_lconst (v := 0) hx hb dX4_isThere_1 (by decide) ?_
  refine W.lcmp hx hb dX4_isThere_2 ?_
  refine lv_if_eq (tgt := 32) hx hb dX4_isThere_3 (by decide) (fun c_1 => ?_) (fun c_1 => ?_)
  · skip
    refine lv_iconst (v := 1) hx hb dX4_isThere_32 (by decide) ?_
    refine lv_goto (tgt := 37) hx hb dX4_isThere_33 (by decide) ?_
    exact W.zret (v := 1) hx hb hr rfl (fun t ht hW => ⟨_, rfl, (bI_t (th_y0 c_1)).symm, ht⟩) t_nil dX4_isThere_37
  · skip
    refine lv_lload_n hx hb dX4_isThere_6 rfl (lv_at hl 0 rfl) ?_
    refine lv_ldc2 (v := 2147483648) hx hb hown (hw _ w_da329b00a8) dX4_isThere_7 ?_
    refine W.lcmp hx hb dX4_isThere_10 ?_
    refine lv_if_lt (tgt := 36) hx hb dX4_isThere_11 (by decide) (fun c_2 => ?_) (fun c_2 => ?_)
    · skip
      refine lv_iconst (v := 0) hx hb dX4_isThere_36 (by decide) ?_
      exact W.zret (v := 0) hx hb hr rfl (fun t ht hW => ⟨_, rfl, (bI_f (th_n2 c_1 c_2)).symm, ht⟩) t_nil dX4_isThere_37
    · skip
      refine lv_lload_n hx hb dX4_isThere_14 rfl (lv_at hl 0 rfl) ?_
      refine lv_ldc2 (v := 2147549184) hx hb hown (hw _ w_572109e9b2) dX4_isThere_15 ?_
      refine W.lcmp hx hb dX4_isThere_18 ?_
      refine lv_if_ge (tgt := 36) hx hb dX4_isThere_19 (by decide) (fun c_3 => ?_) (fun c_3 => ?_)
      · skip
        refine lv_iconst (v := 0) hx hb dX4_isThere_36 (by decide) ?_
        exact W.zret (v := 0) hx hb hr rfl (fun t ht hW => ⟨_, rfl, (bI_f (th_n3 c_1 c_3)).symm, ht⟩) t_nil dX4_isThere_37
      · skip
        refine lv_lload_n hx hb dX4_isThere_22 rfl (lv_at hl 1 rfl) ?_
        refine lv_ldc2 (v := 2147549184) hx hb hown (hw _ w_572109e9b2) dX4_isThere_23 ?_
        refine lv_lload_n hx hb dX4_isThere_26 rfl (lv_at hl 0 rfl) ?_
        refine lv_lsub hx hb dX4_isThere_27 ?_
        refine W.lcmp hx hb dX4_isThere_28 ?_
        refine lv_if_gt (tgt := 36) hx hb dX4_isThere_29 (by decide) (fun c_4 => ?_) (fun c_4 => ?_)
        · skip
          refine lv_iconst (v := 0) hx hb dX4_isThere_36 (by decide) ?_
          exact W.zret (v := 0) hx hb hr rfl (fun t ht hW => ⟨_, rfl, (bI_f (th_n4 c_1 c_2 c_3 c_4)).symm, ht⟩) t_nil dX4_isThere_37
        · skip
          refine lv_iconst (v := 1) hx hb dX4_isThere_32 (by decide) ?_
          refine lv_goto (tgt := 37) hx hb dX4_isThere_33 (by decide) ?_
          exact W.zret (v := 1) hx hb hr rfl (fun t ht hW => ⟨_, rfl, (bI_t (th_y c_2 c_3 c_4)).symm, ht⟩) t_nil dX4_isThere_37
set_option maxHeartbeats 4000000 in
set_option maxRecDepth 100000 in
/-- Model.isSize -/
theorem m_isSize (l : Launch) (dC : Nat → ClassId) (dI : Nat → Nat → Nat) (x : Int32) : Met l yX4_isSize wsX4_isSize ({ frames := 0, cells := 0, slots := 0, locals := 0 }) (va_Pc [.int x] (fun U => va_P (dC, dI) vwCl [] U.heap ∧ va_K (dC, dI) vwCl [] U ∧ ZZ (fun _ => False) U U.heap)) (vp_Si (fun r => r = bI (szP x))) 0 0 (fun _ => False) := by
  refine Met.ofW (cc := cX4_isSize) (maxL := 1) (ret := (some .boolean)) (by decide) rfl ?_
  intro p e s m args below meth c s₁ B hml hv
  obtain ⟨rfl, hP, hK, hZ⟩ := hv
  have hx := B.exec
  have hb := B.bytes
  have hr := B.returns
  have hts := atoms_spec (ws := wsX4_isSize) B.pre
  have hw : ∀ w ∈ WW, w.before _ s = true := fun w h => hts w (List.mem_cons_of_mem _ h)
  have hown : s.vm.findClass RX4 = some m.cls := findClass_of_methodNamed B.named
  have hlocks := B.notSynchronized
  have hl := lv_entry ([.int x]) (n := 1) (Nat.le_of_ble_eq_true rfl)
  rw [lg_entry_eq]
  generalize (lg_sl ([.int x]) ++ List.replicate (1 - (lg_sl ([.int x])).length) Slot.unset).toArray = ls at hl ⊢
  have hl : lv_has ls 1 [(0, .int x)] := hl
  refine lv_iload_n hx hb dX4_isSize_0 rfl (lv_at hl 0 rfl) ?_
  refine lv_iconst (v := 1) hx hb dX4_isSize_1 (by decide) ?_
  refine lv_icmp_eq (tgt := 21) hx hb dX4_isSize_2 (by decide) (fun c_1 => ?_) (fun c_1 => ?_)
  · skip
    refine lv_iconst (v := 1) hx hb dX4_isSize_21 (by decide) ?_
    refine lv_goto (tgt := 26) hx hb dX4_isSize_22 (by decide) ?_
    exact W.zret (v := 1) hx hb hr rfl (fun t ht hW => ⟨_, rfl, (bI_t (Or.inl c_1)).symm, ht⟩) t_nil dX4_isSize_26
  · skip
    refine lv_iload_n hx hb dX4_isSize_5 rfl (lv_at hl 0 rfl) ?_
    refine lv_iconst (v := 2) hx hb dX4_isSize_6 (by decide) ?_
    refine lv_icmp_eq (tgt := 21) hx hb dX4_isSize_7 (by decide) (fun c_2 => ?_) (fun c_2 => ?_)
    · skip
      refine lv_iconst (v := 1) hx hb dX4_isSize_21 (by decide) ?_
      refine lv_goto (tgt := 26) hx hb dX4_isSize_22 (by decide) ?_
      exact W.zret (v := 1) hx hb hr rfl (fun t ht hW => ⟨_, rfl, (bI_t (Or.inr (Or.inl c_2))).symm, ht⟩) t_nil dX4_isSize_26
    · skip
      refine lv_iload_n hx hb dX4_isSize_10 rfl (lv_at hl 0 rfl) ?_
      refine lv_iconst (v := 4) hx hb dX4_isSize_11 (by decide) ?_
      refine lv_icmp_eq (tgt := 21) hx hb dX4_isSize_12 (by decide) (fun c_3 => ?_) (fun c_3 => ?_)
      · skip
        refine lv_iconst (v := 1) hx hb dX4_isSize_21 (by decide) ?_
        refine lv_goto (tgt := 26) hx hb dX4_isSize_22 (by decide) ?_
        exact W.zret (v := 1) hx hb hr rfl (fun t ht hW => ⟨_, rfl, (bI_t (Or.inr (Or.inr (Or.inl c_3)))).symm, ht⟩) t_nil dX4_isSize_26
      · skip
        refine lv_iload_n hx hb dX4_isSize_15 rfl (lv_at hl 0 rfl) ?_
        refine lv_bipush (v := 8) hx hb dX4_isSize_16 (by decide) ?_
        refine lv_icmp_ne (tgt := 25) hx hb dX4_isSize_18 (by decide) (fun c_4 => ?_) (fun c_4 => ?_)
        · skip
          refine lv_iconst (v := 0) hx hb dX4_isSize_25 (by decide) ?_
          exact W.zret (v := 0) hx hb hr rfl (fun t ht hW => ⟨_, rfl, (bI_f (fun z => z.elim c_1 (fun z => z.elim c_2 (fun z => z.elim c_3 c_4)))).symm, ht⟩) t_nil dX4_isSize_26
        · skip
          refine lv_iconst (v := 1) hx hb dX4_isSize_21 (by decide) ?_
          refine lv_goto (tgt := 26) hx hb dX4_isSize_22 (by decide) ?_
          exact W.zret (v := 1) hx hb hr rfl (fun t ht hW => ⟨_, rfl, (bI_t (Or.inr (Or.inr (Or.inr c_4)))).symm, ht⟩) t_nil dX4_isSize_26
set_option maxHeartbeats 4000000 in
set_option maxRecDepth 100000 in
/-- Model.number -/
theorem m_number (l : Launch) (dC : Nat → ClassId) (dI : Nat → Nat → Nat) (o : Nat) (cd : Int32) (sc : Int32) (qm : Nat) (qd : Nat) (ch : Int32) (fe : Int32) (sz : Int32) (rd : Int32) (ca : Int32) (sx : Int32) (qp : Nat) (co : Int32) (gi : Int32) (aw : Int32) (cg : Int32) (bk : Int32) (qs : Nat) (ql : Nat) (qo : Nat) (ax : Int32) (wi : Int64) (cJ : ClassId) (M : Nat → Nat) (a : Int64) (zz : Int32) (j : Nat) (p0 : Nat) (hz : zz = nI j) (hj : j ≤ 8) (ho : a - 2147483648 = lN p0) (hp : p0 + j ≤ 65536) (hM : byt M) : Met l yX4_number wsX4_number ({ frames := 1, cells := 0, slots := 0, locals := 60 }) (va_Pc [.ref o, .long a, .int zz] (fun U => va_P (dC, dI) vwCl [(o, .inr (4, [.int cd, .int sc, .ref qm, .ref qd, .int ch, .int fe, .int sz, .int rd, .int ca, .int sx, .ref qp, .int co, .int gi, .int aw, .int cg, .int bk, .ref qs, .ref ql, .ref qo, .int ax, .long wi])), (qm, .inl (cJ, 8192, .inr (.inl (mL M))))] U.heap ∧ va_K (dC, dI) vwCl [(cJ, .long)] U ∧ ZZ (fun _ => False) U U.heap)) (vp_Sl (fun r => r = lN (nbs M p0 j))) 0 0 (fun _ => False) := by
  refine Met.ofW (cc := cX4_number) (maxL := 7) (ret := (some .long)) (by decide) rfl ?_
  intro p e s m args below meth c s₁ B hml hv
  obtain ⟨rfl, hP, hK, hZ⟩ := hv
  have hx := B.exec
  have hb := B.bytes
  have hr := B.returns
  have hts := atoms_spec (ws := wsX4_number) B.pre
  have hw : ∀ w ∈ WW, w.before _ s = true := fun w h => hts w (List.mem_cons_of_mem _ h)
  have hown : s.vm.findClass RX4 = some m.cls := findClass_of_methodNamed B.named
  have hlocks := B.notSynchronized
  have hl := lv_entry ([.ref o, .long a, .int zz]) (n := 7) (Nat.le_of_ble_eq_true rfl)
  rw [lg_entry_eq]
  generalize (lg_sl ([.ref o, .long a, .int zz]) ++ List.replicate (7 - (lg_sl ([.ref o, .long a, .int zz])).length) Slot.unset).toArray = ls at hl ⊢
  have hl : lv_has ls 7 [(0, .ref o), (1, .long a), (3, .int zz)] := hl
  refine lv_lconst (v := 0) hx hb dX4_number_0 (by decide) ?_
  refine lv_lstore (lv' := [(4, .long 0), (0, .ref o), (1, .long a), (3, .int zz)]) hx hb dX4_number_1 hl (by decide) rfl (fun ls hl => ?_)
  refine lv_iload_n hx hb dX4_number_3 rfl (lv_at hl 3 rfl) ?_
  refine lv_iconst (v := 1) hx hb dX4_number_4 (by decide) ?_
  refine lv_isub hx hb dX4_number_5 ?_
  refine lv_topi (fun x_1 ex_1 => ?_)
  refine lv_istore (lv' := [(6, .int x_1), (4, .long 0), (0, .ref o), (1, .long a), (3, .int zz)]) hx hb dX4_number_6 hl (by decide) rfl (fun ls hl => ?_)
  have loop : ∀ (N : Nat) (k : Nat) (v : Nat) (w : Int64) (x : Int32) (hN : k < N) (ex : x = nI k - 1) (ew : w = lN v) (hk : k ≤ j) (hs : v * 2 ^ (8 * k) + nbs M p0 k = nbs M p0 j) (ls : Array Slot) (hl : lv_has ls 7 [(6, .int x), (4, .long w), (0, .ref o), (1, .long a), (3, .int zz)]), W p l e (headSpec wsX4_number ({ frames := 1, cells := 0, slots := 0, locals := 60 })).room s m [.ref o, .long a, .int zz].toArray below meth c s.heap [] 0 0 (MQ below (vp_Sl (fun r => r = lN (nbs M p0 j))) [.ref o, .long a, .int zz].toArray s 0 0 (fun _ => False)) (F0 m 8 ls []) := by
    intro N
    induction N with
    | zero => intro k v w x hN ex ew hk hs ls hl; exact absurd hN (Nat.not_lt_zero _)
    | succ N ih =>
      intro k v w x hN ex ew hk hs ls hl
      refine lv_iload hx hb dX4_number_8 (lv_at hl 0 rfl) ?_
      refine lv_if_lt (tgt := 45) hx hb dX4_number_10 (by decide) (fun c_2 => ?_) (fun c_2 => ?_)
      · skip
        have hk0 : k = 0 := num_end (k := k) (by omega) (by rw [← ex]; exact c_2)
        subst hk0
        refine lv_lload hx hb dX4_number_45 (lv_at hl 1 rfl) ?_
        exact W.lret (v := w) hx hb hr (fun t ht hW => ⟨_, rfl, (by rw [ew, ← hs, nbs]; simp), ht⟩) t_nil dX4_number_47
      · skip
        obtain ⟨k0, rfl⟩ := num_more (k := k) (by omega) (by rw [← ex]; exact c_2)
        refine lv_ldc2 (v := 256) hx hb hown (hw _ w_247cec4ed1) dX4_number_13 ?_
        refine lv_lload hx hb dX4_number_16 (lv_at hl 1 rfl) ?_
        refine lv_lmul hx hb dX4_number_18 ?_
        refine lv_aload_n hx hb dX4_number_19 rfl (lv_at hl 2 rfl) ?_
        refine va_get (D := (dC, dI)) (ci := 4) (v := .ref qm) (C := RX4) (T := TX4) (N := 21) hx hb hw inX4 hown hK hP 0 rfl rfl 2 (by decide) (hw _ w_cba42bc570) (fun _ h9 => h9) rfl dX4_number_20 ?_
        refine lv_lload_n hx hb dX4_number_23 rfl (lv_at hl 3 rfl) ?_
        refine lv_ldc2 (v := 2147483648) hx hb hown (hw _ w_da329b00a8) dX4_number_24 ?_
        refine lv_lsub hx hb dX4_number_27 ?_
        refine lv_l2i (v := (a - 2147483648).toInt32) hx hb dX4_number_28 rfl ?_
        refine lv_iload hx hb dX4_number_29 (lv_at hl 0 rfl) ?_
        refine lv_iadd hx hb dX4_number_31 ?_
        have hPc := hP.sub (ws' := [(qm, .inl (cJ, 8192, .inr (.inl (mL M))))]) [1] rfl
        have hKc := hK.sub (tys' := [(cJ, .long)]) [0] rfl
        have hZc := hZ
        refine vp_callSi (va_runS (As := [.ref qm, .int (((a - 2147483648).toInt32) + x)]) (rest := [.long (256 * w)]) ⟨hx, hb, hml, hown, hw⟩ (m_byteOf l dC dI qm cJ 8192 M (((a - 2147483648).toInt32) + x) (p0 + k0) (by rw [ho, lN_i, ex, nI_pred, nI_add]) (by omega) (by decide) hM) (va_cwS 2 hw (gS w_0040d9f8c6 w_54d35d2618 w_2b384744dc w_0c3ce745cc) rfl rfl rfl (by decide +kernel) ⟨Nat.le_of_ble_eq_true rfl, Nat.le_of_ble_eq_true rfl⟩) ⟨fun a U g mk q => by obtain ⟨q0, qP, qK, qZ⟩ := q; exact ⟨q0, qP, va_K.moved (u := U) (U := U.calling g mk a) (Vm.Alike.refl U.vm) qK, ZZ.same (u := U) (U := U.calling g mk a) rfl qZ⟩, fun U hU hW => ⟨rfl, by rw [hU]; exact hPc, va_K.moved hW.alike hKc, by rw [hU]; exact ZZ.warm hW hZc⟩⟩ rfl rfl hl.1 rfl (lv_room (Nat.le_of_ble_eq_true rfl)) dX4_number_32 ⟨Nat.zero_le _, Nat.zero_le _⟩).run (fun r_3 hr_3 => ?_)
        have hr_3 : r_3 = nI (M (p0 + k0)) := hr_3
        refine lv_i2l (v := r_3.toInt64) hx hb dX4_number_35 rfl ?_
        refine lv_ladd hx hb dX4_number_36 ?_
        refine lv_topl (fun x_4 ex_4 => ?_)
        refine lv_lstore (lv' := [(4, .long x_4), (6, .int x), (0, .ref o), (1, .long a), (3, .int zz)]) hx hb dX4_number_37 hl (by decide) rfl (fun ls hl => ?_)
        obtain ⟨x_5, ex_5⟩ : ∃ y : Int32, y = x + (-1) := ⟨_, rfl⟩
        refine lv_iinc (v := x_5) (lv' := [(6, .int x_5), (4, .long x_4), (0, .ref o), (1, .long a), (3, .int zz)]) hx hb dX4_number_39 hl (k := 1) rfl (by rw [ex_5]; rfl) (by decide) rfl (fun ls hl => ?_)
        refine lv_goto (tgt := 8) hx hb dX4_number_42 (by decide) ?_
        exact ih k0 (256 * v + M (p0 + k0)) x_4 x_5 (by omega) (by rw [ex_5, ex, nI_pred, Int32.sub_eq_add_neg]) (by rw [ex_4, ew, hr_3, l256 v (hM _)]) (by omega) (by rw [← hs, nbs]; exact num_step _ _ _ _) ls (lv_sub hl [0, 1, 2, 3, 4] rfl)
  exact loop (j + 1) j 0 0 x_1 (Nat.lt_succ_self j) (by rw [ex_1, hz]) (rfl) (Nat.le_refl j) (by omega) ls (lv_sub hl [0, 1, 2, 3, 4] rfl)
set_option maxHeartbeats 4000000 in
set_option maxRecDepth 100000 in
/-- Model.put -/
theorem m_put (l : Launch) (dC : Nat → ClassId) (dI : Nat → Nat → Nat) (o : Nat) (cd : Int32) (sc : Int32) (qm : Nat) (qd : Nat) (ch : Int32) (fe : Int32) (sz : Int32) (rd : Int32) (ca : Int32) (sx : Int32) (qp : Nat) (co : Int32) (gi : Int32) (aw : Int32) (cg : Int32) (bk : Int32) (qs : Nat) (ql : Nat) (qo : Nat) (ax : Int32) (wi : Int64) (cJ : ClassId) (M : Nat → Nat) (a : Int64) (zz : Int32) (vv : Int64) (j : Nat) (p0 : Nat) (w : Nat) (zS : Nat) (hz : zz = nI j) (hj : j ≤ 8) (ho : a - 2147483648 = lN p0) (hp : p0 + j ≤ 65536) (hM : byt M) (hv : vv = lN w) (hwl : w < 2 ^ 64) : Met l yX4_put wsX4_put ({ frames := 1, cells := 0, slots := 0, locals := 60 }) (va_Pc [.ref o, .long a, .int zz, .long vv] (fun U => U.heap.size = zS ∧ va_P (dC, dI) vwCl [(o, .inr (4, [.int cd, .int sc, .ref qm, .ref qd, .int ch, .int fe, .int sz, .int rd, .int ca, .int sx, .ref qp, .int co, .int gi, .int aw, .int cg, .int bk, .ref qs, .ref ql, .ref qo, .int ax, .long wi])), (qm, .inl (cJ, 8192, .inr (.inl (mL M))))] U.heap ∧ va_K (dC, dI) vwCl [(cJ, .long)] U ∧ va_D (fun _ => True) [(o, .inr (4, [.int cd, .int sc, .ref qm, .ref qd, .int ch, .int fe, .int sz, .int rd, .int ca, .int sx, .ref qp, .int co, .int gi, .int aw, .int cg, .int bk, .ref qs, .ref ql, .ref qo, .int ax, .long wi])), (qm, .inl (cJ, 8192, .inr (.inl (mL M))))] ∧ ZZ (va_A [(o, .inr (4, [.int cd, .int sc, .ref qm, .ref qd, .int ch, .int fe, .int sz, .int rd, .int ca, .int sx, .ref qp, .int co, .int gi, .int aw, .int cg, .int bk, .ref qs, .ref ql, .ref qo, .int ax, .long wi])), (qm, .inl (cJ, 8192, .inr (.inl (mL M))))] zS) U U.heap)) (va_Qv (fun (u : (Nat → Int64)) => match u with | g => g = mL (pbs M p0 w j)) (fun (u : (Nat → Int64)) (t : State) => match u with | g => va_P (dC, dI) vwCl [(o, .inr (4, [.int cd, .int sc, .ref qm, .ref qd, .int ch, .int fe, .int sz, .int rd, .int ca, .int sx, .ref qp, .int co, .int gi, .int aw, .int cg, .int bk, .ref qs, .ref ql, .ref qo, .int ax, .long wi])), (qm, .inl (cJ, 8192, .inr (.inl g)))] t.heap ∧ va_K (dC, dI) vwCl [(cJ, .long)] t ∧ va_D (va_A [(o, .inr (4, [.int cd, .int sc, .ref qm, .ref qd, .int ch, .int fe, .int sz, .int rd, .int ca, .int sx, .ref qp, .int co, .int gi, .int aw, .int cg, .int bk, .ref qs, .ref ql, .ref qo, .int ax, .long wi])), (qm, .inl (cJ, 8192, .inr (.inl (mL M))))] zS) [(o, .inr (4, [.int cd, .int sc, .ref qm, .ref qd, .int ch, .int fe, .int sz, .int rd, .int ca, .int sx, .ref qp, .int co, .int gi, .int aw, .int cg, .int bk, .ref qs, .ref ql, .ref qo, .int ax, .long wi])), (qm, .inl (cJ, 8192, .inr (.inl g)))]) (va_A [(o, .inr (4, [.int cd, .int sc, .ref qm, .ref qd, .int ch, .int fe, .int sz, .int rd, .int ca, .int sx, .ref qp, .int co, .int gi, .int aw, .int cg, .int bk, .ref qs, .ref ql, .ref qo, .int ax, .long wi])), (qm, .inl (cJ, 8192, .inr (.inl (mL M))))] zS)) 0 0 (va_A [(o, .inr (4, [.int cd, .int sc, .ref qm, .ref qd, .int ch, .int fe, .int sz, .int rd, .int ca, .int sx, .ref qp, .int co, .int gi, .int aw, .int cg, .int bk, .ref qs, .ref ql, .ref qo, .int ax, .long wi])), (qm, .inl (cJ, 8192, .inr (.inl (mL M))))] zS) := by
  refine Met.ofW (cc := cX4_put) (maxL := 7) (ret := (none)) (by decide) rfl ?_
  intro p e s m args below meth c s₁ B hml hv
  obtain ⟨rfl, hsz, hP, hK, hD0, hZ⟩ := hv
  have hx := B.exec
  have hb := B.bytes
  have hr := B.returns
  have hts := atoms_spec (ws := wsX4_put) B.pre
  have hw : ∀ w ∈ WW, w.before _ s = true := fun w h => hts w (List.mem_cons_of_mem _ h)
  have hown : s.vm.findClass RX4 = some m.cls := findClass_of_methodNamed B.named
  have hlocks := B.notSynchronized
  subst hsz
  have hD := hD0.self (sz := s.heap.size)
  generalize hAe : va_A [(o, .inr (4, [.int cd, .int sc, .ref qm, .ref qd, .int ch, .int fe, .int sz, .int rd, .int ca, .int sx, .ref qp, .int co, .int gi, .int aw, .int cg, .int bk, .ref qs, .ref ql, .ref qo, .int ax, .long wi])), (qm, .inl (cJ, 8192, .inr (.inl (mL M))))] s.heap.size = A at hD hZ ⊢
  have hA : ∀ q : Nat, s.heap.size ≤ q → A q := fun q h => by rw [← hAe]; exact Or.inr h
  have hS : va_S A s.heap s.heap [] := va_S.rf
  have hP : va_P (dC, dI) vwCl [(o, .inr (4, [.int cd, .int sc, .ref qm, .ref qd, .int ch, .int fe, .int sz, .int rd, .int ca, .int sx, .ref qp, .int co, .int gi, .int aw, .int cg, .int bk, .ref qs, .ref ql, .ref qo, .int ax, .long wi])), (qm, .inl (cJ, 8192, .inr (.inl (mL M))))] s.heap := hP
  have hl := lv_entry ([.ref o, .long a, .int zz, .long vv]) (n := 7) (Nat.le_of_ble_eq_true rfl)
  rw [lg_entry_eq]
  generalize (lg_sl ([.ref o, .long a, .int zz, .long vv]) ++ List.replicate (7 - (lg_sl ([.ref o, .long a, .int zz, .long vv])).length) Slot.unset).toArray = ls at hl ⊢
  have hl : lv_has ls 7 [(0, .ref o), (1, .long a), (3, .int zz), (4, .long vv)] := hl
  refine lv_iconst (v := 0) hx hb dX4_put_0 (by decide) ?_
  refine lv_istore (lv' := [(6, .int 0), (0, .ref o), (1, .long a), (3, .int zz), (4, .long vv)]) hx hb dX4_put_1 hl (by decide) rfl (fun ls hl => ?_)
  have loop : ∀ (N : Nat) (k : Nat) (x : Int32) (g : Nat → Int64) (hN : j - k < N) (ex : x = nI k) (eg : g = mL (pbs M p0 w k)) (hk : k ≤ j) (H : Heap) (locs : List Loc) (hP : va_P (dC, dI) vwCl [(o, .inr (4, [.int cd, .int sc, .ref qm, .ref qd, .int ch, .int fe, .int sz, .int rd, .int ca, .int sx, .ref qp, .int co, .int gi, .int aw, .int cg, .int bk, .ref qs, .ref ql, .ref qo, .int ax, .long wi])), (qm, .inl (cJ, 8192, .inr (.inl g)))] H) (hD : va_D A [(o, .inr (4, [.int cd, .int sc, .ref qm, .ref qd, .int ch, .int fe, .int sz, .int rd, .int ca, .int sx, .ref qp, .int co, .int gi, .int aw, .int cg, .int bk, .ref qs, .ref ql, .ref qo, .int ax, .long wi])), (qm, .inl (cJ, 8192, .inr (.inl g)))]) (hS : va_S A s.heap H locs) (ls : Array Slot) (hl : lv_has ls 7 [(6, .int x), (0, .ref o), (1, .long a), (3, .int zz), (4, .long vv)]), W p l e (headSpec wsX4_put ({ frames := 1, cells := 0, slots := 0, locals := 60 })).room s m [.ref o, .long a, .int zz, .long vv].toArray below meth c H locs 0 0 (MQ below (va_Qv (fun (u : (Nat → Int64)) => match u with | g => g = mL (pbs M p0 w j)) (fun (u : (Nat → Int64)) (t : State) => match u with | g => va_P (dC, dI) vwCl [(o, .inr (4, [.int cd, .int sc, .ref qm, .ref qd, .int ch, .int fe, .int sz, .int rd, .int ca, .int sx, .ref qp, .int co, .int gi, .int aw, .int cg, .int bk, .ref qs, .ref ql, .ref qo, .int ax, .long wi])), (qm, .inl (cJ, 8192, .inr (.inl g)))] t.heap ∧ va_K (dC, dI) vwCl [(cJ, .long)] t ∧ va_D A [(o, .inr (4, [.int cd, .int sc, .ref qm, .ref qd, .int ch, .int fe, .int sz, .int rd, .int ca, .int sx, .ref qp, .int co, .int gi, .int aw, .int cg, .int bk, .ref qs, .ref ql, .ref qo, .int ax, .long wi])), (qm, .inl (cJ, 8192, .inr (.inl g)))]) A) [.ref o, .long a, .int zz, .long vv].toArray s 0 0 A) (F0 m 3 ls []) := by
    intro N
    induction N with
    | zero => intro k x g hN ex eg hk H locs hP hD hS ls hl; exact absurd hN (Nat.not_lt_zero _)
    | succ N ih =>
      intro k x g hN ex eg hk H locs hP hD hS ls hl
      refine lv_iload hx hb dX4_put_3 (lv_at hl 0 rfl) ?_
      refine lv_iload_n hx hb dX4_put_5 rfl (lv_at hl 3 rfl) ?_
      refine lv_icmp_ge (tgt := 40) hx hb dX4_put_6 (by decide) (fun c_1 => ?_) (fun c_1 => ?_)
      · skip
        have hk0 : k = j := by rw [ex, hz, nI_leI (by omega) (by omega)] at c_1; omega
        subst hk0
        have hP9 : va_P (dC, dI) vwCl [(o, .inr (4, [.int cd, .int sc, .ref qm, .ref qd, .int ch, .int fe, .int sz, .int rd, .int ca, .int sx, .ref qp, .int co, .int gi, .int aw, .int cg, .int bk, .ref qs, .ref ql, .ref qo, .int ax, .long wi])), (qm, .inl (cJ, 8192, .inr (.inl g)))] H := by exact hP.sub (ws' := [(o, .inr (4, [.int cd, .int sc, .ref qm, .ref qd, .int ch, .int fe, .int sz, .int rd, .int ca, .int sx, .ref qp, .int co, .int gi, .int aw, .int cg, .int bk, .ref qs, .ref ql, .ref qo, .int ax, .long wi])), (qm, .inl (cJ, 8192, .inr (.inl g)))]) [0, 1] rfl
        have hD9 : va_D A [(o, .inr (4, [.int cd, .int sc, .ref qm, .ref qd, .int ch, .int fe, .int sz, .int rd, .int ca, .int sx, .ref qp, .int co, .int gi, .int aw, .int cg, .int bk, .ref qs, .ref ql, .ref qo, .int ax, .long wi])), (qm, .inl (cJ, 8192, .inr (.inl g)))] := by exact hD.sub (ws' := [(o, .inr (4, [.int cd, .int sc, .ref qm, .ref qd, .int ch, .int fe, .int sz, .int rd, .int ca, .int sx, .ref qp, .int co, .int gi, .int aw, .int cg, .int bk, .ref qs, .ref ql, .ref qo, .int ax, .long wi])), (qm, .inl (cJ, 8192, .inr (.inl g)))]) [0, 1] (by decide) rfl
        have hK9 := hK.sub (tys' := [(cJ, .long)]) [0] rfl
        exact W.vret hx hb hr (fun t ht hW => ⟨⟨(g), rfl, eg, by rw [ht]; exact hP9, va_K.moved hW.alike hK9, hD9⟩, hS.F ht⟩) hS.2.2 dX4_put_40
      · skip
        have hk0 : k < j := by rw [ex, hz, nI_leI (by omega) (by omega)] at c_1; omega
        subst eg
        refine lv_aload_n hx hb dX4_put_9 rfl (lv_at hl 1 rfl) ?_
        refine va_get (D := (dC, dI)) (ci := 4) (v := .ref qm) (C := RX4) (T := TX4) (N := 21) hx hb hw inX4 hown hK hP 0 rfl rfl 2 (by decide) (hw _ w_cba42bc570) (fun _ h9 => h9) rfl dX4_put_10 ?_
        refine lv_lload_n hx hb dX4_put_13 rfl (lv_at hl 2 rfl) ?_
        refine lv_ldc2 (v := 2147483648) hx hb hown (hw _ w_da329b00a8) dX4_put_14 ?_
        refine lv_lsub hx hb dX4_put_17 ?_
        refine lv_l2i (v := (a - 2147483648).toInt32) hx hb dX4_put_18 rfl ?_
        refine lv_iload hx hb dX4_put_19 (lv_at hl 0 rfl) ?_
        refine lv_iadd hx hb dX4_put_21 ?_
        refine lv_lload hx hb dX4_put_22 (lv_at hl 4 rfl) ?_
        refine lv_bipush (v := 8) hx hb dX4_put_24 (by decide) ?_
        refine lv_iload hx hb dX4_put_26 (lv_at hl 0 rfl) ?_
        refine lv_imul hx hb dX4_put_28 ?_
        refine lv_lushr (v := (vv.toUInt64 >>> ((8 * x).toInt64.toUInt64 &&& Int64.toUInt64 63)).toInt64) hx hb dX4_put_29 rfl ?_
        refine lv_l2i (v := ((vv.toUInt64 >>> ((8 * x).toInt64.toUInt64 &&& Int64.toUInt64 63)).toInt64).toInt32) hx hb dX4_put_30 rfl ?_
        have hPc := hP.sub (ws' := [(qm, .inl (cJ, 8192, .inr (.inl (mL (pbs M p0 w k)))))]) [1] rfl
        have hKc := hK.sub (tys' := [(cJ, .long)]) [0] rfl
        have hDc := hD.sub (ws' := [(qm, .inl (cJ, 8192, .inr (.inl (mL (pbs M p0 w k)))))]) [1] (by decide) rfl
        have hFc := va_free (wc := [(qm, .inl (cJ, 8192, .inr (.inl (mL (pbs M p0 w k)))))]) hD hS hA [1] rfl
        have hZc : ZZ (va_A [(qm, .inl (cJ, 8192, .inr (.inl (mL (pbs M p0 w k)))))] H.size) s H := (hZ.kept hS.2.1).narrow hFc
        refine va_callv (va_runS (As := [.ref qm, .int (((a - 2147483648).toInt32) + x), .int (((vv.toUInt64 >>> ((8 * x).toInt64.toUInt64 &&& Int64.toUInt64 63)).toInt64).toInt32)]) (rest := []) ⟨hx, hb, hml, hown, hw⟩ (m_putByte l dC dI qm cJ 8192 (pbs M p0 w k) (((a - 2147483648).toInt32) + x) (p0 + k) (((vv.toUInt64 >>> ((8 * x).toInt64.toUInt64 &&& Int64.toUInt64 63)).toInt64).toInt32) H.size (by rw [ho, lN_i, ex, nI_add]) (by omega) (by decide) (byt_pbs hM _ _ _)) (va_cwS 3 hw (gS w_25dd54422a w_d05a527ec7 w_2b384744dc w_6cd80c4d0e) rfl rfl rfl (by decide +kernel) ⟨Nat.le_of_ble_eq_true rfl, Nat.le_of_ble_eq_true rfl⟩) ⟨fun a U g mk q => by obtain ⟨q0, q1, qP, qK, qD, qZ⟩ := q; exact ⟨q0, q1, qP, va_K.moved (u := U) (U := U.calling g mk a) (Vm.Alike.refl U.vm) qK, qD, ZZ.same (u := U) (U := U.calling g mk a) rfl qZ⟩, fun U hU hW => ⟨rfl, by rw [hU], by rw [hU]; exact hPc, va_K.moved hW.alike hKc, hDc.weaken (fun _ _ _ _ => trivial), by rw [hU]; exact ZZ.warm hW hZc⟩⟩ rfl rfl hl.1 rfl (lv_room (Nat.le_of_ble_eq_true rfl)) dX4_put_31 ⟨Nat.zero_le _, Nat.zero_le _⟩) hS (fun q _ h => hFc q h) hFc (fun u t H1 locs ht hvm hw2 hB hz1 hk1 hS => ?_)
        obtain ⟨g_2, rfl⟩ : ∃ z, z = u := ⟨_, rfl⟩
        obtain ⟨hP1, hK1, hD1⟩ := hB
        rw [ht] at hP1
        have hK1 := va_K.moved hvm.symm hK1
        try dsimp only at hw2
        obtain ⟨hP, hD⟩ := va_join (wr := [(o, .inr (4, [.int cd, .int sc, .ref qm, .ref qd, .int ch, .int fe, .int sz, .int rd, .int ca, .int sx, .ref qp, .int co, .int gi, .int aw, .int cg, .int bk, .ref qs, .ref ql, .ref qo, .int ax, .long wi]))]) (w1 := [(qm, .inl (cJ, 8192, .inr (.inl g_2)))]) hP hD [1] [0] rfl rfl (by decide) (by decide) hk1 hFc hP1 hD1
        generalize H1 = H at hP hS hk1 ⊢
        have hP : va_P (dC, dI) vwCl [(o, .inr (4, [.int cd, .int sc, .ref qm, .ref qd, .int ch, .int fe, .int sz, .int rd, .int ca, .int sx, .ref qp, .int co, .int gi, .int aw, .int cg, .int bk, .ref qs, .ref ql, .ref qo, .int ax, .long wi])), (qm, .inl (cJ, 8192, .inr (.inl g_2)))] H := hP
        have hD : va_D A [(o, .inr (4, [.int cd, .int sc, .ref qm, .ref qd, .int ch, .int fe, .int sz, .int rd, .int ca, .int sx, .ref qp, .int co, .int gi, .int aw, .int cg, .int bk, .ref qs, .ref ql, .ref qo, .int ax, .long wi])), (qm, .inl (cJ, 8192, .inr (.inl g_2)))] := hD
        have hw_3 : g_2 = mL (va_up (pbs M p0 w k) (p0 + k) ((((vv.toUInt64 >>> ((8 * x).toInt64.toUInt64 &&& Int64.toUInt64 63)).toInt64).toInt32).toBitVec.toNat % 256)) := hw2
        obtain ⟨x_4, ex_4⟩ : ∃ y : Int32, y = x + 1 := ⟨_, rfl⟩
        refine lv_iinc (v := x_4) (lv' := [(6, .int x_4), (0, .ref o), (1, .long a), (3, .int zz), (4, .long vv)]) hx hb dX4_put_34 hl (k := 0) rfl (by rw [ex_4]; rfl) (by decide) rfl (fun ls hl => ?_)
        refine lv_goto (tgt := 3) hx hb dX4_put_37 (by decide) ?_
        exact ih (k + 1) x_4 g_2 (by omega) (by rw [ex_4, ex]; exact nI_1 k) (by rw [hw_3, ex, hv, lsh hwl (by omega), nI_256]; rfl) (by omega) _ _ (hP.sub [0, 1] rfl) (hD.sub [0, 1] (by decide) rfl) hS ls (lv_sub hl [0, 1, 2, 3, 4] rfl)
  exact loop (j + 1) 0 0 (mL M) (by omega) (rfl) (rfl) (Nat.zero_le j) _ _ (hP.sub [0, 1] rfl) (hD.sub [0, 1] (by decide) rfl) hS ls (lv_sub hl [0, 1, 2, 3, 4] rfl)
