set_option maxHeartbeats 4000000 in
set_option maxRecDepth 100000 in
/-- Request.placeOf -/
theorem r_placeOf (l : Launch) (dC : Nat → ClassId) (dI : Nat → Nat → Nat) (rq : Nat) (rp : Nat) (rl : Nat) (ct_ : Int32) (cl_ : Int32) (wt : Int32) (cJ : ClassId) (cI : ClassId) (ps : Nat → Int64) (lg : Nat → Int32) (x : Int32) (k : Nat) (hxk : x = nI k) (hk : k < 16) : Met l yX2_placeOf wsX2_placeOf ({ frames := 0, cells := 0, slots := 0, locals := 0 }) (va_Pc [.ref rq, .int x] (fun U => va_P (dC, dI) vwCl [(rq, .inr (2, [.ref rp, .ref rl, .int ct_, .int cl_, .int wt])), (rp, .inl (cJ, 16, .inr (.inl ps))), (rl, .inl (cI, 16, .inl lg))] U.heap ∧ va_K (dC, dI) vwCl [(cJ, .long), (cI, .int)] U ∧ ZZ (fun _ => False) U U.heap)) (vp_Sl (fun r => r = ps k)) 0 0 (fun _ => False) := by
  refine Met.ofW (cc := cX2_placeOf) (maxL := 2) (ret := (some .long)) (by decide) rfl ?_
  intro p e s m args below meth c s₁ B hml hv
  obtain ⟨rfl, hP, hK, hZ⟩ := hv
  have hx := B.exec
  have hb := B.bytes
  have hr := B.returns
  have hts := atoms_spec (ws := wsX2_placeOf) B.pre
  have hw : ∀ w ∈ WW, w.before _ s = true := fun w h => hts w (List.mem_cons_of_mem _ h)
  have hown : s.vm.findClass RX2 = some m.cls := findClass_of_methodNamed B.named
  have hlocks := B.notSynchronized
  have hl := lv_entry ([.ref rq, .int x]) (n := 2) (Nat.le_of_ble_eq_true rfl)
  rw [lg_entry_eq]
  generalize (lg_sl ([.ref rq, .int x]) ++ List.replicate (2 - (lg_sl ([.ref rq, .int x])).length) Slot.unset).toArray = ls at hl ⊢
  have hl : lv_has ls 2 [(0, .ref rq), (1, .int x)] := hl
  refine lv_iload_n hx hb dX2_placeOf_0 rfl (lv_at hl 1 rfl) ?_
  refine lv_if_lt (tgt := 22) hx hb dX2_placeOf_1 (by decide) (fun c_1 => ?_) (fun c_1 => ?_)
  · skip
    exact absurd (by rw [← hxk]; exact c_1) (ix_in hk).1
  · skip
    refine lv_iload_n hx hb dX2_placeOf_4 rfl (lv_at hl 1 rfl) ?_
    refine lv_aload_n hx hb dX2_placeOf_5 rfl (lv_at hl 0 rfl) ?_
    refine va_get (D := (dC, dI)) (ci := 2) (v := .ref rp) (C := RX2) (T := TX2) (N := 5) hx hb hw inX2 hown hK hP 0 rfl rfl 0 (by decide) (hw _ w_41e730de16) (fun _ h9 => h9) rfl dX2_placeOf_6 ?_
    refine va_alen hx hb hK hP 1 0 rfl rfl (v := nI 16) rfl dX2_placeOf_9 ?_
    refine lv_icmp_ge (tgt := 22) hx hb dX2_placeOf_10 (by decide) (fun c_2 => ?_) (fun c_2 => ?_)
    · skip
      exact absurd (by rw [← hxk]; exact c_2) (ix_in hk).2.1
    · skip
      refine lv_aload_n hx hb dX2_placeOf_13 rfl (lv_at hl 0 rfl) ?_
      refine va_get (D := (dC, dI)) (ci := 2) (v := .ref rp) (C := RX2) (T := TX2) (N := 5) hx hb hw inX2 hown hK hP 0 rfl rfl 0 (by decide) (hw _ w_41e730de16) (fun _ h9 => h9) rfl dX2_placeOf_14 ?_
      refine lv_iload_n hx hb dX2_placeOf_17 rfl (lv_at hl 1 rfl) ?_
      refine va_lald hx hb hK hP 1 0 rfl rfl (by rw [hxk]; exact (ix_in hk).2.2.1) dX2_placeOf_18 ?_
      refine lv_goto (tgt := 23) hx hb dX2_placeOf_19 (by decide) ?_
      exact W.lret (v := ps x.toNatClampNeg) hx hb hr (fun t ht hW => ⟨_, rfl, (by rw [hxk, (ix_in hk).2.2.2]), ht⟩) t_nil dX2_placeOf_23
set_option maxHeartbeats 4000000 in
set_option maxRecDepth 100000 in
/-- Request.lengthOf -/
theorem r_lengthOf (l : Launch) (dC : Nat → ClassId) (dI : Nat → Nat → Nat) (rq : Nat) (rp : Nat) (rl : Nat) (ct_ : Int32) (cl_ : Int32) (wt : Int32) (cJ : ClassId) (cI : ClassId) (ps : Nat → Int64) (lg : Nat → Int32) (x : Int32) (k : Nat) (hxk : x = nI k) (hk : k < 16) : Met l yX2_lengthOf wsX2_lengthOf ({ frames := 0, cells := 0, slots := 0, locals := 0 }) (va_Pc [.ref rq, .int x] (fun U => va_P (dC, dI) vwCl [(rq, .inr (2, [.ref rp, .ref rl, .int ct_, .int cl_, .int wt])), (rp, .inl (cJ, 16, .inr (.inl ps))), (rl, .inl (cI, 16, .inl lg))] U.heap ∧ va_K (dC, dI) vwCl [(cJ, .long), (cI, .int)] U ∧ ZZ (fun _ => False) U U.heap)) (vp_Si (fun r => r = lg k)) 0 0 (fun _ => False) := by
  refine Met.ofW (cc := cX2_lengthOf) (maxL := 2) (ret := (some .int)) (by decide) rfl ?_
  intro p e s m args below meth c s₁ B hml hv
  obtain ⟨rfl, hP, hK, hZ⟩ := hv
  have hx := B.exec
  have hb := B.bytes
  have hr := B.returns
  have hts := atoms_spec (ws := wsX2_lengthOf) B.pre
  have hw : ∀ w ∈ WW, w.before _ s = true := fun w h => hts w (List.mem_cons_of_mem _ h)
  have hown : s.vm.findClass RX2 = some m.cls := findClass_of_methodNamed B.named
  have hlocks := B.notSynchronized
  have hl := lv_entry ([.ref rq, .int x]) (n := 2) (Nat.le_of_ble_eq_true rfl)
  rw [lg_entry_eq]
  generalize (lg_sl ([.ref rq, .int x]) ++ List.replicate (2 - (lg_sl ([.ref rq, .int x])).length) Slot.unset).toArray = ls at hl ⊢
  have hl : lv_has ls 2 [(0, .ref rq), (1, .int x)] := hl
  refine lv_iload_n hx hb dX2_lengthOf_0 rfl (lv_at hl 1 rfl) ?_
  refine lv_if_lt (tgt := 22) hx hb dX2_lengthOf_1 (by decide) (fun c_1 => ?_) (fun c_1 => ?_)
  · skip
    exact absurd (by rw [← hxk]; exact c_1) (ix_in hk).1
  · skip
    refine lv_iload_n hx hb dX2_lengthOf_4 rfl (lv_at hl 1 rfl) ?_
    refine lv_aload_n hx hb dX2_lengthOf_5 rfl (lv_at hl 0 rfl) ?_
    refine va_get (D := (dC, dI)) (ci := 2) (v := .ref rl) (C := RX2) (T := TX2) (N := 5) hx hb hw inX2 hown hK hP 0 rfl rfl 1 (by decide) (hw _ w_d805126c5c) (fun _ h9 => h9) rfl dX2_lengthOf_6 ?_
    refine va_alen hx hb hK hP 2 1 rfl rfl (v := nI 16) rfl dX2_lengthOf_9 ?_
    refine lv_icmp_ge (tgt := 22) hx hb dX2_lengthOf_10 (by decide) (fun c_2 => ?_) (fun c_2 => ?_)
    · skip
      exact absurd (by rw [← hxk]; exact c_2) (ix_in hk).2.1
    · skip
      refine lv_aload_n hx hb dX2_lengthOf_13 rfl (lv_at hl 0 rfl) ?_
      refine va_get (D := (dC, dI)) (ci := 2) (v := .ref rl) (C := RX2) (T := TX2) (N := 5) hx hb hw inX2 hown hK hP 0 rfl rfl 1 (by decide) (hw _ w_d805126c5c) (fun _ h9 => h9) rfl dX2_lengthOf_14 ?_
      refine lv_iload_n hx hb dX2_lengthOf_17 rfl (lv_at hl 1 rfl) ?_
      refine va_iald hx hb hK hP 2 1 rfl rfl (by rw [hxk]; exact (ix_in hk).2.2.1) dX2_lengthOf_18 ?_
      refine lv_goto (tgt := 23) hx hb dX2_lengthOf_19 (by decide) ?_
      exact W.iret (v := lg x.toNatClampNeg) hx hb hr (fun t ht hW => ⟨_, rfl, (by rw [hxk, (ix_in hk).2.2.2]), ht⟩) t_nil dX2_lengthOf_23
set_option maxHeartbeats 4000000 in
set_option maxRecDepth 100000 in
/-- Request.openLengthOf -/
theorem r_openLengthOf (l : Launch) (dC : Nat → ClassId) (dI : Nat → Nat → Nat) (rq : Nat) (rp : Nat) (rl : Nat) (ct_ : Int32) (cl_ : Int32) (wt : Int32) (cJ : ClassId) (cI : ClassId) (ps : Nat → Int64) (lg : Nat → Int32) (x : Int32) (k : Nat) (m0 : Nat) (hxk : x = nI k) (hk : k < 16) (hct : ct_ = nI m0) (hm0 : 0 < m0) (hm6 : m0 ≤ 16) : Met l yX2_openLengthOf wsX2_openLengthOf ({ frames := 1, cells := 0, slots := 0, locals := 40 }) (va_Pc [.ref rq, .int x] (fun U => va_P (dC, dI) vwCl [(rq, .inr (2, [.ref rp, .ref rl, .int ct_, .int cl_, .int wt])), (rp, .inl (cJ, 16, .inr (.inl ps))), (rl, .inl (cI, 16, .inl lg))] U.heap ∧ va_K (dC, dI) vwCl [(cJ, .long), (cI, .int)] U ∧ ZZ (fun _ => False) U U.heap)) (vp_Si (fun r => r = if k + 1 = m0 then lg k - 1 else lg k)) 0 0 (fun _ => False) := by
  refine Met.ofW (cc := cX2_openLengthOf) (maxL := 2) (ret := (some .int)) (by decide) rfl ?_
  intro p e s m args below meth c s₁ B hml hv
  obtain ⟨rfl, hP, hK, hZ⟩ := hv
  have hx := B.exec
  have hb := B.bytes
  have hr := B.returns
  have hts := atoms_spec (ws := wsX2_openLengthOf) B.pre
  have hw : ∀ w ∈ WW, w.before _ s = true := fun w h => hts w (List.mem_cons_of_mem _ h)
  have hown : s.vm.findClass RX2 = some m.cls := findClass_of_methodNamed B.named
  have hlocks := B.notSynchronized
  have hl := lv_entry ([.ref rq, .int x]) (n := 2) (Nat.le_of_ble_eq_true rfl)
  rw [lg_entry_eq]
  generalize (lg_sl ([.ref rq, .int x]) ++ List.replicate (2 - (lg_sl ([.ref rq, .int x])).length) Slot.unset).toArray = ls at hl ⊢
  have hl : lv_has ls 2 [(0, .ref rq), (1, .int x)] := hl
  refine lv_iload_n hx hb dX2_openLengthOf_0 rfl (lv_at hl 1 rfl) ?_
  refine lv_aload_n hx hb dX2_openLengthOf_1 rfl (lv_at hl 0 rfl) ?_
  refine va_get (D := (dC, dI)) (ci := 2) (v := .int ct_) (C := RX2) (T := TX2) (N := 5) hx hb hw inX2 hown hK hP 0 rfl rfl 2 (by decide) (hw _ w_17cac06a59) (fun _ h9 => h9) rfl dX2_openLengthOf_2 ?_
  refine lv_iconst (v := 1) hx hb dX2_openLengthOf_5 (by decide) ?_
  refine lv_isub hx hb dX2_openLengthOf_6 ?_
  refine lv_icmp_ne (tgt := 20) hx hb dX2_openLengthOf_7 (by decide) (fun c_1 => ?_) (fun c_1 => ?_)
  · skip
    refine lv_aload_n hx hb dX2_openLengthOf_20 rfl (lv_at hl 0 rfl) ?_
    refine lv_iload_n hx hb dX2_openLengthOf_21 rfl (lv_at hl 1 rfl) ?_
    have hPc := hP.sub (ws' := [(rq, .inr (2, [.ref rp, .ref rl, .int ct_, .int cl_, .int wt])), (rp, .inl (cJ, 16, .inr (.inl ps))), (rl, .inl (cI, 16, .inl lg))]) [0, 1, 2] rfl
    have hKc := hK.sub (tys' := [(cJ, .long), (cI, .int)]) [0, 1] rfl
    have hZc := hZ
    refine vp_callSi (va_runV (As := [.int x]) (rest := []) ⟨hx, hb, hml, hown, hw⟩ (r_lengthOf l dC dI rq rp rl ct_ cl_ wt cJ cI ps lg x k hxk hk) (cwV 1 hw (gV w_a80aaf268a w_cb6da4ecc0 w_cf853dc132 w_d27e9d3e51 w_c8d11bcee7) rfl rfl rfl (by decide +kernel) ⟨Nat.le_of_ble_eq_true rfl, Nat.le_of_ble_eq_true rfl⟩) ⟨fun a U g mk q => by obtain ⟨q0, qP, qK, qZ⟩ := q; exact ⟨q0, qP, va_K.moved (u := U) (U := U.calling g mk a) (Vm.Alike.refl U.vm) qK, ZZ.same (u := U) (U := U.calling g mk a) rfl qZ⟩, va_recv hKc hPc (ci := 2) (q0 := 0) rfl rfl, fun U hU hW => ⟨rfl, by rw [hU]; exact hPc, va_K.moved hW.alike hKc, by rw [hU]; exact ZZ.warm hW hZc⟩⟩ rfl rfl hl.1 rfl (lv_room (Nat.le_of_ble_eq_true rfl)) dX2_openLengthOf_22 ⟨Nat.zero_le _, Nat.zero_le _⟩).run (fun r_2 hr_2 => ?_)
    have hr_2 : r_2 = lg k := hr_2
    exact W.iret (v := r_2) hx hb hr (fun t ht hW => ⟨_, rfl, (by rw [hr_2, if_neg (fun z => c_1 (by rw [hxk, hct, nI_sub1 (by omega)]; congr 1; omega))]), ht⟩) t_nil dX2_openLengthOf_25
  · skip
    refine lv_aload_n hx hb dX2_openLengthOf_10 rfl (lv_at hl 0 rfl) ?_
    refine lv_iload_n hx hb dX2_openLengthOf_11 rfl (lv_at hl 1 rfl) ?_
    have hPc := hP.sub (ws' := [(rq, .inr (2, [.ref rp, .ref rl, .int ct_, .int cl_, .int wt])), (rp, .inl (cJ, 16, .inr (.inl ps))), (rl, .inl (cI, 16, .inl lg))]) [0, 1, 2] rfl
    have hKc := hK.sub (tys' := [(cJ, .long), (cI, .int)]) [0, 1] rfl
    have hZc := hZ
    refine vp_callSi (va_runV (As := [.int x]) (rest := []) ⟨hx, hb, hml, hown, hw⟩ (r_lengthOf l dC dI rq rp rl ct_ cl_ wt cJ cI ps lg x k hxk hk) (cwV 1 hw (gV w_a80aaf268a w_cb6da4ecc0 w_cf853dc132 w_d27e9d3e51 w_c8d11bcee7) rfl rfl rfl (by decide +kernel) ⟨Nat.le_of_ble_eq_true rfl, Nat.le_of_ble_eq_true rfl⟩) ⟨fun a U g mk q => by obtain ⟨q0, qP, qK, qZ⟩ := q; exact ⟨q0, qP, va_K.moved (u := U) (U := U.calling g mk a) (Vm.Alike.refl U.vm) qK, ZZ.same (u := U) (U := U.calling g mk a) rfl qZ⟩, va_recv hKc hPc (ci := 2) (q0 := 0) rfl rfl, fun U hU hW => ⟨rfl, by rw [hU]; exact hPc, va_K.moved hW.alike hKc, by rw [hU]; exact ZZ.warm hW hZc⟩⟩ rfl rfl hl.1 rfl (lv_room (Nat.le_of_ble_eq_true rfl)) dX2_openLengthOf_12 ⟨Nat.zero_le _, Nat.zero_le _⟩).run (fun r_3 hr_3 => ?_)
    have hr_3 : r_3 = lg k := hr_3
    refine lv_iconst (v := 1) hx hb dX2_openLengthOf_15 (by decide) ?_
    refine lv_isub hx hb dX2_openLengthOf_16 ?_
    refine lv_goto (tgt := 25) hx hb dX2_openLengthOf_17 (by decide) ?_
    exact W.iret (v := r_3 - 1) hx hb hr (fun t ht hW => ⟨_, rfl, (by rw [hr_3, if_pos (by have z := c_1; rw [hxk, hct, nI_sub1 (by omega), nI_eq (by omega) (by omega)] at z; omega)]), ht⟩) t_nil dX2_openLengthOf_25
set_option maxHeartbeats 4000000 in
set_option maxRecDepth 100000 in
/-- Request.kind -/
theorem r_kind (l : Launch) (dC : Nat → ClassId) (dI : Nat → Nat → Nat) (rq : Nat) (rp : Nat) (rl : Nat) (ct_ : Int32) (cl_ : Int32) (wt : Int32) (cJ : ClassId) (cI : ClassId) (ps : Nat → Int64) (lg : Nat → Int32) (b : Nat) (q : Nat) (cB_ : ClassId) (M : Nat → Nat) (C : List Blk) (O : List Blk) (hrep : repC (C ++ O) ps lg) (hrq : rqOK C O) (hM : byt M) : Met l yX2_kind wsX2_kind ({ frames := 3, cells := 0, slots := 0, locals := 120 }) (va_Pc [.ref rq, .ref b] (fun U => va_P (dC, dI) vwCl [(rq, .inr (2, [.ref rp, .ref rl, .int ct_, .int cl_, .int wt])), (rp, .inl (cJ, 16, .inr (.inl ps))), (rl, .inl (cI, 16, .inl lg)), (b, .inr (0, [.ref q])), (q, .inl (cB_, 65536, .inl (cB M)))] U.heap ∧ va_K (dC, dI) vwCl [(cJ, .long), (cI, .int), (cB_, .byte)] U ∧ ZZ (fun _ => False) U U.heap)) (vp_Si (fun r => r = nI (nbs M (hdO C) 4))) 0 0 (fun _ => False) := by
  refine Met.ofW (cc := cX2_kind) (maxL := 2) (ret := (some .int)) (by decide) rfl ?_
  intro p e s m args below meth c s₁ B hml hv
  obtain ⟨rfl, hP, hK, hZ⟩ := hv
  have hx := B.exec
  have hb := B.bytes
  have hr := B.returns
  have hts := atoms_spec (ws := wsX2_kind) B.pre
  have hw : ∀ w ∈ WW, w.before _ s = true := fun w h => hts w (List.mem_cons_of_mem _ h)
  have hown : s.vm.findClass RX2 = some m.cls := findClass_of_methodNamed B.named
  have hlocks := B.notSynchronized
  have hl := lv_entry ([.ref rq, .ref b]) (n := 2) (Nat.le_of_ble_eq_true rfl)
  rw [lg_entry_eq]
  generalize (lg_sl ([.ref rq, .ref b]) ++ List.replicate (2 - (lg_sl ([.ref rq, .ref b])).length) Slot.unset).toArray = ls at hl ⊢
  have hl : lv_has ls 2 [(0, .ref rq), (1, .ref b)] := hl
  have hh := rqC_hd hrq hrep
  refine lv_aload_n hx hb dX2_kind_0 rfl (lv_at hl 1 rfl) ?_
  refine lv_aload_n hx hb dX2_kind_1 rfl (lv_at hl 0 rfl) ?_
  refine lv_iconst (v := 0) hx hb dX2_kind_2 (by decide) ?_
  have hPc := hP.sub (ws' := [(rq, .inr (2, [.ref rp, .ref rl, .int ct_, .int cl_, .int wt])), (rp, .inl (cJ, 16, .inr (.inl ps))), (rl, .inl (cI, 16, .inl lg))]) [0, 1, 2] rfl
  have hKc := hK.sub (tys' := [(cJ, .long), (cI, .int)]) [0, 1] rfl
  have hZc := hZ
  refine vp_callSl (va_runV (As := [.int 0]) (rest := [.ref b]) ⟨hx, hb, hml, hown, hw⟩ (r_placeOf l dC dI rq rp rl ct_ cl_ wt cJ cI ps lg 0 0 rfl (by decide)) (cwV 1 hw (gV w_d160ddf157 w_1bc15c9d4e w_7601c55bff w_d27e9d3e51 w_577239e1dd) rfl rfl rfl (by decide +kernel) ⟨Nat.le_of_ble_eq_true rfl, Nat.le_of_ble_eq_true rfl⟩) ⟨fun a U g mk q => by obtain ⟨q0, qP, qK, qZ⟩ := q; exact ⟨q0, qP, va_K.moved (u := U) (U := U.calling g mk a) (Vm.Alike.refl U.vm) qK, ZZ.same (u := U) (U := U.calling g mk a) rfl qZ⟩, va_recv hKc hPc (ci := 2) (q0 := 0) rfl rfl, fun U hU hW => ⟨rfl, by rw [hU]; exact hPc, va_K.moved hW.alike hKc, by rw [hU]; exact ZZ.warm hW hZc⟩⟩ rfl rfl hl.1 rfl (lv_room (Nat.le_of_ble_eq_true rfl)) dX2_kind_3 ⟨Nat.zero_le _, Nat.zero_le _⟩).run (fun r_1 hr_1 => ?_)
  have hr_1 : r_1 = ps 0 := hr_1
  refine lv_iconst (v := 4) hx hb dX2_kind_6 (by decide) ?_
  have hPc := hP.sub (ws' := [(b, .inr (0, [.ref q])), (q, .inl (cB_, 65536, .inl (cB M)))]) [3, 4] rfl
  have hKc := hK.sub (tys' := [(cB_, .byte)]) [2] rfl
  have hZc := hZ
  refine vp_callSl (va_runV (As := [.long r_1, .int 4]) (rest := []) ⟨hx, hb, hml, hown, hw⟩ (c_number l dC dI b q cB_ 65536 M r_1 4 4 (hdO C) (by decide) rfl (by decide) (by rw [hr_1]; exact hh.1) (by omega) hM) (cwV 2 hw (gV w_12393e1ced w_b83b036cb8 w_d2cb4d8771 w_82b0ef516c w_7aba347942) rfl rfl rfl (by decide +kernel) ⟨Nat.le_of_ble_eq_true rfl, Nat.le_of_ble_eq_true rfl⟩) ⟨fun a U g mk q => by obtain ⟨q0, qP, qK, qZ⟩ := q; exact ⟨q0, qP, va_K.moved (u := U) (U := U.calling g mk a) (Vm.Alike.refl U.vm) qK, ZZ.same (u := U) (U := U.calling g mk a) rfl qZ⟩, va_recv hKc hPc (ci := 0) (q0 := 0) rfl rfl, fun U hU hW => ⟨rfl, by rw [hU]; exact hPc, va_K.moved hW.alike hKc, by rw [hU]; exact ZZ.warm hW hZc⟩⟩ rfl rfl hl.1 rfl (lv_room (Nat.le_of_ble_eq_true rfl)) dX2_kind_7 ⟨Nat.zero_le _, Nat.zero_le _⟩).run (fun r_2 hr_2 => ?_)
  have hr_2 : r_2 = lN (nbs M (hdO C) 4) := hr_2
  refine lv_l2i (v := r_2.toInt32) hx hb dX2_kind_10 rfl ?_
  exact W.iret (v := r_2.toInt32) hx hb hr (fun t ht hW => ⟨_, rfl, (by rw [hr_2, lN_i]), ht⟩) t_nil dX2_kind_11
set_option maxHeartbeats 4000000 in
set_option maxRecDepth 100000 in
/-- Request.sector -/
theorem r_sector (l : Launch) (dC : Nat → ClassId) (dI : Nat → Nat → Nat) (rq : Nat) (rp : Nat) (rl : Nat) (ct_ : Int32) (cl_ : Int32) (wt : Int32) (cJ : ClassId) (cI : ClassId) (ps : Nat → Int64) (lg : Nat → Int32) (b : Nat) (q : Nat) (cB_ : ClassId) (M : Nat → Nat) (C : List Blk) (O : List Blk) (hrep : repC (C ++ O) ps lg) (hrq : rqOK C O) (hM : byt M) : Met l yX2_sector wsX2_sector ({ frames := 3, cells := 0, slots := 0, locals := 120 }) (va_Pc [.ref rq, .ref b] (fun U => va_P (dC, dI) vwCl [(rq, .inr (2, [.ref rp, .ref rl, .int ct_, .int cl_, .int wt])), (rp, .inl (cJ, 16, .inr (.inl ps))), (rl, .inl (cI, 16, .inl lg)), (b, .inr (0, [.ref q])), (q, .inl (cB_, 65536, .inl (cB M)))] U.heap ∧ va_K (dC, dI) vwCl [(cJ, .long), (cI, .int), (cB_, .byte)] U ∧ ZZ (fun _ => False) U U.heap)) (vp_Sl (fun r => r = lN (nbs M (hdO C + 8) 8))) 0 0 (fun _ => False) := by
  refine Met.ofW (cc := cX2_sector) (maxL := 2) (ret := (some .long)) (by decide) rfl ?_
  intro p e s m args below meth c s₁ B hml hv
  obtain ⟨rfl, hP, hK, hZ⟩ := hv
  have hx := B.exec
  have hb := B.bytes
  have hr := B.returns
  have hts := atoms_spec (ws := wsX2_sector) B.pre
  have hw : ∀ w ∈ WW, w.before _ s = true := fun w h => hts w (List.mem_cons_of_mem _ h)
  have hown : s.vm.findClass RX2 = some m.cls := findClass_of_methodNamed B.named
  have hlocks := B.notSynchronized
  have hl := lv_entry ([.ref rq, .ref b]) (n := 2) (Nat.le_of_ble_eq_true rfl)
  rw [lg_entry_eq]
  generalize (lg_sl ([.ref rq, .ref b]) ++ List.replicate (2 - (lg_sl ([.ref rq, .ref b])).length) Slot.unset).toArray = ls at hl ⊢
  have hl : lv_has ls 2 [(0, .ref rq), (1, .ref b)] := hl
  have hh := rqC_hd hrq hrep
  refine lv_aload_n hx hb dX2_sector_0 rfl (lv_at hl 1 rfl) ?_
  refine lv_aload_n hx hb dX2_sector_1 rfl (lv_at hl 0 rfl) ?_
  refine lv_iconst (v := 0) hx hb dX2_sector_2 (by decide) ?_
  have hPc := hP.sub (ws' := [(rq, .inr (2, [.ref rp, .ref rl, .int ct_, .int cl_, .int wt])), (rp, .inl (cJ, 16, .inr (.inl ps))), (rl, .inl (cI, 16, .inl lg))]) [0, 1, 2] rfl
  have hKc := hK.sub (tys' := [(cJ, .long), (cI, .int)]) [0, 1] rfl
  have hZc := hZ
  refine vp_callSl (va_runV (As := [.int 0]) (rest := [.ref b]) ⟨hx, hb, hml, hown, hw⟩ (r_placeOf l dC dI rq rp rl ct_ cl_ wt cJ cI ps lg 0 0 rfl (by decide)) (cwV 1 hw (gV w_d160ddf157 w_1bc15c9d4e w_7601c55bff w_d27e9d3e51 w_577239e1dd) rfl rfl rfl (by decide +kernel) ⟨Nat.le_of_ble_eq_true rfl, Nat.le_of_ble_eq_true rfl⟩) ⟨fun a U g mk q => by obtain ⟨q0, qP, qK, qZ⟩ := q; exact ⟨q0, qP, va_K.moved (u := U) (U := U.calling g mk a) (Vm.Alike.refl U.vm) qK, ZZ.same (u := U) (U := U.calling g mk a) rfl qZ⟩, va_recv hKc hPc (ci := 2) (q0 := 0) rfl rfl, fun U hU hW => ⟨rfl, by rw [hU]; exact hPc, va_K.moved hW.alike hKc, by rw [hU]; exact ZZ.warm hW hZc⟩⟩ rfl rfl hl.1 rfl (lv_room (Nat.le_of_ble_eq_true rfl)) dX2_sector_3 ⟨Nat.zero_le _, Nat.zero_le _⟩).run (fun r_1 hr_1 => ?_)
  have hr_1 : r_1 = ps 0 := hr_1
  refine lv_ldc2 (v := 8) hx hb hown (hw _ w_fbe93aa489) dX2_sector_6 ?_
  refine lv_ladd hx hb dX2_sector_9 ?_
  refine lv_bipush (v := 8) hx hb dX2_sector_10 (by decide) ?_
  have hPc := hP.sub (ws' := [(b, .inr (0, [.ref q])), (q, .inl (cB_, 65536, .inl (cB M)))]) [3, 4] rfl
  have hKc := hK.sub (tys' := [(cB_, .byte)]) [2] rfl
  have hZc := hZ
  refine vp_callSl (va_runV (As := [.long (r_1 + 8), .int 8]) (rest := []) ⟨hx, hb, hml, hown, hw⟩ (c_number l dC dI b q cB_ 65536 M (r_1 + 8) 8 8 (hdO C + 8) (by decide) rfl (by decide) (by rw [hr_1]; exact hh.2.1) (by omega) hM) (cwV 2 hw (gV w_12393e1ced w_b83b036cb8 w_d2cb4d8771 w_82b0ef516c w_7aba347942) rfl rfl rfl (by decide +kernel) ⟨Nat.le_of_ble_eq_true rfl, Nat.le_of_ble_eq_true rfl⟩) ⟨fun a U g mk q => by obtain ⟨q0, qP, qK, qZ⟩ := q; exact ⟨q0, qP, va_K.moved (u := U) (U := U.calling g mk a) (Vm.Alike.refl U.vm) qK, ZZ.same (u := U) (U := U.calling g mk a) rfl qZ⟩, va_recv hKc hPc (ci := 0) (q0 := 0) rfl rfl, fun U hU hW => ⟨rfl, by rw [hU]; exact hPc, va_K.moved hW.alike hKc, by rw [hU]; exact ZZ.warm hW hZc⟩⟩ rfl rfl hl.1 rfl (lv_room (Nat.le_of_ble_eq_true rfl)) dX2_sector_12 ⟨Nat.zero_le _, Nat.zero_le _⟩).run (fun r_2 hr_2 => ?_)
  have hr_2 : r_2 = lN (nbs M (hdO C + 8) 8) := hr_2
  exact W.lret (v := r_2) hx hb hr (fun t ht hW => ⟨_, rfl, hr_2, ht⟩) t_nil dX2_sector_15
set_option maxHeartbeats 4000000 in
set_option maxRecDepth 100000 in
/-- Request.resultPlace -/
theorem r_resultPlace (l : Launch) (dC : Nat → ClassId) (dI : Nat → Nat → Nat) (rq : Nat) (rp : Nat) (rl : Nat) (ct_ : Int32) (cl_ : Int32) (wt : Int32) (cJ : ClassId) (cI : ClassId) (ps : Nat → Int64) (lg : Nat → Int32) (C : List Blk) (O : List Blk) (hrep : repC (C ++ O) ps lg) (hrq : rqOK C O) (hct : ct_ = nI (C ++ O).length) : Met l yX2_resultPlace wsX2_resultPlace ({ frames := 1, cells := 0, slots := 0, locals := 40 }) (va_Pc [.ref rq] (fun U => va_P (dC, dI) vwCl [(rq, .inr (2, [.ref rp, .ref rl, .int ct_, .int cl_, .int wt])), (rp, .inl (cJ, 16, .inr (.inl ps))), (rl, .inl (cI, 16, .inl lg))] U.heap ∧ va_K (dC, dI) vwCl [(cJ, .long), (cI, .int)] U ∧ ZZ (fun _ => False) U U.heap)) (vp_Sl (fun r => r = lN (rpl O))) 0 0 (fun _ => False) := by
  refine Met.ofW (cc := cX2_resultPlace) (maxL := 1) (ret := (some .long)) (by decide) rfl ?_
  intro p e s m args below meth c s₁ B hml hv
  obtain ⟨rfl, hP, hK, hZ⟩ := hv
  have hx := B.exec
  have hb := B.bytes
  have hr := B.returns
  have hts := atoms_spec (ws := wsX2_resultPlace) B.pre
  have hw : ∀ w ∈ WW, w.before _ s = true := fun w h => hts w (List.mem_cons_of_mem _ h)
  have hown : s.vm.findClass RX2 = some m.cls := findClass_of_methodNamed B.named
  have hlocks := B.notSynchronized
  have hl := lv_entry ([.ref rq]) (n := 1) (Nat.le_of_ble_eq_true rfl)
  rw [lg_entry_eq]
  generalize (lg_sl ([.ref rq]) ++ List.replicate (1 - (lg_sl ([.ref rq])).length) Slot.unset).toArray = ls at hl ⊢
  have hl : lv_has ls 1 [(0, .ref rq)] := hl
  obtain ⟨k, hk6, hke, hrp, hr6⟩ := rqC_last hrq hrep
  refine lv_aload_n hx hb dX2_resultPlace_0 rfl (lv_at hl 0 rfl) ?_
  refine lv_aload_n hx hb dX2_resultPlace_1 rfl (lv_at hl 0 rfl) ?_
  refine va_get (D := (dC, dI)) (ci := 2) (v := .int ct_) (C := RX2) (T := TX2) (N := 5) hx hb hw inX2 hown hK hP 0 rfl rfl 2 (by decide) (hw _ w_17cac06a59) (fun _ h9 => h9) rfl dX2_resultPlace_2 ?_
  refine lv_iconst (v := 1) hx hb dX2_resultPlace_5 (by decide) ?_
  refine lv_isub hx hb dX2_resultPlace_6 ?_
  have hPc := hP.sub (ws' := [(rq, .inr (2, [.ref rp, .ref rl, .int ct_, .int cl_, .int wt])), (rp, .inl (cJ, 16, .inr (.inl ps))), (rl, .inl (cI, 16, .inl lg))]) [0, 1, 2] rfl
  have hKc := hK.sub (tys' := [(cJ, .long), (cI, .int)]) [0, 1] rfl
  have hZc := hZ
  refine vp_callSl (va_runV (As := [.int (ct_ - 1)]) (rest := []) ⟨hx, hb, hml, hown, hw⟩ (r_placeOf l dC dI rq rp rl ct_ cl_ wt cJ cI ps lg (ct_ - 1) k (by rw [hct, hke, nI_pred]) hk6) (cwV 1 hw (gV w_d160ddf157 w_1bc15c9d4e w_7601c55bff w_d27e9d3e51 w_577239e1dd) rfl rfl rfl (by decide +kernel) ⟨Nat.le_of_ble_eq_true rfl, Nat.le_of_ble_eq_true rfl⟩) ⟨fun a U g mk q => by obtain ⟨q0, qP, qK, qZ⟩ := q; exact ⟨q0, qP, va_K.moved (u := U) (U := U.calling g mk a) (Vm.Alike.refl U.vm) qK, ZZ.same (u := U) (U := U.calling g mk a) rfl qZ⟩, va_recv hKc hPc (ci := 2) (q0 := 0) rfl rfl, fun U hU hW => ⟨rfl, by rw [hU]; exact hPc, va_K.moved hW.alike hKc, by rw [hU]; exact ZZ.warm hW hZc⟩⟩ rfl rfl hl.1 rfl (lv_room (Nat.le_of_ble_eq_true rfl)) dX2_resultPlace_7 ⟨Nat.zero_le _, Nat.zero_le _⟩).run (fun r_1 hr_1 => ?_)
  have hr_1 : r_1 = ps k := hr_1
  refine lv_aload_n hx hb dX2_resultPlace_10 rfl (lv_at hl 0 rfl) ?_
  refine lv_aload_n hx hb dX2_resultPlace_11 rfl (lv_at hl 0 rfl) ?_
  refine va_get (D := (dC, dI)) (ci := 2) (v := .int ct_) (C := RX2) (T := TX2) (N := 5) hx hb hw inX2 hown hK hP 0 rfl rfl 2 (by decide) (hw _ w_17cac06a59) (fun _ h9 => h9) rfl dX2_resultPlace_12 ?_
  refine lv_iconst (v := 1) hx hb dX2_resultPlace_15 (by decide) ?_
  refine lv_isub hx hb dX2_resultPlace_16 ?_
  have hPc := hP.sub (ws' := [(rq, .inr (2, [.ref rp, .ref rl, .int ct_, .int cl_, .int wt])), (rp, .inl (cJ, 16, .inr (.inl ps))), (rl, .inl (cI, 16, .inl lg))]) [0, 1, 2] rfl
  have hKc := hK.sub (tys' := [(cJ, .long), (cI, .int)]) [0, 1] rfl
  have hZc := hZ
  refine vp_callSi (va_runV (As := [.int (ct_ - 1)]) (rest := [.long r_1]) ⟨hx, hb, hml, hown, hw⟩ (r_lengthOf l dC dI rq rp rl ct_ cl_ wt cJ cI ps lg (ct_ - 1) k (by rw [hct, hke, nI_pred]) hk6) (cwV 1 hw (gV w_a80aaf268a w_cb6da4ecc0 w_cf853dc132 w_d27e9d3e51 w_c8d11bcee7) rfl rfl rfl (by decide +kernel) ⟨Nat.le_of_ble_eq_true rfl, Nat.le_of_ble_eq_true rfl⟩) ⟨fun a U g mk q => by obtain ⟨q0, qP, qK, qZ⟩ := q; exact ⟨q0, qP, va_K.moved (u := U) (U := U.calling g mk a) (Vm.Alike.refl U.vm) qK, ZZ.same (u := U) (U := U.calling g mk a) rfl qZ⟩, va_recv hKc hPc (ci := 2) (q0 := 0) rfl rfl, fun U hU hW => ⟨rfl, by rw [hU]; exact hPc, va_K.moved hW.alike hKc, by rw [hU]; exact ZZ.warm hW hZc⟩⟩ rfl rfl hl.1 rfl (lv_room (Nat.le_of_ble_eq_true rfl)) dX2_resultPlace_17 ⟨Nat.zero_le _, Nat.zero_le _⟩).run (fun r_2 hr_2 => ?_)
  have hr_2 : r_2 = lg k := hr_2
  refine lv_i2l (v := r_2.toInt64) hx hb dX2_resultPlace_20 rfl ?_
  refine lv_ladd hx hb dX2_resultPlace_21 ?_
  refine lv_lconst (v := 1) hx hb dX2_resultPlace_22 (by decide) ?_
  refine lv_lsub hx hb dX2_resultPlace_23 ?_
  exact W.lret (v := (r_1 + r_2.toInt64) - 1) hx hb hr (fun t ht hW => ⟨_, rfl, (by rw [hr_1, hr_2]; exact hrp), ht⟩) t_nil dX2_resultPlace_24
set_option maxHeartbeats 4000000 in
set_option maxRecDepth 100000 in
/-- Request.take -/
theorem r_take (l : Launch) (dC : Nat → ClassId) (dI : Nat → Nat → Nat) (rq : Nat) (rp : Nat) (rl : Nat) (ct_ : Int32) (cl_ : Int32) (wt : Int32) (cJ : ClassId) (cI : ClassId) (ps : Nat → Int64) (lg : Nat → Int32) (b : Nat) (q : Nat) (cB_ : ClassId) (f : Nat → Int32) (pl : Int64) (le_ : Int64) (x : Int32) (mk : Nat) (m0 : Nat) (c0 : Nat) (ad : Int64) (ln : Nat) (zS : Nat) (hxm : x = nI mk) (hmk : mk < 65536) (hct : ct_ = nI m0) (hm0 : m0 < 16) (hcl : cl_ = nI c0) (hc0 : c0 ≤ m0) (hpl : pl = ad - 2147483648) (hle : le_ = lN ln) (hln : ln < 4294967296) : Met l yX2_take wsX2_take ({ frames := 1, cells := 0, slots := 0, locals := 40 }) (va_Pc [.ref rq, .ref b, .long pl, .long le_, .int x] (fun U => U.heap.size = zS ∧ va_P (dC, dI) vwCl [(rq, .inr (2, [.ref rp, .ref rl, .int ct_, .int cl_, .int wt])), (rp, .inl (cJ, 16, .inr (.inl ps))), (rl, .inl (cI, 16, .inl lg)), (b, .inr (0, [.ref q])), (q, .inl (cB_, 65536, .inl f))] U.heap ∧ va_K (dC, dI) vwCl [(cJ, .long), (cI, .int), (cB_, .byte)] U ∧ va_D (fun _ => True) [(rq, .inr (2, [.ref rp, .ref rl, .int ct_, .int cl_, .int wt])), (rp, .inl (cJ, 16, .inr (.inl ps))), (rl, .inl (cI, 16, .inl lg)), (b, .inr (0, [.ref q])), (q, .inl (cB_, 65536, .inl f))] ∧ ZZ (va_A [(rq, .inr (2, [.ref rp, .ref rl, .int ct_, .int cl_, .int wt])), (rp, .inl (cJ, 16, .inr (.inl ps))), (rl, .inl (cI, 16, .inl lg)), (b, .inr (0, [.ref q])), (q, .inl (cB_, 65536, .inl f))] zS) U U.heap)) (va_Qi (fun (r : Int32) (u : Int32 × Int32 × (Nat → Int64) × (Nat → Int32)) => match u with | (ct2, cl2, ps2, lg2) => r = bI (¬ tkN mk m0 c0 ad ln) ∧ (¬ tkN mk m0 c0 ad ln → ct2 = nI (m0 + 1) ∧ cl2 = nI (if mk / 2 % 2 = 1 then c0 else c0 + 1) ∧ ps2 = vp_updL ps m0 (ad - 2147483648) ∧ lg2 = upd lg m0 (nI ln)) ∧ (tkN mk m0 c0 ad ln → ct2 = ct_ ∧ cl2 = cl_ ∧ ps2 = ps ∧ lg2 = lg)) (fun (u : Int32 × Int32 × (Nat → Int64) × (Nat → Int32)) (t : State) => match u with | (ct2, cl2, ps2, lg2) => va_P (dC, dI) vwCl [(rq, .inr (2, [.ref rp, .ref rl, .int ct2, .int cl2, .int wt])), (rp, .inl (cJ, 16, .inr (.inl ps2))), (rl, .inl (cI, 16, .inl lg2)), (b, .inr (0, [.ref q])), (q, .inl (cB_, 65536, .inl f))] t.heap ∧ va_K (dC, dI) vwCl [(cJ, .long), (cI, .int), (cB_, .byte)] t ∧ va_D (va_A [(rq, .inr (2, [.ref rp, .ref rl, .int ct_, .int cl_, .int wt])), (rp, .inl (cJ, 16, .inr (.inl ps))), (rl, .inl (cI, 16, .inl lg)), (b, .inr (0, [.ref q])), (q, .inl (cB_, 65536, .inl f))] zS) [(rq, .inr (2, [.ref rp, .ref rl, .int ct2, .int cl2, .int wt])), (rp, .inl (cJ, 16, .inr (.inl ps2))), (rl, .inl (cI, 16, .inl lg2)), (b, .inr (0, [.ref q])), (q, .inl (cB_, 65536, .inl f))]) (va_A [(rq, .inr (2, [.ref rp, .ref rl, .int ct_, .int cl_, .int wt])), (rp, .inl (cJ, 16, .inr (.inl ps))), (rl, .inl (cI, 16, .inl lg)), (b, .inr (0, [.ref q])), (q, .inl (cB_, 65536, .inl f))] zS)) 0 0 (va_A [(rq, .inr (2, [.ref rp, .ref rl, .int ct_, .int cl_, .int wt])), (rp, .inl (cJ, 16, .inr (.inl ps))), (rl, .inl (cI, 16, .inl lg)), (b, .inr (0, [.ref q])), (q, .inl (cB_, 65536, .inl f))] zS) := by
  refine Met.ofW (cc := cX2_take) (maxL := 8) (ret := (some .boolean)) (by decide) rfl ?_
  intro p e s m args below meth c s₁ B hml hv
  obtain ⟨rfl, hsz, hP, hK, hD0, hZ⟩ := hv
  have hx := B.exec
  have hb := B.bytes
  have hr := B.returns
  have hts := atoms_spec (ws := wsX2_take) B.pre
  have hw : ∀ w ∈ WW, w.before _ s = true := fun w h => hts w (List.mem_cons_of_mem _ h)
  have hown : s.vm.findClass RX2 = some m.cls := findClass_of_methodNamed B.named
  have hlocks := B.notSynchronized
  subst hsz
  have hD := hD0.self (sz := s.heap.size)
  generalize hAe : va_A [(rq, .inr (2, [.ref rp, .ref rl, .int ct_, .int cl_, .int wt])), (rp, .inl (cJ, 16, .inr (.inl ps))), (rl, .inl (cI, 16, .inl lg)), (b, .inr (0, [.ref q])), (q, .inl (cB_, 65536, .inl f))] s.heap.size = A at hD hZ ⊢
  have hA : ∀ q : Nat, s.heap.size ≤ q → A q := fun q h => by rw [← hAe]; exact Or.inr h
  have hS : va_S A s.heap s.heap [] := va_S.rf
  have hP : va_P (dC, dI) vwCl [(rq, .inr (2, [.ref rp, .ref rl, .int ct_, .int cl_, .int wt])), (rp, .inl (cJ, 16, .inr (.inl ps))), (rl, .inl (cI, 16, .inl lg)), (b, .inr (0, [.ref q])), (q, .inl (cB_, 65536, .inl f))] s.heap := hP
  have hl := lv_entry ([.ref rq, .ref b, .long pl, .long le_, .int x]) (n := 8) (Nat.le_of_ble_eq_true rfl)
  rw [lg_entry_eq]
  generalize (lg_sl ([.ref rq, .ref b, .long pl, .long le_, .int x]) ++ List.replicate (8 - (lg_sl ([.ref rq, .ref b, .long pl, .long le_, .int x])).length) Slot.unset).toArray = ls at hl ⊢
  have hl : lv_has ls 8 [(0, .ref rq), (1, .ref b), (2, .long pl), (4, .long le_), (6, .int x)] := hl
  refine lv_iload hx hb dX2_take_0 (lv_at hl 4 rfl) ?_
  refine lv_iconst (v := 2) hx hb dX2_take_2 (by decide) ?_
  refine lv_iand hx hb dX2_take_3 ?_
  refine lv_if_eq (tgt := 11) hx hb dX2_take_4 (by decide) (fun c_1 => ?_) (fun c_1 => ?_)
  · skip
    have hop : ¬ mk / 2 % 2 = 1 := (mk_2 hmk).mp (by rw [← hxm]; exact c_1)
    refine lv_iconst (v := 0) hx hb dX2_take_11 (by decide) ?_
    refine lv_istore (lv' := [(7, .int 0), (0, .ref rq), (1, .ref b), (2, .long pl), (4, .long le_), (6, .int x)]) hx hb dX2_take_12 hl (by decide) rfl (fun ls hl => ?_)
    refine lv_iload hx hb dX2_take_14 (lv_at hl 5 rfl) ?_
    refine lv_iconst (v := 4) hx hb dX2_take_16 (by decide) ?_
    refine lv_iand hx hb dX2_take_17 ?_
    refine lv_if_ne (tgt := 37) hx hb dX2_take_18 (by decide) (fun c_2 => ?_) (fun c_2 => ?_)
    · skip
      have hbad : tkN mk m0 c0 ad ln := Or.inl (Decidable.byContradiction fun z => c_2 (by rw [hxm]; exact (mk_4 hmk).mpr z))
      refine lv_iconst (v := 0) hx hb dX2_take_37 (by decide) ?_
      have hP9 : va_P (dC, dI) vwCl [(rq, .inr (2, [.ref rp, .ref rl, .int ct_, .int cl_, .int wt])), (rp, .inl (cJ, 16, .inr (.inl ps))), (rl, .inl (cI, 16, .inl lg)), (b, .inr (0, [.ref q])), (q, .inl (cB_, 65536, .inl f))] s.heap := by exact hP.sub (ws' := [(rq, .inr (2, [.ref rp, .ref rl, .int ct_, .int cl_, .int wt])), (rp, .inl (cJ, 16, .inr (.inl ps))), (rl, .inl (cI, 16, .inl lg)), (b, .inr (0, [.ref q])), (q, .inl (cB_, 65536, .inl f))]) [0, 1, 2, 3, 4] rfl
      have hD9 : va_D A [(rq, .inr (2, [.ref rp, .ref rl, .int ct_, .int cl_, .int wt])), (rp, .inl (cJ, 16, .inr (.inl ps))), (rl, .inl (cI, 16, .inl lg)), (b, .inr (0, [.ref q])), (q, .inl (cB_, 65536, .inl f))] := by exact hD.sub (ws' := [(rq, .inr (2, [.ref rp, .ref rl, .int ct_, .int cl_, .int wt])), (rp, .inl (cJ, 16, .inr (.inl ps))), (rl, .inl (cI, 16, .inl lg)), (b, .inr (0, [.ref q])), (q, .inl (cB_, 65536, .inl f))]) [0, 1, 2, 3, 4] (by decide) rfl
      have hK9 := hK.sub (tys' := [(cJ, .long), (cI, .int), (cB_, .byte)]) [0, 1, 2] rfl
      exact W.zret (v := 0) hx hb hr rfl (fun t ht hW => ⟨⟨_, (ct_, cl_, ps, lg), rfl, ⟨(bI_f (fun z => z hbad)).symm, fun z => absurd hbad z, fun _ => ⟨rfl, rfl, rfl, rfl⟩⟩, by rw [ht]; exact hP9, va_K.moved hW.alike hK9, hD9⟩, hS.F ht⟩) hS.2.2 dX2_take_38
    · skip
      have hn4 : ¬ mk / 4 % 2 = 1 := (mk_4 hmk).mp (by rw [← hxm]; exact c_2)
      refine lv_iload hx hb dX2_take_21 (lv_at hl 0 rfl) ?_
      refine lv_if_ne (tgt := 39) hx hb dX2_take_23 (by decide) (fun c_3 => ?_) (fun c_3 => ?_)
      · skip
        exact absurd c_3 (by decide)
      · skip
        refine lv_aload_n hx hb dX2_take_26 rfl (lv_at hl 1 rfl) ?_
        refine va_get (D := (dC, dI)) (ci := 2) (v := .int cl_) (C := RX2) (T := TX2) (N := 5) hx hb hw inX2 hown hK hP 0 rfl rfl 3 (by decide) (hw _ w_c0451c0cf4) (fun _ h9 => h9) rfl dX2_take_27 ?_
        refine lv_aload_n hx hb dX2_take_30 rfl (lv_at hl 1 rfl) ?_
        refine va_get (D := (dC, dI)) (ci := 2) (v := .int ct_) (C := RX2) (T := TX2) (N := 5) hx hb hw inX2 hown hK hP 0 rfl rfl 2 (by decide) (hw _ w_17cac06a59) (fun _ h9 => h9) rfl dX2_take_31 ?_
        refine lv_icmp_ge (tgt := 39) hx hb dX2_take_34 (by decide) (fun c_4 => ?_) (fun c_4 => ?_)
        · skip
          have hncb : ¬ (¬ mk / 2 % 2 = 1 ∧ c0 < m0) := fun z => by have q := c_4; rw [hct, hcl, nI_leI (by omega) (by omega)] at q; omega
          refine lv_lload hx hb dX2_take_39 (lv_at hl 4 rfl) ?_
          refine lv_lconst (v := 0) hx hb dX2_take_41 (by decide) ?_
          refine W.lcmp hx hb dX2_take_42 ?_
          refine lv_if_eq (tgt := 58) hx hb dX2_take_43 (by decide) (fun c_5 => ?_) (fun c_5 => ?_)
          · skip
            have hth : thP ad (lN ln) := th_0 hln (by rw [← hle]; exact c_5)
            refine lv_aload_n hx hb dX2_take_58 rfl (lv_at hl 1 rfl) ?_
            refine va_get (D := (dC, dI)) (ci := 2) (v := .int ct_) (C := RX2) (T := TX2) (N := 5) hx hb hw inX2 hown hK hP 0 rfl rfl 2 (by decide) (hw _ w_17cac06a59) (fun _ h9 => h9) rfl dX2_take_59 ?_
            refine lv_aload_n hx hb dX2_take_62 rfl (lv_at hl 1 rfl) ?_
            refine va_get (D := (dC, dI)) (ci := 2) (v := .ref rp) (C := RX2) (T := TX2) (N := 5) hx hb hw inX2 hown hK hP 0 rfl rfl 0 (by decide) (hw _ w_41e730de16) (fun _ h9 => h9) rfl dX2_take_63 ?_
            refine va_alen hx hb hK hP 1 0 rfl rfl (v := nI 16) rfl dX2_take_66 ?_
            refine lv_icmp_ge (tgt := 82) hx hb dX2_take_67 (by decide) (fun c_6 => ?_) (fun c_6 => ?_)
            · skip
              exact absurd (by rw [← hct]; exact c_6) (ix_in hm0).2.1
            · skip
              refine lv_aload_n hx hb dX2_take_70 rfl (lv_at hl 1 rfl) ?_
              refine va_get (D := (dC, dI)) (ci := 2) (v := .int ct_) (C := RX2) (T := TX2) (N := 5) hx hb hw inX2 hown hK hP 0 rfl rfl 2 (by decide) (hw _ w_17cac06a59) (fun _ h9 => h9) rfl dX2_take_71 ?_
              refine lv_aload_n hx hb dX2_take_74 rfl (lv_at hl 1 rfl) ?_
              refine va_get (D := (dC, dI)) (ci := 2) (v := .ref rl) (C := RX2) (T := TX2) (N := 5) hx hb hw inX2 hown hK hP 0 rfl rfl 1 (by decide) (hw _ w_d805126c5c) (fun _ h9 => h9) rfl dX2_take_75 ?_
              refine va_alen hx hb hK hP 2 1 rfl rfl (v := nI 16) rfl dX2_take_78 ?_
              refine lv_icmp_lt (tgt := 84) hx hb dX2_take_79 (by decide) (fun c_7 => ?_) (fun c_7 => ?_)
              · skip
                refine lv_aload_n hx hb dX2_take_84 rfl (lv_at hl 1 rfl) ?_
                refine va_get (D := (dC, dI)) (ci := 2) (v := .ref rp) (C := RX2) (T := TX2) (N := 5) hx hb hw inX2 hown hK hP 0 rfl rfl 0 (by decide) (hw _ w_41e730de16) (fun _ h9 => h9) rfl dX2_take_85 ?_
                refine lv_aload_n hx hb dX2_take_88 rfl (lv_at hl 1 rfl) ?_
                refine va_get (D := (dC, dI)) (ci := 2) (v := .int ct_) (C := RX2) (T := TX2) (N := 5) hx hb hw inX2 hown hK hP 0 rfl rfl 2 (by decide) (hw _ w_17cac06a59) (fun _ h9 => h9) rfl dX2_take_89 ?_
                refine lv_lload_n hx hb dX2_take_92 rfl (lv_at hl 3 rfl) ?_
                refine va_last hx hb hK hP hD hS 1 0 rfl rfl (by rw [hct]; exact vp_in_nI (by omega) (by decide)) dX2_take_93 (fun H locs hP hD hS => ?_)
                have hP : va_P (dC, dI) vwCl [(rq, .inr (2, [.ref rp, .ref rl, .int ct_, .int cl_, .int wt])), (rp, .inl (cJ, 16, .inr (.inl (vp_updL ps ct_.toNatClampNeg pl)))), (rl, .inl (cI, 16, .inl lg)), (b, .inr (0, [.ref q])), (q, .inl (cB_, 65536, .inl f))] H := hP
                have hD : va_D A [(rq, .inr (2, [.ref rp, .ref rl, .int ct_, .int cl_, .int wt])), (rp, .inl (cJ, 16, .inr (.inl (vp_updL ps ct_.toNatClampNeg pl)))), (rl, .inl (cI, 16, .inl lg)), (b, .inr (0, [.ref q])), (q, .inl (cB_, 65536, .inl f))] := hD
                refine lv_aload_n hx hb dX2_take_94 rfl (lv_at hl 1 rfl) ?_
                refine va_get (D := (dC, dI)) (ci := 2) (v := .ref rl) (C := RX2) (T := TX2) (N := 5) hx hb hw inX2 hown hK hP 0 rfl rfl 1 (by decide) (hw _ w_d805126c5c) (fun _ h9 => h9) rfl dX2_take_95 ?_
                refine lv_aload_n hx hb dX2_take_98 rfl (lv_at hl 1 rfl) ?_
                refine va_get (D := (dC, dI)) (ci := 2) (v := .int ct_) (C := RX2) (T := TX2) (N := 5) hx hb hw inX2 hown hK hP 0 rfl rfl 2 (by decide) (hw _ w_17cac06a59) (fun _ h9 => h9) rfl dX2_take_99 ?_
                refine lv_lload hx hb dX2_take_102 (lv_at hl 4 rfl) ?_
                refine lv_l2i (v := le_.toInt32) hx hb dX2_take_104 rfl ?_
                refine lv_topi (fun x_8 ex_8 => ?_)
                refine va_iast hx hb hK hP hD hS 2 1 rfl rfl (by rw [hct]; exact vp_in_nI (by omega) (by decide)) dX2_take_105 (fun H locs hP hD hS => ?_)
                have hP : va_P (dC, dI) vwCl [(rq, .inr (2, [.ref rp, .ref rl, .int ct_, .int cl_, .int wt])), (rp, .inl (cJ, 16, .inr (.inl (vp_updL ps ct_.toNatClampNeg pl)))), (rl, .inl (cI, 16, .inl (upd lg ct_.toNatClampNeg x_8))), (b, .inr (0, [.ref q])), (q, .inl (cB_, 65536, .inl f))] H := hP
                have hD : va_D A [(rq, .inr (2, [.ref rp, .ref rl, .int ct_, .int cl_, .int wt])), (rp, .inl (cJ, 16, .inr (.inl (vp_updL ps ct_.toNatClampNeg pl)))), (rl, .inl (cI, 16, .inl (upd lg ct_.toNatClampNeg x_8))), (b, .inr (0, [.ref q])), (q, .inl (cB_, 65536, .inl f))] := hD
                refine lv_aload_n hx hb dX2_take_106 rfl (lv_at hl 1 rfl) ?_
                refine lv_dup hx hb dX2_take_107 rfl ?_
                refine va_get (D := (dC, dI)) (ci := 2) (v := .int ct_) (C := RX2) (T := TX2) (N := 5) hx hb hw inX2 hown hK hP 0 rfl rfl 2 (by decide) (hw _ w_17cac06a59) (fun _ h9 => h9) rfl dX2_take_108 ?_
                refine lv_iconst (v := 1) hx hb dX2_take_111 (by decide) ?_
                refine lv_iadd hx hb dX2_take_112 ?_
                refine lv_topi (fun x_9 ex_9 => ?_)
                refine va_put (D := (dC, dI)) (ci := 2) (v := .int x_9) (ty := .int) (C := RX2) (T := TX2) (N := 5) hx hb hw inX2 tyX2 tyX2_ok nmX2 hown hK hP hD hS 0 rfl rfl 2 (by decide) (hw _ w_17cac06a59) (fun _ h9 => h9) rfl (by decide +kernel) rfl rfl (Nat.le_of_ble_eq_true rfl) dX2_take_113 (fun H locs hP hD hS => ?_)
                have hP : va_P (dC, dI) vwCl [(rq, .inr (2, [.ref rp, .ref rl, .int x_9, .int cl_, .int wt])), (rp, .inl (cJ, 16, .inr (.inl (vp_updL ps ct_.toNatClampNeg pl)))), (rl, .inl (cI, 16, .inl (upd lg ct_.toNatClampNeg x_8))), (b, .inr (0, [.ref q])), (q, .inl (cB_, 65536, .inl f))] H := hP
                have hD : va_D A [(rq, .inr (2, [.ref rp, .ref rl, .int x_9, .int cl_, .int wt])), (rp, .inl (cJ, 16, .inr (.inl (vp_updL ps ct_.toNatClampNeg pl)))), (rl, .inl (cI, 16, .inl (upd lg ct_.toNatClampNeg x_8))), (b, .inr (0, [.ref q])), (q, .inl (cB_, 65536, .inl f))] := hD
                refine lv_iload hx hb dX2_take_116 (lv_at hl 0 rfl) ?_
                refine lv_if_ne (tgt := 131) hx hb dX2_take_118 (by decide) (fun c_10 => ?_) (fun c_10 => ?_)
                · skip
                  exact absurd c_10 (by decide)
                · skip
                  refine lv_aload_n hx hb dX2_take_121 rfl (lv_at hl 1 rfl) ?_
                  refine lv_dup hx hb dX2_take_122 rfl ?_
                  refine va_get (D := (dC, dI)) (ci := 2) (v := .int cl_) (C := RX2) (T := TX2) (N := 5) hx hb hw inX2 hown hK hP 0 rfl rfl 3 (by decide) (hw _ w_c0451c0cf4) (fun _ h9 => h9) rfl dX2_take_123 ?_
                  refine lv_iconst (v := 1) hx hb dX2_take_126 (by decide) ?_
                  refine lv_iadd hx hb dX2_take_127 ?_
                  refine lv_topi (fun x_11 ex_11 => ?_)
                  refine va_put (D := (dC, dI)) (ci := 2) (v := .int x_11) (ty := .int) (C := RX2) (T := TX2) (N := 5) hx hb hw inX2 tyX2 tyX2_ok nmX2 hown hK hP hD hS 0 rfl rfl 3 (by decide) (hw _ w_c0451c0cf4) (fun _ h9 => h9) rfl (by decide +kernel) rfl rfl (Nat.le_of_ble_eq_true rfl) dX2_take_128 (fun H locs hP hD hS => ?_)
                  have hP : va_P (dC, dI) vwCl [(rq, .inr (2, [.ref rp, .ref rl, .int x_9, .int x_11, .int wt])), (rp, .inl (cJ, 16, .inr (.inl (vp_updL ps ct_.toNatClampNeg pl)))), (rl, .inl (cI, 16, .inl (upd lg ct_.toNatClampNeg x_8))), (b, .inr (0, [.ref q])), (q, .inl (cB_, 65536, .inl f))] H := hP
                  have hD : va_D A [(rq, .inr (2, [.ref rp, .ref rl, .int x_9, .int x_11, .int wt])), (rp, .inl (cJ, 16, .inr (.inl (vp_updL ps ct_.toNatClampNeg pl)))), (rl, .inl (cI, 16, .inl (upd lg ct_.toNatClampNeg x_8))), (b, .inr (0, [.ref q])), (q, .inl (cB_, 65536, .inl f))] := hD
                  refine lv_iconst (v := 1) hx hb dX2_take_131 (by decide) ?_
                  have hP9 : va_P (dC, dI) vwCl [(rq, .inr (2, [.ref rp, .ref rl, .int x_9, .int x_11, .int wt])), (rp, .inl (cJ, 16, .inr (.inl (vp_updL ps ct_.toNatClampNeg pl)))), (rl, .inl (cI, 16, .inl (upd lg ct_.toNatClampNeg x_8))), (b, .inr (0, [.ref q])), (q, .inl (cB_, 65536, .inl f))] H := by exact hP.sub (ws' := [(rq, .inr (2, [.ref rp, .ref rl, .int x_9, .int x_11, .int wt])), (rp, .inl (cJ, 16, .inr (.inl (vp_updL ps ct_.toNatClampNeg pl)))), (rl, .inl (cI, 16, .inl (upd lg ct_.toNatClampNeg x_8))), (b, .inr (0, [.ref q])), (q, .inl (cB_, 65536, .inl f))]) [0, 1, 2, 3, 4] rfl
                  have hD9 : va_D A [(rq, .inr (2, [.ref rp, .ref rl, .int x_9, .int x_11, .int wt])), (rp, .inl (cJ, 16, .inr (.inl (vp_updL ps ct_.toNatClampNeg pl)))), (rl, .inl (cI, 16, .inl (upd lg ct_.toNatClampNeg x_8))), (b, .inr (0, [.ref q])), (q, .inl (cB_, 65536, .inl f))] := by exact hD.sub (ws' := [(rq, .inr (2, [.ref rp, .ref rl, .int x_9, .int x_11, .int wt])), (rp, .inl (cJ, 16, .inr (.inl (vp_updL ps ct_.toNatClampNeg pl)))), (rl, .inl (cI, 16, .inl (upd lg ct_.toNatClampNeg x_8))), (b, .inr (0, [.ref q])), (q, .inl (cB_, 65536, .inl f))]) [0, 1, 2, 3, 4] (by decide) rfl
                  have hK9 := hK.sub (tys' := [(cJ, .long), (cI, .int), (cB_, .byte)]) [0, 1, 2] rfl
                  have hgood : ¬ tkN mk m0 c0 ad ln := by
                    rintro (z | z | z)
                    · exact hn4 z
                    · exact hncb z
                    · exact z hth
                  exact W.zret (v := 1) hx hb hr rfl (fun t ht hW => ⟨⟨_, (x_9, x_11, vp_updL ps ct_.toNatClampNeg pl, upd lg ct_.toNatClampNeg x_8), rfl, ⟨(bI_t hgood).symm, fun _ => ⟨by rw [ex_9, hct]; exact nI_1 m0, (by rw [if_neg hop, ex_11, hcl]; exact nI_1 c0), by rw [hct, nI_clamp (by omega), hpl], by rw [hct, nI_clamp (by omega), ex_8, hle, lN_i]⟩, fun z => absurd z hgood⟩, by rw [ht]; exact hP9, va_K.moved hW.alike hK9, hD9⟩, hS.F ht⟩) hS.2.2 dX2_take_132
              · skip
                exact absurd (by rw [hct]; exact nI_lt hm0 (by decide)) c_7
          · skip
            have hlp := ln_pos hln (by rw [← hle]; exact c_5)
            refine lv_aload_n hx hb dX2_take_46 rfl (lv_at hl 2 rfl) ?_
            refine lv_lload_n hx hb dX2_take_47 rfl (lv_at hl 3 rfl) ?_
            refine lv_lload hx hb dX2_take_48 (lv_at hl 4 rfl) ?_
            have hPc := hP.sub (ws' := [(b, .inr (0, [.ref q])), (q, .inl (cB_, 65536, .inl f))]) [3, 4] rfl
            have hKc := hK.sub (tys' := [(cB_, .byte)]) [2] rfl
            have hZc := (hZ.kept hS.2.1).narrow (B := fun _ => False) (fun _ h => h.elim)
            refine vp_callSi (va_runV (As := [.long pl, .long le_]) (rest := []) ⟨hx, hb, hml, hown, hw⟩ (c_holds l dC dI b q cB_ 65536 f pl le_ (by decide)) (cwV 2 hw (gV w_8e7575e911 w_bd9bccf83c w_88968f97c9 w_82b0ef516c w_0dba9a2727) rfl rfl rfl (by decide +kernel) ⟨Nat.le_of_ble_eq_true rfl, Nat.le_of_ble_eq_true rfl⟩) ⟨fun a U g mk q => by obtain ⟨q0, qP, qK, qZ⟩ := q; exact ⟨q0, qP, va_K.moved (u := U) (U := U.calling g mk a) (Vm.Alike.refl U.vm) qK, ZZ.same (u := U) (U := U.calling g mk a) rfl qZ⟩, va_recv hKc hPc (ci := 0) (q0 := 0) rfl rfl, fun U hU hW => ⟨rfl, by rw [hU]; exact hPc, va_K.moved hW.alike hKc, by rw [hU]; exact ZZ.warm hW hZc⟩⟩ rfl rfl hl.1 rfl (lv_room (Nat.le_of_ble_eq_true rfl)) dX2_take_50 ⟨Nat.zero_le _, Nat.zero_le _⟩).run (fun r_12 hr_12 => ?_)
            have hr_12 : r_12 = bI (hoP 65536 pl le_) := hr_12
            refine lv_if_ne (tgt := 58) hx hb dX2_take_53 (by decide) (fun c_13 => ?_) (fun c_13 => ?_)
            · skip
              have b_14 : (hoP 65536 pl le_) := bI_1 (by rw [← hr_12]; exact c_13)
              have hth : thP ad (lN ln) := (ho_th2 hlp).mp (by rw [← hpl, ← hle]; exact b_14)
              refine lv_aload_n hx hb dX2_take_58 rfl (lv_at hl 1 rfl) ?_
              refine va_get (D := (dC, dI)) (ci := 2) (v := .int ct_) (C := RX2) (T := TX2) (N := 5) hx hb hw inX2 hown hK hP 0 rfl rfl 2 (by decide) (hw _ w_17cac06a59) (fun _ h9 => h9) rfl dX2_take_59 ?_
              refine lv_aload_n hx hb dX2_take_62 rfl (lv_at hl 1 rfl) ?_
              refine va_get (D := (dC, dI)) (ci := 2) (v := .ref rp) (C := RX2) (T := TX2) (N := 5) hx hb hw inX2 hown hK hP 0 rfl rfl 0 (by decide) (hw _ w_41e730de16) (fun _ h9 => h9) rfl dX2_take_63 ?_
              refine va_alen hx hb hK hP 1 0 rfl rfl (v := nI 16) rfl dX2_take_66 ?_
              refine lv_icmp_ge (tgt := 82) hx hb dX2_take_67 (by decide) (fun c_15 => ?_) (fun c_15 => ?_)
              · skip
                exact absurd (by rw [← hct]; exact c_15) (ix_in hm0).2.1
              · skip
                refine lv_aload_n hx hb dX2_take_70 rfl (lv_at hl 1 rfl) ?_
                refine va_get (D := (dC, dI)) (ci := 2) (v := .int ct_) (C := RX2) (T := TX2) (N := 5) hx hb hw inX2 hown hK hP 0 rfl rfl 2 (by decide) (hw _ w_17cac06a59) (fun _ h9 => h9) rfl dX2_take_71 ?_
                refine lv_aload_n hx hb dX2_take_74 rfl (lv_at hl 1 rfl) ?_
                refine va_get (D := (dC, dI)) (ci := 2) (v := .ref rl) (C := RX2) (T := TX2) (N := 5) hx hb hw inX2 hown hK hP 0 rfl rfl 1 (by decide) (hw _ w_d805126c5c) (fun _ h9 => h9) rfl dX2_take_75 ?_
                refine va_alen hx hb hK hP 2 1 rfl rfl (v := nI 16) rfl dX2_take_78 ?_
                refine lv_icmp_lt (tgt := 84) hx hb dX2_take_79 (by decide) (fun c_16 => ?_) (fun c_16 => ?_)
                · skip
                  refine lv_aload_n hx hb dX2_take_84 rfl (lv_at hl 1 rfl) ?_
                  refine va_get (D := (dC, dI)) (ci := 2) (v := .ref rp) (C := RX2) (T := TX2) (N := 5) hx hb hw inX2 hown hK hP 0 rfl rfl 0 (by decide) (hw _ w_41e730de16) (fun _ h9 => h9) rfl dX2_take_85 ?_
                  refine lv_aload_n hx hb dX2_take_88 rfl (lv_at hl 1 rfl) ?_
                  refine va_get (D := (dC, dI)) (ci := 2) (v := .int ct_) (C := RX2) (T := TX2) (N := 5) hx hb hw inX2 hown hK hP 0 rfl rfl 2 (by decide) (hw _ w_17cac06a59) (fun _ h9 => h9) rfl dX2_take_89 ?_
                  refine lv_lload_n hx hb dX2_take_92 rfl (lv_at hl 3 rfl) ?_
                  refine va_last hx hb hK hP hD hS 1 0 rfl rfl (by rw [hct]; exact vp_in_nI (by omega) (by decide)) dX2_take_93 (fun H locs hP hD hS => ?_)
                  have hP : va_P (dC, dI) vwCl [(rq, .inr (2, [.ref rp, .ref rl, .int ct_, .int cl_, .int wt])), (rp, .inl (cJ, 16, .inr (.inl (vp_updL ps ct_.toNatClampNeg pl)))), (rl, .inl (cI, 16, .inl lg)), (b, .inr (0, [.ref q])), (q, .inl (cB_, 65536, .inl f))] H := hP
                  have hD : va_D A [(rq, .inr (2, [.ref rp, .ref rl, .int ct_, .int cl_, .int wt])), (rp, .inl (cJ, 16, .inr (.inl (vp_updL ps ct_.toNatClampNeg pl)))), (rl, .inl (cI, 16, .inl lg)), (b, .inr (0, [.ref q])), (q, .inl (cB_, 65536, .inl f))] := hD
                  refine lv_aload_n hx hb dX2_take_94 rfl (lv_at hl 1 rfl) ?_
                  refine va_get (D := (dC, dI)) (ci := 2) (v := .ref rl) (C := RX2) (T := TX2) (N := 5) hx hb hw inX2 hown hK hP 0 rfl rfl 1 (by decide) (hw _ w_d805126c5c) (fun _ h9 => h9) rfl dX2_take_95 ?_
                  refine lv_aload_n hx hb dX2_take_98 rfl (lv_at hl 1 rfl) ?_
                  refine va_get (D := (dC, dI)) (ci := 2) (v := .int ct_) (C := RX2) (T := TX2) (N := 5) hx hb hw inX2 hown hK hP 0 rfl rfl 2 (by decide) (hw _ w_17cac06a59) (fun _ h9 => h9) rfl dX2_take_99 ?_
                  refine lv_lload hx hb dX2_take_102 (lv_at hl 4 rfl) ?_
                  refine lv_l2i (v := le_.toInt32) hx hb dX2_take_104 rfl ?_
                  refine lv_topi (fun x_17 ex_17 => ?_)
                  refine va_iast hx hb hK hP hD hS 2 1 rfl rfl (by rw [hct]; exact vp_in_nI (by omega) (by decide)) dX2_take_105 (fun H locs hP hD hS => ?_)
                  have hP : va_P (dC, dI) vwCl [(rq, .inr (2, [.ref rp, .ref rl, .int ct_, .int cl_, .int wt])), (rp, .inl (cJ, 16, .inr (.inl (vp_updL ps ct_.toNatClampNeg pl)))), (rl, .inl (cI, 16, .inl (upd lg ct_.toNatClampNeg x_17))), (b, .inr (0, [.ref q])), (q, .inl (cB_, 65536, .inl f))] H := hP
                  have hD : va_D A [(rq, .inr (2, [.ref rp, .ref rl, .int ct_, .int cl_, .int wt])), (rp, .inl (cJ, 16, .inr (.inl (vp_updL ps ct_.toNatClampNeg pl)))), (rl, .inl (cI, 16, .inl (upd lg ct_.toNatClampNeg x_17))), (b, .inr (0, [.ref q])), (q, .inl (cB_, 65536, .inl f))] := hD
                  refine lv_aload_n hx hb dX2_take_106 rfl (lv_at hl 1 rfl) ?_
                  refine lv_dup hx hb dX2_take_107 rfl ?_
                  refine va_get (D := (dC, dI)) (ci := 2) (v := .int ct_) (C := RX2) (T := TX2) (N := 5) hx hb hw inX2 hown hK hP 0 rfl rfl 2 (by decide) (hw _ w_17cac06a59) (fun _ h9 => h9) rfl dX2_take_108 ?_
                  refine lv_iconst (v := 1) hx hb dX2_take_111 (by decide) ?_
                  refine lv_iadd hx hb dX2_take_112 ?_
                  refine lv_topi (fun x_18 ex_18 => ?_)
                  refine va_put (D := (dC, dI)) (ci := 2) (v := .int x_18) (ty := .int) (C := RX2) (T := TX2) (N := 5) hx hb hw inX2 tyX2 tyX2_ok nmX2 hown hK hP hD hS 0 rfl rfl 2 (by decide) (hw _ w_17cac06a59) (fun _ h9 => h9) rfl (by decide +kernel) rfl rfl (Nat.le_of_ble_eq_true rfl) dX2_take_113 (fun H locs hP hD hS => ?_)
                  have hP : va_P (dC, dI) vwCl [(rq, .inr (2, [.ref rp, .ref rl, .int x_18, .int cl_, .int wt])), (rp, .inl (cJ, 16, .inr (.inl (vp_updL ps ct_.toNatClampNeg pl)))), (rl, .inl (cI, 16, .inl (upd lg ct_.toNatClampNeg x_17))), (b, .inr (0, [.ref q])), (q, .inl (cB_, 65536, .inl f))] H := hP
                  have hD : va_D A [(rq, .inr (2, [.ref rp, .ref rl, .int x_18, .int cl_, .int wt])), (rp, .inl (cJ, 16, .inr (.inl (vp_updL ps ct_.toNatClampNeg pl)))), (rl, .inl (cI, 16, .inl (upd lg ct_.toNatClampNeg x_17))), (b, .inr (0, [.ref q])), (q, .inl (cB_, 65536, .inl f))] := hD
                  refine lv_iload hx hb dX2_take_116 (lv_at hl 0 rfl) ?_
                  refine lv_if_ne (tgt := 131) hx hb dX2_take_118 (by decide) (fun c_19 => ?_) (fun c_19 => ?_)
                  · skip
                    exact absurd c_19 (by decide)
                  · skip
                    refine lv_aload_n hx hb dX2_take_121 rfl (lv_at hl 1 rfl) ?_
                    refine lv_dup hx hb dX2_take_122 rfl ?_
                    refine va_get (D := (dC, dI)) (ci := 2) (v := .int cl_) (C := RX2) (T := TX2) (N := 5) hx hb hw inX2 hown hK hP 0 rfl rfl 3 (by decide) (hw _ w_c0451c0cf4) (fun _ h9 => h9) rfl dX2_take_123 ?_
                    refine lv_iconst (v := 1) hx hb dX2_take_126 (by decide) ?_
                    refine lv_iadd hx hb dX2_take_127 ?_
                    refine lv_topi (fun x_20 ex_20 => ?_)
                    refine va_put (D := (dC, dI)) (ci := 2) (v := .int x_20) (ty := .int) (C := RX2) (T := TX2) (N := 5) hx hb hw inX2 tyX2 tyX2_ok nmX2 hown hK hP hD hS 0 rfl rfl 3 (by decide) (hw _ w_c0451c0cf4) (fun _ h9 => h9) rfl (by decide +kernel) rfl rfl (Nat.le_of_ble_eq_true rfl) dX2_take_128 (fun H locs hP hD hS => ?_)
                    have hP : va_P (dC, dI) vwCl [(rq, .inr (2, [.ref rp, .ref rl, .int x_18, .int x_20, .int wt])), (rp, .inl (cJ, 16, .inr (.inl (vp_updL ps ct_.toNatClampNeg pl)))), (rl, .inl (cI, 16, .inl (upd lg ct_.toNatClampNeg x_17))), (b, .inr (0, [.ref q])), (q, .inl (cB_, 65536, .inl f))] H := hP
                    have hD : va_D A [(rq, .inr (2, [.ref rp, .ref rl, .int x_18, .int x_20, .int wt])), (rp, .inl (cJ, 16, .inr (.inl (vp_updL ps ct_.toNatClampNeg pl)))), (rl, .inl (cI, 16, .inl (upd lg ct_.toNatClampNeg x_17))), (b, .inr (0, [.ref q])), (q, .inl (cB_, 65536, .inl f))] := hD
                    refine lv_iconst (v := 1) hx hb dX2_take_131 (by decide) ?_
                    have hP9 : va_P (dC, dI) vwCl [(rq, .inr (2, [.ref rp, .ref rl, .int x_18, .int x_20, .int wt])), (rp, .inl (cJ, 16, .inr (.inl (vp_updL ps ct_.toNatClampNeg pl)))), (rl, .inl (cI, 16, .inl (upd lg ct_.toNatClampNeg x_17))), (b, .inr (0, [.ref q])), (q, .inl (cB_, 65536, .inl f))] H := by exact hP.sub (ws' := [(rq, .inr (2, [.ref rp, .ref rl, .int x_18, .int x_20, .int wt])), (rp, .inl (cJ, 16, .inr (.inl (vp_updL ps ct_.toNatClampNeg pl)))), (rl, .inl (cI, 16, .inl (upd lg ct_.toNatClampNeg x_17))), (b, .inr (0, [.ref q])), (q, .inl (cB_, 65536, .inl f))]) [0, 1, 2, 3, 4] rfl
                    have hD9 : va_D A [(rq, .inr (2, [.ref rp, .ref rl, .int x_18, .int x_20, .int wt])), (rp, .inl (cJ, 16, .inr (.inl (vp_updL ps ct_.toNatClampNeg pl)))), (rl, .inl (cI, 16, .inl (upd lg ct_.toNatClampNeg x_17))), (b, .inr (0, [.ref q])), (q, .inl (cB_, 65536, .inl f))] := by exact hD.sub (ws' := [(rq, .inr (2, [.ref rp, .ref rl, .int x_18, .int x_20, .int wt])), (rp, .inl (cJ, 16, .inr (.inl (vp_updL ps ct_.toNatClampNeg pl)))), (rl, .inl (cI, 16, .inl (upd lg ct_.toNatClampNeg x_17))), (b, .inr (0, [.ref q])), (q, .inl (cB_, 65536, .inl f))]) [0, 1, 2, 3, 4] (by decide) rfl
                    have hK9 := hK.sub (tys' := [(cJ, .long), (cI, .int), (cB_, .byte)]) [0, 1, 2] rfl
                    have hgood : ¬ tkN mk m0 c0 ad ln := by
                      rintro (z | z | z)
                      · exact hn4 z
                      · exact hncb z
                      · exact z hth
                    exact W.zret (v := 1) hx hb hr rfl (fun t ht hW => ⟨⟨_, (x_18, x_20, vp_updL ps ct_.toNatClampNeg pl, upd lg ct_.toNatClampNeg x_17), rfl, ⟨(bI_t hgood).symm, fun _ => ⟨by rw [ex_18, hct]; exact nI_1 m0, (by rw [if_neg hop, ex_20, hcl]; exact nI_1 c0), by rw [hct, nI_clamp (by omega), hpl], by rw [hct, nI_clamp (by omega), ex_17, hle, lN_i]⟩, fun z => absurd z hgood⟩, by rw [ht]; exact hP9, va_K.moved hW.alike hK9, hD9⟩, hS.F ht⟩) hS.2.2 dX2_take_132
                · skip
                  exact absurd (by rw [hct]; exact nI_lt hm0 (by decide)) c_16
            · skip
              have b_21 : ¬ (hoP 65536 pl le_) := bI_0 (by rw [← hr_12]; exact c_13)
              have hbad : tkN mk m0 c0 ad ln := Or.inr (Or.inr (fun z => b_21 (by rw [hpl, hle]; exact (ho_th2 hlp).mpr z)))
              refine lv_iconst (v := 0) hx hb dX2_take_56 (by decide) ?_
              have hP9 : va_P (dC, dI) vwCl [(rq, .inr (2, [.ref rp, .ref rl, .int ct_, .int cl_, .int wt])), (rp, .inl (cJ, 16, .inr (.inl ps))), (rl, .inl (cI, 16, .inl lg)), (b, .inr (0, [.ref q])), (q, .inl (cB_, 65536, .inl f))] s.heap := by exact hP.sub (ws' := [(rq, .inr (2, [.ref rp, .ref rl, .int ct_, .int cl_, .int wt])), (rp, .inl (cJ, 16, .inr (.inl ps))), (rl, .inl (cI, 16, .inl lg)), (b, .inr (0, [.ref q])), (q, .inl (cB_, 65536, .inl f))]) [0, 1, 2, 3, 4] rfl
              have hD9 : va_D A [(rq, .inr (2, [.ref rp, .ref rl, .int ct_, .int cl_, .int wt])), (rp, .inl (cJ, 16, .inr (.inl ps))), (rl, .inl (cI, 16, .inl lg)), (b, .inr (0, [.ref q])), (q, .inl (cB_, 65536, .inl f))] := by exact hD.sub (ws' := [(rq, .inr (2, [.ref rp, .ref rl, .int ct_, .int cl_, .int wt])), (rp, .inl (cJ, 16, .inr (.inl ps))), (rl, .inl (cI, 16, .inl lg)), (b, .inr (0, [.ref q])), (q, .inl (cB_, 65536, .inl f))]) [0, 1, 2, 3, 4] (by decide) rfl
              have hK9 := hK.sub (tys' := [(cJ, .long), (cI, .int), (cB_, .byte)]) [0, 1, 2] rfl
              exact W.zret (v := 0) hx hb hr rfl (fun t ht hW => ⟨⟨_, (ct_, cl_, ps, lg), rfl, ⟨(bI_f (fun z => z hbad)).symm, fun z => absurd hbad z, fun _ => ⟨rfl, rfl, rfl, rfl⟩⟩, by rw [ht]; exact hP9, va_K.moved hW.alike hK9, hD9⟩, hS.F ht⟩) hS.2.2 dX2_take_57
        · skip
          have hbad : tkN mk m0 c0 ad ln := Or.inr (Or.inl ⟨hop, by have z := c_4; rw [hct, hcl, nI_leI (by omega) (by omega)] at z; omega⟩)
          refine lv_iconst (v := 0) hx hb dX2_take_37 (by decide) ?_
          have hP9 : va_P (dC, dI) vwCl [(rq, .inr (2, [.ref rp, .ref rl, .int ct_, .int cl_, .int wt])), (rp, .inl (cJ, 16, .inr (.inl ps))), (rl, .inl (cI, 16, .inl lg)), (b, .inr (0, [.ref q])), (q, .inl (cB_, 65536, .inl f))] s.heap := by exact hP.sub (ws' := [(rq, .inr (2, [.ref rp, .ref rl, .int ct_, .int cl_, .int wt])), (rp, .inl (cJ, 16, .inr (.inl ps))), (rl, .inl (cI, 16, .inl lg)), (b, .inr (0, [.ref q])), (q, .inl (cB_, 65536, .inl f))]) [0, 1, 2, 3, 4] rfl
          have hD9 : va_D A [(rq, .inr (2, [.ref rp, .ref rl, .int ct_, .int cl_, .int wt])), (rp, .inl (cJ, 16, .inr (.inl ps))), (rl, .inl (cI, 16, .inl lg)), (b, .inr (0, [.ref q])), (q, .inl (cB_, 65536, .inl f))] := by exact hD.sub (ws' := [(rq, .inr (2, [.ref rp, .ref rl, .int ct_, .int cl_, .int wt])), (rp, .inl (cJ, 16, .inr (.inl ps))), (rl, .inl (cI, 16, .inl lg)), (b, .inr (0, [.ref q])), (q, .inl (cB_, 65536, .inl f))]) [0, 1, 2, 3, 4] (by decide) rfl
          have hK9 := hK.sub (tys' := [(cJ, .long), (cI, .int), (cB_, .byte)]) [0, 1, 2] rfl
          exact W.zret (v := 0) hx hb hr rfl (fun t ht hW => ⟨⟨_, (ct_, cl_, ps, lg), rfl, ⟨(bI_f (fun z => z hbad)).symm, fun z => absurd hbad z, fun _ => ⟨rfl, rfl, rfl, rfl⟩⟩, by rw [ht]; exact hP9, va_K.moved hW.alike hK9, hD9⟩, hS.F ht⟩) hS.2.2 dX2_take_38
  · skip
    have hop : mk / 2 % 2 = 1 := Decidable.byContradiction fun z => c_1 (by rw [hxm]; exact (mk_2 hmk).mpr z)
    have hncb : ¬ (¬ mk / 2 % 2 = 1 ∧ c0 < m0) := fun z => z.1 hop
    refine lv_iconst (v := 1) hx hb dX2_take_7 (by decide) ?_
    refine lv_goto (tgt := 12) hx hb dX2_take_8 (by decide) ?_
    refine lv_istore (lv' := [(7, .int 1), (0, .ref rq), (1, .ref b), (2, .long pl), (4, .long le_), (6, .int x)]) hx hb dX2_take_12 hl (by decide) rfl (fun ls hl => ?_)
    refine lv_iload hx hb dX2_take_14 (lv_at hl 5 rfl) ?_
    refine lv_iconst (v := 4) hx hb dX2_take_16 (by decide) ?_
    refine lv_iand hx hb dX2_take_17 ?_
    refine lv_if_ne (tgt := 37) hx hb dX2_take_18 (by decide) (fun c_22 => ?_) (fun c_22 => ?_)
    · skip
      have hbad : tkN mk m0 c0 ad ln := Or.inl (Decidable.byContradiction fun z => c_22 (by rw [hxm]; exact (mk_4 hmk).mpr z))
      refine lv_iconst (v := 0) hx hb dX2_take_37 (by decide) ?_
      have hP9 : va_P (dC, dI) vwCl [(rq, .inr (2, [.ref rp, .ref rl, .int ct_, .int cl_, .int wt])), (rp, .inl (cJ, 16, .inr (.inl ps))), (rl, .inl (cI, 16, .inl lg)), (b, .inr (0, [.ref q])), (q, .inl (cB_, 65536, .inl f))] s.heap := by exact hP.sub (ws' := [(rq, .inr (2, [.ref rp, .ref rl, .int ct_, .int cl_, .int wt])), (rp, .inl (cJ, 16, .inr (.inl ps))), (rl, .inl (cI, 16, .inl lg)), (b, .inr (0, [.ref q])), (q, .inl (cB_, 65536, .inl f))]) [0, 1, 2, 3, 4] rfl
      have hD9 : va_D A [(rq, .inr (2, [.ref rp, .ref rl, .int ct_, .int cl_, .int wt])), (rp, .inl (cJ, 16, .inr (.inl ps))), (rl, .inl (cI, 16, .inl lg)), (b, .inr (0, [.ref q])), (q, .inl (cB_, 65536, .inl f))] := by exact hD.sub (ws' := [(rq, .inr (2, [.ref rp, .ref rl, .int ct_, .int cl_, .int wt])), (rp, .inl (cJ, 16, .inr (.inl ps))), (rl, .inl (cI, 16, .inl lg)), (b, .inr (0, [.ref q])), (q, .inl (cB_, 65536, .inl f))]) [0, 1, 2, 3, 4] (by decide) rfl
      have hK9 := hK.sub (tys' := [(cJ, .long), (cI, .int), (cB_, .byte)]) [0, 1, 2] rfl
      exact W.zret (v := 0) hx hb hr rfl (fun t ht hW => ⟨⟨_, (ct_, cl_, ps, lg), rfl, ⟨(bI_f (fun z => z hbad)).symm, fun z => absurd hbad z, fun _ => ⟨rfl, rfl, rfl, rfl⟩⟩, by rw [ht]; exact hP9, va_K.moved hW.alike hK9, hD9⟩, hS.F ht⟩) hS.2.2 dX2_take_38
    · skip
      have hn4 : ¬ mk / 4 % 2 = 1 := (mk_4 hmk).mp (by rw [← hxm]; exact c_22)
      refine lv_iload hx hb dX2_take_21 (lv_at hl 0 rfl) ?_
      refine lv_if_ne (tgt := 39) hx hb dX2_take_23 (by decide) (fun c_23 => ?_) (fun c_23 => ?_)
      · skip
        refine lv_lload hx hb dX2_take_39 (lv_at hl 4 rfl) ?_
        refine lv_lconst (v := 0) hx hb dX2_take_41 (by decide) ?_
        refine W.lcmp hx hb dX2_take_42 ?_
        refine lv_if_eq (tgt := 58) hx hb dX2_take_43 (by decide) (fun c_24 => ?_) (fun c_24 => ?_)
        · skip
          have hth : thP ad (lN ln) := th_0 hln (by rw [← hle]; exact c_24)
          refine lv_aload_n hx hb dX2_take_58 rfl (lv_at hl 1 rfl) ?_
          refine va_get (D := (dC, dI)) (ci := 2) (v := .int ct_) (C := RX2) (T := TX2) (N := 5) hx hb hw inX2 hown hK hP 0 rfl rfl 2 (by decide) (hw _ w_17cac06a59) (fun _ h9 => h9) rfl dX2_take_59 ?_
          refine lv_aload_n hx hb dX2_take_62 rfl (lv_at hl 1 rfl) ?_
          refine va_get (D := (dC, dI)) (ci := 2) (v := .ref rp) (C := RX2) (T := TX2) (N := 5) hx hb hw inX2 hown hK hP 0 rfl rfl 0 (by decide) (hw _ w_41e730de16) (fun _ h9 => h9) rfl dX2_take_63 ?_
          refine va_alen hx hb hK hP 1 0 rfl rfl (v := nI 16) rfl dX2_take_66 ?_
          refine lv_icmp_ge (tgt := 82) hx hb dX2_take_67 (by decide) (fun c_25 => ?_) (fun c_25 => ?_)
          · skip
            exact absurd (by rw [← hct]; exact c_25) (ix_in hm0).2.1
          · skip
            refine lv_aload_n hx hb dX2_take_70 rfl (lv_at hl 1 rfl) ?_
            refine va_get (D := (dC, dI)) (ci := 2) (v := .int ct_) (C := RX2) (T := TX2) (N := 5) hx hb hw inX2 hown hK hP 0 rfl rfl 2 (by decide) (hw _ w_17cac06a59) (fun _ h9 => h9) rfl dX2_take_71 ?_
            refine lv_aload_n hx hb dX2_take_74 rfl (lv_at hl 1 rfl) ?_
            refine va_get (D := (dC, dI)) (ci := 2) (v := .ref rl) (C := RX2) (T := TX2) (N := 5) hx hb hw inX2 hown hK hP 0 rfl rfl 1 (by decide) (hw _ w_d805126c5c) (fun _ h9 => h9) rfl dX2_take_75 ?_
            refine va_alen hx hb hK hP 2 1 rfl rfl (v := nI 16) rfl dX2_take_78 ?_
            refine lv_icmp_lt (tgt := 84) hx hb dX2_take_79 (by decide) (fun c_26 => ?_) (fun c_26 => ?_)
            · skip
              refine lv_aload_n hx hb dX2_take_84 rfl (lv_at hl 1 rfl) ?_
              refine va_get (D := (dC, dI)) (ci := 2) (v := .ref rp) (C := RX2) (T := TX2) (N := 5) hx hb hw inX2 hown hK hP 0 rfl rfl 0 (by decide) (hw _ w_41e730de16) (fun _ h9 => h9) rfl dX2_take_85 ?_
              refine lv_aload_n hx hb dX2_take_88 rfl (lv_at hl 1 rfl) ?_
              refine va_get (D := (dC, dI)) (ci := 2) (v := .int ct_) (C := RX2) (T := TX2) (N := 5) hx hb hw inX2 hown hK hP 0 rfl rfl 2 (by decide) (hw _ w_17cac06a59) (fun _ h9 => h9) rfl dX2_take_89 ?_
              refine lv_lload_n hx hb dX2_take_92 rfl (lv_at hl 3 rfl) ?_
              refine va_last hx hb hK hP hD hS 1 0 rfl rfl (by rw [hct]; exact vp_in_nI (by omega) (by decide)) dX2_take_93 (fun H locs hP hD hS => ?_)
              have hP : va_P (dC, dI) vwCl [(rq, .inr (2, [.ref rp, .ref rl, .int ct_, .int cl_, .int wt])), (rp, .inl (cJ, 16, .inr (.inl (vp_updL ps ct_.toNatClampNeg pl)))), (rl, .inl (cI, 16, .inl lg)), (b, .inr (0, [.ref q])), (q, .inl (cB_, 65536, .inl f))] H := hP
              have hD : va_D A [(rq, .inr (2, [.ref rp, .ref rl, .int ct_, .int cl_, .int wt])), (rp, .inl (cJ, 16, .inr (.inl (vp_updL ps ct_.toNatClampNeg pl)))), (rl, .inl (cI, 16, .inl lg)), (b, .inr (0, [.ref q])), (q, .inl (cB_, 65536, .inl f))] := hD
              refine lv_aload_n hx hb dX2_take_94 rfl (lv_at hl 1 rfl) ?_
              refine va_get (D := (dC, dI)) (ci := 2) (v := .ref rl) (C := RX2) (T := TX2) (N := 5) hx hb hw inX2 hown hK hP 0 rfl rfl 1 (by decide) (hw _ w_d805126c5c) (fun _ h9 => h9) rfl dX2_take_95 ?_
              refine lv_aload_n hx hb dX2_take_98 rfl (lv_at hl 1 rfl) ?_
              refine va_get (D := (dC, dI)) (ci := 2) (v := .int ct_) (C := RX2) (T := TX2) (N := 5) hx hb hw inX2 hown hK hP 0 rfl rfl 2 (by decide) (hw _ w_17cac06a59) (fun _ h9 => h9) rfl dX2_take_99 ?_
              refine lv_lload hx hb dX2_take_102 (lv_at hl 4 rfl) ?_
              refine lv_l2i (v := le_.toInt32) hx hb dX2_take_104 rfl ?_
              refine lv_topi (fun x_27 ex_27 => ?_)
              refine va_iast hx hb hK hP hD hS 2 1 rfl rfl (by rw [hct]; exact vp_in_nI (by omega) (by decide)) dX2_take_105 (fun H locs hP hD hS => ?_)
              have hP : va_P (dC, dI) vwCl [(rq, .inr (2, [.ref rp, .ref rl, .int ct_, .int cl_, .int wt])), (rp, .inl (cJ, 16, .inr (.inl (vp_updL ps ct_.toNatClampNeg pl)))), (rl, .inl (cI, 16, .inl (upd lg ct_.toNatClampNeg x_27))), (b, .inr (0, [.ref q])), (q, .inl (cB_, 65536, .inl f))] H := hP
              have hD : va_D A [(rq, .inr (2, [.ref rp, .ref rl, .int ct_, .int cl_, .int wt])), (rp, .inl (cJ, 16, .inr (.inl (vp_updL ps ct_.toNatClampNeg pl)))), (rl, .inl (cI, 16, .inl (upd lg ct_.toNatClampNeg x_27))), (b, .inr (0, [.ref q])), (q, .inl (cB_, 65536, .inl f))] := hD
              refine lv_aload_n hx hb dX2_take_106 rfl (lv_at hl 1 rfl) ?_
              refine lv_dup hx hb dX2_take_107 rfl ?_
              refine va_get (D := (dC, dI)) (ci := 2) (v := .int ct_) (C := RX2) (T := TX2) (N := 5) hx hb hw inX2 hown hK hP 0 rfl rfl 2 (by decide) (hw _ w_17cac06a59) (fun _ h9 => h9) rfl dX2_take_108 ?_
              refine lv_iconst (v := 1) hx hb dX2_take_111 (by decide) ?_
              refine lv_iadd hx hb dX2_take_112 ?_
              refine lv_topi (fun x_28 ex_28 => ?_)
              refine va_put (D := (dC, dI)) (ci := 2) (v := .int x_28) (ty := .int) (C := RX2) (T := TX2) (N := 5) hx hb hw inX2 tyX2 tyX2_ok nmX2 hown hK hP hD hS 0 rfl rfl 2 (by decide) (hw _ w_17cac06a59) (fun _ h9 => h9) rfl (by decide +kernel) rfl rfl (Nat.le_of_ble_eq_true rfl) dX2_take_113 (fun H locs hP hD hS => ?_)
              have hP : va_P (dC, dI) vwCl [(rq, .inr (2, [.ref rp, .ref rl, .int x_28, .int cl_, .int wt])), (rp, .inl (cJ, 16, .inr (.inl (vp_updL ps ct_.toNatClampNeg pl)))), (rl, .inl (cI, 16, .inl (upd lg ct_.toNatClampNeg x_27))), (b, .inr (0, [.ref q])), (q, .inl (cB_, 65536, .inl f))] H := hP
              have hD : va_D A [(rq, .inr (2, [.ref rp, .ref rl, .int x_28, .int cl_, .int wt])), (rp, .inl (cJ, 16, .inr (.inl (vp_updL ps ct_.toNatClampNeg pl)))), (rl, .inl (cI, 16, .inl (upd lg ct_.toNatClampNeg x_27))), (b, .inr (0, [.ref q])), (q, .inl (cB_, 65536, .inl f))] := hD
              refine lv_iload hx hb dX2_take_116 (lv_at hl 0 rfl) ?_
              refine lv_if_ne (tgt := 131) hx hb dX2_take_118 (by decide) (fun c_29 => ?_) (fun c_29 => ?_)
              · skip
                refine lv_iconst (v := 1) hx hb dX2_take_131 (by decide) ?_
                have hP9 : va_P (dC, dI) vwCl [(rq, .inr (2, [.ref rp, .ref rl, .int x_28, .int cl_, .int wt])), (rp, .inl (cJ, 16, .inr (.inl (vp_updL ps ct_.toNatClampNeg pl)))), (rl, .inl (cI, 16, .inl (upd lg ct_.toNatClampNeg x_27))), (b, .inr (0, [.ref q])), (q, .inl (cB_, 65536, .inl f))] H := by exact hP.sub (ws' := [(rq, .inr (2, [.ref rp, .ref rl, .int x_28, .int cl_, .int wt])), (rp, .inl (cJ, 16, .inr (.inl (vp_updL ps ct_.toNatClampNeg pl)))), (rl, .inl (cI, 16, .inl (upd lg ct_.toNatClampNeg x_27))), (b, .inr (0, [.ref q])), (q, .inl (cB_, 65536, .inl f))]) [0, 1, 2, 3, 4] rfl
                have hD9 : va_D A [(rq, .inr (2, [.ref rp, .ref rl, .int x_28, .int cl_, .int wt])), (rp, .inl (cJ, 16, .inr (.inl (vp_updL ps ct_.toNatClampNeg pl)))), (rl, .inl (cI, 16, .inl (upd lg ct_.toNatClampNeg x_27))), (b, .inr (0, [.ref q])), (q, .inl (cB_, 65536, .inl f))] := by exact hD.sub (ws' := [(rq, .inr (2, [.ref rp, .ref rl, .int x_28, .int cl_, .int wt])), (rp, .inl (cJ, 16, .inr (.inl (vp_updL ps ct_.toNatClampNeg pl)))), (rl, .inl (cI, 16, .inl (upd lg ct_.toNatClampNeg x_27))), (b, .inr (0, [.ref q])), (q, .inl (cB_, 65536, .inl f))]) [0, 1, 2, 3, 4] (by decide) rfl
                have hK9 := hK.sub (tys' := [(cJ, .long), (cI, .int), (cB_, .byte)]) [0, 1, 2] rfl
                have hgood : ¬ tkN mk m0 c0 ad ln := by
                  rintro (z | z | z)
                  · exact hn4 z
                  · exact hncb z
                  · exact z hth
                exact W.zret (v := 1) hx hb hr rfl (fun t ht hW => ⟨⟨_, (x_28, cl_, vp_updL ps ct_.toNatClampNeg pl, upd lg ct_.toNatClampNeg x_27), rfl, ⟨(bI_t hgood).symm, fun _ => ⟨by rw [ex_28, hct]; exact nI_1 m0, (by rw [if_pos hop]; exact hcl), by rw [hct, nI_clamp (by omega), hpl], by rw [hct, nI_clamp (by omega), ex_27, hle, lN_i]⟩, fun z => absurd z hgood⟩, by rw [ht]; exact hP9, va_K.moved hW.alike hK9, hD9⟩, hS.F ht⟩) hS.2.2 dX2_take_132
              · skip
                exact absurd c_29 (by decide)
            · skip
              exact absurd (by rw [hct]; exact nI_lt hm0 (by decide)) c_26
        · skip
          have hlp := ln_pos hln (by rw [← hle]; exact c_24)
          refine lv_aload_n hx hb dX2_take_46 rfl (lv_at hl 2 rfl) ?_
          refine lv_lload_n hx hb dX2_take_47 rfl (lv_at hl 3 rfl) ?_
          refine lv_lload hx hb dX2_take_48 (lv_at hl 4 rfl) ?_
          have hPc := hP.sub (ws' := [(b, .inr (0, [.ref q])), (q, .inl (cB_, 65536, .inl f))]) [3, 4] rfl
          have hKc := hK.sub (tys' := [(cB_, .byte)]) [2] rfl
          have hZc := (hZ.kept hS.2.1).narrow (B := fun _ => False) (fun _ h => h.elim)
          refine vp_callSi (va_runV (As := [.long pl, .long le_]) (rest := []) ⟨hx, hb, hml, hown, hw⟩ (c_holds l dC dI b q cB_ 65536 f pl le_ (by decide)) (cwV 2 hw (gV w_8e7575e911 w_bd9bccf83c w_88968f97c9 w_82b0ef516c w_0dba9a2727) rfl rfl rfl (by decide +kernel) ⟨Nat.le_of_ble_eq_true rfl, Nat.le_of_ble_eq_true rfl⟩) ⟨fun a U g mk q => by obtain ⟨q0, qP, qK, qZ⟩ := q; exact ⟨q0, qP, va_K.moved (u := U) (U := U.calling g mk a) (Vm.Alike.refl U.vm) qK, ZZ.same (u := U) (U := U.calling g mk a) rfl qZ⟩, va_recv hKc hPc (ci := 0) (q0 := 0) rfl rfl, fun U hU hW => ⟨rfl, by rw [hU]; exact hPc, va_K.moved hW.alike hKc, by rw [hU]; exact ZZ.warm hW hZc⟩⟩ rfl rfl hl.1 rfl (lv_room (Nat.le_of_ble_eq_true rfl)) dX2_take_50 ⟨Nat.zero_le _, Nat.zero_le _⟩).run (fun r_30 hr_30 => ?_)
          have hr_30 : r_30 = bI (hoP 65536 pl le_) := hr_30
          refine lv_if_ne (tgt := 58) hx hb dX2_take_53 (by decide) (fun c_31 => ?_) (fun c_31 => ?_)
          · skip
            have b_32 : (hoP 65536 pl le_) := bI_1 (by rw [← hr_30]; exact c_31)
            have hth : thP ad (lN ln) := (ho_th2 hlp).mp (by rw [← hpl, ← hle]; exact b_32)
            refine lv_aload_n hx hb dX2_take_58 rfl (lv_at hl 1 rfl) ?_
            refine va_get (D := (dC, dI)) (ci := 2) (v := .int ct_) (C := RX2) (T := TX2) (N := 5) hx hb hw inX2 hown hK hP 0 rfl rfl 2 (by decide) (hw _ w_17cac06a59) (fun _ h9 => h9) rfl dX2_take_59 ?_
            refine lv_aload_n hx hb dX2_take_62 rfl (lv_at hl 1 rfl) ?_
            refine va_get (D := (dC, dI)) (ci := 2) (v := .ref rp) (C := RX2) (T := TX2) (N := 5) hx hb hw inX2 hown hK hP 0 rfl rfl 0 (by decide) (hw _ w_41e730de16) (fun _ h9 => h9) rfl dX2_take_63 ?_
            refine va_alen hx hb hK hP 1 0 rfl rfl (v := nI 16) rfl dX2_take_66 ?_
            refine lv_icmp_ge (tgt := 82) hx hb dX2_take_67 (by decide) (fun c_33 => ?_) (fun c_33 => ?_)
            · skip
              exact absurd (by rw [← hct]; exact c_33) (ix_in hm0).2.1
            · skip
              refine lv_aload_n hx hb dX2_take_70 rfl (lv_at hl 1 rfl) ?_
              refine va_get (D := (dC, dI)) (ci := 2) (v := .int ct_) (C := RX2) (T := TX2) (N := 5) hx hb hw inX2 hown hK hP 0 rfl rfl 2 (by decide) (hw _ w_17cac06a59) (fun _ h9 => h9) rfl dX2_take_71 ?_
              refine lv_aload_n hx hb dX2_take_74 rfl (lv_at hl 1 rfl) ?_
              refine va_get (D := (dC, dI)) (ci := 2) (v := .ref rl) (C := RX2) (T := TX2) (N := 5) hx hb hw inX2 hown hK hP 0 rfl rfl 1 (by decide) (hw _ w_d805126c5c) (fun _ h9 => h9) rfl dX2_take_75 ?_
              refine va_alen hx hb hK hP 2 1 rfl rfl (v := nI 16) rfl dX2_take_78 ?_
              refine lv_icmp_lt (tgt := 84) hx hb dX2_take_79 (by decide) (fun c_34 => ?_) (fun c_34 => ?_)
              · skip
                refine lv_aload_n hx hb dX2_take_84 rfl (lv_at hl 1 rfl) ?_
                refine va_get (D := (dC, dI)) (ci := 2) (v := .ref rp) (C := RX2) (T := TX2) (N := 5) hx hb hw inX2 hown hK hP 0 rfl rfl 0 (by decide) (hw _ w_41e730de16) (fun _ h9 => h9) rfl dX2_take_85 ?_
                refine lv_aload_n hx hb dX2_take_88 rfl (lv_at hl 1 rfl) ?_
                refine va_get (D := (dC, dI)) (ci := 2) (v := .int ct_) (C := RX2) (T := TX2) (N := 5) hx hb hw inX2 hown hK hP 0 rfl rfl 2 (by decide) (hw _ w_17cac06a59) (fun _ h9 => h9) rfl dX2_take_89 ?_
                refine lv_lload_n hx hb dX2_take_92 rfl (lv_at hl 3 rfl) ?_
                refine va_last hx hb hK hP hD hS 1 0 rfl rfl (by rw [hct]; exact vp_in_nI (by omega) (by decide)) dX2_take_93 (fun H locs hP hD hS => ?_)
                have hP : va_P (dC, dI) vwCl [(rq, .inr (2, [.ref rp, .ref rl, .int ct_, .int cl_, .int wt])), (rp, .inl (cJ, 16, .inr (.inl (vp_updL ps ct_.toNatClampNeg pl)))), (rl, .inl (cI, 16, .inl lg)), (b, .inr (0, [.ref q])), (q, .inl (cB_, 65536, .inl f))] H := hP
                have hD : va_D A [(rq, .inr (2, [.ref rp, .ref rl, .int ct_, .int cl_, .int wt])), (rp, .inl (cJ, 16, .inr (.inl (vp_updL ps ct_.toNatClampNeg pl)))), (rl, .inl (cI, 16, .inl lg)), (b, .inr (0, [.ref q])), (q, .inl (cB_, 65536, .inl f))] := hD
                refine lv_aload_n hx hb dX2_take_94 rfl (lv_at hl 1 rfl) ?_
                refine va_get (D := (dC, dI)) (ci := 2) (v := .ref rl) (C := RX2) (T := TX2) (N := 5) hx hb hw inX2 hown hK hP 0 rfl rfl 1 (by decide) (hw _ w_d805126c5c) (fun _ h9 => h9) rfl dX2_take_95 ?_
                refine lv_aload_n hx hb dX2_take_98 rfl (lv_at hl 1 rfl) ?_
                refine va_get (D := (dC, dI)) (ci := 2) (v := .int ct_) (C := RX2) (T := TX2) (N := 5) hx hb hw inX2 hown hK hP 0 rfl rfl 2 (by decide) (hw _ w_17cac06a59) (fun _ h9 => h9) rfl dX2_take_99 ?_
                refine lv_lload hx hb dX2_take_102 (lv_at hl 4 rfl) ?_
                refine lv_l2i (v := le_.toInt32) hx hb dX2_take_104 rfl ?_
                refine lv_topi (fun x_35 ex_35 => ?_)
                refine va_iast hx hb hK hP hD hS 2 1 rfl rfl (by rw [hct]; exact vp_in_nI (by omega) (by decide)) dX2_take_105 (fun H locs hP hD hS => ?_)
                have hP : va_P (dC, dI) vwCl [(rq, .inr (2, [.ref rp, .ref rl, .int ct_, .int cl_, .int wt])), (rp, .inl (cJ, 16, .inr (.inl (vp_updL ps ct_.toNatClampNeg pl)))), (rl, .inl (cI, 16, .inl (upd lg ct_.toNatClampNeg x_35))), (b, .inr (0, [.ref q])), (q, .inl (cB_, 65536, .inl f))] H := hP
                have hD : va_D A [(rq, .inr (2, [.ref rp, .ref rl, .int ct_, .int cl_, .int wt])), (rp, .inl (cJ, 16, .inr (.inl (vp_updL ps ct_.toNatClampNeg pl)))), (rl, .inl (cI, 16, .inl (upd lg ct_.toNatClampNeg x_35))), (b, .inr (0, [.ref q])), (q, .inl (cB_, 65536, .inl f))] := hD
                refine lv_aload_n hx hb dX2_take_106 rfl (lv_at hl 1 rfl) ?_
                refine lv_dup hx hb dX2_take_107 rfl ?_
                refine va_get (D := (dC, dI)) (ci := 2) (v := .int ct_) (C := RX2) (T := TX2) (N := 5) hx hb hw inX2 hown hK hP 0 rfl rfl 2 (by decide) (hw _ w_17cac06a59) (fun _ h9 => h9) rfl dX2_take_108 ?_
                refine lv_iconst (v := 1) hx hb dX2_take_111 (by decide) ?_
                refine lv_iadd hx hb dX2_take_112 ?_
                refine lv_topi (fun x_36 ex_36 => ?_)
                refine va_put (D := (dC, dI)) (ci := 2) (v := .int x_36) (ty := .int) (C := RX2) (T := TX2) (N := 5) hx hb hw inX2 tyX2 tyX2_ok nmX2 hown hK hP hD hS 0 rfl rfl 2 (by decide) (hw _ w_17cac06a59) (fun _ h9 => h9) rfl (by decide +kernel) rfl rfl (Nat.le_of_ble_eq_true rfl) dX2_take_113 (fun H locs hP hD hS => ?_)
                have hP : va_P (dC, dI) vwCl [(rq, .inr (2, [.ref rp, .ref rl, .int x_36, .int cl_, .int wt])), (rp, .inl (cJ, 16, .inr (.inl (vp_updL ps ct_.toNatClampNeg pl)))), (rl, .inl (cI, 16, .inl (upd lg ct_.toNatClampNeg x_35))), (b, .inr (0, [.ref q])), (q, .inl (cB_, 65536, .inl f))] H := hP
                have hD : va_D A [(rq, .inr (2, [.ref rp, .ref rl, .int x_36, .int cl_, .int wt])), (rp, .inl (cJ, 16, .inr (.inl (vp_updL ps ct_.toNatClampNeg pl)))), (rl, .inl (cI, 16, .inl (upd lg ct_.toNatClampNeg x_35))), (b, .inr (0, [.ref q])), (q, .inl (cB_, 65536, .inl f))] := hD
                refine lv_iload hx hb dX2_take_116 (lv_at hl 0 rfl) ?_
                refine lv_if_ne (tgt := 131) hx hb dX2_take_118 (by decide) (fun c_37 => ?_) (fun c_37 => ?_)
                · skip
                  refine lv_iconst (v := 1) hx hb dX2_take_131 (by decide) ?_
                  have hP9 : va_P (dC, dI) vwCl [(rq, .inr (2, [.ref rp, .ref rl, .int x_36, .int cl_, .int wt])), (rp, .inl (cJ, 16, .inr (.inl (vp_updL ps ct_.toNatClampNeg pl)))), (rl, .inl (cI, 16, .inl (upd lg ct_.toNatClampNeg x_35))), (b, .inr (0, [.ref q])), (q, .inl (cB_, 65536, .inl f))] H := by exact hP.sub (ws' := [(rq, .inr (2, [.ref rp, .ref rl, .int x_36, .int cl_, .int wt])), (rp, .inl (cJ, 16, .inr (.inl (vp_updL ps ct_.toNatClampNeg pl)))), (rl, .inl (cI, 16, .inl (upd lg ct_.toNatClampNeg x_35))), (b, .inr (0, [.ref q])), (q, .inl (cB_, 65536, .inl f))]) [0, 1, 2, 3, 4] rfl
                  have hD9 : va_D A [(rq, .inr (2, [.ref rp, .ref rl, .int x_36, .int cl_, .int wt])), (rp, .inl (cJ, 16, .inr (.inl (vp_updL ps ct_.toNatClampNeg pl)))), (rl, .inl (cI, 16, .inl (upd lg ct_.toNatClampNeg x_35))), (b, .inr (0, [.ref q])), (q, .inl (cB_, 65536, .inl f))] := by exact hD.sub (ws' := [(rq, .inr (2, [.ref rp, .ref rl, .int x_36, .int cl_, .int wt])), (rp, .inl (cJ, 16, .inr (.inl (vp_updL ps ct_.toNatClampNeg pl)))), (rl, .inl (cI, 16, .inl (upd lg ct_.toNatClampNeg x_35))), (b, .inr (0, [.ref q])), (q, .inl (cB_, 65536, .inl f))]) [0, 1, 2, 3, 4] (by decide) rfl
                  have hK9 := hK.sub (tys' := [(cJ, .long), (cI, .int), (cB_, .byte)]) [0, 1, 2] rfl
                  have hgood : ¬ tkN mk m0 c0 ad ln := by
                    rintro (z | z | z)
                    · exact hn4 z
                    · exact hncb z
                    · exact z hth
                  exact W.zret (v := 1) hx hb hr rfl (fun t ht hW => ⟨⟨_, (x_36, cl_, vp_updL ps ct_.toNatClampNeg pl, upd lg ct_.toNatClampNeg x_35), rfl, ⟨(bI_t hgood).symm, fun _ => ⟨by rw [ex_36, hct]; exact nI_1 m0, (by rw [if_pos hop]; exact hcl), by rw [hct, nI_clamp (by omega), hpl], by rw [hct, nI_clamp (by omega), ex_35, hle, lN_i]⟩, fun z => absurd z hgood⟩, by rw [ht]; exact hP9, va_K.moved hW.alike hK9, hD9⟩, hS.F ht⟩) hS.2.2 dX2_take_132
                · skip
                  exact absurd c_37 (by decide)
              · skip
                exact absurd (by rw [hct]; exact nI_lt hm0 (by decide)) c_34
          · skip
            have b_38 : ¬ (hoP 65536 pl le_) := bI_0 (by rw [← hr_30]; exact c_31)
            have hbad : tkN mk m0 c0 ad ln := Or.inr (Or.inr (fun z => b_38 (by rw [hpl, hle]; exact (ho_th2 hlp).mpr z)))
            refine lv_iconst (v := 0) hx hb dX2_take_56 (by decide) ?_
            have hP9 : va_P (dC, dI) vwCl [(rq, .inr (2, [.ref rp, .ref rl, .int ct_, .int cl_, .int wt])), (rp, .inl (cJ, 16, .inr (.inl ps))), (rl, .inl (cI, 16, .inl lg)), (b, .inr (0, [.ref q])), (q, .inl (cB_, 65536, .inl f))] s.heap := by exact hP.sub (ws' := [(rq, .inr (2, [.ref rp, .ref rl, .int ct_, .int cl_, .int wt])), (rp, .inl (cJ, 16, .inr (.inl ps))), (rl, .inl (cI, 16, .inl lg)), (b, .inr (0, [.ref q])), (q, .inl (cB_, 65536, .inl f))]) [0, 1, 2, 3, 4] rfl
            have hD9 : va_D A [(rq, .inr (2, [.ref rp, .ref rl, .int ct_, .int cl_, .int wt])), (rp, .inl (cJ, 16, .inr (.inl ps))), (rl, .inl (cI, 16, .inl lg)), (b, .inr (0, [.ref q])), (q, .inl (cB_, 65536, .inl f))] := by exact hD.sub (ws' := [(rq, .inr (2, [.ref rp, .ref rl, .int ct_, .int cl_, .int wt])), (rp, .inl (cJ, 16, .inr (.inl ps))), (rl, .inl (cI, 16, .inl lg)), (b, .inr (0, [.ref q])), (q, .inl (cB_, 65536, .inl f))]) [0, 1, 2, 3, 4] (by decide) rfl
            have hK9 := hK.sub (tys' := [(cJ, .long), (cI, .int), (cB_, .byte)]) [0, 1, 2] rfl
            exact W.zret (v := 0) hx hb hr rfl (fun t ht hW => ⟨⟨_, (ct_, cl_, ps, lg), rfl, ⟨(bI_f (fun z => z hbad)).symm, fun z => absurd hbad z, fun _ => ⟨rfl, rfl, rfl, rfl⟩⟩, by rw [ht]; exact hP9, va_K.moved hW.alike hK9, hD9⟩, hS.F ht⟩) hS.2.2 dX2_take_57
      · skip
        exact absurd c_23 (by decide)
