set_option maxHeartbeats 4000000 in
set_option maxRecDepth 100000 in
/-- Request.closedData -/
theorem r_closedData (l : Launch) (dC : Nat → ClassId) (dI : Nat → Nat → Nat) (rq : Nat) (rp : Nat) (rl : Nat) (ct_ : Int32) (cl_ : Int32) (wt : Int32) (cJ : ClassId) (cI : ClassId) (ps : Nat → Int64) (lg : Nat → Int32) (C : List Blk) (O : List Blk) (hrep : repC (C ++ O) ps lg) (hrq : rqOK C O) (hcl : cl_ = nI C.length) : Met l yX2_closedData wsX2_closedData ({ frames := 1, cells := 0, slots := 0, locals := 40 }) (va_Pc [.ref rq] (fun U => va_P (dC, dI) vwCl [(rq, .inr (2, [.ref rp, .ref rl, .int ct_, .int cl_, .int wt])), (rp, .inl (cJ, 16, .inr (.inl ps))), (rl, .inl (cI, 16, .inl lg))] U.heap ∧ va_K (dC, dI) vwCl [(cJ, .long), (cI, .int)] U ∧ ZZ (fun _ => False) U U.heap)) (vp_Si (fun r => r = nI (tot (mS C.tail)))) 0 0 (fun _ => False) := by
  refine Met.ofW (cc := cX2_closedData) (maxL := 3) (ret := (some .int)) (by decide) rfl ?_
  intro p e s m args below meth c s₁ B hml hv
  obtain ⟨rfl, hP, hK, hZ⟩ := hv
  have hx := B.exec
  have hb := B.bytes
  have hr := B.returns
  have hts := atoms_spec (ws := wsX2_closedData) B.pre
  have hw : ∀ w ∈ WW, w.before _ s = true := fun w h => hts w (List.mem_cons_of_mem _ h)
  have hown : s.vm.findClass RX2 = some m.cls := findClass_of_methodNamed B.named
  have hlocks := B.notSynchronized
  have hl := lv_entry ([.ref rq]) (n := 3) (Nat.le_of_ble_eq_true rfl)
  rw [lg_entry_eq]
  generalize (lg_sl ([.ref rq]) ++ List.replicate (3 - (lg_sl ([.ref rq])).length) Slot.unset).toArray = ls at hl ⊢
  have hl : lv_has ls 3 [(0, .ref rq)] := hl
  have hlen := rqC_len hrq
  refine lv_iconst (v := 0) hx hb dX2_closedData_0 (by decide) ?_
  refine lv_istore_n (lv' := [(1, .int 0), (0, .ref rq)]) hx hb dX2_closedData_1 rfl hl (by decide) rfl (fun ls hl => ?_)
  refine lv_iconst (v := 1) hx hb dX2_closedData_2 (by decide) ?_
  refine lv_istore_n (lv' := [(2, .int 1), (1, .int 0), (0, .ref rq)]) hx hb dX2_closedData_3 rfl hl (by decide) rfl (fun ls hl => ?_)
  have loop : ∀ (N : Nat) (a : Nat) (k : Nat) (x : Int32) (yy : Int32) (hN : C.length - k < N) (ea : x = nI a) (ek : yy = nI k) (hk : k ≤ C.length) (hs : a + tot (mS (C.drop k)) = tot (mS C.tail)) (ls : Array Slot) (hl : lv_has ls 3 [(2, .int yy), (1, .int x), (0, .ref rq)]), W p l e (headSpec wsX2_closedData ({ frames := 1, cells := 0, slots := 0, locals := 40 })).room s m [.ref rq].toArray below meth c s.heap [] 0 0 (MQ below (vp_Si (fun r => r = nI (tot (mS C.tail)))) [.ref rq].toArray s 0 0 (fun _ => False)) (F0 m 4 ls []) := by
    intro N
    induction N with
    | zero => intro a k x yy hN ea ek hk hs ls hl; exact absurd hN (Nat.not_lt_zero _)
    | succ N ih =>
      intro a k x yy hN ea ek hk hs ls hl
      refine lv_iload_n hx hb dX2_closedData_4 rfl (lv_at hl 0 rfl) ?_
      refine lv_aload_n hx hb dX2_closedData_5 rfl (lv_at hl 2 rfl) ?_
      refine va_get (D := (dC, dI)) (ci := 2) (v := .int cl_) (C := RX2) (T := TX2) (N := 5) hx hb hw inX2 hown hK hP 0 rfl rfl 3 (by decide) (hw _ w_c0451c0cf4) (fun _ h9 => h9) rfl dX2_closedData_6 ?_
      refine lv_icmp_ge (tgt := 26) hx hb dX2_closedData_9 (by decide) (fun c_1 => ?_) (fun c_1 => ?_)
      · skip
        have hkk : k = C.length := by rw [hcl, ek, nI_leI (by omega) (by omega)] at c_1; omega
        refine lv_iload_n hx hb dX2_closedData_26 rfl (lv_at hl 1 rfl) ?_
        exact W.iret (v := x) hx hb hr (fun t ht hW => ⟨_, rfl, (by rw [ea, ← hs, hkk, List.drop_length]; rfl), ht⟩) t_nil dX2_closedData_27
      · skip
        have hkk : k < C.length := by rw [hcl, ek, nI_leI (by omega) (by omega)] at c_1; omega
        obtain ⟨b, -, hdr, hlg, -⟩ := rqC_cl hrq hrep hkk
        refine lv_iload_n hx hb dX2_closedData_12 rfl (lv_at hl 1 rfl) ?_
        refine lv_aload_n hx hb dX2_closedData_13 rfl (lv_at hl 2 rfl) ?_
        refine lv_iload_n hx hb dX2_closedData_14 rfl (lv_at hl 0 rfl) ?_
        have hPc := hP.sub (ws' := [(rq, .inr (2, [.ref rp, .ref rl, .int ct_, .int cl_, .int wt])), (rp, .inl (cJ, 16, .inr (.inl ps))), (rl, .inl (cI, 16, .inl lg))]) [0, 1, 2] rfl
        have hKc := hK.sub (tys' := [(cJ, .long), (cI, .int)]) [0, 1] rfl
        have hZc := hZ
        refine vp_callSi (va_runV (As := [.int yy]) (rest := [.int x]) ⟨hx, hb, hml, hown, hw⟩ (r_lengthOf l dC dI rq rp rl ct_ cl_ wt cJ cI ps lg yy k ek (by omega)) (cwV 1 hw (gV w_a80aaf268a w_cb6da4ecc0 w_cf853dc132 w_d27e9d3e51 w_c8d11bcee7) rfl rfl rfl (by decide +kernel) ⟨Nat.le_of_ble_eq_true rfl, Nat.le_of_ble_eq_true rfl⟩) ⟨fun a U g mk q => by obtain ⟨q0, qP, qK, qZ⟩ := q; exact ⟨q0, qP, va_K.moved (u := U) (U := U.calling g mk a) (Vm.Alike.refl U.vm) qK, ZZ.same (u := U) (U := U.calling g mk a) rfl qZ⟩, va_recv hKc hPc (ci := 2) (q0 := 0) rfl rfl, fun U hU hW => ⟨rfl, by rw [hU]; exact hPc, va_K.moved hW.alike hKc, by rw [hU]; exact ZZ.warm hW hZc⟩⟩ rfl rfl hl.1 rfl (lv_room (Nat.le_of_ble_eq_true rfl)) dX2_closedData_15 ⟨Nat.zero_le _, Nat.zero_le _⟩).run (fun r_2 hr_2 => ?_)
        have hr_2 : r_2 = lg k := hr_2
        refine lv_iadd hx hb dX2_closedData_18 ?_
        refine lv_topi (fun x_3 ex_3 => ?_)
        refine lv_istore_n (lv' := [(1, .int x_3), (2, .int yy), (0, .ref rq)]) hx hb dX2_closedData_19 rfl hl (by decide) rfl (fun ls hl => ?_)
        obtain ⟨x_4, ex_4⟩ : ∃ y : Int32, y = yy + 1 := ⟨_, rfl⟩
        refine lv_iinc (v := x_4) (lv' := [(2, .int x_4), (1, .int x_3), (0, .ref rq)]) hx hb dX2_closedData_20 hl (k := 1) rfl (by rw [ex_4]; rfl) (by decide) rfl (fun ls hl => ?_)
        refine lv_goto (tgt := 4) hx hb dX2_closedData_23 (by decide) ?_
        exact ih (a + b.2.1) (k + 1) x_3 x_4 (by omega) (by rw [ex_3, ea, hr_2, hlg]; exact nI_add _ _) (by rw [ex_4, ek]; exact nI_1 k) (by omega) (by rw [← hs, hdr, tot_c]; omega) ls (lv_sub hl [0, 1, 2] rfl)
  exact loop (C.length + 1) 0 1 0 1 (by omega) (rfl) (rfl) (hlen.1) (by rw [Nat.zero_add, List.drop_one]) ls (lv_sub hl [0, 1, 2] rfl)
set_option maxHeartbeats 4000000 in
set_option maxRecDepth 100000 in
/-- Request.openData -/
theorem r_openData (l : Launch) (dC : Nat → ClassId) (dI : Nat → Nat → Nat) (rq : Nat) (rp : Nat) (rl : Nat) (ct_ : Int32) (cl_ : Int32) (wt : Int32) (cJ : ClassId) (cI : ClassId) (ps : Nat → Int64) (lg : Nat → Int32) (C : List Blk) (O : List Blk) (hrep : repC (C ++ O) ps lg) (hrq : rqOK C O) (hcl : cl_ = nI C.length) (hct : ct_ = nI (C ++ O).length) : Met l yX2_openData wsX2_openData ({ frames := 2, cells := 0, slots := 0, locals := 80 }) (va_Pc [.ref rq] (fun U => va_P (dC, dI) vwCl [(rq, .inr (2, [.ref rp, .ref rl, .int ct_, .int cl_, .int wt])), (rp, .inl (cJ, 16, .inr (.inl ps))), (rl, .inl (cI, 16, .inl lg))] U.heap ∧ va_K (dC, dI) vwCl [(cJ, .long), (cI, .int)] U ∧ ZZ (fun _ => False) U U.heap)) (vp_Si (fun r => r = nI (tot (mS O) - 1))) 0 0 (fun _ => False) := by
  refine Met.ofW (cc := cX2_openData) (maxL := 3) (ret := (some .int)) (by decide) rfl ?_
  intro p e s m args below meth c s₁ B hml hv
  obtain ⟨rfl, hP, hK, hZ⟩ := hv
  have hx := B.exec
  have hb := B.bytes
  have hr := B.returns
  have hts := atoms_spec (ws := wsX2_openData) B.pre
  have hw : ∀ w ∈ WW, w.before _ s = true := fun w h => hts w (List.mem_cons_of_mem _ h)
  have hown : s.vm.findClass RX2 = some m.cls := findClass_of_methodNamed B.named
  have hlocks := B.notSynchronized
  have hl := lv_entry ([.ref rq]) (n := 3) (Nat.le_of_ble_eq_true rfl)
  rw [lg_entry_eq]
  generalize (lg_sl ([.ref rq]) ++ List.replicate (3 - (lg_sl ([.ref rq])).length) Slot.unset).toArray = ls at hl ⊢
  have hl : lv_has ls 3 [(0, .ref rq)] := hl
  have hlen := rqC_len hrq
  refine lv_iconst (v := 0) hx hb dX2_openData_0 (by decide) ?_
  refine lv_istore_n (lv' := [(1, .int 0), (0, .ref rq)]) hx hb dX2_openData_1 rfl hl (by decide) rfl (fun ls hl => ?_)
  refine lv_aload_n hx hb dX2_openData_2 rfl (lv_at hl 1 rfl) ?_
  refine va_get (D := (dC, dI)) (ci := 2) (v := .int cl_) (C := RX2) (T := TX2) (N := 5) hx hb hw inX2 hown hK hP 0 rfl rfl 3 (by decide) (hw _ w_c0451c0cf4) (fun _ h9 => h9) rfl dX2_openData_3 ?_
  refine lv_istore_n (lv' := [(2, .int cl_), (1, .int 0), (0, .ref rq)]) hx hb dX2_openData_6 rfl hl (by decide) rfl (fun ls hl => ?_)
  have loop : ∀ (N : Nat) (a : Nat) (j : Nat) (x : Int32) (yy : Int32) (hN : O.length - j < N) (ea : x = nI a) (ek : yy = nI (C.length + j)) (hj : j ≤ O.length) (hs : opA O j a) (ls : Array Slot) (hl : lv_has ls 3 [(2, .int yy), (1, .int x), (0, .ref rq)]), W p l e (headSpec wsX2_openData ({ frames := 2, cells := 0, slots := 0, locals := 80 })).room s m [.ref rq].toArray below meth c s.heap [] 0 0 (MQ below (vp_Si (fun r => r = nI (tot (mS O) - 1))) [.ref rq].toArray s 0 0 (fun _ => False)) (F0 m 7 ls []) := by
    intro N
    induction N with
    | zero => intro a j x yy hN ea ek hj hs ls hl; exact absurd hN (Nat.not_lt_zero _)
    | succ N ih =>
      intro a j x yy hN ea ek hj hs ls hl
      refine lv_iload_n hx hb dX2_openData_7 rfl (lv_at hl 0 rfl) ?_
      refine lv_aload_n hx hb dX2_openData_8 rfl (lv_at hl 2 rfl) ?_
      refine va_get (D := (dC, dI)) (ci := 2) (v := .int ct_) (C := RX2) (T := TX2) (N := 5) hx hb hw inX2 hown hK hP 0 rfl rfl 2 (by decide) (hw _ w_17cac06a59) (fun _ h9 => h9) rfl dX2_openData_9 ?_
      refine lv_icmp_ge (tgt := 29) hx hb dX2_openData_12 (by decide) (fun c_1 => ?_) (fun c_1 => ?_)
      · skip
        have hjj : j = O.length := by rw [hct, ek, hlen.2.2.2, nI_leI (by omega) (by omega)] at c_1; omega
        refine lv_iload_n hx hb dX2_openData_29 rfl (lv_at hl 1 rfl) ?_
        exact W.iret (v := x) hx hb hr (fun t ht hW => ⟨_, rfl, (by rw [ea, (hs.resolve_left (fun z => by omega)).2]), ht⟩) t_nil dX2_openData_30
      · skip
        have hjj : j < O.length := by rw [hct, ek, hlen.2.2.2, nI_leI (by omega) (by omega)] at c_1; omega
        obtain ⟨bb, hbj, hdr, hol, hps, hth, h65, hlp, hob⟩ := rqC_op hrq hrep hjj
        refine lv_iload_n hx hb dX2_openData_15 rfl (lv_at hl 1 rfl) ?_
        refine lv_aload_n hx hb dX2_openData_16 rfl (lv_at hl 2 rfl) ?_
        refine lv_iload_n hx hb dX2_openData_17 rfl (lv_at hl 0 rfl) ?_
        have hPc := hP.sub (ws' := [(rq, .inr (2, [.ref rp, .ref rl, .int ct_, .int cl_, .int wt])), (rp, .inl (cJ, 16, .inr (.inl ps))), (rl, .inl (cI, 16, .inl lg))]) [0, 1, 2] rfl
        have hKc := hK.sub (tys' := [(cJ, .long), (cI, .int)]) [0, 1] rfl
        have hZc := hZ
        refine vp_callSi (va_runV (As := [.int yy]) (rest := [.int x]) ⟨hx, hb, hml, hown, hw⟩ (r_openLengthOf l dC dI rq rp rl ct_ cl_ wt cJ cI ps lg yy (C.length + j) ((C ++ O).length) ek (by omega) hct (by omega) (by omega)) (cwV 1 hw (gV w_fcc05594e2 w_31defdd873 w_fa6fe686b1 w_d27e9d3e51 w_4628035946) rfl rfl rfl (by decide +kernel) ⟨Nat.le_of_ble_eq_true rfl, Nat.le_of_ble_eq_true rfl⟩) ⟨fun a U g mk q => by obtain ⟨q0, qP, qK, qZ⟩ := q; exact ⟨q0, qP, va_K.moved (u := U) (U := U.calling g mk a) (Vm.Alike.refl U.vm) qK, ZZ.same (u := U) (U := U.calling g mk a) rfl qZ⟩, va_recv hKc hPc (ci := 2) (q0 := 0) rfl rfl, fun U hU hW => ⟨rfl, by rw [hU]; exact hPc, va_K.moved hW.alike hKc, by rw [hU]; exact ZZ.warm hW hZc⟩⟩ rfl rfl hl.1 rfl (lv_room (Nat.le_of_ble_eq_true rfl)) dX2_openData_18 ⟨Nat.zero_le _, Nat.zero_le _⟩).run (fun r_2 hr_2 => ?_)
        have hr_2 : r_2 = if (C.length + j) + 1 = ((C ++ O).length) then lg (C.length + j) - 1 else lg (C.length + j) := hr_2
        refine lv_iadd hx hb dX2_openData_21 ?_
        refine lv_topi (fun x_3 ex_3 => ?_)
        refine lv_istore_n (lv' := [(1, .int x_3), (2, .int yy), (0, .ref rq)]) hx hb dX2_openData_22 rfl hl (by decide) rfl (fun ls hl => ?_)
        obtain ⟨x_4, ex_4⟩ : ∃ y : Int32, y = yy + 1 := ⟨_, rfl⟩
        refine lv_iinc (v := x_4) (lv' := [(2, .int x_4), (1, .int x_3), (0, .ref rq)]) hx hb dX2_openData_23 hl (k := 1) rfl (by rw [ex_4]; rfl) (by decide) rfl (fun ls hl => ?_)
        refine lv_goto (tgt := 7) hx hb dX2_openData_26 (by decide) ?_
        exact ih (a + oln O j bb) (j + 1) x_3 x_4 (by omega) (by rw [ex_3, ea, hr_2, hol]; exact nI_add _ _) (by rw [ex_4, ek]; exact nI_1 _) (by omega) (opA_1 hjj hdr hlp hs) ls (lv_sub hl [0, 1, 2] rfl)
  exact loop (O.length + 1) 0 0 0 cl_ (by omega) (rfl) (by rw [hcl, Nat.add_zero]) (by omega) (opA_0 hlen.2.1) ls (lv_sub hl [0, 1, 2] rfl)
