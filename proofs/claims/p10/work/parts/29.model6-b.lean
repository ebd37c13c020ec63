set_option maxHeartbeats 4000000 in
set_option maxRecDepth 100000 in
/-- Model.request -/
theorem m_request (l : Launch) (dC : Nat → ClassId) (dI : Nat → Nat → Nat) (o : Nat) (cd : Int32) (sc : Int32) (qm : Nat) (qd : Nat) (ch : Int32) (fe : Int32) (sz : Int32) (rd : Int32) (ca : Int32) (sx : Int32) (qp : Nat) (co : Int32) (gi : Int32) (aw : Int32) (cg : Int32) (bk : Int32) (qs : Nat) (ql : Nat) (qo : Nat) (ax : Int32) (wi : Int64) (cJ : ClassId) (cZ : ClassId) (M : Nat → Nat) (Dk : Nat → Nat) (gs : Nat → Int64) (gl : Nat → Int64) (go : Nat → Int32) (C : List Blk) (O : List Blk) (nn : Nat) (zS : Nat) (hrep : repM (C ++ O) gs gl go) (hbk : bk = nI (C ++ O).length) (hrq : rqOK C O) (hsc : sc = nI nn) (hnn : nn ≤ 2048) (hM : byt M) (hDk : byt Dk) : Met l yX4_request wsX4_request ({ frames := 2, cells := 0, slots := 0, locals := 100 }) (va_Pc [.ref o] (fun U => U.heap.size = zS ∧ va_P (dC, dI) vwCl [(o, .inr (4, [.int cd, .int sc, .ref qm, .ref qd, .int ch, .int fe, .int sz, .int rd, .int ca, .int sx, .ref qp, .int co, .int gi, .int aw, .int cg, .int bk, .ref qs, .ref ql, .ref qo, .int ax, .long wi])), (qm, .inl (cJ, 8192, .inr (.inl (mL M)))), (qd, .inl (cJ, 131072, .inr (.inl (mL Dk)))), (qs, .inl (cJ, 16, .inr (.inl gs))), (ql, .inl (cJ, 16, .inr (.inl gl))), (qo, .inl (cZ, 16, .inl go))] U.heap ∧ va_K (dC, dI) vwCl [(cJ, .long), (cZ, .boolean)] U ∧ va_D (fun _ => True) [(o, .inr (4, [.int cd, .int sc, .ref qm, .ref qd, .int ch, .int fe, .int sz, .int rd, .int ca, .int sx, .ref qp, .int co, .int gi, .int aw, .int cg, .int bk, .ref qs, .ref ql, .ref qo, .int ax, .long wi])), (qm, .inl (cJ, 8192, .inr (.inl (mL M)))), (qd, .inl (cJ, 131072, .inr (.inl (mL Dk)))), (qs, .inl (cJ, 16, .inr (.inl gs))), (ql, .inl (cJ, 16, .inr (.inl gl))), (qo, .inl (cZ, 16, .inl go))] ∧ ZZ (va_A [(o, .inr (4, [.int cd, .int sc, .ref qm, .ref qd, .int ch, .int fe, .int sz, .int rd, .int ca, .int sx, .ref qp, .int co, .int gi, .int aw, .int cg, .int bk, .ref qs, .ref ql, .ref qo, .int ax, .long wi])), (qm, .inl (cJ, 8192, .inr (.inl (mL M)))), (qd, .inl (cJ, 131072, .inr (.inl (mL Dk)))), (qs, .inl (cJ, 16, .inr (.inl gs))), (ql, .inl (cJ, 16, .inr (.inl gl))), (qo, .inl (cZ, 16, .inl go))] zS) U U.heap)) (va_Ql (fun (r : Int64) (u : Int32 × Int32 × Int64 × (Nat → Int64) × (Nat → Int64)) => match u with | (cg2, ax2, wi2, gm, gd) => gm = mL (reqS spM M Dk nn cg C O).1 ∧ gd = mL (reqS spM M Dk nn cg C O).2.1 ∧ cg2 = (reqS spM M Dk nn cg C O).2.2.1 ∧ r = lN (reqS spM M Dk nn cg C O).2.2.2) (fun (u : Int32 × Int32 × Int64 × (Nat → Int64) × (Nat → Int64)) (t : State) => match u with | (cg2, ax2, wi2, gm, gd) => va_P (dC, dI) vwCl [(o, .inr (4, [.int cd, .int sc, .ref qm, .ref qd, .int ch, .int fe, .int sz, .int rd, .int ca, .int sx, .ref qp, .int co, .int gi, .int aw, .int cg2, .int bk, .ref qs, .ref ql, .ref qo, .int ax2, .long wi2])), (qm, .inl (cJ, 8192, .inr (.inl gm))), (qd, .inl (cJ, 131072, .inr (.inl gd))), (qs, .inl (cJ, 16, .inr (.inl gs))), (ql, .inl (cJ, 16, .inr (.inl gl))), (qo, .inl (cZ, 16, .inl go))] t.heap ∧ va_K (dC, dI) vwCl [(cJ, .long), (cZ, .boolean)] t ∧ va_D (va_A [(o, .inr (4, [.int cd, .int sc, .ref qm, .ref qd, .int ch, .int fe, .int sz, .int rd, .int ca, .int sx, .ref qp, .int co, .int gi, .int aw, .int cg, .int bk, .ref qs, .ref ql, .ref qo, .int ax, .long wi])), (qm, .inl (cJ, 8192, .inr (.inl (mL M)))), (qd, .inl (cJ, 131072, .inr (.inl (mL Dk)))), (qs, .inl (cJ, 16, .inr (.inl gs))), (ql, .inl (cJ, 16, .inr (.inl gl))), (qo, .inl (cZ, 16, .inl go))] zS) [(o, .inr (4, [.int cd, .int sc, .ref qm, .ref qd, .int ch, .int fe, .int sz, .int rd, .int ca, .int sx, .ref qp, .int co, .int gi, .int aw, .int cg2, .int bk, .ref qs, .ref ql, .ref qo, .int ax2, .long wi2])), (qm, .inl (cJ, 8192, .inr (.inl gm))), (qd, .inl (cJ, 131072, .inr (.inl gd))), (qs, .inl (cJ, 16, .inr (.inl gs))), (ql, .inl (cJ, 16, .inr (.inl gl))), (qo, .inl (cZ, 16, .inl go))]) (va_A [(o, .inr (4, [.int cd, .int sc, .ref qm, .ref qd, .int ch, .int fe, .int sz, .int rd, .int ca, .int sx, .ref qp, .int co, .int gi, .int aw, .int cg, .int bk, .ref qs, .ref ql, .ref qo, .int ax, .long wi])), (qm, .inl (cJ, 8192, .inr (.inl (mL M)))), (qd, .inl (cJ, 131072, .inr (.inl (mL Dk)))), (qs, .inl (cJ, 16, .inr (.inl gs))), (ql, .inl (cJ, 16, .inr (.inl gl))), (qo, .inl (cZ, 16, .inl go))] zS)) 0 0 (va_A [(o, .inr (4, [.int cd, .int sc, .ref qm, .ref qd, .int ch, .int fe, .int sz, .int rd, .int ca, .int sx, .ref qp, .int co, .int gi, .int aw, .int cg, .int bk, .ref qs, .ref ql, .ref qo, .int ax, .long wi])), (qm, .inl (cJ, 8192, .inr (.inl (mL M)))), (qd, .inl (cJ, 131072, .inr (.inl (mL Dk)))), (qs, .inl (cJ, 16, .inr (.inl gs))), (ql, .inl (cJ, 16, .inr (.inl gl))), (qo, .inl (cZ, 16, .inl go))] zS) := by
  refine Met.ofW (cc := cX4_request) (maxL := 14) (ret := (some .long)) (by decide) rfl ?_
  intro p e s m args below meth c s₁ B hml hv
  obtain ⟨rfl, hsz, hP, hK, hD0, hZ⟩ := hv
  have hx := B.exec
  have hb := B.bytes
  have hr := B.returns
  have hts := atoms_spec (ws := wsX4_request) B.pre
  have hw : ∀ w ∈ WW, w.before _ s = true := fun w h => hts w (List.mem_cons_of_mem _ h)
  have hown : s.vm.findClass RX4 = some m.cls := findClass_of_methodNamed B.named
  have hlocks := B.notSynchronized
  subst hsz
  have hD := hD0.self (sz := s.heap.size)
  generalize hAe : va_A [(o, .inr (4, [.int cd, .int sc, .ref qm, .ref qd, .int ch, .int fe, .int sz, .int rd, .int ca, .int sx, .ref qp, .int co, .int gi, .int aw, .int cg, .int bk, .ref qs, .ref ql, .ref qo, .int ax, .long wi])), (qm, .inl (cJ, 8192, .inr (.inl (mL M)))), (qd, .inl (cJ, 131072, .inr (.inl (mL Dk)))), (qs, .inl (cJ, 16, .inr (.inl gs))), (ql, .inl (cJ, 16, .inr (.inl gl))), (qo, .inl (cZ, 16, .inl go))] s.heap.size = A at hD hZ ⊢
  have hA : ∀ q : Nat, s.heap.size ≤ q → A q := fun q h => by rw [← hAe]; exact Or.inr h
  have hS : va_S A s.heap s.heap [] := va_S.rf
  have hP : va_P (dC, dI) vwCl [(o, .inr (4, [.int cd, .int sc, .ref qm, .ref qd, .int ch, .int fe, .int sz, .int rd, .int ca, .int sx, .ref qp, .int co, .int gi, .int aw, .int cg, .int bk, .ref qs, .ref ql, .ref qo, .int ax, .long wi])), (qm, .inl (cJ, 8192, .inr (.inl (mL M)))), (qd, .inl (cJ, 131072, .inr (.inl (mL Dk)))), (qs, .inl (cJ, 16, .inr (.inl gs))), (ql, .inl (cJ, 16, .inr (.inl gl))), (qo, .inl (cZ, 16, .inl go))] s.heap := hP
  have hl := lv_entry ([.ref o]) (n := 14) (Nat.le_of_ble_eq_true rfl)
  rw [lg_entry_eq]
  generalize (lg_sl ([.ref o]) ++ List.replicate (14 - (lg_sl ([.ref o])).length) Slot.unset).toArray = ls at hl ⊢
  have hl : lv_has ls 14 [(0, .ref o)] := hl
  have hhd := rq_hd hrq hrep
  have htt := rq_tot hrq
  have hgg := rq_go hrq hrep
  have hsg := rq_seg hrq hrep
  have hla := rq_last hrq hrep hbk
  have hlen : (C ++ O).length ≤ 16 := hrq.2.2.1
  have hkb : nbs M (hdO C) 4 < 2 ^ 63 := Nat.lt_of_lt_of_le (nbs_lt hM _ 4) (by decide)
  refine lv_aload_n hx hb dX4_request_0 rfl (lv_at hl 0 rfl) ?_
  refine lv_aload_n hx hb dX4_request_1 rfl (lv_at hl 0 rfl) ?_
  refine va_get (D := (dC, dI)) (ci := 4) (v := .ref qs) (C := RX4) (T := TX4) (N := 21) hx hb hw inX4 hown hK hP 0 rfl rfl 16 (by decide) (hw _ w_c92d01c177) (fun _ h9 => h9) rfl dX4_request_2 ?_
  refine lv_iconst (v := 0) hx hb dX4_request_5 (by decide) ?_
  refine va_lald hx hb hK hP 3 0 rfl rfl (vp_in_iff.mpr (by decide)) dX4_request_6 ?_
  refine lv_iconst (v := 4) hx hb dX4_request_7 (by decide) ?_
  have hPc := hP.sub (ws' := [(o, .inr (4, [.int cd, .int sc, .ref qm, .ref qd, .int ch, .int fe, .int sz, .int rd, .int ca, .int sx, .ref qp, .int co, .int gi, .int aw, .int cg, .int bk, .ref qs, .ref ql, .ref qo, .int ax, .long wi])), (qm, .inl (cJ, 8192, .inr (.inl (mL M))))]) [0, 1] rfl
  have hKc := hK.sub (tys' := [(cJ, .long)]) [0] rfl
  have hZc := (hZ.kept hS.2.1).narrow (B := fun _ => False) (fun _ h => h.elim)
  refine vp_callSl (va_runV (As := [.long (gs (0 : Int32).toNatClampNeg), .int 4]) (rest := []) ⟨hx, hb, hml, hown, hw⟩ (m_number l dC dI o cd sc qm qd ch fe sz rd ca sx qp co gi aw cg bk qs ql qo ax wi cJ M (gs (0 : Int32).toNatClampNeg) 4 4 (hdO C) rfl (by decide) hhd.1 (by omega) hM) (cwV 2 hw (gV w_b394cd0f6f w_fab48a5191 w_cc770dbe30 w_2b384744dc w_c1a5c9b18f) rfl rfl rfl (by decide +kernel) ⟨Nat.le_of_ble_eq_true rfl, Nat.le_of_ble_eq_true rfl⟩) ⟨fun a U g mk q => by obtain ⟨q0, qP, qK, qZ⟩ := q; exact ⟨q0, qP, va_K.moved (u := U) (U := U.calling g mk a) (Vm.Alike.refl U.vm) qK, ZZ.same (u := U) (U := U.calling g mk a) rfl qZ⟩, va_recv hKc hPc (ci := 4) (q0 := 0) rfl rfl, fun U hU hW => ⟨rfl, by rw [hU]; exact hPc, va_K.moved hW.alike hKc, by rw [hU]; exact ZZ.warm hW hZc⟩⟩ rfl rfl hl.1 rfl (lv_room (Nat.le_of_ble_eq_true rfl)) dX4_request_8 ⟨Nat.zero_le _, Nat.zero_le _⟩).run (fun r_1 hr_1 => ?_)
  have hr_1 : r_1 = lN (nbs M (hdO C) 4) := hr_1
  refine lv_lstore_n (lv' := [(1, .long r_1), (0, .ref o)]) hx hb dX4_request_11 rfl hl (by decide) rfl (fun ls hl => ?_)
  refine lv_aload_n hx hb dX4_request_12 rfl (lv_at hl 1 rfl) ?_
  refine lv_aload_n hx hb dX4_request_13 rfl (lv_at hl 1 rfl) ?_
  refine va_get (D := (dC, dI)) (ci := 4) (v := .ref qs) (C := RX4) (T := TX4) (N := 21) hx hb hw inX4 hown hK hP 0 rfl rfl 16 (by decide) (hw _ w_c92d01c177) (fun _ h9 => h9) rfl dX4_request_14 ?_
  refine lv_iconst (v := 0) hx hb dX4_request_17 (by decide) ?_
  refine va_lald hx hb hK hP 3 0 rfl rfl (vp_in_iff.mpr (by decide)) dX4_request_18 ?_
  refine lv_ldc2 (v := 8) hx hb hown (hw _ w_155b6b2939) dX4_request_19 ?_
  refine lv_ladd hx hb dX4_request_22 ?_
  refine lv_bipush (v := 8) hx hb dX4_request_23 (by decide) ?_
  have hPc := hP.sub (ws' := [(o, .inr (4, [.int cd, .int sc, .ref qm, .ref qd, .int ch, .int fe, .int sz, .int rd, .int ca, .int sx, .ref qp, .int co, .int gi, .int aw, .int cg, .int bk, .ref qs, .ref ql, .ref qo, .int ax, .long wi])), (qm, .inl (cJ, 8192, .inr (.inl (mL M))))]) [0, 1] rfl
  have hKc := hK.sub (tys' := [(cJ, .long)]) [0] rfl
  have hZc := (hZ.kept hS.2.1).narrow (B := fun _ => False) (fun _ h => h.elim)
  refine vp_callSl (va_runV (As := [.long ((gs (0 : Int32).toNatClampNeg) + 8), .int 8]) (rest := []) ⟨hx, hb, hml, hown, hw⟩ (m_number l dC dI o cd sc qm qd ch fe sz rd ca sx qp co gi aw cg bk qs ql qo ax wi cJ M ((gs (0 : Int32).toNatClampNeg) + 8) 8 8 (hdO C + 8) rfl (by decide) hhd.2.1 (by omega) hM) (cwV 2 hw (gV w_b394cd0f6f w_fab48a5191 w_cc770dbe30 w_2b384744dc w_c1a5c9b18f) rfl rfl rfl (by decide +kernel) ⟨Nat.le_of_ble_eq_true rfl, Nat.le_of_ble_eq_true rfl⟩) ⟨fun a U g mk q => by obtain ⟨q0, qP, qK, qZ⟩ := q; exact ⟨q0, qP, va_K.moved (u := U) (U := U.calling g mk a) (Vm.Alike.refl U.vm) qK, ZZ.same (u := U) (U := U.calling g mk a) rfl qZ⟩, va_recv hKc hPc (ci := 4) (q0 := 0) rfl rfl, fun U hU hW => ⟨rfl, by rw [hU]; exact hPc, va_K.moved hW.alike hKc, by rw [hU]; exact ZZ.warm hW hZc⟩⟩ rfl rfl hl.1 rfl (lv_room (Nat.le_of_ble_eq_true rfl)) dX4_request_25 ⟨Nat.zero_le _, Nat.zero_le _⟩).run (fun r_2 hr_2 => ?_)
  have hr_2 : r_2 = lN (nbs M (hdO C + 8) 8) := hr_2
  refine lv_lstore_n (lv' := [(3, .long r_2), (1, .long r_1), (0, .ref o)]) hx hb dX4_request_28 rfl hl (by decide) rfl (fun ls hl => ?_)
  refine lv_aload_n hx hb dX4_request_29 rfl (lv_at hl 2 rfl) ?_
  refine lv_iconst (v := 1) hx hb dX4_request_30 (by decide) ?_
  have hPc := hP.sub (ws' := [(o, .inr (4, [.int cd, .int sc, .ref qm, .ref qd, .int ch, .int fe, .int sz, .int rd, .int ca, .int sx, .ref qp, .int co, .int gi, .int aw, .int cg, .int bk, .ref qs, .ref ql, .ref qo, .int ax, .long wi])), (ql, .inl (cJ, 16, .inr (.inl gl))), (qo, .inl (cZ, 16, .inl go))]) [0, 4, 5] rfl
  have hKc := hK.sub (tys' := [(cJ, .long), (cZ, .boolean)]) [0, 1] rfl
  have hZc := (hZ.kept hS.2.1).narrow (B := fun _ => False) (fun _ h => h.elim)
  refine vp_callSl (va_runV (As := [.int 1]) (rest := []) ⟨hx, hb, hml, hown, hw⟩ (m_data1 l dC dI o cd sc qm qd ch fe sz rd ca sx qp co gi aw cg bk qs ql qo ax wi cJ cZ gs gl go (C ++ O) hrep hbk hlen) (cwV 1 hw (gV w_aa40dd7f90 w_b43c5efc47 w_987d37b85a w_2b384744dc w_f3229c9acf) rfl rfl rfl (by decide +kernel) ⟨Nat.le_of_ble_eq_true rfl, Nat.le_of_ble_eq_true rfl⟩) ⟨fun a U g mk q => by obtain ⟨q0, qP, qK, qZ⟩ := q; exact ⟨q0, qP, va_K.moved (u := U) (U := U.calling g mk a) (Vm.Alike.refl U.vm) qK, ZZ.same (u := U) (U := U.calling g mk a) rfl qZ⟩, va_recv hKc hPc (ci := 4) (q0 := 0) rfl rfl, fun U hU hW => ⟨rfl, by rw [hU]; exact hPc, va_K.moved hW.alike hKc, by rw [hU]; exact ZZ.warm hW hZc⟩⟩ rfl rfl hl.1 rfl (lv_room (Nat.le_of_ble_eq_true rfl)) dX4_request_31 ⟨Nat.zero_le _, Nat.zero_le _⟩).run (fun r_3 hr_3 => ?_)
  have hr_3 : r_3 = (-1 : Int64) + lN (tot (flt (C ++ O).tail true)) := hr_3
  have e5 : r_3 = lN (tot (mS O) - 1) := by rw [hr_3, (rq_data hrq).1, lN_m1 htt.1]
  refine lv_lstore (lv' := [(5, .long r_3), (3, .long r_2), (1, .long r_1), (0, .ref o)]) hx hb dX4_request_34 hl (by decide) rfl (fun ls hl => ?_)
  refine lv_aload_n hx hb dX4_request_36 rfl (lv_at hl 3 rfl) ?_
  refine lv_iconst (v := 0) hx hb dX4_request_37 (by decide) ?_
  have hPc := hP.sub (ws' := [(o, .inr (4, [.int cd, .int sc, .ref qm, .ref qd, .int ch, .int fe, .int sz, .int rd, .int ca, .int sx, .ref qp, .int co, .int gi, .int aw, .int cg, .int bk, .ref qs, .ref ql, .ref qo, .int ax, .long wi])), (ql, .inl (cJ, 16, .inr (.inl gl))), (qo, .inl (cZ, 16, .inl go))]) [0, 4, 5] rfl
  have hKc := hK.sub (tys' := [(cJ, .long), (cZ, .boolean)]) [0, 1] rfl
  have hZc := (hZ.kept hS.2.1).narrow (B := fun _ => False) (fun _ h => h.elim)
  refine vp_callSl (va_runV (As := [.int 0]) (rest := []) ⟨hx, hb, hml, hown, hw⟩ (m_data0 l dC dI o cd sc qm qd ch fe sz rd ca sx qp co gi aw cg bk qs ql qo ax wi cJ cZ gs gl go (C ++ O) hrep hbk hlen) (cwV 1 hw (gV w_aa40dd7f90 w_b43c5efc47 w_987d37b85a w_2b384744dc w_f3229c9acf) rfl rfl rfl (by decide +kernel) ⟨Nat.le_of_ble_eq_true rfl, Nat.le_of_ble_eq_true rfl⟩) ⟨fun a U g mk q => by obtain ⟨q0, qP, qK, qZ⟩ := q; exact ⟨q0, qP, va_K.moved (u := U) (U := U.calling g mk a) (Vm.Alike.refl U.vm) qK, ZZ.same (u := U) (U := U.calling g mk a) rfl qZ⟩, va_recv hKc hPc (ci := 4) (q0 := 0) rfl rfl, fun U hU hW => ⟨rfl, by rw [hU]; exact hPc, va_K.moved hW.alike hKc, by rw [hU]; exact ZZ.warm hW hZc⟩⟩ rfl rfl hl.1 rfl (lv_room (Nat.le_of_ble_eq_true rfl)) dX4_request_38 ⟨Nat.zero_le _, Nat.zero_le _⟩).run (fun r_4 hr_4 => ?_)
  have hr_4 : r_4 = (0 : Int64) + lN (tot (flt (C ++ O).tail false)) := hr_4
  have e7 : r_4 = lN (tot (mS C.tail)) := by rw [hr_4, (rq_data hrq).2]; exact Int64.zero_add _
  refine lv_lstore (lv' := [(7, .long r_4), (5, .long r_3), (3, .long r_2), (1, .long r_1), (0, .ref o)]) hx hb dX4_request_41 hl (by decide) rfl (fun ls hl => ?_)
  refine lv_iconst (v := 0) hx hb dX4_request_43 (by decide) ?_
  refine lv_istore (lv' := [(9, .int 0), (7, .long r_4), (5, .long r_3), (3, .long r_2), (1, .long r_1), (0, .ref o)]) hx hb dX4_request_44 hl (by decide) rfl (fun ls hl => ?_)
  refine lv_lconst (v := 0) hx hb dX4_request_46 (by decide) ?_
  refine lv_lstore (lv' := [(10, .long 0), (9, .int 0), (7, .long r_4), (5, .long r_3), (3, .long r_2), (1, .long r_1), (0, .ref o)]) hx hb dX4_request_47 hl (by decide) rfl (fun ls hl => ?_)
  refine lv_lload_n hx hb dX4_request_49 rfl (lv_at hl 5 rfl) ?_
  refine lv_lconst (v := 0) hx hb dX4_request_50 (by decide) ?_
  refine W.lcmp hx hb dX4_request_51 ?_
  refine lv_if_ne (tgt := 139) hx hb dX4_request_52 (by decide) (fun c_5 => ?_) (fun c_5 => ?_)
  · skip
    have hkd0 : ¬ nbs M (hdO C) 4 = 0 := by rw [hr_1, lce, pk_lT hkb, l0] at c_5; omega
    refine lv_lload_n hx hb dX4_request_139 rfl (lv_at hl 5 rfl) ?_
    refine lv_lconst (v := 1) hx hb dX4_request_140 (by decide) ?_
    refine W.lcmp hx hb dX4_request_141 ?_
    refine lv_if_ne (tgt := 237) hx hb dX4_request_142 (by decide) (fun c_6 => ?_) (fun c_6 => ?_)
    · skip
      have hkd1 : ¬ nbs M (hdO C) 4 = 1 := by rw [hr_1, lce, pk_lT hkb, l1] at c_6; omega
      refine lv_lload_n hx hb dX4_request_237 rfl (lv_at hl 5 rfl) ?_
      refine lv_ldc2 (v := 8) hx hb hown (hw _ w_155b6b2939) dX4_request_238 ?_
      refine W.lcmp hx hb dX4_request_241 ?_
      refine lv_if_ne (tgt := 373) hx hb dX4_request_242 (by decide) (fun c_7 => ?_) (fun c_7 => ?_)
      · skip
        have hkd8 : ¬ nbs M (hdO C) 4 = 8 := by rw [hr_1, lce, pk_lT hkb, l8] at c_7; omega
        refine lv_lload_n hx hb dX4_request_373 rfl (lv_at hl 5 rfl) ?_
        refine lv_ldc2 (v := 4) hx hb hown (hw _ w_5418fa3b47) dX4_request_374 ?_
        refine W.lcmp hx hb dX4_request_377 ?_
        refine lv_if_eq (tgt := 384) hx hb dX4_request_378 (by decide) (fun c_8 => ?_) (fun c_8 => ?_)
        · skip
          have hkd4 : nbs M (hdO C) 4 = 4 := by rw [hr_1, lce, pk_lT hkb, l4] at c_8; omega
          have hBq : reqB spM M Dk nn cg C O = (M, Dk, cg, 0, 0) := by unfold reqB; rw [if_neg hkd0, if_neg hkd1, if_neg hkd8, if_pos hkd4]
          refine lv_aload_n hx hb dX4_request_384 rfl (lv_at hl 6 rfl) ?_
          refine lv_aload_n hx hb dX4_request_385 rfl (lv_at hl 6 rfl) ?_
          refine va_get (D := (dC, dI)) (ci := 4) (v := .ref qs) (C := RX4) (T := TX4) (N := 21) hx hb hw inX4 hown hK hP 0 rfl rfl 16 (by decide) (hw _ w_c92d01c177) (fun _ h9 => h9) rfl dX4_request_386 ?_
          refine lv_aload_n hx hb dX4_request_389 rfl (lv_at hl 6 rfl) ?_
          refine va_get (D := (dC, dI)) (ci := 4) (v := .int bk) (C := RX4) (T := TX4) (N := 21) hx hb hw inX4 hown hK hP 0 rfl rfl 15 (by decide) (hw _ w_f0da19b997) (fun _ h9 => h9) rfl dX4_request_390 ?_
          refine lv_iconst (v := 1) hx hb dX4_request_393 (by decide) ?_
          refine lv_isub hx hb dX4_request_394 ?_
          refine va_lald hx hb hK hP 3 0 rfl rfl hla.1 dX4_request_395 ?_
          refine lv_aload_n hx hb dX4_request_396 rfl (lv_at hl 6 rfl) ?_
          refine va_get (D := (dC, dI)) (ci := 4) (v := .ref ql) (C := RX4) (T := TX4) (N := 21) hx hb hw inX4 hown hK hP 0 rfl rfl 17 (by decide) (hw _ w_c20510a516) (fun _ h9 => h9) rfl dX4_request_397 ?_
          refine lv_aload_n hx hb dX4_request_400 rfl (lv_at hl 6 rfl) ?_
          refine va_get (D := (dC, dI)) (ci := 4) (v := .int bk) (C := RX4) (T := TX4) (N := 21) hx hb hw inX4 hown hK hP 0 rfl rfl 15 (by decide) (hw _ w_f0da19b997) (fun _ h9 => h9) rfl dX4_request_401 ?_
          refine lv_iconst (v := 1) hx hb dX4_request_404 (by decide) ?_
          refine lv_isub hx hb dX4_request_405 ?_
          refine va_lald hx hb hK hP 4 0 rfl rfl hla.1 dX4_request_406 ?_
          refine lv_ladd hx hb dX4_request_407 ?_
          refine lv_lconst (v := 1) hx hb dX4_request_408 (by decide) ?_
          refine lv_lsub hx hb dX4_request_409 ?_
          refine lv_iconst (v := 1) hx hb dX4_request_410 (by decide) ?_
          refine lv_iload hx hb dX4_request_411 (lv_at hl 1 rfl) ?_
          refine lv_i2l (v := (0 : Int32).toInt64) hx hb dX4_request_413 rfl ?_
          have hPc := hP.sub (ws' := [(o, .inr (4, [.int cd, .int sc, .ref qm, .ref qd, .int ch, .int fe, .int sz, .int rd, .int ca, .int sx, .ref qp, .int co, .int gi, .int aw, .int cg, .int bk, .ref qs, .ref ql, .ref qo, .int ax, .long wi])), (qm, .inl (cJ, 8192, .inr (.inl (mL M))))]) [0, 1] rfl
          have hKc := hK.sub (tys' := [(cJ, .long)]) [0] rfl
          have hDc := hD.sub (ws' := [(o, .inr (4, [.int cd, .int sc, .ref qm, .ref qd, .int ch, .int fe, .int sz, .int rd, .int ca, .int sx, .ref qp, .int co, .int gi, .int aw, .int cg, .int bk, .ref qs, .ref ql, .ref qo, .int ax, .long wi])), (qm, .inl (cJ, 8192, .inr (.inl (mL M))))]) [0, 1] (by decide) rfl
          have hFc := va_free (wc := [(o, .inr (4, [.int cd, .int sc, .ref qm, .ref qd, .int ch, .int fe, .int sz, .int rd, .int ca, .int sx, .ref qp, .int co, .int gi, .int aw, .int cg, .int bk, .ref qs, .ref ql, .ref qo, .int ax, .long wi])), (qm, .inl (cJ, 8192, .inr (.inl (mL M))))]) hD hS hA [0, 1] rfl
          have hZc : ZZ (va_A [(o, .inr (4, [.int cd, .int sc, .ref qm, .ref qd, .int ch, .int fe, .int sz, .int rd, .int ca, .int sx, .ref qp, .int co, .int gi, .int aw, .int cg, .int bk, .ref qs, .ref ql, .ref qo, .int ax, .long wi])), (qm, .inl (cJ, 8192, .inr (.inl (mL M))))] s.heap.size) s s.heap := (hZ.kept hS.2.1).narrow hFc
          refine va_callv (va_runV (As := [.long (((gs (bk - 1).toNatClampNeg) + (gl (bk - 1).toNatClampNeg)) - 1), .int 1, .long ((0 : Int32).toInt64)]) (rest := []) ⟨hx, hb, hml, hown, hw⟩ (m_put l dC dI o cd sc qm qd ch fe sz rd ca sx qp co gi aw cg bk qs ql qo ax wi cJ M (((gs (bk - 1).toNatClampNeg) + (gl (bk - 1).toNatClampNeg)) - 1) 1 ((0 : Int32).toInt64) 1 (rpl O) 0 s.heap.size rfl (by decide) hla.2.1 hla.2.2 hM rfl (by decide)) (cwV 3 hw (gV w_9c56ffd0dc w_152cce5fe8 w_ffdd99591d w_2b384744dc w_947246c675) rfl rfl rfl (by decide +kernel) ⟨Nat.le_of_ble_eq_true rfl, Nat.le_of_ble_eq_true rfl⟩) ⟨fun a U g mk q => by obtain ⟨q0, q1, qP, qK, qD, qZ⟩ := q; exact ⟨q0, q1, qP, va_K.moved (u := U) (U := U.calling g mk a) (Vm.Alike.refl U.vm) qK, qD, ZZ.same (u := U) (U := U.calling g mk a) rfl qZ⟩, va_recv hKc hPc (ci := 4) (q0 := 0) rfl rfl, fun U hU hW => ⟨rfl, by rw [hU], by rw [hU]; exact hPc, va_K.moved hW.alike hKc, hDc.weaken (fun _ _ _ _ => trivial), by rw [hU]; exact ZZ.warm hW hZc⟩⟩ rfl rfl hl.1 rfl (lv_room (Nat.le_of_ble_eq_true rfl)) dX4_request_414 ⟨Nat.zero_le _, Nat.zero_le _⟩) hS (fun q _ h => hFc q h) hFc (fun u t H1 locs ht hvm hw2 hB hz1 hk1 hS => ?_)
          obtain ⟨g_9, rfl⟩ : ∃ z, z = u := ⟨_, rfl⟩
          obtain ⟨hP1, hK1, hD1⟩ := hB
          rw [ht] at hP1
          have hK1 := va_K.moved hvm.symm hK1
          try dsimp only at hw2
          obtain ⟨hP, hD⟩ := va_join (wr := [(qd, .inl (cJ, 131072, .inr (.inl (mL Dk)))), (qs, .inl (cJ, 16, .inr (.inl gs))), (ql, .inl (cJ, 16, .inr (.inl gl))), (qo, .inl (cZ, 16, .inl go))]) (w1 := [(o, .inr (4, [.int cd, .int sc, .ref qm, .ref qd, .int ch, .int fe, .int sz, .int rd, .int ca, .int sx, .ref qp, .int co, .int gi, .int aw, .int cg, .int bk, .ref qs, .ref ql, .ref qo, .int ax, .long wi])), (qm, .inl (cJ, 8192, .inr (.inl g_9)))]) hP hD [0, 1] [2, 3, 4, 5] rfl rfl (by decide) (by decide) hk1 hFc hP1 hD1
          generalize H1 = H at hP hS hk1 ⊢
          have hP : va_P (dC, dI) vwCl [(qd, .inl (cJ, 131072, .inr (.inl (mL Dk)))), (qs, .inl (cJ, 16, .inr (.inl gs))), (ql, .inl (cJ, 16, .inr (.inl gl))), (qo, .inl (cZ, 16, .inl go)), (o, .inr (4, [.int cd, .int sc, .ref qm, .ref qd, .int ch, .int fe, .int sz, .int rd, .int ca, .int sx, .ref qp, .int co, .int gi, .int aw, .int cg, .int bk, .ref qs, .ref ql, .ref qo, .int ax, .long wi])), (qm, .inl (cJ, 8192, .inr (.inl g_9)))] H := hP
          have hD : va_D A [(qd, .inl (cJ, 131072, .inr (.inl (mL Dk)))), (qs, .inl (cJ, 16, .inr (.inl gs))), (ql, .inl (cJ, 16, .inr (.inl gl))), (qo, .inl (cZ, 16, .inl go)), (o, .inr (4, [.int cd, .int sc, .ref qm, .ref qd, .int ch, .int fe, .int sz, .int rd, .int ca, .int sx, .ref qp, .int co, .int gi, .int aw, .int cg, .int bk, .ref qs, .ref ql, .ref qo, .int ax, .long wi])), (qm, .inl (cJ, 8192, .inr (.inl g_9)))] := hD
          have hw_10 : g_9 = mL (pbs M (rpl O) 0 1) := hw2
          refine lv_lload hx hb dX4_request_417 (lv_at hl 0 rfl) ?_
          refine lv_lconst (v := 1) hx hb dX4_request_419 (by decide) ?_
          refine lv_ladd hx hb dX4_request_420 ?_
          have hP9 : va_P (dC, dI) vwCl [(o, .inr (4, [.int cd, .int sc, .ref qm, .ref qd, .int ch, .int fe, .int sz, .int rd, .int ca, .int sx, .ref qp, .int co, .int gi, .int aw, .int cg, .int bk, .ref qs, .ref ql, .ref qo, .int ax, .long wi])), (qm, .inl (cJ, 8192, .inr (.inl g_9))), (qd, .inl (cJ, 131072, .inr (.inl (mL Dk)))), (qs, .inl (cJ, 16, .inr (.inl gs))), (ql, .inl (cJ, 16, .inr (.inl gl))), (qo, .inl (cZ, 16, .inl go))] H := by exact hP.sub (ws' := [(o, .inr (4, [.int cd, .int sc, .ref qm, .ref qd, .int ch, .int fe, .int sz, .int rd, .int ca, .int sx, .ref qp, .int co, .int gi, .int aw, .int cg, .int bk, .ref qs, .ref ql, .ref qo, .int ax, .long wi])), (qm, .inl (cJ, 8192, .inr (.inl g_9))), (qd, .inl (cJ, 131072, .inr (.inl (mL Dk)))), (qs, .inl (cJ, 16, .inr (.inl gs))), (ql, .inl (cJ, 16, .inr (.inl gl))), (qo, .inl (cZ, 16, .inl go))]) [4, 5, 0, 1, 2, 3] rfl
          have hD9 : va_D A [(o, .inr (4, [.int cd, .int sc, .ref qm, .ref qd, .int ch, .int fe, .int sz, .int rd, .int ca, .int sx, .ref qp, .int co, .int gi, .int aw, .int cg, .int bk, .ref qs, .ref ql, .ref qo, .int ax, .long wi])), (qm, .inl (cJ, 8192, .inr (.inl g_9))), (qd, .inl (cJ, 131072, .inr (.inl (mL Dk)))), (qs, .inl (cJ, 16, .inr (.inl gs))), (ql, .inl (cJ, 16, .inr (.inl gl))), (qo, .inl (cZ, 16, .inl go))] := by exact hD.sub (ws' := [(o, .inr (4, [.int cd, .int sc, .ref qm, .ref qd, .int ch, .int fe, .int sz, .int rd, .int ca, .int sx, .ref qp, .int co, .int gi, .int aw, .int cg, .int bk, .ref qs, .ref ql, .ref qo, .int ax, .long wi])), (qm, .inl (cJ, 8192, .inr (.inl g_9))), (qd, .inl (cJ, 131072, .inr (.inl (mL Dk)))), (qs, .inl (cJ, 16, .inr (.inl gs))), (ql, .inl (cJ, 16, .inr (.inl gl))), (qo, .inl (cZ, 16, .inl go))]) [4, 5, 0, 1, 2, 3] (by decide) rfl
          have hK9 := hK.sub (tys' := [(cJ, .long), (cZ, .boolean)]) [0, 1] rfl
          exact W.lret (v := 0 + 1) hx hb hr (fun t ht hW => ⟨⟨_, (cg, ax, wi, g_9, mL Dk), rfl, (by unfold reqS; rw [hBq]; exact ⟨by rw [hw_10, pbs1]; rfl, rfl, rfl, rfl⟩), by rw [ht]; exact hP9, va_K.moved hW.alike hK9, hD9⟩, hS.F ht⟩) hS.2.2 dX4_request_421
        · skip
          have hkd4 : ¬ nbs M (hdO C) 4 = 4 := by rw [hr_1, lce, pk_lT hkb, l4] at c_8; omega
          refine lv_iconst (v := 2) hx hb dX4_request_381 (by decide) ?_
          refine lv_istore (lv' := [(9, .int 2), (10, .long 0), (7, .long r_4), (5, .long r_3), (3, .long r_2), (1, .long r_1), (0, .ref o)]) hx hb dX4_request_382 hl (by decide) rfl (fun ls hl => ?_)
          have hBq : reqB spM M Dk nn cg C O = (M, Dk, cg, 0, 2) := by unfold reqB; rw [if_neg hkd0, if_neg hkd1, if_neg hkd8, if_neg hkd4]
          refine lv_aload_n hx hb dX4_request_384 rfl (lv_at hl 6 rfl) ?_
          refine lv_aload_n hx hb dX4_request_385 rfl (lv_at hl 6 rfl) ?_
          refine va_get (D := (dC, dI)) (ci := 4) (v := .ref qs) (C := RX4) (T := TX4) (N := 21) hx hb hw inX4 hown hK hP 0 rfl rfl 16 (by decide) (hw _ w_c92d01c177) (fun _ h9 => h9) rfl dX4_request_386 ?_
          refine lv_aload_n hx hb dX4_request_389 rfl (lv_at hl 6 rfl) ?_
          refine va_get (D := (dC, dI)) (ci := 4) (v := .int bk) (C := RX4) (T := TX4) (N := 21) hx hb hw inX4 hown hK hP 0 rfl rfl 15 (by decide) (hw _ w_f0da19b997) (fun _ h9 => h9) rfl dX4_request_390 ?_
          refine lv_iconst (v := 1) hx hb dX4_request_393 (by decide) ?_
          refine lv_isub hx hb dX4_request_394 ?_
          refine va_lald hx hb hK hP 3 0 rfl rfl hla.1 dX4_request_395 ?_
          refine lv_aload_n hx hb dX4_request_396 rfl (lv_at hl 6 rfl) ?_
          refine va_get (D := (dC, dI)) (ci := 4) (v := .ref ql) (C := RX4) (T := TX4) (N := 21) hx hb hw inX4 hown hK hP 0 rfl rfl 17 (by decide) (hw _ w_c20510a516) (fun _ h9 => h9) rfl dX4_request_397 ?_
          refine lv_aload_n hx hb dX4_request_400 rfl (lv_at hl 6 rfl) ?_
          refine va_get (D := (dC, dI)) (ci := 4) (v := .int bk) (C := RX4) (T := TX4) (N := 21) hx hb hw inX4 hown hK hP 0 rfl rfl 15 (by decide) (hw _ w_f0da19b997) (fun _ h9 => h9) rfl dX4_request_401 ?_
          refine lv_iconst (v := 1) hx hb dX4_request_404 (by decide) ?_
          refine lv_isub hx hb dX4_request_405 ?_
          refine va_lald hx hb hK hP 4 0 rfl rfl hla.1 dX4_request_406 ?_
          refine lv_ladd hx hb dX4_request_407 ?_
          refine lv_lconst (v := 1) hx hb dX4_request_408 (by decide) ?_
          refine lv_lsub hx hb dX4_request_409 ?_
          refine lv_iconst (v := 1) hx hb dX4_request_410 (by decide) ?_
          refine lv_iload hx hb dX4_request_411 (lv_at hl 0 rfl) ?_
          refine lv_i2l (v := (2 : Int32).toInt64) hx hb dX4_request_413 rfl ?_
          have hPc := hP.sub (ws' := [(o, .inr (4, [.int cd, .int sc, .ref qm, .ref qd, .int ch, .int fe, .int sz, .int rd, .int ca, .int sx, .ref qp, .int co, .int gi, .int aw, .int cg, .int bk, .ref qs, .ref ql, .ref qo, .int ax, .long wi])), (qm, .inl (cJ, 8192, .inr (.inl (mL M))))]) [0, 1] rfl
          have hKc := hK.sub (tys' := [(cJ, .long)]) [0] rfl
          have hDc := hD.sub (ws' := [(o, .inr (4, [.int cd, .int sc, .ref qm, .ref qd, .int ch, .int fe, .int sz, .int rd, .int ca, .int sx, .ref qp, .int co, .int gi, .int aw, .int cg, .int bk, .ref qs, .ref ql, .ref qo, .int ax, .long wi])), (qm, .inl (cJ, 8192, .inr (.inl (mL M))))]) [0, 1] (by decide) rfl
          have hFc := va_free (wc := [(o, .inr (4, [.int cd, .int sc, .ref qm, .ref qd, .int ch, .int fe, .int sz, .int rd, .int ca, .int sx, .ref qp, .int co, .int gi, .int aw, .int cg, .int bk, .ref qs, .ref ql, .ref qo, .int ax, .long wi])), (qm, .inl (cJ, 8192, .inr (.inl (mL M))))]) hD hS hA [0, 1] rfl
          have hZc : ZZ (va_A [(o, .inr (4, [.int cd, .int sc, .ref qm, .ref qd, .int ch, .int fe, .int sz, .int rd, .int ca, .int sx, .ref qp, .int co, .int gi, .int aw, .int cg, .int bk, .ref qs, .ref ql, .ref qo, .int ax, .long wi])), (qm, .inl (cJ, 8192, .inr (.inl (mL M))))] s.heap.size) s s.heap := (hZ.kept hS.2.1).narrow hFc
          refine va_callv (va_runV (As := [.long (((gs (bk - 1).toNatClampNeg) + (gl (bk - 1).toNatClampNeg)) - 1), .int 1, .long ((2 : Int32).toInt64)]) (rest := []) ⟨hx, hb, hml, hown, hw⟩ (m_put l dC dI o cd sc qm qd ch fe sz rd ca sx qp co gi aw cg bk qs ql qo ax wi cJ M (((gs (bk - 1).toNatClampNeg) + (gl (bk - 1).toNatClampNeg)) - 1) 1 ((2 : Int32).toInt64) 1 (rpl O) 2 s.heap.size rfl (by decide) hla.2.1 hla.2.2 hM rfl (by decide)) (cwV 3 hw (gV w_9c56ffd0dc w_152cce5fe8 w_ffdd99591d w_2b384744dc w_947246c675) rfl rfl rfl (by decide +kernel) ⟨Nat.le_of_ble_eq_true rfl, Nat.le_of_ble_eq_true rfl⟩) ⟨fun a U g mk q => by obtain ⟨q0, q1, qP, qK, qD, qZ⟩ := q; exact ⟨q0, q1, qP, va_K.moved (u := U) (U := U.calling g mk a) (Vm.Alike.refl U.vm) qK, qD, ZZ.same (u := U) (U := U.calling g mk a) rfl qZ⟩, va_recv hKc hPc (ci := 4) (q0 := 0) rfl rfl, fun U hU hW => ⟨rfl, by rw [hU], by rw [hU]; exact hPc, va_K.moved hW.alike hKc, hDc.weaken (fun _ _ _ _ => trivial), by rw [hU]; exact ZZ.warm hW hZc⟩⟩ rfl rfl hl.1 rfl (lv_room (Nat.le_of_ble_eq_true rfl)) dX4_request_414 ⟨Nat.zero_le _, Nat.zero_le _⟩) hS (fun q _ h => hFc q h) hFc (fun u t H1 locs ht hvm hw2 hB hz1 hk1 hS => ?_)
          obtain ⟨g_11, rfl⟩ : ∃ z, z = u := ⟨_, rfl⟩
          obtain ⟨hP1, hK1, hD1⟩ := hB
          rw [ht] at hP1
          have hK1 := va_K.moved hvm.symm hK1
          try dsimp only at hw2
          obtain ⟨hP, hD⟩ := va_join (wr := [(qd, .inl (cJ, 131072, .inr (.inl (mL Dk)))), (qs, .inl (cJ, 16, .inr (.inl gs))), (ql, .inl (cJ, 16, .inr (.inl gl))), (qo, .inl (cZ, 16, .inl go))]) (w1 := [(o, .inr (4, [.int cd, .int sc, .ref qm, .ref qd, .int ch, .int fe, .int sz, .int rd, .int ca, .int sx, .ref qp, .int co, .int gi, .int aw, .int cg, .int bk, .ref qs, .ref ql, .ref qo, .int ax, .long wi])), (qm, .inl (cJ, 8192, .inr (.inl g_11)))]) hP hD [0, 1] [2, 3, 4, 5] rfl rfl (by decide) (by decide) hk1 hFc hP1 hD1
          generalize H1 = H at hP hS hk1 ⊢
          have hP : va_P (dC, dI) vwCl [(qd, .inl (cJ, 131072, .inr (.inl (mL Dk)))), (qs, .inl (cJ, 16, .inr (.inl gs))), (ql, .inl (cJ, 16, .inr (.inl gl))), (qo, .inl (cZ, 16, .inl go)), (o, .inr (4, [.int cd, .int sc, .ref qm, .ref qd, .int ch, .int fe, .int sz, .int rd, .int ca, .int sx, .ref qp, .int co, .int gi, .int aw, .int cg, .int bk, .ref qs, .ref ql, .ref qo, .int ax, .long wi])), (qm, .inl (cJ, 8192, .inr (.inl g_11)))] H := hP
          have hD : va_D A [(qd, .inl (cJ, 131072, .inr (.inl (mL Dk)))), (qs, .inl (cJ, 16, .inr (.inl gs))), (ql, .inl (cJ, 16, .inr (.inl gl))), (qo, .inl (cZ, 16, .inl go)), (o, .inr (4, [.int cd, .int sc, .ref qm, .ref qd, .int ch, .int fe, .int sz, .int rd, .int ca, .int sx, .ref qp, .int co, .int gi, .int aw, .int cg, .int bk, .ref qs, .ref ql, .ref qo, .int ax, .long wi])), (qm, .inl (cJ, 8192, .inr (.inl g_11)))] := hD
          have hw_12 : g_11 = mL (pbs M (rpl O) 2 1) := hw2
          refine lv_lload hx hb dX4_request_417 (lv_at hl 1 rfl) ?_
          refine lv_lconst (v := 1) hx hb dX4_request_419 (by decide) ?_
          refine lv_ladd hx hb dX4_request_420 ?_
          have hP9 : va_P (dC, dI) vwCl [(o, .inr (4, [.int cd, .int sc, .ref qm, .ref qd, .int ch, .int fe, .int sz, .int rd, .int ca, .int sx, .ref qp, .int co, .int gi, .int aw, .int cg, .int bk, .ref qs, .ref ql, .ref qo, .int ax, .long wi])), (qm, .inl (cJ, 8192, .inr (.inl g_11))), (qd, .inl (cJ, 131072, .inr (.inl (mL Dk)))), (qs, .inl (cJ, 16, .inr (.inl gs))), (ql, .inl (cJ, 16, .inr (.inl gl))), (qo, .inl (cZ, 16, .inl go))] H := by exact hP.sub (ws' := [(o, .inr (4, [.int cd, .int sc, .ref qm, .ref qd, .int ch, .int fe, .int sz, .int rd, .int ca, .int sx, .ref qp, .int co, .int gi, .int aw, .int cg, .int bk, .ref qs, .ref ql, .ref qo, .int ax, .long wi])), (qm, .inl (cJ, 8192, .inr (.inl g_11))), (qd, .inl (cJ, 131072, .inr (.inl (mL Dk)))), (qs, .inl (cJ, 16, .inr (.inl gs))), (ql, .inl (cJ, 16, .inr (.inl gl))), (qo, .inl (cZ, 16, .inl go))]) [4, 5, 0, 1, 2, 3] rfl
          have hD9 : va_D A [(o, .inr (4, [.int cd, .int sc, .ref qm, .ref qd, .int ch, .int fe, .int sz, .int rd, .int ca, .int sx, .ref qp, .int co, .int gi, .int aw, .int cg, .int bk, .ref qs, .ref ql, .ref qo, .int ax, .long wi])), (qm, .inl (cJ, 8192, .inr (.inl g_11))), (qd, .inl (cJ, 131072, .inr (.inl (mL Dk)))), (qs, .inl (cJ, 16, .inr (.inl gs))), (ql, .inl (cJ, 16, .inr (.inl gl))), (qo, .inl (cZ, 16, .inl go))] := by exact hD.sub (ws' := [(o, .inr (4, [.int cd, .int sc, .ref qm, .ref qd, .int ch, .int fe, .int sz, .int rd, .int ca, .int sx, .ref qp, .int co, .int gi, .int aw, .int cg, .int bk, .ref qs, .ref ql, .ref qo, .int ax, .long wi])), (qm, .inl (cJ, 8192, .inr (.inl g_11))), (qd, .inl (cJ, 131072, .inr (.inl (mL Dk)))), (qs, .inl (cJ, 16, .inr (.inl gs))), (ql, .inl (cJ, 16, .inr (.inl gl))), (qo, .inl (cZ, 16, .inl go))]) [4, 5, 0, 1, 2, 3] (by decide) rfl
          have hK9 := hK.sub (tys' := [(cJ, .long), (cZ, .boolean)]) [0, 1] rfl
          exact W.lret (v := 0 + 1) hx hb hr (fun t ht hW => ⟨⟨_, (cg, ax, wi, g_11, mL Dk), rfl, (by unfold reqS; rw [hBq]; exact ⟨by rw [hw_12, pbs1]; rfl, rfl, rfl, rfl⟩), by rw [ht]; exact hP9, va_K.moved hW.alike hK9, hD9⟩, hS.F ht⟩) hS.2.2 dX4_request_421
      · skip
        have hkd8 : nbs M (hdO C) 4 = 8 := by rw [hr_1, lce, pk_lT hkb, l8] at c_7; omega
        refine lv_lload hx hb dX4_request_245 (lv_at hl 3 rfl) ?_
        refine lv_ldc2 (v := 20) hx hb hown (hw _ w_dfe30c16de) dX4_request_247 ?_
        refine W.lcmp hx hb dX4_request_250 ?_
        refine lv_if_ge (tgt := 259) hx hb dX4_request_251 (by decide) (fun c_13 => ?_) (fun c_13 => ?_)
        · skip
          have hm20 : min (tot (mS O) - 1) 20 = 20 := by rw [e5, lcge, lN_toInt (by omega), l20] at c_13; omega
          have e10 : (20 : Int64) = lN (min (tot (mS O) - 1) 20) := by rw [hm20]; rfl
          refine lv_ldc2 (v := 20) hx hb hown (hw _ w_dfe30c16de) dX4_request_259 ?_
          refine lv_lstore (lv' := [(10, .long 20), (9, .int 0), (7, .long r_4), (5, .long r_3), (3, .long r_2), (1, .long r_1), (0, .ref o)]) hx hb dX4_request_262 hl (by decide) rfl (fun ls hl => ?_)
          refine lv_aload_n hx hb dX4_request_264 rfl (lv_at hl 6 rfl) ?_
          refine lv_iconst (v := 1) hx hb dX4_request_265 (by decide) ?_
          have hPc := hP.sub (ws' := [(o, .inr (4, [.int cd, .int sc, .ref qm, .ref qd, .int ch, .int fe, .int sz, .int rd, .int ca, .int sx, .ref qp, .int co, .int gi, .int aw, .int cg, .int bk, .ref qs, .ref ql, .ref qo, .int ax, .long wi])), (qo, .inl (cZ, 16, .inl go))]) [0, 5] rfl
          have hKc := hK.sub (tys' := [(cZ, .boolean)]) [1] rfl
          have hDc := hD.sub (ws' := [(o, .inr (4, [.int cd, .int sc, .ref qm, .ref qd, .int ch, .int fe, .int sz, .int rd, .int ca, .int sx, .ref qp, .int co, .int gi, .int aw, .int cg, .int bk, .ref qs, .ref ql, .ref qo, .int ax, .long wi])), (qo, .inl (cZ, 16, .inl go))]) [0, 5] (by decide) rfl
          have hFc := va_free (wc := [(o, .inr (4, [.int cd, .int sc, .ref qm, .ref qd, .int ch, .int fe, .int sz, .int rd, .int ca, .int sx, .ref qp, .int co, .int gi, .int aw, .int cg, .int bk, .ref qs, .ref ql, .ref qo, .int ax, .long wi])), (qo, .inl (cZ, 16, .inl go))]) hD hS hA [0, 5] rfl
          have hZc : ZZ (va_A [(o, .inr (4, [.int cd, .int sc, .ref qm, .ref qd, .int ch, .int fe, .int sz, .int rd, .int ca, .int sx, .ref qp, .int co, .int gi, .int aw, .int cg, .int bk, .ref qs, .ref ql, .ref qo, .int ax, .long wi])), (qo, .inl (cZ, 16, .inl go))] s.heap.size) s s.heap := (hZ.kept hS.2.1).narrow hFc
          refine va_callv (va_runV (As := [.int 1]) (rest := []) ⟨hx, hb, hml, hown, hw⟩ (m_beginData1 l dC dI o cd sc qm qd ch fe sz rd ca sx qp co gi aw cg bk qs ql qo ax wi cZ go C.length s.heap.size hgg.1 hgg.2.1 hgg.2.2.1 (fun i _ h => by rw [hgg.2.2.2 i h]; decide)) (cwV 1 hw (gV w_bfbe5a51b4 w_cd2c971d8c w_ba37063f50 w_2b384744dc w_7825aad9b6) rfl rfl rfl (by decide +kernel) ⟨Nat.le_of_ble_eq_true rfl, Nat.le_of_ble_eq_true rfl⟩) ⟨fun a U g mk q => by obtain ⟨q0, q1, qP, qK, qD, qZ⟩ := q; exact ⟨q0, q1, qP, va_K.moved (u := U) (U := U.calling g mk a) (Vm.Alike.refl U.vm) qK, qD, ZZ.same (u := U) (U := U.calling g mk a) rfl qZ⟩, va_recv hKc hPc (ci := 4) (q0 := 0) rfl rfl, fun U hU hW => ⟨rfl, by rw [hU], by rw [hU]; exact hPc, va_K.moved hW.alike hKc, hDc.weaken (fun _ _ _ _ => trivial), by rw [hU]; exact ZZ.warm hW hZc⟩⟩ rfl rfl hl.1 rfl (lv_room (Nat.le_of_ble_eq_true rfl)) dX4_request_266 ⟨Nat.zero_le _, Nat.zero_le _⟩) hS (fun q _ h => hFc q h) hFc (fun u t H1 locs ht hvm hw2 hB hz1 hk1 hS => ?_)
          obtain ⟨ax2_14, rfl⟩ : ∃ z, z = u := ⟨_, rfl⟩
          obtain ⟨hP1, hK1, hD1⟩ := hB
          rw [ht] at hP1
          have hK1 := va_K.moved hvm.symm hK1
          try dsimp only at hw2
          obtain ⟨hP, hD⟩ := va_join (wr := [(qm, .inl (cJ, 8192, .inr (.inl (mL M)))), (qd, .inl (cJ, 131072, .inr (.inl (mL Dk)))), (qs, .inl (cJ, 16, .inr (.inl gs))), (ql, .inl (cJ, 16, .inr (.inl gl)))]) (w1 := [(o, .inr (4, [.int cd, .int sc, .ref qm, .ref qd, .int ch, .int fe, .int sz, .int rd, .int ca, .int sx, .ref qp, .int co, .int gi, .int aw, .int cg, .int bk, .ref qs, .ref ql, .ref qo, .int ax2_14, .long 0])), (qo, .inl (cZ, 16, .inl go))]) hP hD [0, 5] [1, 2, 3, 4] rfl rfl (by decide) (by decide) hk1 hFc hP1 hD1
          generalize H1 = H at hP hS hk1 ⊢
          have hP : va_P (dC, dI) vwCl [(qm, .inl (cJ, 8192, .inr (.inl (mL M)))), (qd, .inl (cJ, 131072, .inr (.inl (mL Dk)))), (qs, .inl (cJ, 16, .inr (.inl gs))), (ql, .inl (cJ, 16, .inr (.inl gl))), (o, .inr (4, [.int cd, .int sc, .ref qm, .ref qd, .int ch, .int fe, .int sz, .int rd, .int ca, .int sx, .ref qp, .int co, .int gi, .int aw, .int cg, .int bk, .ref qs, .ref ql, .ref qo, .int ax2_14, .long 0])), (qo, .inl (cZ, 16, .inl go))] H := hP
          have hD : va_D A [(qm, .inl (cJ, 8192, .inr (.inl (mL M)))), (qd, .inl (cJ, 131072, .inr (.inl (mL Dk)))), (qs, .inl (cJ, 16, .inr (.inl gs))), (ql, .inl (cJ, 16, .inr (.inl gl))), (o, .inr (4, [.int cd, .int sc, .ref qm, .ref qd, .int ch, .int fe, .int sz, .int rd, .int ca, .int sx, .ref qp, .int co, .int gi, .int aw, .int cg, .int bk, .ref qs, .ref ql, .ref qo, .int ax2_14, .long 0])), (qo, .inl (cZ, 16, .inl go))] := hD
          have hw_15 : ax2_14 = nI C.length := hw2
          refine lv_lconst (v := 0) hx hb dX4_request_269 (by decide) ?_
          refine lv_lstore (lv' := [(12, .long 0), (10, .long 20), (9, .int 0), (7, .long r_4), (5, .long r_3), (3, .long r_2), (1, .long r_1), (0, .ref o)]) hx hb dX4_request_270 hl (by decide) rfl (fun ls hl => ?_)
          have loop272 : ∀ (N : Nat) (kk : Nat) (kx : Int64) (i : Nat) (w : Nat) (Q : List (Nat × Nat)) (ax3 : Int32) (wi3 : Int64) (g : Nat → Int64) (hN : min (tot (mS O) - 1) 20 - kk < N) (ekx : kx = lN kk) (hkT : kk ≤ min (tot (mS O) - 1) 20) (eg : g = mL (wrs M (nth (mS O)) (nmB) kk)) (ea : ax3 = nI i) (ew : wi3 = lN w) (hseg : seg gs gl i Q) (hwh : w ≤ hdl Q) (hwt : w + (tot (mS O) - kk) = tot Q) (hnt : ∀ d, nth Q (w + d) = nth (mS O) (kk + d)) (H : Heap) (locs : List Loc) (hP : va_P (dC, dI) vwCl [(o, .inr (4, [.int cd, .int sc, .ref qm, .ref qd, .int ch, .int fe, .int sz, .int rd, .int ca, .int sx, .ref qp, .int co, .int gi, .int aw, .int cg, .int bk, .ref qs, .ref ql, .ref qo, .int ax3, .long wi3])), (qm, .inl (cJ, 8192, .inr (.inl g))), (qd, .inl (cJ, 131072, .inr (.inl (mL Dk)))), (qs, .inl (cJ, 16, .inr (.inl gs))), (ql, .inl (cJ, 16, .inr (.inl gl))), (qo, .inl (cZ, 16, .inl go))] H) (hD : va_D A [(o, .inr (4, [.int cd, .int sc, .ref qm, .ref qd, .int ch, .int fe, .int sz, .int rd, .int ca, .int sx, .ref qp, .int co, .int gi, .int aw, .int cg, .int bk, .ref qs, .ref ql, .ref qo, .int ax3, .long wi3])), (qm, .inl (cJ, 8192, .inr (.inl g))), (qd, .inl (cJ, 131072, .inr (.inl (mL Dk)))), (qs, .inl (cJ, 16, .inr (.inl gs))), (ql, .inl (cJ, 16, .inr (.inl gl))), (qo, .inl (cZ, 16, .inl go))]) (hS : va_S A s.heap H locs) (ls : Array Slot) (hl : lv_has ls 14 [(12, .long kx), (10, .long 20), (9, .int 0), (7, .long r_4), (5, .long r_3), (3, .long r_2), (1, .long r_1), (0, .ref o)]), W p l e (headSpec wsX4_request ({ frames := 2, cells := 0, slots := 0, locals := 100 })).room s m [.ref o].toArray below meth c H locs 0 0 (MQ below (va_Ql (fun (r : Int64) (u : Int32 × Int32 × Int64 × (Nat → Int64) × (Nat → Int64)) => match u with | (cg2, ax2, wi2, gm, gd) => gm = mL (reqS spM M Dk nn cg C O).1 ∧ gd = mL (reqS spM M Dk nn cg C O).2.1 ∧ cg2 = (reqS spM M Dk nn cg C O).2.2.1 ∧ r = lN (reqS spM M Dk nn cg C O).2.2.2) (fun (u : Int32 × Int32 × Int64 × (Nat → Int64) × (Nat → Int64)) (t : State) => match u with | (cg2, ax2, wi2, gm, gd) => va_P (dC, dI) vwCl [(o, .inr (4, [.int cd, .int sc, .ref qm, .ref qd, .int ch, .int fe, .int sz, .int rd, .int ca, .int sx, .ref qp, .int co, .int gi, .int aw, .int cg2, .int bk, .ref qs, .ref ql, .ref qo, .int ax2, .long wi2])), (qm, .inl (cJ, 8192, .inr (.inl gm))), (qd, .inl (cJ, 131072, .inr (.inl gd))), (qs, .inl (cJ, 16, .inr (.inl gs))), (ql, .inl (cJ, 16, .inr (.inl gl))), (qo, .inl (cZ, 16, .inl go))] t.heap ∧ va_K (dC, dI) vwCl [(cJ, .long), (cZ, .boolean)] t ∧ va_D A [(o, .inr (4, [.int cd, .int sc, .ref qm, .ref qd, .int ch, .int fe, .int sz, .int rd, .int ca, .int sx, .ref qp, .int co, .int gi, .int aw, .int cg2, .int bk, .ref qs, .ref ql, .ref qo, .int ax2, .long wi2])), (qm, .inl (cJ, 8192, .inr (.inl gm))), (qd, .inl (cJ, 131072, .inr (.inl gd))), (qs, .inl (cJ, 16, .inr (.inl gs))), (ql, .inl (cJ, 16, .inr (.inl gl))), (qo, .inl (cZ, 16, .inl go))]) A) [.ref o].toArray s 0 0 A) (F0 m 272 ls []) := by
            intro N
            induction N with
            | zero => intro kk kx i w Q ax3 wi3 g hN ekx hkT eg ea ew hseg hwh hwt hnt H locs hP hD hS ls hl; exact absurd hN (Nat.not_lt_zero _)
            | succ N ih =>
              intro kk kx i w Q ax3 wi3 g hN ekx hkT eg ea ew hseg hwh hwt hnt H locs hP hD hS ls hl
              refine lv_lload hx hb dX4_request_272 (lv_at hl 0 rfl) ?_
              refine lv_lload hx hb dX4_request_274 (lv_at hl 1 rfl) ?_
              refine W.lcmp hx hb dX4_request_276 ?_
              refine lv_if_ge (tgt := 370) hx hb dX4_request_277 (by decide) (fun c_16 => ?_) (fun c_16 => ?_)
              · skip
                have hkk : kk = min (tot (mS O) - 1) 20 := by rw [ekx, e10, lcge, lN_toInt (by omega), lN_toInt (by omega)] at c_16; omega
                subst eg
                refine lv_goto (tgt := 384) hx hb dX4_request_370 (by decide) ?_
                have hBq : reqB spM M Dk nn cg C O = (wrs M (nth (mS O)) (nmB) kk, Dk, cg, kk, 0) := by rw [hkk]; unfold reqB; rw [if_neg hkd0, if_neg hkd1, if_pos hkd8]
                refine lv_aload_n hx hb dX4_request_384 rfl (lv_at hl 7 rfl) ?_
                refine lv_aload_n hx hb dX4_request_385 rfl (lv_at hl 7 rfl) ?_
                refine va_get (D := (dC, dI)) (ci := 4) (v := .ref qs) (C := RX4) (T := TX4) (N := 21) hx hb hw inX4 hown hK hP 0 rfl rfl 16 (by decide) (hw _ w_c92d01c177) (fun _ h9 => h9) rfl dX4_request_386 ?_
                refine lv_aload_n hx hb dX4_request_389 rfl (lv_at hl 7 rfl) ?_
                refine va_get (D := (dC, dI)) (ci := 4) (v := .int bk) (C := RX4) (T := TX4) (N := 21) hx hb hw inX4 hown hK hP 0 rfl rfl 15 (by decide) (hw _ w_f0da19b997) (fun _ h9 => h9) rfl dX4_request_390 ?_
                refine lv_iconst (v := 1) hx hb dX4_request_393 (by decide) ?_
                refine lv_isub hx hb dX4_request_394 ?_
                refine va_lald hx hb hK hP 3 0 rfl rfl hla.1 dX4_request_395 ?_
                refine lv_aload_n hx hb dX4_request_396 rfl (lv_at hl 7 rfl) ?_
                refine va_get (D := (dC, dI)) (ci := 4) (v := .ref ql) (C := RX4) (T := TX4) (N := 21) hx hb hw inX4 hown hK hP 0 rfl rfl 17 (by decide) (hw _ w_c20510a516) (fun _ h9 => h9) rfl dX4_request_397 ?_
                refine lv_aload_n hx hb dX4_request_400 rfl (lv_at hl 7 rfl) ?_
                refine va_get (D := (dC, dI)) (ci := 4) (v := .int bk) (C := RX4) (T := TX4) (N := 21) hx hb hw inX4 hown hK hP 0 rfl rfl 15 (by decide) (hw _ w_f0da19b997) (fun _ h9 => h9) rfl dX4_request_401 ?_
                refine lv_iconst (v := 1) hx hb dX4_request_404 (by decide) ?_
                refine lv_isub hx hb dX4_request_405 ?_
                refine va_lald hx hb hK hP 4 0 rfl rfl hla.1 dX4_request_406 ?_
                refine lv_ladd hx hb dX4_request_407 ?_
                refine lv_lconst (v := 1) hx hb dX4_request_408 (by decide) ?_
                refine lv_lsub hx hb dX4_request_409 ?_
                refine lv_iconst (v := 1) hx hb dX4_request_410 (by decide) ?_
                refine lv_iload hx hb dX4_request_411 (lv_at hl 2 rfl) ?_
                refine lv_i2l (v := (0 : Int32).toInt64) hx hb dX4_request_413 rfl ?_
                have hPc := hP.sub (ws' := [(o, .inr (4, [.int cd, .int sc, .ref qm, .ref qd, .int ch, .int fe, .int sz, .int rd, .int ca, .int sx, .ref qp, .int co, .int gi, .int aw, .int cg, .int bk, .ref qs, .ref ql, .ref qo, .int ax3, .long wi3])), (qm, .inl (cJ, 8192, .inr (.inl (mL (wrs M (nth (mS O)) (nmB) kk)))))]) [0, 1] rfl
                have hKc := hK.sub (tys' := [(cJ, .long)]) [0] rfl
                have hDc := hD.sub (ws' := [(o, .inr (4, [.int cd, .int sc, .ref qm, .ref qd, .int ch, .int fe, .int sz, .int rd, .int ca, .int sx, .ref qp, .int co, .int gi, .int aw, .int cg, .int bk, .ref qs, .ref ql, .ref qo, .int ax3, .long wi3])), (qm, .inl (cJ, 8192, .inr (.inl (mL (wrs M (nth (mS O)) (nmB) kk)))))]) [0, 1] (by decide) rfl
                have hFc := va_free (wc := [(o, .inr (4, [.int cd, .int sc, .ref qm, .ref qd, .int ch, .int fe, .int sz, .int rd, .int ca, .int sx, .ref qp, .int co, .int gi, .int aw, .int cg, .int bk, .ref qs, .ref ql, .ref qo, .int ax3, .long wi3])), (qm, .inl (cJ, 8192, .inr (.inl (mL (wrs M (nth (mS O)) (nmB) kk)))))]) hD hS hA [0, 1] rfl
                have hZc : ZZ (va_A [(o, .inr (4, [.int cd, .int sc, .ref qm, .ref qd, .int ch, .int fe, .int sz, .int rd, .int ca, .int sx, .ref qp, .int co, .int gi, .int aw, .int cg, .int bk, .ref qs, .ref ql, .ref qo, .int ax3, .long wi3])), (qm, .inl (cJ, 8192, .inr (.inl (mL (wrs M (nth (mS O)) (nmB) kk)))))] H.size) s H := (hZ.kept hS.2.1).narrow hFc
                refine va_callv (va_runV (As := [.long (((gs (bk - 1).toNatClampNeg) + (gl (bk - 1).toNatClampNeg)) - 1), .int 1, .long ((0 : Int32).toInt64)]) (rest := []) ⟨hx, hb, hml, hown, hw⟩ (m_put l dC dI o cd sc qm qd ch fe sz rd ca sx qp co gi aw cg bk qs ql qo ax3 wi3 cJ (wrs M (nth (mS O)) (nmB) kk) (((gs (bk - 1).toNatClampNeg) + (gl (bk - 1).toNatClampNeg)) - 1) 1 ((0 : Int32).toInt64) 1 (rpl O) 0 H.size rfl (by decide) hla.2.1 hla.2.2 (byt_wrs hM nmB_lt _) rfl (by decide)) (cwV 3 hw (gV w_9c56ffd0dc w_152cce5fe8 w_ffdd99591d w_2b384744dc w_947246c675) rfl rfl rfl (by decide +kernel) ⟨Nat.le_of_ble_eq_true rfl, Nat.le_of_ble_eq_true rfl⟩) ⟨fun a U g mk q => by obtain ⟨q0, q1, qP, qK, qD, qZ⟩ := q; exact ⟨q0, q1, qP, va_K.moved (u := U) (U := U.calling g mk a) (Vm.Alike.refl U.vm) qK, qD, ZZ.same (u := U) (U := U.calling g mk a) rfl qZ⟩, va_recv hKc hPc (ci := 4) (q0 := 0) rfl rfl, fun U hU hW => ⟨rfl, by rw [hU], by rw [hU]; exact hPc, va_K.moved hW.alike hKc, hDc.weaken (fun _ _ _ _ => trivial), by rw [hU]; exact ZZ.warm hW hZc⟩⟩ rfl rfl hl.1 rfl (lv_room (Nat.le_of_ble_eq_true rfl)) dX4_request_414 ⟨Nat.zero_le _, Nat.zero_le _⟩) hS (fun q _ h => hFc q h) hFc (fun u t H1 locs ht hvm hw2 hB hz1 hk1 hS => ?_)
                obtain ⟨g_17, rfl⟩ : ∃ z, z = u := ⟨_, rfl⟩
                obtain ⟨hP1, hK1, hD1⟩ := hB
                rw [ht] at hP1
                have hK1 := va_K.moved hvm.symm hK1
                try dsimp only at hw2
                obtain ⟨hP, hD⟩ := va_join (wr := [(qd, .inl (cJ, 131072, .inr (.inl (mL Dk)))), (qs, .inl (cJ, 16, .inr (.inl gs))), (ql, .inl (cJ, 16, .inr (.inl gl))), (qo, .inl (cZ, 16, .inl go))]) (w1 := [(o, .inr (4, [.int cd, .int sc, .ref qm, .ref qd, .int ch, .int fe, .int sz, .int rd, .int ca, .int sx, .ref qp, .int co, .int gi, .int aw, .int cg, .int bk, .ref qs, .ref ql, .ref qo, .int ax3, .long wi3])), (qm, .inl (cJ, 8192, .inr (.inl g_17)))]) hP hD [0, 1] [2, 3, 4, 5] rfl rfl (by decide) (by decide) hk1 hFc hP1 hD1
                generalize H1 = H at hP hS hk1 ⊢
                have hP : va_P (dC, dI) vwCl [(qd, .inl (cJ, 131072, .inr (.inl (mL Dk)))), (qs, .inl (cJ, 16, .inr (.inl gs))), (ql, .inl (cJ, 16, .inr (.inl gl))), (qo, .inl (cZ, 16, .inl go)), (o, .inr (4, [.int cd, .int sc, .ref qm, .ref qd, .int ch, .int fe, .int sz, .int rd, .int ca, .int sx, .ref qp, .int co, .int gi, .int aw, .int cg, .int bk, .ref qs, .ref ql, .ref qo, .int ax3, .long wi3])), (qm, .inl (cJ, 8192, .inr (.inl g_17)))] H := hP
                have hD : va_D A [(qd, .inl (cJ, 131072, .inr (.inl (mL Dk)))), (qs, .inl (cJ, 16, .inr (.inl gs))), (ql, .inl (cJ, 16, .inr (.inl gl))), (qo, .inl (cZ, 16, .inl go)), (o, .inr (4, [.int cd, .int sc, .ref qm, .ref qd, .int ch, .int fe, .int sz, .int rd, .int ca, .int sx, .ref qp, .int co, .int gi, .int aw, .int cg, .int bk, .ref qs, .ref ql, .ref qo, .int ax3, .long wi3])), (qm, .inl (cJ, 8192, .inr (.inl g_17)))] := hD
                have hw_18 : g_17 = mL (pbs (wrs M (nth (mS O)) (nmB) kk) (rpl O) 0 1) := hw2
                refine lv_lload hx hb dX4_request_417 (lv_at hl 1 rfl) ?_
                refine lv_lconst (v := 1) hx hb dX4_request_419 (by decide) ?_
                refine lv_ladd hx hb dX4_request_420 ?_
                have hP9 : va_P (dC, dI) vwCl [(o, .inr (4, [.int cd, .int sc, .ref qm, .ref qd, .int ch, .int fe, .int sz, .int rd, .int ca, .int sx, .ref qp, .int co, .int gi, .int aw, .int cg, .int bk, .ref qs, .ref ql, .ref qo, .int ax3, .long wi3])), (qm, .inl (cJ, 8192, .inr (.inl g_17))), (qd, .inl (cJ, 131072, .inr (.inl (mL Dk)))), (qs, .inl (cJ, 16, .inr (.inl gs))), (ql, .inl (cJ, 16, .inr (.inl gl))), (qo, .inl (cZ, 16, .inl go))] H := by exact hP.sub (ws' := [(o, .inr (4, [.int cd, .int sc, .ref qm, .ref qd, .int ch, .int fe, .int sz, .int rd, .int ca, .int sx, .ref qp, .int co, .int gi, .int aw, .int cg, .int bk, .ref qs, .ref ql, .ref qo, .int ax3, .long wi3])), (qm, .inl (cJ, 8192, .inr (.inl g_17))), (qd, .inl (cJ, 131072, .inr (.inl (mL Dk)))), (qs, .inl (cJ, 16, .inr (.inl gs))), (ql, .inl (cJ, 16, .inr (.inl gl))), (qo, .inl (cZ, 16, .inl go))]) [4, 5, 0, 1, 2, 3] rfl
                have hD9 : va_D A [(o, .inr (4, [.int cd, .int sc, .ref qm, .ref qd, .int ch, .int fe, .int sz, .int rd, .int ca, .int sx, .ref qp, .int co, .int gi, .int aw, .int cg, .int bk, .ref qs, .ref ql, .ref qo, .int ax3, .long wi3])), (qm, .inl (cJ, 8192, .inr (.inl g_17))), (qd, .inl (cJ, 131072, .inr (.inl (mL Dk)))), (qs, .inl (cJ, 16, .inr (.inl gs))), (ql, .inl (cJ, 16, .inr (.inl gl))), (qo, .inl (cZ, 16, .inl go))] := by exact hD.sub (ws' := [(o, .inr (4, [.int cd, .int sc, .ref qm, .ref qd, .int ch, .int fe, .int sz, .int rd, .int ca, .int sx, .ref qp, .int co, .int gi, .int aw, .int cg, .int bk, .ref qs, .ref ql, .ref qo, .int ax3, .long wi3])), (qm, .inl (cJ, 8192, .inr (.inl g_17))), (qd, .inl (cJ, 131072, .inr (.inl (mL Dk)))), (qs, .inl (cJ, 16, .inr (.inl gs))), (ql, .inl (cJ, 16, .inr (.inl gl))), (qo, .inl (cZ, 16, .inl go))]) [4, 5, 0, 1, 2, 3] (by decide) rfl
                have hK9 := hK.sub (tys' := [(cJ, .long), (cZ, .boolean)]) [0, 1] rfl
                exact W.lret (v := 20 + 1) hx hb hr (fun t ht hW => ⟨⟨_, (cg, ax3, wi3, g_17, mL Dk), rfl, (by unfold reqS; rw [hBq]; exact ⟨by rw [hw_18, pbs1]; rfl, rfl, rfl, (by rw [e10, hkk]; exact lN_1 _)⟩), by rw [ht]; exact hP9, va_K.moved hW.alike hK9, hD9⟩, hS.F ht⟩) hS.2.2 dX4_request_421
              · skip
                have hkk : kk < min (tot (mS O) - 1) 20 := by rw [ekx, e10, lcge, lN_toInt (by omega), lN_toInt (by omega)] at c_16; omega
                subst eg
                refine lv_aload_n hx hb dX4_request_280 rfl (lv_at hl 7 rfl) ?_
                refine lv_aload_n hx hb dX4_request_281 rfl (lv_at hl 7 rfl) ?_
                have hPc := hP.sub (ws' := [(o, .inr (4, [.int cd, .int sc, .ref qm, .ref qd, .int ch, .int fe, .int sz, .int rd, .int ca, .int sx, .ref qp, .int co, .int gi, .int aw, .int cg, .int bk, .ref qs, .ref ql, .ref qo, .int ax3, .long wi3])), (ql, .inl (cJ, 16, .inr (.inl gl))), (qs, .inl (cJ, 16, .inr (.inl gs)))]) [0, 4, 3] rfl
                have hKc := hK.sub (tys' := [(cJ, .long)]) [0] rfl
                have hDc := hD.sub (ws' := [(o, .inr (4, [.int cd, .int sc, .ref qm, .ref qd, .int ch, .int fe, .int sz, .int rd, .int ca, .int sx, .ref qp, .int co, .int gi, .int aw, .int cg, .int bk, .ref qs, .ref ql, .ref qo, .int ax3, .long wi3])), (ql, .inl (cJ, 16, .inr (.inl gl))), (qs, .inl (cJ, 16, .inr (.inl gs)))]) [0, 4, 3] (by decide) rfl
                have hFc := va_free (wc := [(o, .inr (4, [.int cd, .int sc, .ref qm, .ref qd, .int ch, .int fe, .int sz, .int rd, .int ca, .int sx, .ref qp, .int co, .int gi, .int aw, .int cg, .int bk, .ref qs, .ref ql, .ref qo, .int ax3, .long wi3])), (ql, .inl (cJ, 16, .inr (.inl gl))), (qs, .inl (cJ, 16, .inr (.inl gs)))]) hD hS hA [0, 4, 3] rfl
                have hZc : ZZ (va_A [(o, .inr (4, [.int cd, .int sc, .ref qm, .ref qd, .int ch, .int fe, .int sz, .int rd, .int ca, .int sx, .ref qp, .int co, .int gi, .int aw, .int cg, .int bk, .ref qs, .ref ql, .ref qo, .int ax3, .long wi3])), (ql, .inl (cJ, 16, .inr (.inl gl))), (qs, .inl (cJ, 16, .inr (.inl gs)))] H.size) s H := (hZ.kept hS.2.1).narrow hFc
                refine va_calll (va_runV (As := []) (rest := [.ref o]) ⟨hx, hb, hml, hown, hw⟩ (m_nextByte l dC dI o cd sc qm qd ch fe sz rd ca sx qp co gi aw cg bk qs ql qo ax3 wi3 cJ gs gl i w Q H.size ea ew hseg hwh (by omega)) (cwV 0 hw (gV w_a95c20584f w_7f5d544229 w_2d0be2425c w_2b384744dc w_93b28c0a11) rfl rfl rfl (by decide +kernel) ⟨Nat.le_of_ble_eq_true rfl, Nat.le_of_ble_eq_true rfl⟩) ⟨fun a U g mk q => by obtain ⟨q0, q1, qP, qK, qD, qZ⟩ := q; exact ⟨q0, q1, qP, va_K.moved (u := U) (U := U.calling g mk a) (Vm.Alike.refl U.vm) qK, qD, ZZ.same (u := U) (U := U.calling g mk a) rfl qZ⟩, va_recv hKc hPc (ci := 4) (q0 := 0) rfl rfl, fun U hU hW => ⟨rfl, by rw [hU], by rw [hU]; exact hPc, va_K.moved hW.alike hKc, hDc.weaken (fun _ _ _ _ => trivial), by rw [hU]; exact ZZ.warm hW hZc⟩⟩ rfl rfl hl.1 rfl (lv_room (Nat.le_of_ble_eq_true rfl)) dX4_request_282 ⟨Nat.zero_le _, Nat.zero_le _⟩) hS (fun q _ h => hFc q h) hFc (fun r_19 u t H1 locs ht hvm hw2 hB hz1 hk1 hS => ?_)
                obtain ⟨ax2_20, wi2_21⟩ := u
                obtain ⟨hP1, hK1, hD1⟩ := hB
                rw [ht] at hP1
                have hK1 := va_K.moved hvm.symm hK1
                try dsimp only at hw2
                obtain ⟨hP, hD⟩ := va_join (wr := [(qm, .inl (cJ, 8192, .inr (.inl (mL (wrs M (nth (mS O)) (nmB) kk))))), (qd, .inl (cJ, 131072, .inr (.inl (mL Dk)))), (qo, .inl (cZ, 16, .inl go))]) (w1 := [(o, .inr (4, [.int cd, .int sc, .ref qm, .ref qd, .int ch, .int fe, .int sz, .int rd, .int ca, .int sx, .ref qp, .int co, .int gi, .int aw, .int cg, .int bk, .ref qs, .ref ql, .ref qo, .int ax2_20, .long wi2_21])), (ql, .inl (cJ, 16, .inr (.inl gl))), (qs, .inl (cJ, 16, .inr (.inl gs)))]) hP hD [0, 4, 3] [1, 2, 5] rfl rfl (by decide) (by decide) hk1 hFc hP1 hD1
                generalize H1 = H at hP hS hk1 ⊢
                have hP : va_P (dC, dI) vwCl [(qm, .inl (cJ, 8192, .inr (.inl (mL (wrs M (nth (mS O)) (nmB) kk))))), (qd, .inl (cJ, 131072, .inr (.inl (mL Dk)))), (qo, .inl (cZ, 16, .inl go)), (o, .inr (4, [.int cd, .int sc, .ref qm, .ref qd, .int ch, .int fe, .int sz, .int rd, .int ca, .int sx, .ref qp, .int co, .int gi, .int aw, .int cg, .int bk, .ref qs, .ref ql, .ref qo, .int ax2_20, .long wi2_21])), (ql, .inl (cJ, 16, .inr (.inl gl))), (qs, .inl (cJ, 16, .inr (.inl gs)))] H := hP
                have hD : va_D A [(qm, .inl (cJ, 8192, .inr (.inl (mL (wrs M (nth (mS O)) (nmB) kk))))), (qd, .inl (cJ, 131072, .inr (.inl (mL Dk)))), (qo, .inl (cZ, 16, .inl go)), (o, .inr (4, [.int cd, .int sc, .ref qm, .ref qd, .int ch, .int fe, .int sz, .int rd, .int ca, .int sx, .ref qp, .int co, .int gi, .int aw, .int cg, .int bk, .ref qs, .ref ql, .ref qo, .int ax2_20, .long wi2_21])), (ql, .inl (cJ, 16, .inr (.inl gl))), (qs, .inl (cJ, 16, .inr (.inl gs)))] := hD
                have hw_22 : (∃ (i2 w2 : Nat) (R2 : List (Nat × Nat)), ax2_20 = nI i2 ∧ wi2_21 = lN w2 ∧ seg gs gl i2 R2 ∧ w2 ≤ hdl R2 ∧ w2 + (tot Q - w) = tot R2 + 1 ∧ ∀ d, nth R2 (w2 + d) = nth Q (w + 1 + d)) ∧ thP r_19 1 ∧ off r_19 = nth Q w := hw2
                obtain ⟨⟨i2, w2, Q2, ea2, ew2, hseg2, hwh2, hwt2, hnt2⟩, hthr, hofr⟩ := hw_22
                have hq0 : nth Q w = nth (mS O) kk := hnt 0
                have hro := off_0 (ct := 1) hthr (by decide) (by decide)
                refine lv_iconst (v := 1) hx hb dX4_request_285 (by decide) ?_
                refine lv_lload hx hb dX4_request_286 (lv_at hl 0 rfl) ?_
                refine lv_lconst (v := 0) hx hb dX4_request_288 (by decide) ?_
                refine W.lcmp hx hb dX4_request_289 ?_
                refine lv_if_ne (tgt := 299) hx hb dX4_request_290 (by decide) (fun c_23 => ?_) (fun c_23 => ?_)
                · skip
                  have hn0 : ¬ kk = 0 := by rw [ekx, lce, lN_toInt (by omega), show (0 : Int64).toInt = 0 by decide] at c_23; omega
                  refine lv_lload hx hb dX4_request_299 (lv_at hl 0 rfl) ?_
                  refine lv_lconst (v := 1) hx hb dX4_request_301 (by decide) ?_
                  refine W.lcmp hx hb dX4_request_302 ?_
                  refine lv_if_ne (tgt := 312) hx hb dX4_request_303 (by decide) (fun c_24 => ?_) (fun c_24 => ?_)
                  · skip
                    have hn1 : ¬ kk = 1 := by rw [ekx, lce, lN_toInt (by omega), show (1 : Int64).toInt = 1 by decide] at c_24; omega
                    refine lv_lload hx hb dX4_request_312 (lv_at hl 0 rfl) ?_
                    refine lv_ldc2 (v := 2) hx hb hown (hw _ w_2d5b7c9aed) dX4_request_314 ?_
                    refine W.lcmp hx hb dX4_request_317 ?_
                    refine lv_if_ne (tgt := 327) hx hb dX4_request_318 (by decide) (fun c_25 => ?_) (fun c_25 => ?_)
                    · skip
                      have hn2 : ¬ kk = 2 := by rw [ekx, lce, lN_toInt (by omega), show (2 : Int64).toInt = 2 by decide] at c_25; omega
                      refine lv_lload hx hb dX4_request_327 (lv_at hl 0 rfl) ?_
                      refine lv_ldc2 (v := 3) hx hb hown (hw _ w_91e6d6fa96) dX4_request_329 ?_
                      refine W.lcmp hx hb dX4_request_332 ?_
                      refine lv_if_ne (tgt := 342) hx hb dX4_request_333 (by decide) (fun c_26 => ?_) (fun c_26 => ?_)
                      · skip
                        have hn3 : ¬ kk = 3 := by rw [ekx, lce, lN_toInt (by omega), show (3 : Int64).toInt = 3 by decide] at c_26; omega
                        refine lv_lload hx hb dX4_request_342 (lv_at hl 0 rfl) ?_
                        refine lv_ldc2 (v := 4) hx hb hown (hw _ w_5418fa3b47) dX4_request_344 ?_
                        refine W.lcmp hx hb dX4_request_347 ?_
                        refine lv_if_ne (tgt := 357) hx hb dX4_request_348 (by decide) (fun c_27 => ?_) (fun c_27 => ?_)
                        · skip
                          have hn4 : ¬ kk = 4 := by rw [ekx, lce, lN_toInt (by omega), show (4 : Int64).toInt = 4 by decide] at c_27; omega
                          refine lv_lconst (v := 0) hx hb dX4_request_357 (by decide) ?_
                          have hPc := hP.sub (ws' := [(o, .inr (4, [.int cd, .int sc, .ref qm, .ref qd, .int ch, .int fe, .int sz, .int rd, .int ca, .int sx, .ref qp, .int co, .int gi, .int aw, .int cg, .int bk, .ref qs, .ref ql, .ref qo, .int ax2_20, .long wi2_21])), (qm, .inl (cJ, 8192, .inr (.inl (mL (wrs M (nth (mS O)) (nmB) kk)))))]) [3, 0] rfl
                          have hKc := hK.sub (tys' := [(cJ, .long)]) [0] rfl
                          have hDc := hD.sub (ws' := [(o, .inr (4, [.int cd, .int sc, .ref qm, .ref qd, .int ch, .int fe, .int sz, .int rd, .int ca, .int sx, .ref qp, .int co, .int gi, .int aw, .int cg, .int bk, .ref qs, .ref ql, .ref qo, .int ax2_20, .long wi2_21])), (qm, .inl (cJ, 8192, .inr (.inl (mL (wrs M (nth (mS O)) (nmB) kk)))))]) [3, 0] (by decide) rfl
                          have hFc := va_free (wc := [(o, .inr (4, [.int cd, .int sc, .ref qm, .ref qd, .int ch, .int fe, .int sz, .int rd, .int ca, .int sx, .ref qp, .int co, .int gi, .int aw, .int cg, .int bk, .ref qs, .ref ql, .ref qo, .int ax2_20, .long wi2_21])), (qm, .inl (cJ, 8192, .inr (.inl (mL (wrs M (nth (mS O)) (nmB) kk)))))]) hD hS hA [3, 0] rfl
                          have hZc : ZZ (va_A [(o, .inr (4, [.int cd, .int sc, .ref qm, .ref qd, .int ch, .int fe, .int sz, .int rd, .int ca, .int sx, .ref qp, .int co, .int gi, .int aw, .int cg, .int bk, .ref qs, .ref ql, .ref qo, .int ax2_20, .long wi2_21])), (qm, .inl (cJ, 8192, .inr (.inl (mL (wrs M (nth (mS O)) (nmB) kk)))))] H.size) s H := (hZ.kept hS.2.1).narrow hFc
                          refine va_callv (va_runV (As := [.long r_19, .int 1, .long 0]) (rest := []) ⟨hx, hb, hml, hown, hw⟩ (m_put l dC dI o cd sc qm qd ch fe sz rd ca sx qp co gi aw cg bk qs ql qo ax2_20 wi2_21 cJ (wrs M (nth (mS O)) (nmB) kk) r_19 1 0 1 (off r_19) 0 H.size rfl (by decide) hro.1 hro.2 (byt_wrs hM nmB_lt _) rfl (by decide)) (cwV 3 hw (gV w_9c56ffd0dc w_152cce5fe8 w_ffdd99591d w_2b384744dc w_947246c675) rfl rfl rfl (by decide +kernel) ⟨Nat.le_of_ble_eq_true rfl, Nat.le_of_ble_eq_true rfl⟩) ⟨fun a U g mk q => by obtain ⟨q0, q1, qP, qK, qD, qZ⟩ := q; exact ⟨q0, q1, qP, va_K.moved (u := U) (U := U.calling g mk a) (Vm.Alike.refl U.vm) qK, qD, ZZ.same (u := U) (U := U.calling g mk a) rfl qZ⟩, va_recv hKc hPc (ci := 4) (q0 := 0) rfl rfl, fun U hU hW => ⟨rfl, by rw [hU], by rw [hU]; exact hPc, va_K.moved hW.alike hKc, hDc.weaken (fun _ _ _ _ => trivial), by rw [hU]; exact ZZ.warm hW hZc⟩⟩ rfl rfl hl.1 rfl (lv_room (Nat.le_of_ble_eq_true rfl)) dX4_request_358 ⟨Nat.zero_le _, Nat.zero_le _⟩) hS (fun q _ h => hFc q h) hFc (fun u t H1 locs ht hvm hw2 hB hz1 hk1 hS => ?_)
                          obtain ⟨g_28, rfl⟩ : ∃ z, z = u := ⟨_, rfl⟩
                          obtain ⟨hP1, hK1, hD1⟩ := hB
                          rw [ht] at hP1
                          have hK1 := va_K.moved hvm.symm hK1
                          try dsimp only at hw2
                          obtain ⟨hP, hD⟩ := va_join (wr := [(qd, .inl (cJ, 131072, .inr (.inl (mL Dk)))), (qo, .inl (cZ, 16, .inl go)), (ql, .inl (cJ, 16, .inr (.inl gl))), (qs, .inl (cJ, 16, .inr (.inl gs)))]) (w1 := [(o, .inr (4, [.int cd, .int sc, .ref qm, .ref qd, .int ch, .int fe, .int sz, .int rd, .int ca, .int sx, .ref qp, .int co, .int gi, .int aw, .int cg, .int bk, .ref qs, .ref ql, .ref qo, .int ax2_20, .long wi2_21])), (qm, .inl (cJ, 8192, .inr (.inl g_28)))]) hP hD [3, 0] [1, 2, 4, 5] rfl rfl (by decide) (by decide) hk1 hFc hP1 hD1
                          generalize H1 = H at hP hS hk1 ⊢
                          have hP : va_P (dC, dI) vwCl [(qd, .inl (cJ, 131072, .inr (.inl (mL Dk)))), (qo, .inl (cZ, 16, .inl go)), (ql, .inl (cJ, 16, .inr (.inl gl))), (qs, .inl (cJ, 16, .inr (.inl gs))), (o, .inr (4, [.int cd, .int sc, .ref qm, .ref qd, .int ch, .int fe, .int sz, .int rd, .int ca, .int sx, .ref qp, .int co, .int gi, .int aw, .int cg, .int bk, .ref qs, .ref ql, .ref qo, .int ax2_20, .long wi2_21])), (qm, .inl (cJ, 8192, .inr (.inl g_28)))] H := hP
                          have hD : va_D A [(qd, .inl (cJ, 131072, .inr (.inl (mL Dk)))), (qo, .inl (cZ, 16, .inl go)), (ql, .inl (cJ, 16, .inr (.inl gl))), (qs, .inl (cJ, 16, .inr (.inl gs))), (o, .inr (4, [.int cd, .int sc, .ref qm, .ref qd, .int ch, .int fe, .int sz, .int rd, .int ca, .int sx, .ref qp, .int co, .int gi, .int aw, .int cg, .int bk, .ref qs, .ref ql, .ref qo, .int ax2_20, .long wi2_21])), (qm, .inl (cJ, 8192, .inr (.inl g_28)))] := hD
                          have hw_29 : g_28 = mL (pbs (wrs M (nth (mS O)) (nmB) kk) (off r_19) 0 1) := hw2
                          refine lv_lload hx hb dX4_request_361 (lv_at hl 0 rfl) ?_
                          refine lv_lconst (v := 1) hx hb dX4_request_363 (by decide) ?_
                          refine lv_ladd hx hb dX4_request_364 ?_
                          refine lv_topl (fun x_30 ex_30 => ?_)
                          refine lv_lstore (lv' := [(12, .long x_30), (10, .long 20), (9, .int 0), (7, .long r_4), (5, .long r_3), (3, .long r_2), (1, .long r_1), (0, .ref o)]) hx hb dX4_request_365 hl (by decide) rfl (fun ls hl => ?_)
                          refine lv_goto (tgt := 272) hx hb dX4_request_367 (by decide) ?_
                          exact ih (kk + 1) x_30 i2 w2 Q2 ax2_20 wi2_21 g_28 (by omega) (by rw [ex_30, ekx]; exact lN_1 kk) (by omega) (by rw [hw_29, pbs1, hofr, hq0, show wrs M (nth (mS O)) nmB (kk + 1) = va_up (wrs M (nth (mS O)) nmB kk) (nth (mS O) kk) (nmB kk) from rfl, show nmB kk = 0 % 256 by unfold nmB; simp [hn0, hn1, hn2, hn3, hn4]]) (ea2) (ew2) (hseg2) (hwh2) (by omega) (fun d => by rw [hnt2, show w + 1 + d = w + (1 + d) by omega, hnt, Nat.add_assoc]) _ _ (hP.sub [4, 5, 0, 3, 2, 1] rfl) (hD.sub [4, 5, 0, 3, 2, 1] (by decide) rfl) hS ls (lv_sub hl [0, 1, 2, 3, 4, 5, 6, 7] rfl)
                        · skip
                          have hn4 : kk = 4 := by rw [ekx, lce, lN_toInt (by omega), show (4 : Int64).toInt = 4 by decide] at c_27; omega
                          refine lv_ldc2 (v := 107) hx hb hown (hw _ w_f9a01163de) dX4_request_351 ?_
                          refine lv_goto (tgt := 358) hx hb dX4_request_354 (by decide) ?_
                          have hPc := hP.sub (ws' := [(o, .inr (4, [.int cd, .int sc, .ref qm, .ref qd, .int ch, .int fe, .int sz, .int rd, .int ca, .int sx, .ref qp, .int co, .int gi, .int aw, .int cg, .int bk, .ref qs, .ref ql, .ref qo, .int ax2_20, .long wi2_21])), (qm, .inl (cJ, 8192, .inr (.inl (mL (wrs M (nth (mS O)) (nmB) kk)))))]) [3, 0] rfl
                          have hKc := hK.sub (tys' := [(cJ, .long)]) [0] rfl
                          have hDc := hD.sub (ws' := [(o, .inr (4, [.int cd, .int sc, .ref qm, .ref qd, .int ch, .int fe, .int sz, .int rd, .int ca, .int sx, .ref qp, .int co, .int gi, .int aw, .int cg, .int bk, .ref qs, .ref ql, .ref qo, .int ax2_20, .long wi2_21])), (qm, .inl (cJ, 8192, .inr (.inl (mL (wrs M (nth (mS O)) (nmB) kk)))))]) [3, 0] (by decide) rfl
                          have hFc := va_free (wc := [(o, .inr (4, [.int cd, .int sc, .ref qm, .ref qd, .int ch, .int fe, .int sz, .int rd, .int ca, .int sx, .ref qp, .int co, .int gi, .int aw, .int cg, .int bk, .ref qs, .ref ql, .ref qo, .int ax2_20, .long wi2_21])), (qm, .inl (cJ, 8192, .inr (.inl (mL (wrs M (nth (mS O)) (nmB) kk)))))]) hD hS hA [3, 0] rfl
                          have hZc : ZZ (va_A [(o, .inr (4, [.int cd, .int sc, .ref qm, .ref qd, .int ch, .int fe, .int sz, .int rd, .int ca, .int sx, .ref qp, .int co, .int gi, .int aw, .int cg, .int bk, .ref qs, .ref ql, .ref qo, .int ax2_20, .long wi2_21])), (qm, .inl (cJ, 8192, .inr (.inl (mL (wrs M (nth (mS O)) (nmB) kk)))))] H.size) s H := (hZ.kept hS.2.1).narrow hFc
                          refine va_callv (va_runV (As := [.long r_19, .int 1, .long 107]) (rest := []) ⟨hx, hb, hml, hown, hw⟩ (m_put l dC dI o cd sc qm qd ch fe sz rd ca sx qp co gi aw cg bk qs ql qo ax2_20 wi2_21 cJ (wrs M (nth (mS O)) (nmB) kk) r_19 1 107 1 (off r_19) 107 H.size rfl (by decide) hro.1 hro.2 (byt_wrs hM nmB_lt _) rfl (by decide)) (cwV 3 hw (gV w_9c56ffd0dc w_152cce5fe8 w_ffdd99591d w_2b384744dc w_947246c675) rfl rfl rfl (by decide +kernel) ⟨Nat.le_of_ble_eq_true rfl, Nat.le_of_ble_eq_true rfl⟩) ⟨fun a U g mk q => by obtain ⟨q0, q1, qP, qK, qD, qZ⟩ := q; exact ⟨q0, q1, qP, va_K.moved (u := U) (U := U.calling g mk a) (Vm.Alike.refl U.vm) qK, qD, ZZ.same (u := U) (U := U.calling g mk a) rfl qZ⟩, va_recv hKc hPc (ci := 4) (q0 := 0) rfl rfl, fun U hU hW => ⟨rfl, by rw [hU], by rw [hU]; exact hPc, va_K.moved hW.alike hKc, hDc.weaken (fun _ _ _ _ => trivial), by rw [hU]; exact ZZ.warm hW hZc⟩⟩ rfl rfl hl.1 rfl (lv_room (Nat.le_of_ble_eq_true rfl)) dX4_request_358 ⟨Nat.zero_le _, Nat.zero_le _⟩) hS (fun q _ h => hFc q h) hFc (fun u t H1 locs ht hvm hw2 hB hz1 hk1 hS => ?_)
                          obtain ⟨g_31, rfl⟩ : ∃ z, z = u := ⟨_, rfl⟩
                          obtain ⟨hP1, hK1, hD1⟩ := hB
                          rw [ht] at hP1
                          have hK1 := va_K.moved hvm.symm hK1
                          try dsimp only at hw2
                          obtain ⟨hP, hD⟩ := va_join (wr := [(qd, .inl (cJ, 131072, .inr (.inl (mL Dk)))), (qo, .inl (cZ, 16, .inl go)), (ql, .inl (cJ, 16, .inr (.inl gl))), (qs, .inl (cJ, 16, .inr (.inl gs)))]) (w1 := [(o, .inr (4, [.int cd, .int sc, .ref qm, .ref qd, .int ch, .int fe, .int sz, .int rd, .int ca, .int sx, .ref qp, .int co, .int gi, .int aw, .int cg, .int bk, .ref qs, .ref ql, .ref qo, .int ax2_20, .long wi2_21])), (qm, .inl (cJ, 8192, .inr (.inl g_31)))]) hP hD [3, 0] [1, 2, 4, 5] rfl rfl (by decide) (by decide) hk1 hFc hP1 hD1
                          generalize H1 = H at hP hS hk1 ⊢
                          have hP : va_P (dC, dI) vwCl [(qd, .inl (cJ, 131072, .inr (.inl (mL Dk)))), (qo, .inl (cZ, 16, .inl go)), (ql, .inl (cJ, 16, .inr (.inl gl))), (qs, .inl (cJ, 16, .inr (.inl gs))), (o, .inr (4, [.int cd, .int sc, .ref qm, .ref qd, .int ch, .int fe, .int sz, .int rd, .int ca, .int sx, .ref qp, .int co, .int gi, .int aw, .int cg, .int bk, .ref qs, .ref ql, .ref qo, .int ax2_20, .long wi2_21])), (qm, .inl (cJ, 8192, .inr (.inl g_31)))] H := hP
                          have hD : va_D A [(qd, .inl (cJ, 131072, .inr (.inl (mL Dk)))), (qo, .inl (cZ, 16, .inl go)), (ql, .inl (cJ, 16, .inr (.inl gl))), (qs, .inl (cJ, 16, .inr (.inl gs))), (o, .inr (4, [.int cd, .int sc, .ref qm, .ref qd, .int ch, .int fe, .int sz, .int rd, .int ca, .int sx, .ref qp, .int co, .int gi, .int aw, .int cg, .int bk, .ref qs, .ref ql, .ref qo, .int ax2_20, .long wi2_21])), (qm, .inl (cJ, 8192, .inr (.inl g_31)))] := hD
                          have hw_32 : g_31 = mL (pbs (wrs M (nth (mS O)) (nmB) kk) (off r_19) 107 1) := hw2
                          refine lv_lload hx hb dX4_request_361 (lv_at hl 0 rfl) ?_
                          refine lv_lconst (v := 1) hx hb dX4_request_363 (by decide) ?_
                          refine lv_ladd hx hb dX4_request_364 ?_
                          refine lv_topl (fun x_33 ex_33 => ?_)
                          refine lv_lstore (lv' := [(12, .long x_33), (10, .long 20), (9, .int 0), (7, .long r_4), (5, .long r_3), (3, .long r_2), (1, .long r_1), (0, .ref o)]) hx hb dX4_request_365 hl (by decide) rfl (fun ls hl => ?_)
                          refine lv_goto (tgt := 272) hx hb dX4_request_367 (by decide) ?_
                          exact ih (kk + 1) x_33 i2 w2 Q2 ax2_20 wi2_21 g_31 (by omega) (by rw [ex_33, ekx]; exact lN_1 kk) (by omega) (by rw [hw_32, pbs1, hofr, hq0, show wrs M (nth (mS O)) nmB (kk + 1) = va_up (wrs M (nth (mS O)) nmB kk) (nth (mS O) kk) (nmB kk) from rfl, show nmB kk = 107 % 256 by unfold nmB; simp [hn0, hn1, hn2, hn3, hn4]]) (ea2) (ew2) (hseg2) (hwh2) (by omega) (fun d => by rw [hnt2, show w + 1 + d = w + (1 + d) by omega, hnt, Nat.add_assoc]) _ _ (hP.sub [4, 5, 0, 3, 2, 1] rfl) (hD.sub [4, 5, 0, 3, 2, 1] (by decide) rfl) hS ls (lv_sub hl [0, 1, 2, 3, 4, 5, 6, 7] rfl)
                      · skip
                        have hn3 : kk = 3 := by rw [ekx, lce, lN_toInt (by omega), show (3 : Int64).toInt = 3 by decide] at c_26; omega
                        refine lv_ldc2 (v := 99) hx hb hown (hw _ w_9bf0c5dfa8) dX4_request_336 ?_
                        refine lv_goto (tgt := 358) hx hb dX4_request_339 (by decide) ?_
                        have hPc := hP.sub (ws' := [(o, .inr (4, [.int cd, .int sc, .ref qm, .ref qd, .int ch, .int fe, .int sz, .int rd, .int ca, .int sx, .ref qp, .int co, .int gi, .int aw, .int cg, .int bk, .ref qs, .ref ql, .ref qo, .int ax2_20, .long wi2_21])), (qm, .inl (cJ, 8192, .inr (.inl (mL (wrs M (nth (mS O)) (nmB) kk)))))]) [3, 0] rfl
                        have hKc := hK.sub (tys' := [(cJ, .long)]) [0] rfl
                        have hDc := hD.sub (ws' := [(o, .inr (4, [.int cd, .int sc, .ref qm, .ref qd, .int ch, .int fe, .int sz, .int rd, .int ca, .int sx, .ref qp, .int co, .int gi, .int aw, .int cg, .int bk, .ref qs, .ref ql, .ref qo, .int ax2_20, .long wi2_21])), (qm, .inl (cJ, 8192, .inr (.inl (mL (wrs M (nth (mS O)) (nmB) kk)))))]) [3, 0] (by decide) rfl
                        have hFc := va_free (wc := [(o, .inr (4, [.int cd, .int sc, .ref qm, .ref qd, .int ch, .int fe, .int sz, .int rd, .int ca, .int sx, .ref qp, .int co, .int gi, .int aw, .int cg, .int bk, .ref qs, .ref ql, .ref qo, .int ax2_20, .long wi2_21])), (qm, .inl (cJ, 8192, .inr (.inl (mL (wrs M (nth (mS O)) (nmB) kk)))))]) hD hS hA [3, 0] rfl
                        have hZc : ZZ (va_A [(o, .inr (4, [.int cd, .int sc, .ref qm, .ref qd, .int ch, .int fe, .int sz, .int rd, .int ca, .int sx, .ref qp, .int co, .int gi, .int aw, .int cg, .int bk, .ref qs, .ref ql, .ref qo, .int ax2_20, .long wi2_21])), (qm, .inl (cJ, 8192, .inr (.inl (mL (wrs M (nth (mS O)) (nmB) kk)))))] H.size) s H := (hZ.kept hS.2.1).narrow hFc
                        refine va_callv (va_runV (As := [.long r_19, .int 1, .long 99]) (rest := []) ⟨hx, hb, hml, hown, hw⟩ (m_put l dC dI o cd sc qm qd ch fe sz rd ca sx qp co gi aw cg bk qs ql qo ax2_20 wi2_21 cJ (wrs M (nth (mS O)) (nmB) kk) r_19 1 99 1 (off r_19) 99 H.size rfl (by decide) hro.1 hro.2 (byt_wrs hM nmB_lt _) rfl (by decide)) (cwV 3 hw (gV w_9c56ffd0dc w_152cce5fe8 w_ffdd99591d w_2b384744dc w_947246c675) rfl rfl rfl (by decide +kernel) ⟨Nat.le_of_ble_eq_true rfl, Nat.le_of_ble_eq_true rfl⟩) ⟨fun a U g mk q => by obtain ⟨q0, q1, qP, qK, qD, qZ⟩ := q; exact ⟨q0, q1, qP, va_K.moved (u := U) (U := U.calling g mk a) (Vm.Alike.refl U.vm) qK, qD, ZZ.same (u := U) (U := U.calling g mk a) rfl qZ⟩, va_recv hKc hPc (ci := 4) (q0 := 0) rfl rfl, fun U hU hW => ⟨rfl, by rw [hU], by rw [hU]; exact hPc, va_K.moved hW.alike hKc, hDc.weaken (fun _ _ _ _ => trivial), by rw [hU]; exact ZZ.warm hW hZc⟩⟩ rfl rfl hl.1 rfl (lv_room (Nat.le_of_ble_eq_true rfl)) dX4_request_358 ⟨Nat.zero_le _, Nat.zero_le _⟩) hS (fun q _ h => hFc q h) hFc (fun u t H1 locs ht hvm hw2 hB hz1 hk1 hS => ?_)
                        obtain ⟨g_34, rfl⟩ : ∃ z, z = u := ⟨_, rfl⟩
                        obtain ⟨hP1, hK1, hD1⟩ := hB
                        rw [ht] at hP1
                        have hK1 := va_K.moved hvm.symm hK1
                        try dsimp only at hw2
                        obtain ⟨hP, hD⟩ := va_join (wr := [(qd, .inl (cJ, 131072, .inr (.inl (mL Dk)))), (qo, .inl (cZ, 16, .inl go)), (ql, .inl (cJ, 16, .inr (.inl gl))), (qs, .inl (cJ, 16, .inr (.inl gs)))]) (w1 := [(o, .inr (4, [.int cd, .int sc, .ref qm, .ref qd, .int ch, .int fe, .int sz, .int rd, .int ca, .int sx, .ref qp, .int co, .int gi, .int aw, .int cg, .int bk, .ref qs, .ref ql, .ref qo, .int ax2_20, .long wi2_21])), (qm, .inl (cJ, 8192, .inr (.inl g_34)))]) hP hD [3, 0] [1, 2, 4, 5] rfl rfl (by decide) (by decide) hk1 hFc hP1 hD1
                        generalize H1 = H at hP hS hk1 ⊢
                        have hP : va_P (dC, dI) vwCl [(qd, .inl (cJ, 131072, .inr (.inl (mL Dk)))), (qo, .inl (cZ, 16, .inl go)), (ql, .inl (cJ, 16, .inr (.inl gl))), (qs, .inl (cJ, 16, .inr (.inl gs))), (o, .inr (4, [.int cd, .int sc, .ref qm, .ref qd, .int ch, .int fe, .int sz, .int rd, .int ca, .int sx, .ref qp, .int co, .int gi, .int aw, .int cg, .int bk, .ref qs, .ref ql, .ref qo, .int ax2_20, .long wi2_21])), (qm, .inl (cJ, 8192, .inr (.inl g_34)))] H := hP
                        have hD : va_D A [(qd, .inl (cJ, 131072, .inr (.inl (mL Dk)))), (qo, .inl (cZ, 16, .inl go)), (ql, .inl (cJ, 16, .inr (.inl gl))), (qs, .inl (cJ, 16, .inr (.inl gs))), (o, .inr (4, [.int cd, .int sc, .ref qm, .ref qd, .int ch, .int fe, .int sz, .int rd, .int ca, .int sx, .ref qp, .int co, .int gi, .int aw, .int cg, .int bk, .ref qs, .ref ql, .ref qo, .int ax2_20, .long wi2_21])), (qm, .inl (cJ, 8192, .inr (.inl g_34)))] := hD
                        have hw_35 : g_34 = mL (pbs (wrs M (nth (mS O)) (nmB) kk) (off r_19) 99 1) := hw2
                        refine lv_lload hx hb dX4_request_361 (lv_at hl 0 rfl) ?_
                        refine lv_lconst (v := 1) hx hb dX4_request_363 (by decide) ?_
                        refine lv_ladd hx hb dX4_request_364 ?_
                        refine lv_topl (fun x_36 ex_36 => ?_)
                        refine lv_lstore (lv' := [(12, .long x_36), (10, .long 20), (9, .int 0), (7, .long r_4), (5, .long r_3), (3, .long r_2), (1, .long r_1), (0, .ref o)]) hx hb dX4_request_365 hl (by decide) rfl (fun ls hl => ?_)
                        refine lv_goto (tgt := 272) hx hb dX4_request_367 (by decide) ?_
                        exact ih (kk + 1) x_36 i2 w2 Q2 ax2_20 wi2_21 g_34 (by omega) (by rw [ex_36, ekx]; exact lN_1 kk) (by omega) (by rw [hw_35, pbs1, hofr, hq0, show wrs M (nth (mS O)) nmB (kk + 1) = va_up (wrs M (nth (mS O)) nmB kk) (nth (mS O) kk) (nmB kk) from rfl, show nmB kk = 99 % 256 by unfold nmB; simp [hn0, hn1, hn2, hn3]]) (ea2) (ew2) (hseg2) (hwh2) (by omega) (fun d => by rw [hnt2, show w + 1 + d = w + (1 + d) by omega, hnt, Nat.add_assoc]) _ _ (hP.sub [4, 5, 0, 3, 2, 1] rfl) (hD.sub [4, 5, 0, 3, 2, 1] (by decide) rfl) hS ls (lv_sub hl [0, 1, 2, 3, 4, 5, 6, 7] rfl)
                    · skip
                      have hn2 : kk = 2 := by rw [ekx, lce, lN_toInt (by omega), show (2 : Int64).toInt = 2 by decide] at c_25; omega
                      refine lv_ldc2 (v := 111) hx hb hown (hw _ w_a242c3d5c8) dX4_request_321 ?_
                      refine lv_goto (tgt := 358) hx hb dX4_request_324 (by decide) ?_
                      have hPc := hP.sub (ws' := [(o, .inr (4, [.int cd, .int sc, .ref qm, .ref qd, .int ch, .int fe, .int sz, .int rd, .int ca, .int sx, .ref qp, .int co, .int gi, .int aw, .int cg, .int bk, .ref qs, .ref ql, .ref qo, .int ax2_20, .long wi2_21])), (qm, .inl (cJ, 8192, .inr (.inl (mL (wrs M (nth (mS O)) (nmB) kk)))))]) [3, 0] rfl
                      have hKc := hK.sub (tys' := [(cJ, .long)]) [0] rfl
                      have hDc := hD.sub (ws' := [(o, .inr (4, [.int cd, .int sc, .ref qm, .ref qd, .int ch, .int fe, .int sz, .int rd, .int ca, .int sx, .ref qp, .int co, .int gi, .int aw, .int cg, .int bk, .ref qs, .ref ql, .ref qo, .int ax2_20, .long wi2_21])), (qm, .inl (cJ, 8192, .inr (.inl (mL (wrs M (nth (mS O)) (nmB) kk)))))]) [3, 0] (by decide) rfl
                      have hFc := va_free (wc := [(o, .inr (4, [.int cd, .int sc, .ref qm, .ref qd, .int ch, .int fe, .int sz, .int rd, .int ca, .int sx, .ref qp, .int co, .int gi, .int aw, .int cg, .int bk, .ref qs, .ref ql, .ref qo, .int ax2_20, .long wi2_21])), (qm, .inl (cJ, 8192, .inr (.inl (mL (wrs M (nth (mS O)) (nmB) kk)))))]) hD hS hA [3, 0] rfl
                      have hZc : ZZ (va_A [(o, .inr (4, [.int cd, .int sc, .ref qm, .ref qd, .int ch, .int fe, .int sz, .int rd, .int ca, .int sx, .ref qp, .int co, .int gi, .int aw, .int cg, .int bk, .ref qs, .ref ql, .ref qo, .int ax2_20, .long wi2_21])), (qm, .inl (cJ, 8192, .inr (.inl (mL (wrs M (nth (mS O)) (nmB) kk)))))] H.size) s H := (hZ.kept hS.2.1).narrow hFc
                      refine va_callv (va_runV (As := [.long r_19, .int 1, .long 111]) (rest := []) ⟨hx, hb, hml, hown, hw⟩ (m_put l dC dI o cd sc qm qd ch fe sz rd ca sx qp co gi aw cg bk qs ql qo ax2_20 wi2_21 cJ (wrs M (nth (mS O)) (nmB) kk) r_19 1 111 1 (off r_19) 111 H.size rfl (by decide) hro.1 hro.2 (byt_wrs hM nmB_lt _) rfl (by decide)) (cwV 3 hw (gV w_9c56ffd0dc w_152cce5fe8 w_ffdd99591d w_2b384744dc w_947246c675) rfl rfl rfl (by decide +kernel) ⟨Nat.le_of_ble_eq_true rfl, Nat.le_of_ble_eq_true rfl⟩) ⟨fun a U g mk q => by obtain ⟨q0, q1, qP, qK, qD, qZ⟩ := q; exact ⟨q0, q1, qP, va_K.moved (u := U) (U := U.calling g mk a) (Vm.Alike.refl U.vm) qK, qD, ZZ.same (u := U) (U := U.calling g mk a) rfl qZ⟩, va_recv hKc hPc (ci := 4) (q0 := 0) rfl rfl, fun U hU hW => ⟨rfl, by rw [hU], by rw [hU]; exact hPc, va_K.moved hW.alike hKc, hDc.weaken (fun _ _ _ _ => trivial), by rw [hU]; exact ZZ.warm hW hZc⟩⟩ rfl rfl hl.1 rfl (lv_room (Nat.le_of_ble_eq_true rfl)) dX4_request_358 ⟨Nat.zero_le _, Nat.zero_le _⟩) hS (fun q _ h => hFc q h) hFc (fun u t H1 locs ht hvm hw2 hB hz1 hk1 hS => ?_)
                      obtain ⟨g_37, rfl⟩ : ∃ z, z = u := ⟨_, rfl⟩
                      obtain ⟨hP1, hK1, hD1⟩ := hB
                      rw [ht] at hP1
                      have hK1 := va_K.moved hvm.symm hK1
                      try dsimp only at hw2
                      obtain ⟨hP, hD⟩ := va_join (wr := [(qd, .inl (cJ, 131072, .inr (.inl (mL Dk)))), (qo, .inl (cZ, 16, .inl go)), (ql, .inl (cJ, 16, .inr (.inl gl))), (qs, .inl (cJ, 16, .inr (.inl gs)))]) (w1 := [(o, .inr (4, [.int cd, .int sc, .ref qm, .ref qd, .int ch, .int fe, .int sz, .int rd, .int ca, .int sx, .ref qp, .int co, .int gi, .int aw, .int cg, .int bk, .ref qs, .ref ql, .ref qo, .int ax2_20, .long wi2_21])), (qm, .inl (cJ, 8192, .inr (.inl g_37)))]) hP hD [3, 0] [1, 2, 4, 5] rfl rfl (by decide) (by decide) hk1 hFc hP1 hD1
                      generalize H1 = H at hP hS hk1 ⊢
                      have hP : va_P (dC, dI) vwCl [(qd, .inl (cJ, 131072, .inr (.inl (mL Dk)))), (qo, .inl (cZ, 16, .inl go)), (ql, .inl (cJ, 16, .inr (.inl gl))), (qs, .inl (cJ, 16, .inr (.inl gs))), (o, .inr (4, [.int cd, .int sc, .ref qm, .ref qd, .int ch, .int fe, .int sz, .int rd, .int ca, .int sx, .ref qp, .int co, .int gi, .int aw, .int cg, .int bk, .ref qs, .ref ql, .ref qo, .int ax2_20, .long wi2_21])), (qm, .inl (cJ, 8192, .inr (.inl g_37)))] H := hP
                      have hD : va_D A [(qd, .inl (cJ, 131072, .inr (.inl (mL Dk)))), (qo, .inl (cZ, 16, .inl go)), (ql, .inl (cJ, 16, .inr (.inl gl))), (qs, .inl (cJ, 16, .inr (.inl gs))), (o, .inr (4, [.int cd, .int sc, .ref qm, .ref qd, .int ch, .int fe, .int sz, .int rd, .int ca, .int sx, .ref qp, .int co, .int gi, .int aw, .int cg, .int bk, .ref qs, .ref ql, .ref qo, .int ax2_20, .long wi2_21])), (qm, .inl (cJ, 8192, .inr (.inl g_37)))] := hD
                      have hw_38 : g_37 = mL (pbs (wrs M (nth (mS O)) (nmB) kk) (off r_19) 111 1) := hw2
                      refine lv_lload hx hb dX4_request_361 (lv_at hl 0 rfl) ?_
                      refine lv_lconst (v := 1) hx hb dX4_request_363 (by decide) ?_
                      refine lv_ladd hx hb dX4_request_364 ?_
                      refine lv_topl (fun x_39 ex_39 => ?_)
                      refine lv_lstore (lv' := [(12, .long x_39), (10, .long 20), (9, .int 0), (7, .long r_4), (5, .long r_3), (3, .long r_2), (1, .long r_1), (0, .ref o)]) hx hb dX4_request_365 hl (by decide) rfl (fun ls hl => ?_)
                      refine lv_goto (tgt := 272) hx hb dX4_request_367 (by decide) ?_
                      exact ih (kk + 1) x_39 i2 w2 Q2 ax2_20 wi2_21 g_37 (by omega) (by rw [ex_39, ekx]; exact lN_1 kk) (by omega) (by rw [hw_38, pbs1, hofr, hq0, show wrs M (nth (mS O)) nmB (kk + 1) = va_up (wrs M (nth (mS O)) nmB kk) (nth (mS O) kk) (nmB kk) from rfl, show nmB kk = 111 % 256 by unfold nmB; simp [hn0, hn1, hn2]]) (ea2) (ew2) (hseg2) (hwh2) (by omega) (fun d => by rw [hnt2, show w + 1 + d = w + (1 + d) by omega, hnt, Nat.add_assoc]) _ _ (hP.sub [4, 5, 0, 3, 2, 1] rfl) (hD.sub [4, 5, 0, 3, 2, 1] (by decide) rfl) hS ls (lv_sub hl [0, 1, 2, 3, 4, 5, 6, 7] rfl)
                  · skip
                    have hn1 : kk = 1 := by rw [ekx, lce, lN_toInt (by omega), show (1 : Int64).toInt = 1 by decide] at c_24; omega
                    refine lv_ldc2 (v := 108) hx hb hown (hw _ w_12f9603ea7) dX4_request_306 ?_
                    refine lv_goto (tgt := 358) hx hb dX4_request_309 (by decide) ?_
                    have hPc := hP.sub (ws' := [(o, .inr (4, [.int cd, .int sc, .ref qm, .ref qd, .int ch, .int fe, .int sz, .int rd, .int ca, .int sx, .ref qp, .int co, .int gi, .int aw, .int cg, .int bk, .ref qs, .ref ql, .ref qo, .int ax2_20, .long wi2_21])), (qm, .inl (cJ, 8192, .inr (.inl (mL (wrs M (nth (mS O)) (nmB) kk)))))]) [3, 0] rfl
                    have hKc := hK.sub (tys' := [(cJ, .long)]) [0] rfl
                    have hDc := hD.sub (ws' := [(o, .inr (4, [.int cd, .int sc, .ref qm, .ref qd, .int ch, .int fe, .int sz, .int rd, .int ca, .int sx, .ref qp, .int co, .int gi, .int aw, .int cg, .int bk, .ref qs, .ref ql, .ref qo, .int ax2_20, .long wi2_21])), (qm, .inl (cJ, 8192, .inr (.inl (mL (wrs M (nth (mS O)) (nmB) kk)))))]) [3, 0] (by decide) rfl
                    have hFc := va_free (wc := [(o, .inr (4, [.int cd, .int sc, .ref qm, .ref qd, .int ch, .int fe, .int sz, .int rd, .int ca, .int sx, .ref qp, .int co, .int gi, .int aw, .int cg, .int bk, .ref qs, .ref ql, .ref qo, .int ax2_20, .long wi2_21])), (qm, .inl (cJ, 8192, .inr (.inl (mL (wrs M (nth (mS O)) (nmB) kk)))))]) hD hS hA [3, 0] rfl
                    have hZc : ZZ (va_A [(o, .inr (4, [.int cd, .int sc, .ref qm, .ref qd, .int ch, .int fe, .int sz, .int rd, .int ca, .int sx, .ref qp, .int co, .int gi, .int aw, .int cg, .int bk, .ref qs, .ref ql, .ref qo, .int ax2_20, .long wi2_21])), (qm, .inl (cJ, 8192, .inr (.inl (mL (wrs M (nth (mS O)) (nmB) kk)))))] H.size) s H := (hZ.kept hS.2.1).narrow hFc
                    refine va_callv (va_runV (As := [.long r_19, .int 1, .long 108]) (rest := []) ⟨hx, hb, hml, hown, hw⟩ (m_put l dC dI o cd sc qm qd ch fe sz rd ca sx qp co gi aw cg bk qs ql qo ax2_20 wi2_21 cJ (wrs M (nth (mS O)) (nmB) kk) r_19 1 108 1 (off r_19) 108 H.size rfl (by decide) hro.1 hro.2 (byt_wrs hM nmB_lt _) rfl (by decide)) (cwV 3 hw (gV w_9c56ffd0dc w_152cce5fe8 w_ffdd99591d w_2b384744dc w_947246c675) rfl rfl rfl (by decide +kernel) ⟨Nat.le_of_ble_eq_true rfl, Nat.le_of_ble_eq_true rfl⟩) ⟨fun a U g mk q => by obtain ⟨q0, q1, qP, qK, qD, qZ⟩ := q; exact ⟨q0, q1, qP, va_K.moved (u := U) (U := U.calling g mk a) (Vm.Alike.refl U.vm) qK, qD, ZZ.same (u := U) (U := U.calling g mk a) rfl qZ⟩, va_recv hKc hPc (ci := 4) (q0 := 0) rfl rfl, fun U hU hW => ⟨rfl, by rw [hU], by rw [hU]; exact hPc, va_K.moved hW.alike hKc, hDc.weaken (fun _ _ _ _ => trivial), by rw [hU]; exact ZZ.warm hW hZc⟩⟩ rfl rfl hl.1 rfl (lv_room (Nat.le_of_ble_eq_true rfl)) dX4_request_358 ⟨Nat.zero_le _, Nat.zero_le _⟩) hS (fun q _ h => hFc q h) hFc (fun u t H1 locs ht hvm hw2 hB hz1 hk1 hS => ?_)
                    obtain ⟨g_40, rfl⟩ : ∃ z, z = u := ⟨_, rfl⟩
                    obtain ⟨hP1, hK1, hD1⟩ := hB
                    rw [ht] at hP1
                    have hK1 := va_K.moved hvm.symm hK1
                    try dsimp only at hw2
                    obtain ⟨hP, hD⟩ := va_join (wr := [(qd, .inl (cJ, 131072, .inr (.inl (mL Dk)))), (qo, .inl (cZ, 16, .inl go)), (ql, .inl (cJ, 16, .inr (.inl gl))), (qs, .inl (cJ, 16, .inr (.inl gs)))]) (w1 := [(o, .inr (4, [.int cd, .int sc, .ref qm, .ref qd, .int ch, .int fe, .int sz, .int rd, .int ca, .int sx, .ref qp, .int co, .int gi, .int aw, .int cg, .int bk, .ref qs, .ref ql, .ref qo, .int ax2_20, .long wi2_21])), (qm, .inl (cJ, 8192, .inr (.inl g_40)))]) hP hD [3, 0] [1, 2, 4, 5] rfl rfl (by decide) (by decide) hk1 hFc hP1 hD1
                    generalize H1 = H at hP hS hk1 ⊢
                    have hP : va_P (dC, dI) vwCl [(qd, .inl (cJ, 131072, .inr (.inl (mL Dk)))), (qo, .inl (cZ, 16, .inl go)), (ql, .inl (cJ, 16, .inr (.inl gl))), (qs, .inl (cJ, 16, .inr (.inl gs))), (o, .inr (4, [.int cd, .int sc, .ref qm, .ref qd, .int ch, .int fe, .int sz, .int rd, .int ca, .int sx, .ref qp, .int co, .int gi, .int aw, .int cg, .int bk, .ref qs, .ref ql, .ref qo, .int ax2_20, .long wi2_21])), (qm, .inl (cJ, 8192, .inr (.inl g_40)))] H := hP
                    have hD : va_D A [(qd, .inl (cJ, 131072, .inr (.inl (mL Dk)))), (qo, .inl (cZ, 16, .inl go)), (ql, .inl (cJ, 16, .inr (.inl gl))), (qs, .inl (cJ, 16, .inr (.inl gs))), (o, .inr (4, [.int cd, .int sc, .ref qm, .ref qd, .int ch, .int fe, .int sz, .int rd, .int ca, .int sx, .ref qp, .int co, .int gi, .int aw, .int cg, .int bk, .ref qs, .ref ql, .ref qo, .int ax2_20, .long wi2_21])), (qm, .inl (cJ, 8192, .inr (.inl g_40)))] := hD
                    have hw_41 : g_40 = mL (pbs (wrs M (nth (mS O)) (nmB) kk) (off r_19) 108 1) := hw2
                    refine lv_lload hx hb dX4_request_361 (lv_at hl 0 rfl) ?_
                    refine lv_lconst (v := 1) hx hb dX4_request_363 (by decide) ?_
                    refine lv_ladd hx hb dX4_request_364 ?_
                    refine lv_topl (fun x_42 ex_42 => ?_)
                    refine lv_lstore (lv' := [(12, .long x_42), (10, .long 20), (9, .int 0), (7, .long r_4), (5, .long r_3), (3, .long r_2), (1, .long r_1), (0, .ref o)]) hx hb dX4_request_365 hl (by decide) rfl (fun ls hl => ?_)
                    refine lv_goto (tgt := 272) hx hb dX4_request_367 (by decide) ?_
                    exact ih (kk + 1) x_42 i2 w2 Q2 ax2_20 wi2_21 g_40 (by omega) (by rw [ex_42, ekx]; exact lN_1 kk) (by omega) (by rw [hw_41, pbs1, hofr, hq0, show wrs M (nth (mS O)) nmB (kk + 1) = va_up (wrs M (nth (mS O)) nmB kk) (nth (mS O) kk) (nmB kk) from rfl, show nmB kk = 108 % 256 by unfold nmB; simp [hn0, hn1]]) (ea2) (ew2) (hseg2) (hwh2) (by omega) (fun d => by rw [hnt2, show w + 1 + d = w + (1 + d) by omega, hnt, Nat.add_assoc]) _ _ (hP.sub [4, 5, 0, 3, 2, 1] rfl) (hD.sub [4, 5, 0, 3, 2, 1] (by decide) rfl) hS ls (lv_sub hl [0, 1, 2, 3, 4, 5, 6, 7] rfl)
                · skip
                  have hn0 : kk = 0 := by rw [ekx, lce, lN_toInt (by omega), show (0 : Int64).toInt = 0 by decide] at c_23; omega
                  refine lv_ldc2 (v := 98) hx hb hown (hw _ w_ba8c995a55) dX4_request_293 ?_
                  refine lv_goto (tgt := 358) hx hb dX4_request_296 (by decide) ?_
                  have hPc := hP.sub (ws' := [(o, .inr (4, [.int cd, .int sc, .ref qm, .ref qd, .int ch, .int fe, .int sz, .int rd, .int ca, .int sx, .ref qp, .int co, .int gi, .int aw, .int cg, .int bk, .ref qs, .ref ql, .ref qo, .int ax2_20, .long wi2_21])), (qm, .inl (cJ, 8192, .inr (.inl (mL (wrs M (nth (mS O)) (nmB) kk)))))]) [3, 0] rfl
                  have hKc := hK.sub (tys' := [(cJ, .long)]) [0] rfl
                  have hDc := hD.sub (ws' := [(o, .inr (4, [.int cd, .int sc, .ref qm, .ref qd, .int ch, .int fe, .int sz, .int rd, .int ca, .int sx, .ref qp, .int co, .int gi, .int aw, .int cg, .int bk, .ref qs, .ref ql, .ref qo, .int ax2_20, .long wi2_21])), (qm, .inl (cJ, 8192, .inr (.inl (mL (wrs M (nth (mS O)) (nmB) kk)))))]) [3, 0] (by decide) rfl
                  have hFc := va_free (wc := [(o, .inr (4, [.int cd, .int sc, .ref qm, .ref qd, .int ch, .int fe, .int sz, .int rd, .int ca, .int sx, .ref qp, .int co, .int gi, .int aw, .int cg, .int bk, .ref qs, .ref ql, .ref qo, .int ax2_20, .long wi2_21])), (qm, .inl (cJ, 8192, .inr (.inl (mL (wrs M (nth (mS O)) (nmB) kk)))))]) hD hS hA [3, 0] rfl
                  have hZc : ZZ (va_A [(o, .inr (4, [.int cd, .int sc, .ref qm, .ref qd, .int ch, .int fe, .int sz, .int rd, .int ca, .int sx, .ref qp, .int co, .int gi, .int aw, .int cg, .int bk, .ref qs, .ref ql, .ref qo, .int ax2_20, .long wi2_21])), (qm, .inl (cJ, 8192, .inr (.inl (mL (wrs M (nth (mS O)) (nmB) kk)))))] H.size) s H := (hZ.kept hS.2.1).narrow hFc
                  refine va_callv (va_runV (As := [.long r_19, .int 1, .long 98]) (rest := []) ⟨hx, hb, hml, hown, hw⟩ (m_put l dC dI o cd sc qm qd ch fe sz rd ca sx qp co gi aw cg bk qs ql qo ax2_20 wi2_21 cJ (wrs M (nth (mS O)) (nmB) kk) r_19 1 98 1 (off r_19) 98 H.size rfl (by decide) hro.1 hro.2 (byt_wrs hM nmB_lt _) rfl (by decide)) (cwV 3 hw (gV w_9c56ffd0dc w_152cce5fe8 w_ffdd99591d w_2b384744dc w_947246c675) rfl rfl rfl (by decide +kernel) ⟨Nat.le_of_ble_eq_true rfl, Nat.le_of_ble_eq_true rfl⟩) ⟨fun a U g mk q => by obtain ⟨q0, q1, qP, qK, qD, qZ⟩ := q; exact ⟨q0, q1, qP, va_K.moved (u := U) (U := U.calling g mk a) (Vm.Alike.refl U.vm) qK, qD, ZZ.same (u := U) (U := U.calling g mk a) rfl qZ⟩, va_recv hKc hPc (ci := 4) (q0 := 0) rfl rfl, fun U hU hW => ⟨rfl, by rw [hU], by rw [hU]; exact hPc, va_K.moved hW.alike hKc, hDc.weaken (fun _ _ _ _ => trivial), by rw [hU]; exact ZZ.warm hW hZc⟩⟩ rfl rfl hl.1 rfl (lv_room (Nat.le_of_ble_eq_true rfl)) dX4_request_358 ⟨Nat.zero_le _, Nat.zero_le _⟩) hS (fun q _ h => hFc q h) hFc (fun u t H1 locs ht hvm hw2 hB hz1 hk1 hS => ?_)
                  obtain ⟨g_43, rfl⟩ : ∃ z, z = u := ⟨_, rfl⟩
                  obtain ⟨hP1, hK1, hD1⟩ := hB
                  rw [ht] at hP1
                  have hK1 := va_K.moved hvm.symm hK1
                  try dsimp only at hw2
                  obtain ⟨hP, hD⟩ := va_join (wr := [(qd, .inl (cJ, 131072, .inr (.inl (mL Dk)))), (qo, .inl (cZ, 16, .inl go)), (ql, .inl (cJ, 16, .inr (.inl gl))), (qs, .inl (cJ, 16, .inr (.inl gs)))]) (w1 := [(o, .inr (4, [.int cd, .int sc, .ref qm, .ref qd, .int ch, .int fe, .int sz, .int rd, .int ca, .int sx, .ref qp, .int co, .int gi, .int aw, .int cg, .int bk, .ref qs, .ref ql, .ref qo, .int ax2_20, .long wi2_21])), (qm, .inl (cJ, 8192, .inr (.inl g_43)))]) hP hD [3, 0] [1, 2, 4, 5] rfl rfl (by decide) (by decide) hk1 hFc hP1 hD1
                  generalize H1 = H at hP hS hk1 ⊢
                  have hP : va_P (dC, dI) vwCl [(qd, .inl (cJ, 131072, .inr (.inl (mL Dk)))), (qo, .inl (cZ, 16, .inl go)), (ql, .inl (cJ, 16, .inr (.inl gl))), (qs, .inl (cJ, 16, .inr (.inl gs))), (o, .inr (4, [.int cd, .int sc, .ref qm, .ref qd, .int ch, .int fe, .int sz, .int rd, .int ca, .int sx, .ref qp, .int co, .int gi, .int aw, .int cg, .int bk, .ref qs, .ref ql, .ref qo, .int ax2_20, .long wi2_21])), (qm, .inl (cJ, 8192, .inr (.inl g_43)))] H := hP
                  have hD : va_D A [(qd, .inl (cJ, 131072, .inr (.inl (mL Dk)))), (qo, .inl (cZ, 16, .inl go)), (ql, .inl (cJ, 16, .inr (.inl gl))), (qs, .inl (cJ, 16, .inr (.inl gs))), (o, .inr (4, [.int cd, .int sc, .ref qm, .ref qd, .int ch, .int fe, .int sz, .int rd, .int ca, .int sx, .ref qp, .int co, .int gi, .int aw, .int cg, .int bk, .ref qs, .ref ql, .ref qo, .int ax2_20, .long wi2_21])), (qm, .inl (cJ, 8192, .inr (.inl g_43)))] := hD
                  have hw_44 : g_43 = mL (pbs (wrs M (nth (mS O)) (nmB) kk) (off r_19) 98 1) := hw2
                  refine lv_lload hx hb dX4_request_361 (lv_at hl 0 rfl) ?_
                  refine lv_lconst (v := 1) hx hb dX4_request_363 (by decide) ?_
                  refine lv_ladd hx hb dX4_request_364 ?_
                  refine lv_topl (fun x_45 ex_45 => ?_)
                  refine lv_lstore (lv' := [(12, .long x_45), (10, .long 20), (9, .int 0), (7, .long r_4), (5, .long r_3), (3, .long r_2), (1, .long r_1), (0, .ref o)]) hx hb dX4_request_365 hl (by decide) rfl (fun ls hl => ?_)
                  refine lv_goto (tgt := 272) hx hb dX4_request_367 (by decide) ?_
                  exact ih (kk + 1) x_45 i2 w2 Q2 ax2_20 wi2_21 g_43 (by omega) (by rw [ex_45, ekx]; exact lN_1 kk) (by omega) (by rw [hw_44, pbs1, hofr, hq0, show wrs M (nth (mS O)) nmB (kk + 1) = va_up (wrs M (nth (mS O)) nmB kk) (nth (mS O) kk) (nmB kk) from rfl, show nmB kk = 98 % 256 by unfold nmB; simp [hn0]]) (ea2) (ew2) (hseg2) (hwh2) (by omega) (fun d => by rw [hnt2, show w + 1 + d = w + (1 + d) by omega, hnt, Nat.add_assoc]) _ _ (hP.sub [4, 5, 0, 3, 2, 1] rfl) (hD.sub [4, 5, 0, 3, 2, 1] (by decide) rfl) hS ls (lv_sub hl [0, 1, 2, 3, 4, 5, 6, 7] rfl)
          exact loop272 (min (tot (mS O) - 1) 20 + 1) 0 0 C.length 0 (mS O) ax2_14 0 (mL M) (by omega) (rfl) (Nat.zero_le _) (rfl) (hw_15) (rfl) (hsg.1) (Nat.zero_le _) (by omega) (fun _ => rfl) _ _ (hP.sub [4, 0, 1, 2, 3, 5] rfl) (hD.sub [4, 0, 1, 2, 3, 5] (by decide) rfl) hS ls (lv_sub hl [0, 1, 2, 3, 4, 5, 6, 7] rfl)
        · skip
          have hm20 : min (tot (mS O) - 1) 20 = tot (mS O) - 1 := by rw [e5, lcge, lN_toInt (by omega), l20] at c_13; omega
          have e10 : r_3 = lN (min (tot (mS O) - 1) 20) := by rw [hm20]; exact e5
          refine lv_lload hx hb dX4_request_254 (lv_at hl 3 rfl) ?_
          refine lv_goto (tgt := 262) hx hb dX4_request_256 (by decide) ?_
          refine lv_lstore (lv' := [(10, .long r_3), (9, .int 0), (7, .long r_4), (5, .long r_3), (3, .long r_2), (1, .long r_1), (0, .ref o)]) hx hb dX4_request_262 hl (by decide) rfl (fun ls hl => ?_)
          refine lv_aload_n hx hb dX4_request_264 rfl (lv_at hl 6 rfl) ?_
          refine lv_iconst (v := 1) hx hb dX4_request_265 (by decide) ?_
          have hPc := hP.sub (ws' := [(o, .inr (4, [.int cd, .int sc, .ref qm, .ref qd, .int ch, .int fe, .int sz, .int rd, .int ca, .int sx, .ref qp, .int co, .int gi, .int aw, .int cg, .int bk, .ref qs, .ref ql, .ref qo, .int ax, .long wi])), (qo, .inl (cZ, 16, .inl go))]) [0, 5] rfl
          have hKc := hK.sub (tys' := [(cZ, .boolean)]) [1] rfl
          have hDc := hD.sub (ws' := [(o, .inr (4, [.int cd, .int sc, .ref qm, .ref qd, .int ch, .int fe, .int sz, .int rd, .int ca, .int sx, .ref qp, .int co, .int gi, .int aw, .int cg, .int bk, .ref qs, .ref ql, .ref qo, .int ax, .long wi])), (qo, .inl (cZ, 16, .inl go))]) [0, 5] (by decide) rfl
          have hFc := va_free (wc := [(o, .inr (4, [.int cd, .int sc, .ref qm, .ref qd, .int ch, .int fe, .int sz, .int rd, .int ca, .int sx, .ref qp, .int co, .int gi, .int aw, .int cg, .int bk, .ref qs, .ref ql, .ref qo, .int ax, .long wi])), (qo, .inl (cZ, 16, .inl go))]) hD hS hA [0, 5] rfl
          have hZc : ZZ (va_A [(o, .inr (4, [.int cd, .int sc, .ref qm, .ref qd, .int ch, .int fe, .int sz, .int rd, .int ca, .int sx, .ref qp, .int co, .int gi, .int aw, .int cg, .int bk, .ref qs, .ref ql, .ref qo, .int ax, .long wi])), (qo, .inl (cZ, 16, .inl go))] s.heap.size) s s.heap := (hZ.kept hS.2.1).narrow hFc
          refine va_callv (va_runV (As := [.int 1]) (rest := []) ⟨hx, hb, hml, hown, hw⟩ (m_beginData1 l dC dI o cd sc qm qd ch fe sz rd ca sx qp co gi aw cg bk qs ql qo ax wi cZ go C.length s.heap.size hgg.1 hgg.2.1 hgg.2.2.1 (fun i _ h => by rw [hgg.2.2.2 i h]; decide)) (cwV 1 hw (gV w_bfbe5a51b4 w_cd2c971d8c w_ba37063f50 w_2b384744dc w_7825aad9b6) rfl rfl rfl (by decide +kernel) ⟨Nat.le_of_ble_eq_true rfl, Nat.le_of_ble_eq_true rfl⟩) ⟨fun a U g mk q => by obtain ⟨q0, q1, qP, qK, qD, qZ⟩ := q; exact ⟨q0, q1, qP, va_K.moved (u := U) (U := U.calling g mk a) (Vm.Alike.refl U.vm) qK, qD, ZZ.same (u := U) (U := U.calling g mk a) rfl qZ⟩, va_recv hKc hPc (ci := 4) (q0 := 0) rfl rfl, fun U hU hW => ⟨rfl, by rw [hU], by rw [hU]; exact hPc, va_K.moved hW.alike hKc, hDc.weaken (fun _ _ _ _ => trivial), by rw [hU]; exact ZZ.warm hW hZc⟩⟩ rfl rfl hl.1 rfl (lv_room (Nat.le_of_ble_eq_true rfl)) dX4_request_266 ⟨Nat.zero_le _, Nat.zero_le _⟩) hS (fun q _ h => hFc q h) hFc (fun u t H1 locs ht hvm hw2 hB hz1 hk1 hS => ?_)
          obtain ⟨ax2_46, rfl⟩ : ∃ z, z = u := ⟨_, rfl⟩
          obtain ⟨hP1, hK1, hD1⟩ := hB
          rw [ht] at hP1
          have hK1 := va_K.moved hvm.symm hK1
          try dsimp only at hw2
          obtain ⟨hP, hD⟩ := va_join (wr := [(qm, .inl (cJ, 8192, .inr (.inl (mL M)))), (qd, .inl (cJ, 131072, .inr (.inl (mL Dk)))), (qs, .inl (cJ, 16, .inr (.inl gs))), (ql, .inl (cJ, 16, .inr (.inl gl)))]) (w1 := [(o, .inr (4, [.int cd, .int sc, .ref qm, .ref qd, .int ch, .int fe, .int sz, .int rd, .int ca, .int sx, .ref qp, .int co, .int gi, .int aw, .int cg, .int bk, .ref qs, .ref ql, .ref qo, .int ax2_46, .long 0])), (qo, .inl (cZ, 16, .inl go))]) hP hD [0, 5] [1, 2, 3, 4] rfl rfl (by decide) (by decide) hk1 hFc hP1 hD1
          generalize H1 = H at hP hS hk1 ⊢
          have hP : va_P (dC, dI) vwCl [(qm, .inl (cJ, 8192, .inr (.inl (mL M)))), (qd, .inl (cJ, 131072, .inr (.inl (mL Dk)))), (qs, .inl (cJ, 16, .inr (.inl gs))), (ql, .inl (cJ, 16, .inr (.inl gl))), (o, .inr (4, [.int cd, .int sc, .ref qm, .ref qd, .int ch, .int fe, .int sz, .int rd, .int ca, .int sx, .ref qp, .int co, .int gi, .int aw, .int cg, .int bk, .ref qs, .ref ql, .ref qo, .int ax2_46, .long 0])), (qo, .inl (cZ, 16, .inl go))] H := hP
          have hD : va_D A [(qm, .inl (cJ, 8192, .inr (.inl (mL M)))), (qd, .inl (cJ, 131072, .inr (.inl (mL Dk)))), (qs, .inl (cJ, 16, .inr (.inl gs))), (ql, .inl (cJ, 16, .inr (.inl gl))), (o, .inr (4, [.int cd, .int sc, .ref qm, .ref qd, .int ch, .int fe, .int sz, .int rd, .int ca, .int sx, .ref qp, .int co, .int gi, .int aw, .int cg, .int bk, .ref qs, .ref ql, .ref qo, .int ax2_46, .long 0])), (qo, .inl (cZ, 16, .inl go))] := hD
          have hw_47 : ax2_46 = nI C.length := hw2
          refine lv_lconst (v := 0) hx hb dX4_request_269 (by decide) ?_
          refine lv_lstore (lv' := [(12, .long 0), (10, .long r_3), (9, .int 0), (7, .long r_4), (5, .long r_3), (3, .long r_2), (1, .long r_1), (0, .ref o)]) hx hb dX4_request_270 hl (by decide) rfl (fun ls hl => ?_)
          have loop272 : ∀ (N : Nat) (kk : Nat) (kx : Int64) (i : Nat) (w : Nat) (Q : List (Nat × Nat)) (ax3 : Int32) (wi3 : Int64) (g : Nat → Int64) (hN : min (tot (mS O) - 1) 20 - kk < N) (ekx : kx = lN kk) (hkT : kk ≤ min (tot (mS O) - 1) 20) (eg : g = mL (wrs M (nth (mS O)) (nmB) kk)) (ea : ax3 = nI i) (ew : wi3 = lN w) (hseg : seg gs gl i Q) (hwh : w ≤ hdl Q) (hwt : w + (tot (mS O) - kk) = tot Q) (hnt : ∀ d, nth Q (w + d) = nth (mS O) (kk + d)) (H : Heap) (locs : List Loc) (hP : va_P (dC, dI) vwCl [(o, .inr (4, [.int cd, .int sc, .ref qm, .ref qd, .int ch, .int fe, .int sz, .int rd, .int ca, .int sx, .ref qp, .int co, .int gi, .int aw, .int cg, .int bk, .ref qs, .ref ql, .ref qo, .int ax3, .long wi3])), (qm, .inl (cJ, 8192, .inr (.inl g))), (qd, .inl (cJ, 131072, .inr (.inl (mL Dk)))), (qs, .inl (cJ, 16, .inr (.inl gs))), (ql, .inl (cJ, 16, .inr (.inl gl))), (qo, .inl (cZ, 16, .inl go))] H) (hD : va_D A [(o, .inr (4, [.int cd, .int sc, .ref qm, .ref qd, .int ch, .int fe, .int sz, .int rd, .int ca, .int sx, .ref qp, .int co, .int gi, .int aw, .int cg, .int bk, .ref qs, .ref ql, .ref qo, .int ax3, .long wi3])), (qm, .inl (cJ, 8192, .inr (.inl g))), (qd, .inl (cJ, 131072, .inr (.inl (mL Dk)))), (qs, .inl (cJ, 16, .inr (.inl gs))), (ql, .inl (cJ, 16, .inr (.inl gl))), (qo, .inl (cZ, 16, .inl go))]) (hS : va_S A s.heap H locs) (ls : Array Slot) (hl : lv_has ls 14 [(12, .long kx), (10, .long r_3), (9, .int 0), (7, .long r_4), (5, .long r_3), (3, .long r_2), (1, .long r_1), (0, .ref o)]), W p l e (headSpec wsX4_request ({ frames := 2, cells := 0, slots := 0, locals := 100 })).room s m [.ref o].toArray below meth c H locs 0 0 (MQ below (va_Ql (fun (r : Int64) (u : Int32 × Int32 × Int64 × (Nat → Int64) × (Nat → Int64)) => match u with | (cg2, ax2, wi2, gm, gd) => gm = mL (reqS spM M Dk nn cg C O).1 ∧ gd = mL (reqS spM M Dk nn cg C O).2.1 ∧ cg2 = (reqS spM M Dk nn cg C O).2.2.1 ∧ r = lN (reqS spM M Dk nn cg C O).2.2.2) (fun (u : Int32 × Int32 × Int64 × (Nat → Int64) × (Nat → Int64)) (t : State) => match u with | (cg2, ax2, wi2, gm, gd) => va_P (dC, dI) vwCl [(o, .inr (4, [.int cd, .int sc, .ref qm, .ref qd, .int ch, .int fe, .int sz, .int rd, .int ca, .int sx, .ref qp, .int co, .int gi, .int aw, .int cg2, .int bk, .ref qs, .ref ql, .ref qo, .int ax2, .long wi2])), (qm, .inl (cJ, 8192, .inr (.inl gm))), (qd, .inl (cJ, 131072, .inr (.inl gd))), (qs, .inl (cJ, 16, .inr (.inl gs))), (ql, .inl (cJ, 16, .inr (.inl gl))), (qo, .inl (cZ, 16, .inl go))] t.heap ∧ va_K (dC, dI) vwCl [(cJ, .long), (cZ, .boolean)] t ∧ va_D A [(o, .inr (4, [.int cd, .int sc, .ref qm, .ref qd, .int ch, .int fe, .int sz, .int rd, .int ca, .int sx, .ref qp, .int co, .int gi, .int aw, .int cg2, .int bk, .ref qs, .ref ql, .ref qo, .int ax2, .long wi2])), (qm, .inl (cJ, 8192, .inr (.inl gm))), (qd, .inl (cJ, 131072, .inr (.inl gd))), (qs, .inl (cJ, 16, .inr (.inl gs))), (ql, .inl (cJ, 16, .inr (.inl gl))), (qo, .inl (cZ, 16, .inl go))]) A) [.ref o].toArray s 0 0 A) (F0 m 272 ls []) := by
            intro N
            induction N with
            | zero => intro kk kx i w Q ax3 wi3 g hN ekx hkT eg ea ew hseg hwh hwt hnt H locs hP hD hS ls hl; exact absurd hN (Nat.not_lt_zero _)
            | succ N ih =>
              intro kk kx i w Q ax3 wi3 g hN ekx hkT eg ea ew hseg hwh hwt hnt H locs hP hD hS ls hl
              refine lv_lload hx hb dX4_request_272 (lv_at hl 0 rfl) ?_
              refine lv_lload hx hb dX4_request_274 (lv_at hl 1 rfl) ?_
              refine W.lcmp hx hb dX4_request_276 ?_
              refine lv_if_ge (tgt := 370) hx hb dX4_request_277 (by decide) (fun c_48 => ?_) (fun c_48 => ?_)
              · skip
                have hkk : kk = min (tot (mS O) - 1) 20 := by rw [ekx, e10, lcge, lN_toInt (by omega), lN_toInt (by omega)] at c_48; omega
                subst eg
                refine lv_goto (tgt := 384) hx hb dX4_request_370 (by decide) ?_
                have hBq : reqB spM M Dk nn cg C O = (wrs M (nth (mS O)) (nmB) kk, Dk, cg, kk, 0) := by rw [hkk]; unfold reqB; rw [if_neg hkd0, if_neg hkd1, if_pos hkd8]
                refine lv_aload_n hx hb dX4_request_384 rfl (lv_at hl 7 rfl) ?_
                refine lv_aload_n hx hb dX4_request_385 rfl (lv_at hl 7 rfl) ?_
                refine va_get (D := (dC, dI)) (ci := 4) (v := .ref qs) (C := RX4) (T := TX4) (N := 21) hx hb hw inX4 hown hK hP 0 rfl rfl 16 (by decide) (hw _ w_c92d01c177) (fun _ h9 => h9) rfl dX4_request_386 ?_
                refine lv_aload_n hx hb dX4_request_389 rfl (lv_at hl 7 rfl) ?_
                refine va_get (D := (dC, dI)) (ci := 4) (v := .int bk) (C := RX4) (T := TX4) (N := 21) hx hb hw inX4 hown hK hP 0 rfl rfl 15 (by decide) (hw _ w_f0da19b997) (fun _ h9 => h9) rfl dX4_request_390 ?_
                refine lv_iconst (v := 1) hx hb dX4_request_393 (by decide) ?_
                refine lv_isub hx hb dX4_request_394 ?_
                refine va_lald hx hb hK hP 3 0 rfl rfl hla.1 dX4_request_395 ?_
                refine lv_aload_n hx hb dX4_request_396 rfl (lv_at hl 7 rfl) ?_
                refine va_get (D := (dC, dI)) (ci := 4) (v := .ref ql) (C := RX4) (T := TX4) (N := 21) hx hb hw inX4 hown hK hP 0 rfl rfl 17 (by decide) (hw _ w_c20510a516) (fun _ h9 => h9) rfl dX4_request_397 ?_
                refine lv_aload_n hx hb dX4_request_400 rfl (lv_at hl 7 rfl) ?_
                refine va_get (D := (dC, dI)) (ci := 4) (v := .int bk) (C := RX4) (T := TX4) (N := 21) hx hb hw inX4 hown hK hP 0 rfl rfl 15 (by decide) (hw _ w_f0da19b997) (fun _ h9 => h9) rfl dX4_request_401 ?_
                refine lv_iconst (v := 1) hx hb dX4_request_404 (by decide) ?_
                refine lv_isub hx hb dX4_request_405 ?_
                refine va_lald hx hb hK hP 4 0 rfl rfl hla.1 dX4_request_406 ?_
                refine lv_ladd hx hb dX4_request_407 ?_
                refine lv_lconst (v := 1) hx hb dX4_request_408 (by decide) ?_
                refine lv_lsub hx hb dX4_request_409 ?_
                refine lv_iconst (v := 1) hx hb dX4_request_410 (by decide) ?_
                refine lv_iload hx hb dX4_request_411 (lv_at hl 2 rfl) ?_
                refine lv_i2l (v := (0 : Int32).toInt64) hx hb dX4_request_413 rfl ?_
                have hPc := hP.sub (ws' := [(o, .inr (4, [.int cd, .int sc, .ref qm, .ref qd, .int ch, .int fe, .int sz, .int rd, .int ca, .int sx, .ref qp, .int co, .int gi, .int aw, .int cg, .int bk, .ref qs, .ref ql, .ref qo, .int ax3, .long wi3])), (qm, .inl (cJ, 8192, .inr (.inl (mL (wrs M (nth (mS O)) (nmB) kk)))))]) [0, 1] rfl
                have hKc := hK.sub (tys' := [(cJ, .long)]) [0] rfl
                have hDc := hD.sub (ws' := [(o, .inr (4, [.int cd, .int sc, .ref qm, .ref qd, .int ch, .int fe, .int sz, .int rd, .int ca, .int sx, .ref qp, .int co, .int gi, .int aw, .int cg, .int bk, .ref qs, .ref ql, .ref qo, .int ax3, .long wi3])), (qm, .inl (cJ, 8192, .inr (.inl (mL (wrs M (nth (mS O)) (nmB) kk)))))]) [0, 1] (by decide) rfl
                have hFc := va_free (wc := [(o, .inr (4, [.int cd, .int sc, .ref qm, .ref qd, .int ch, .int fe, .int sz, .int rd, .int ca, .int sx, .ref qp, .int co, .int gi, .int aw, .int cg, .int bk, .ref qs, .ref ql, .ref qo, .int ax3, .long wi3])), (qm, .inl (cJ, 8192, .inr (.inl (mL (wrs M (nth (mS O)) (nmB) kk)))))]) hD hS hA [0, 1] rfl
                have hZc : ZZ (va_A [(o, .inr (4, [.int cd, .int sc, .ref qm, .ref qd, .int ch, .int fe, .int sz, .int rd, .int ca, .int sx, .ref qp, .int co, .int gi, .int aw, .int cg, .int bk, .ref qs, .ref ql, .ref qo, .int ax3, .long wi3])), (qm, .inl (cJ, 8192, .inr (.inl (mL (wrs M (nth (mS O)) (nmB) kk)))))] H.size) s H := (hZ.kept hS.2.1).narrow hFc
                refine va_callv (va_runV (As := [.long (((gs (bk - 1).toNatClampNeg) + (gl (bk - 1).toNatClampNeg)) - 1), .int 1, .long ((0 : Int32).toInt64)]) (rest := []) ⟨hx, hb, hml, hown, hw⟩ (m_put l dC dI o cd sc qm qd ch fe sz rd ca sx qp co gi aw cg bk qs ql qo ax3 wi3 cJ (wrs M (nth (mS O)) (nmB) kk) (((gs (bk - 1).toNatClampNeg) + (gl (bk - 1).toNatClampNeg)) - 1) 1 ((0 : Int32).toInt64) 1 (rpl O) 0 H.size rfl (by decide) hla.2.1 hla.2.2 (byt_wrs hM nmB_lt _) rfl (by decide)) (cwV 3 hw (gV w_9c56ffd0dc w_152cce5fe8 w_ffdd99591d w_2b384744dc w_947246c675) rfl rfl rfl (by decide +kernel) ⟨Nat.le_of_ble_eq_true rfl, Nat.le_of_ble_eq_true rfl⟩) ⟨fun a U g mk q => by obtain ⟨q0, q1, qP, qK, qD, qZ⟩ := q; exact ⟨q0, q1, qP, va_K.moved (u := U) (U := U.calling g mk a) (Vm.Alike.refl U.vm) qK, qD, ZZ.same (u := U) (U := U.calling g mk a) rfl qZ⟩, va_recv hKc hPc (ci := 4) (q0 := 0) rfl rfl, fun U hU hW => ⟨rfl, by rw [hU], by rw [hU]; exact hPc, va_K.moved hW.alike hKc, hDc.weaken (fun _ _ _ _ => trivial), by rw [hU]; exact ZZ.warm hW hZc⟩⟩ rfl rfl hl.1 rfl (lv_room (Nat.le_of_ble_eq_true rfl)) dX4_request_414 ⟨Nat.zero_le _, Nat.zero_le _⟩) hS (fun q _ h => hFc q h) hFc (fun u t H1 locs ht hvm hw2 hB hz1 hk1 hS => ?_)
                obtain ⟨g_49, rfl⟩ : ∃ z, z = u := ⟨_, rfl⟩
                obtain ⟨hP1, hK1, hD1⟩ := hB
                rw [ht] at hP1
                have hK1 := va_K.moved hvm.symm hK1
                try dsimp only at hw2
                obtain ⟨hP, hD⟩ := va_join (wr := [(qd, .inl (cJ, 131072, .inr (.inl (mL Dk)))), (qs, .inl (cJ, 16, .inr (.inl gs))), (ql, .inl (cJ, 16, .inr (.inl gl))), (qo, .inl (cZ, 16, .inl go))]) (w1 := [(o, .inr (4, [.int cd, .int sc, .ref qm, .ref qd, .int ch, .int fe, .int sz, .int rd, .int ca, .int sx, .ref qp, .int co, .int gi, .int aw, .int cg, .int bk, .ref qs, .ref ql, .ref qo, .int ax3, .long wi3])), (qm, .inl (cJ, 8192, .inr (.inl g_49)))]) hP hD [0, 1] [2, 3, 4, 5] rfl rfl (by decide) (by decide) hk1 hFc hP1 hD1
                generalize H1 = H at hP hS hk1 ⊢
                have hP : va_P (dC, dI) vwCl [(qd, .inl (cJ, 131072, .inr (.inl (mL Dk)))), (qs, .inl (cJ, 16, .inr (.inl gs))), (ql, .inl (cJ, 16, .inr (.inl gl))), (qo, .inl (cZ, 16, .inl go)), (o, .inr (4, [.int cd, .int sc, .ref qm, .ref qd, .int ch, .int fe, .int sz, .int rd, .int ca, .int sx, .ref qp, .int co, .int gi, .int aw, .int cg, .int bk, .ref qs, .ref ql, .ref qo, .int ax3, .long wi3])), (qm, .inl (cJ, 8192, .inr (.inl g_49)))] H := hP
                have hD : va_D A [(qd, .inl (cJ, 131072, .inr (.inl (mL Dk)))), (qs, .inl (cJ, 16, .inr (.inl gs))), (ql, .inl (cJ, 16, .inr (.inl gl))), (qo, .inl (cZ, 16, .inl go)), (o, .inr (4, [.int cd, .int sc, .ref qm, .ref qd, .int ch, .int fe, .int sz, .int rd, .int ca, .int sx, .ref qp, .int co, .int gi, .int aw, .int cg, .int bk, .ref qs, .ref ql, .ref qo, .int ax3, .long wi3])), (qm, .inl (cJ, 8192, .inr (.inl g_49)))] := hD
                have hw_50 : g_49 = mL (pbs (wrs M (nth (mS O)) (nmB) kk) (rpl O) 0 1) := hw2
                refine lv_lload hx hb dX4_request_417 (lv_at hl 1 rfl) ?_
                refine lv_lconst (v := 1) hx hb dX4_request_419 (by decide) ?_
                refine lv_ladd hx hb dX4_request_420 ?_
                have hP9 : va_P (dC, dI) vwCl [(o, .inr (4, [.int cd, .int sc, .ref qm, .ref qd, .int ch, .int fe, .int sz, .int rd, .int ca, .int sx, .ref qp, .int co, .int gi, .int aw, .int cg, .int bk, .ref qs, .ref ql, .ref qo, .int ax3, .long wi3])), (qm, .inl (cJ, 8192, .inr (.inl g_49))), (qd, .inl (cJ, 131072, .inr (.inl (mL Dk)))), (qs, .inl (cJ, 16, .inr (.inl gs))), (ql, .inl (cJ, 16, .inr (.inl gl))), (qo, .inl (cZ, 16, .inl go))] H := by exact hP.sub (ws' := [(o, .inr (4, [.int cd, .int sc, .ref qm, .ref qd, .int ch, .int fe, .int sz, .int rd, .int ca, .int sx, .ref qp, .int co, .int gi, .int aw, .int cg, .int bk, .ref qs, .ref ql, .ref qo, .int ax3, .long wi3])), (qm, .inl (cJ, 8192, .inr (.inl g_49))), (qd, .inl (cJ, 131072, .inr (.inl (mL Dk)))), (qs, .inl (cJ, 16, .inr (.inl gs))), (ql, .inl (cJ, 16, .inr (.inl gl))), (qo, .inl (cZ, 16, .inl go))]) [4, 5, 0, 1, 2, 3] rfl
                have hD9 : va_D A [(o, .inr (4, [.int cd, .int sc, .ref qm, .ref qd, .int ch, .int fe, .int sz, .int rd, .int ca, .int sx, .ref qp, .int co, .int gi, .int aw, .int cg, .int bk, .ref qs, .ref ql, .ref qo, .int ax3, .long wi3])), (qm, .inl (cJ, 8192, .inr (.inl g_49))), (qd, .inl (cJ, 131072, .inr (.inl (mL Dk)))), (qs, .inl (cJ, 16, .inr (.inl gs))), (ql, .inl (cJ, 16, .inr (.inl gl))), (qo, .inl (cZ, 16, .inl go))] := by exact hD.sub (ws' := [(o, .inr (4, [.int cd, .int sc, .ref qm, .ref qd, .int ch, .int fe, .int sz, .int rd, .int ca, .int sx, .ref qp, .int co, .int gi, .int aw, .int cg, .int bk, .ref qs, .ref ql, .ref qo, .int ax3, .long wi3])), (qm, .inl (cJ, 8192, .inr (.inl g_49))), (qd, .inl (cJ, 131072, .inr (.inl (mL Dk)))), (qs, .inl (cJ, 16, .inr (.inl gs))), (ql, .inl (cJ, 16, .inr (.inl gl))), (qo, .inl (cZ, 16, .inl go))]) [4, 5, 0, 1, 2, 3] (by decide) rfl
                have hK9 := hK.sub (tys' := [(cJ, .long), (cZ, .boolean)]) [0, 1] rfl
                exact W.lret (v := r_3 + 1) hx hb hr (fun t ht hW => ⟨⟨_, (cg, ax3, wi3, g_49, mL Dk), rfl, (by unfold reqS; rw [hBq]; exact ⟨by rw [hw_50, pbs1]; rfl, rfl, rfl, (by rw [e10, hkk]; exact lN_1 _)⟩), by rw [ht]; exact hP9, va_K.moved hW.alike hK9, hD9⟩, hS.F ht⟩) hS.2.2 dX4_request_421
              · skip
                have hkk : kk < min (tot (mS O) - 1) 20 := by rw [ekx, e10, lcge, lN_toInt (by omega), lN_toInt (by omega)] at c_48; omega
                subst eg
                refine lv_aload_n hx hb dX4_request_280 rfl (lv_at hl 7 rfl) ?_
                refine lv_aload_n hx hb dX4_request_281 rfl (lv_at hl 7 rfl) ?_
                have hPc := hP.sub (ws' := [(o, .inr (4, [.int cd, .int sc, .ref qm, .ref qd, .int ch, .int fe, .int sz, .int rd, .int ca, .int sx, .ref qp, .int co, .int gi, .int aw, .int cg, .int bk, .ref qs, .ref ql, .ref qo, .int ax3, .long wi3])), (ql, .inl (cJ, 16, .inr (.inl gl))), (qs, .inl (cJ, 16, .inr (.inl gs)))]) [0, 4, 3] rfl
                have hKc := hK.sub (tys' := [(cJ, .long)]) [0] rfl
                have hDc := hD.sub (ws' := [(o, .inr (4, [.int cd, .int sc, .ref qm, .ref qd, .int ch, .int fe, .int sz, .int rd, .int ca, .int sx, .ref qp, .int co, .int gi, .int aw, .int cg, .int bk, .ref qs, .ref ql, .ref qo, .int ax3, .long wi3])), (ql, .inl (cJ, 16, .inr (.inl gl))), (qs, .inl (cJ, 16, .inr (.inl gs)))]) [0, 4, 3] (by decide) rfl
                have hFc := va_free (wc := [(o, .inr (4, [.int cd, .int sc, .ref qm, .ref qd, .int ch, .int fe, .int sz, .int rd, .int ca, .int sx, .ref qp, .int co, .int gi, .int aw, .int cg, .int bk, .ref qs, .ref ql, .ref qo, .int ax3, .long wi3])), (ql, .inl (cJ, 16, .inr (.inl gl))), (qs, .inl (cJ, 16, .inr (.inl gs)))]) hD hS hA [0, 4, 3] rfl
                have hZc : ZZ (va_A [(o, .inr (4, [.int cd, .int sc, .ref qm, .ref qd, .int ch, .int fe, .int sz, .int rd, .int ca, .int sx, .ref qp, .int co, .int gi, .int aw, .int cg, .int bk, .ref qs, .ref ql, .ref qo, .int ax3, .long wi3])), (ql, .inl (cJ, 16, .inr (.inl gl))), (qs, .inl (cJ, 16, .inr (.inl gs)))] H.size) s H := (hZ.kept hS.2.1).narrow hFc
                refine va_calll (va_runV (As := []) (rest := [.ref o]) ⟨hx, hb, hml, hown, hw⟩ (m_nextByte l dC dI o cd sc qm qd ch fe sz rd ca sx qp co gi aw cg bk qs ql qo ax3 wi3 cJ gs gl i w Q H.size ea ew hseg hwh (by omega)) (cwV 0 hw (gV w_a95c20584f w_7f5d544229 w_2d0be2425c w_2b384744dc w_93b28c0a11) rfl rfl rfl (by decide +kernel) ⟨Nat.le_of_ble_eq_true rfl, Nat.le_of_ble_eq_true rfl⟩) ⟨fun a U g mk q => by obtain ⟨q0, q1, qP, qK, qD, qZ⟩ := q; exact ⟨q0, q1, qP, va_K.moved (u := U) (U := U.calling g mk a) (Vm.Alike.refl U.vm) qK, qD, ZZ.same (u := U) (U := U.calling g mk a) rfl qZ⟩, va_recv hKc hPc (ci := 4) (q0 := 0) rfl rfl, fun U hU hW => ⟨rfl, by rw [hU], by rw [hU]; exact hPc, va_K.moved hW.alike hKc, hDc.weaken (fun _ _ _ _ => trivial), by rw [hU]; exact ZZ.warm hW hZc⟩⟩ rfl rfl hl.1 rfl (lv_room (Nat.le_of_ble_eq_true rfl)) dX4_request_282 ⟨Nat.zero_le _, Nat.zero_le _⟩) hS (fun q _ h => hFc q h) hFc (fun r_51 u t H1 locs ht hvm hw2 hB hz1 hk1 hS => ?_)
                obtain ⟨ax2_52, wi2_53⟩ := u
                obtain ⟨hP1, hK1, hD1⟩ := hB
                rw [ht] at hP1
                have hK1 := va_K.moved hvm.symm hK1
                try dsimp only at hw2
                obtain ⟨hP, hD⟩ := va_join (wr := [(qm, .inl (cJ, 8192, .inr (.inl (mL (wrs M (nth (mS O)) (nmB) kk))))), (qd, .inl (cJ, 131072, .inr (.inl (mL Dk)))), (qo, .inl (cZ, 16, .inl go))]) (w1 := [(o, .inr (4, [.int cd, .int sc, .ref qm, .ref qd, .int ch, .int fe, .int sz, .int rd, .int ca, .int sx, .ref qp, .int co, .int gi, .int aw, .int cg, .int bk, .ref qs, .ref ql, .ref qo, .int ax2_52, .long wi2_53])), (ql, .inl (cJ, 16, .inr (.inl gl))), (qs, .inl (cJ, 16, .inr (.inl gs)))]) hP hD [0, 4, 3] [1, 2, 5] rfl rfl (by decide) (by decide) hk1 hFc hP1 hD1
                generalize H1 = H at hP hS hk1 ⊢
                have hP : va_P (dC, dI) vwCl [(qm, .inl (cJ, 8192, .inr (.inl (mL (wrs M (nth (mS O)) (nmB) kk))))), (qd, .inl (cJ, 131072, .inr (.inl (mL Dk)))), (qo, .inl (cZ, 16, .inl go)), (o, .inr (4, [.int cd, .int sc, .ref qm, .ref qd, .int ch, .int fe, .int sz, .int rd, .int ca, .int sx, .ref qp, .int co, .int gi, .int aw, .int cg, .int bk, .ref qs, .ref ql, .ref qo, .int ax2_52, .long wi2_53])), (ql, .inl (cJ, 16, .inr (.inl gl))), (qs, .inl (cJ, 16, .inr (.inl gs)))] H := hP
                have hD : va_D A [(qm, .inl (cJ, 8192, .inr (.inl (mL (wrs M (nth (mS O)) (nmB) kk))))), (qd, .inl (cJ, 131072, .inr (.inl (mL Dk)))), (qo, .inl (cZ, 16, .inl go)), (o, .inr (4, [.int cd, .int sc, .ref qm, .ref qd, .int ch, .int fe, .int sz, .int rd, .int ca, .int sx, .ref qp, .int co, .int gi, .int aw, .int cg, .int bk, .ref qs, .ref ql, .ref qo, .int ax2_52, .long wi2_53])), (ql, .inl (cJ, 16, .inr (.inl gl))), (qs, .inl (cJ, 16, .inr (.inl gs)))] := hD
                have hw_54 : (∃ (i2 w2 : Nat) (R2 : List (Nat × Nat)), ax2_52 = nI i2 ∧ wi2_53 = lN w2 ∧ seg gs gl i2 R2 ∧ w2 ≤ hdl R2 ∧ w2 + (tot Q - w) = tot R2 + 1 ∧ ∀ d, nth R2 (w2 + d) = nth Q (w + 1 + d)) ∧ thP r_51 1 ∧ off r_51 = nth Q w := hw2
                obtain ⟨⟨i2, w2, Q2, ea2, ew2, hseg2, hwh2, hwt2, hnt2⟩, hthr, hofr⟩ := hw_54
                have hq0 : nth Q w = nth (mS O) kk := hnt 0
                have hro := off_0 (ct := 1) hthr (by decide) (by decide)
                refine lv_iconst (v := 1) hx hb dX4_request_285 (by decide) ?_
                refine lv_lload hx hb dX4_request_286 (lv_at hl 0 rfl) ?_
                refine lv_lconst (v := 0) hx hb dX4_request_288 (by decide) ?_
                refine W.lcmp hx hb dX4_request_289 ?_
                refine lv_if_ne (tgt := 299) hx hb dX4_request_290 (by decide) (fun c_55 => ?_) (fun c_55 => ?_)
                · skip
                  have hn0 : ¬ kk = 0 := by rw [ekx, lce, lN_toInt (by omega), show (0 : Int64).toInt = 0 by decide] at c_55; omega
                  refine lv_lload hx hb dX4_request_299 (lv_at hl 0 rfl) ?_
                  refine lv_lconst (v := 1) hx hb dX4_request_301 (by decide) ?_
                  refine W.lcmp hx hb dX4_request_302 ?_
                  refine lv_if_ne (tgt := 312) hx hb dX4_request_303 (by decide) (fun c_56 => ?_) (fun c_56 => ?_)
                  · skip
                    have hn1 : ¬ kk = 1 := by rw [ekx, lce, lN_toInt (by omega), show (1 : Int64).toInt = 1 by decide] at c_56; omega
                    refine lv_lload hx hb dX4_request_312 (lv_at hl 0 rfl) ?_
                    refine lv_ldc2 (v := 2) hx hb hown (hw _ w_2d5b7c9aed) dX4_request_314 ?_
                    refine W.lcmp hx hb dX4_request_317 ?_
                    refine lv_if_ne (tgt := 327) hx hb dX4_request_318 (by decide) (fun c_57 => ?_) (fun c_57 => ?_)
                    · skip
                      have hn2 : ¬ kk = 2 := by rw [ekx, lce, lN_toInt (by omega), show (2 : Int64).toInt = 2 by decide] at c_57; omega
                      refine lv_lload hx hb dX4_request_327 (lv_at hl 0 rfl) ?_
                      refine lv_ldc2 (v := 3) hx hb hown (hw _ w_91e6d6fa96) dX4_request_329 ?_
                      refine W.lcmp hx hb dX4_request_332 ?_
                      refine lv_if_ne (tgt := 342) hx hb dX4_request_333 (by decide) (fun c_58 => ?_) (fun c_58 => ?_)
                      · skip
                        have hn3 : ¬ kk = 3 := by rw [ekx, lce, lN_toInt (by omega), show (3 : Int64).toInt = 3 by decide] at c_58; omega
                        refine lv_lload hx hb dX4_request_342 (lv_at hl 0 rfl) ?_
                        refine lv_ldc2 (v := 4) hx hb hown (hw _ w_5418fa3b47) dX4_request_344 ?_
                        refine W.lcmp hx hb dX4_request_347 ?_
                        refine lv_if_ne (tgt := 357) hx hb dX4_request_348 (by decide) (fun c_59 => ?_) (fun c_59 => ?_)
                        · skip
                          have hn4 : ¬ kk = 4 := by rw [ekx, lce, lN_toInt (by omega), show (4 : Int64).toInt = 4 by decide] at c_59; omega
                          refine lv_lconst (v := 0) hx hb dX4_request_357 (by decide) ?_
                          have hPc := hP.sub (ws' := [(o, .inr (4, [.int cd, .int sc, .ref qm, .ref qd, .int ch, .int fe, .int sz, .int rd, .int ca, .int sx, .ref qp, .int co, .int gi, .int aw, .int cg, .int bk, .ref qs, .ref ql, .ref qo, .int ax2_52, .long wi2_53])), (qm, .inl (cJ, 8192, .inr (.inl (mL (wrs M (nth (mS O)) (nmB) kk)))))]) [3, 0] rfl
                          have hKc := hK.sub (tys' := [(cJ, .long)]) [0] rfl
                          have hDc := hD.sub (ws' := [(o, .inr (4, [.int cd, .int sc, .ref qm, .ref qd, .int ch, .int fe, .int sz, .int rd, .int ca, .int sx, .ref qp, .int co, .int gi, .int aw, .int cg, .int bk, .ref qs, .ref ql, .ref qo, .int ax2_52, .long wi2_53])), (qm, .inl (cJ, 8192, .inr (.inl (mL (wrs M (nth (mS O)) (nmB) kk)))))]) [3, 0] (by decide) rfl
                          have hFc := va_free (wc := [(o, .inr (4, [.int cd, .int sc, .ref qm, .ref qd, .int ch, .int fe, .int sz, .int rd, .int ca, .int sx, .ref qp, .int co, .int gi, .int aw, .int cg, .int bk, .ref qs, .ref ql, .ref qo, .int ax2_52, .long wi2_53])), (qm, .inl (cJ, 8192, .inr (.inl (mL (wrs M (nth (mS O)) (nmB) kk)))))]) hD hS hA [3, 0] rfl
                          have hZc : ZZ (va_A [(o, .inr (4, [.int cd, .int sc, .ref qm, .ref qd, .int ch, .int fe, .int sz, .int rd, .int ca, .int sx, .ref qp, .int co, .int gi, .int aw, .int cg, .int bk, .ref qs, .ref ql, .ref qo, .int ax2_52, .long wi2_53])), (qm, .inl (cJ, 8192, .inr (.inl (mL (wrs M (nth (mS O)) (nmB) kk)))))] H.size) s H := (hZ.kept hS.2.1).narrow hFc
                          refine va_callv (va_runV (As := [.long r_51, .int 1, .long 0]) (rest := []) ⟨hx, hb, hml, hown, hw⟩ (m_put l dC dI o cd sc qm qd ch fe sz rd ca sx qp co gi aw cg bk qs ql qo ax2_52 wi2_53 cJ (wrs M (nth (mS O)) (nmB) kk) r_51 1 0 1 (off r_51) 0 H.size rfl (by decide) hro.1 hro.2 (byt_wrs hM nmB_lt _) rfl (by decide)) (cwV 3 hw (gV w_9c56ffd0dc w_152cce5fe8 w_ffdd99591d w_2b384744dc w_947246c675) rfl rfl rfl (by decide +kernel) ⟨Nat.le_of_ble_eq_true rfl, Nat.le_of_ble_eq_true rfl⟩) ⟨fun a U g mk q => by obtain ⟨q0, q1, qP, qK, qD, qZ⟩ := q; exact ⟨q0, q1, qP, va_K.moved (u := U) (U := U.calling g mk a) (Vm.Alike.refl U.vm) qK, qD, ZZ.same (u := U) (U := U.calling g mk a) rfl qZ⟩, va_recv hKc hPc (ci := 4) (q0 := 0) rfl rfl, fun U hU hW => ⟨rfl, by rw [hU], by rw [hU]; exact hPc, va_K.moved hW.alike hKc, hDc.weaken (fun _ _ _ _ => trivial), by rw [hU]; exact ZZ.warm hW hZc⟩⟩ rfl rfl hl.1 rfl (lv_room (Nat.le_of_ble_eq_true rfl)) dX4_request_358 ⟨Nat.zero_le _, Nat.zero_le _⟩) hS (fun q _ h => hFc q h) hFc (fun u t H1 locs ht hvm hw2 hB hz1 hk1 hS => ?_)
                          obtain ⟨g_60, rfl⟩ : ∃ z, z = u := ⟨_, rfl⟩
                          obtain ⟨hP1, hK1, hD1⟩ := hB
                          rw [ht] at hP1
                          have hK1 := va_K.moved hvm.symm hK1
                          try dsimp only at hw2
                          obtain ⟨hP, hD⟩ := va_join (wr := [(qd, .inl (cJ, 131072, .inr (.inl (mL Dk)))), (qo, .inl (cZ, 16, .inl go)), (ql, .inl (cJ, 16, .inr (.inl gl))), (qs, .inl (cJ, 16, .inr (.inl gs)))]) (w1 := [(o, .inr (4, [.int cd, .int sc, .ref qm, .ref qd, .int ch, .int fe, .int sz, .int rd, .int ca, .int sx, .ref qp, .int co, .int gi, .int aw, .int cg, .int bk, .ref qs, .ref ql, .ref qo, .int ax2_52, .long wi2_53])), (qm, .inl (cJ, 8192, .inr (.inl g_60)))]) hP hD [3, 0] [1, 2, 4, 5] rfl rfl (by decide) (by decide) hk1 hFc hP1 hD1
                          generalize H1 = H at hP hS hk1 ⊢
                          have hP : va_P (dC, dI) vwCl [(qd, .inl (cJ, 131072, .inr (.inl (mL Dk)))), (qo, .inl (cZ, 16, .inl go)), (ql, .inl (cJ, 16, .inr (.inl gl))), (qs, .inl (cJ, 16, .inr (.inl gs))), (o, .inr (4, [.int cd, .int sc, .ref qm, .ref qd, .int ch, .int fe, .int sz, .int rd, .int ca, .int sx, .ref qp, .int co, .int gi, .int aw, .int cg, .int bk, .ref qs, .ref ql, .ref qo, .int ax2_52, .long wi2_53])), (qm, .inl (cJ, 8192, .inr (.inl g_60)))] H := hP
                          have hD : va_D A [(qd, .inl (cJ, 131072, .inr (.inl (mL Dk)))), (qo, .inl (cZ, 16, .inl go)), (ql, .inl (cJ, 16, .inr (.inl gl))), (qs, .inl (cJ, 16, .inr (.inl gs))), (o, .inr (4, [.int cd, .int sc, .ref qm, .ref qd, .int ch, .int fe, .int sz, .int rd, .int ca, .int sx, .ref qp, .int co, .int gi, .int aw, .int cg, .int bk, .ref qs, .ref ql, .ref qo, .int ax2_52, .long wi2_53])), (qm, .inl (cJ, 8192, .inr (.inl g_60)))] := hD
                          have hw_61 : g_60 = mL (pbs (wrs M (nth (mS O)) (nmB) kk) (off r_51) 0 1) := hw2
                          refine lv_lload hx hb dX4_request_361 (lv_at hl 0 rfl) ?_
                          refine lv_lconst (v := 1) hx hb dX4_request_363 (by decide) ?_
                          refine lv_ladd hx hb dX4_request_364 ?_
                          refine lv_topl (fun x_62 ex_62 => ?_)
                          refine lv_lstore (lv' := [(12, .long x_62), (10, .long r_3), (9, .int 0), (7, .long r_4), (5, .long r_3), (3, .long r_2), (1, .long r_1), (0, .ref o)]) hx hb dX4_request_365 hl (by decide) rfl (fun ls hl => ?_)
                          refine lv_goto (tgt := 272) hx hb dX4_request_367 (by decide) ?_
                          exact ih (kk + 1) x_62 i2 w2 Q2 ax2_52 wi2_53 g_60 (by omega) (by rw [ex_62, ekx]; exact lN_1 kk) (by omega) (by rw [hw_61, pbs1, hofr, hq0, show wrs M (nth (mS O)) nmB (kk + 1) = va_up (wrs M (nth (mS O)) nmB kk) (nth (mS O) kk) (nmB kk) from rfl, show nmB kk = 0 % 256 by unfold nmB; simp [hn0, hn1, hn2, hn3, hn4]]) (ea2) (ew2) (hseg2) (hwh2) (by omega) (fun d => by rw [hnt2, show w + 1 + d = w + (1 + d) by omega, hnt, Nat.add_assoc]) _ _ (hP.sub [4, 5, 0, 3, 2, 1] rfl) (hD.sub [4, 5, 0, 3, 2, 1] (by decide) rfl) hS ls (lv_sub hl [0, 1, 2, 3, 4, 5, 6, 7] rfl)
                        · skip
                          have hn4 : kk = 4 := by rw [ekx, lce, lN_toInt (by omega), show (4 : Int64).toInt = 4 by decide] at c_59; omega
                          refine lv_ldc2 (v := 107) hx hb hown (hw _ w_f9a01163de) dX4_request_351 ?_
                          refine lv_goto (tgt := 358) hx hb dX4_request_354 (by decide) ?_
                          have hPc := hP.sub (ws' := [(o, .inr (4, [.int cd, .int sc, .ref qm, .ref qd, .int ch, .int fe, .int sz, .int rd, .int ca, .int sx, .ref qp, .int co, .int gi, .int aw, .int cg, .int bk, .ref qs, .ref ql, .ref qo, .int ax2_52, .long wi2_53])), (qm, .inl (cJ, 8192, .inr (.inl (mL (wrs M (nth (mS O)) (nmB) kk)))))]) [3, 0] rfl
                          have hKc := hK.sub (tys' := [(cJ, .long)]) [0] rfl
                          have hDc := hD.sub (ws' := [(o, .inr (4, [.int cd, .int sc, .ref qm, .ref qd, .int ch, .int fe, .int sz, .int rd, .int ca, .int sx, .ref qp, .int co, .int gi, .int aw, .int cg, .int bk, .ref qs, .ref ql, .ref qo, .int ax2_52, .long wi2_53])), (qm, .inl (cJ, 8192, .inr (.inl (mL (wrs M (nth (mS O)) (nmB) kk)))))]) [3, 0] (by decide) rfl
                          have hFc := va_free (wc := [(o, .inr (4, [.int cd, .int sc, .ref qm, .ref qd, .int ch, .int fe, .int sz, .int rd, .int ca, .int sx, .ref qp, .int co, .int gi, .int aw, .int cg, .int bk, .ref qs, .ref ql, .ref qo, .int ax2_52, .long wi2_53])), (qm, .inl (cJ, 8192, .inr (.inl (mL (wrs M (nth (mS O)) (nmB) kk)))))]) hD hS hA [3, 0] rfl
                          have hZc : ZZ (va_A [(o, .inr (4, [.int cd, .int sc, .ref qm, .ref qd, .int ch, .int fe, .int sz, .int rd, .int ca, .int sx, .ref qp, .int co, .int gi, .int aw, .int cg, .int bk, .ref qs, .ref ql, .ref qo, .int ax2_52, .long wi2_53])), (qm, .inl (cJ, 8192, .inr (.inl (mL (wrs M (nth (mS O)) (nmB) kk)))))] H.size) s H := (hZ.kept hS.2.1).narrow hFc
                          refine va_callv (va_runV (As := [.long r_51, .int 1, .long 107]) (rest := []) ⟨hx, hb, hml, hown, hw⟩ (m_put l dC dI o cd sc qm qd ch fe sz rd ca sx qp co gi aw cg bk qs ql qo ax2_52 wi2_53 cJ (wrs M (nth (mS O)) (nmB) kk) r_51 1 107 1 (off r_51) 107 H.size rfl (by decide) hro.1 hro.2 (byt_wrs hM nmB_lt _) rfl (by decide)) (cwV 3 hw (gV w_9c56ffd0dc w_152cce5fe8 w_ffdd99591d w_2b384744dc w_947246c675) rfl rfl rfl (by decide +kernel) ⟨Nat.le_of_ble_eq_true rfl, Nat.le_of_ble_eq_true rfl⟩) ⟨fun a U g mk q => by obtain ⟨q0, q1, qP, qK, qD, qZ⟩ := q; exact ⟨q0, q1, qP, va_K.moved (u := U) (U := U.calling g mk a) (Vm.Alike.refl U.vm) qK, qD, ZZ.same (u := U) (U := U.calling g mk a) rfl qZ⟩, va_recv hKc hPc (ci := 4) (q0 := 0) rfl rfl, fun U hU hW => ⟨rfl, by rw [hU], by rw [hU]; exact hPc, va_K.moved hW.alike hKc, hDc.weaken (fun _ _ _ _ => trivial), by rw [hU]; exact ZZ.warm hW hZc⟩⟩ rfl rfl hl.1 rfl (lv_room (Nat.le_of_ble_eq_true rfl)) dX4_request_358 ⟨Nat.zero_le _, Nat.zero_le _⟩) hS (fun q _ h => hFc q h) hFc (fun u t H1 locs ht hvm hw2 hB hz1 hk1 hS => ?_)
                          obtain ⟨g_63, rfl⟩ : ∃ z, z = u := ⟨_, rfl⟩
                          obtain ⟨hP1, hK1, hD1⟩ := hB
                          rw [ht] at hP1
                          have hK1 := va_K.moved hvm.symm hK1
                          try dsimp only at hw2
                          obtain ⟨hP, hD⟩ := va_join (wr := [(qd, .inl (cJ, 131072, .inr (.inl (mL Dk)))), (qo, .inl (cZ, 16, .inl go)), (ql, .inl (cJ, 16, .inr (.inl gl))), (qs, .inl (cJ, 16, .inr (.inl gs)))]) (w1 := [(o, .inr (4, [.int cd, .int sc, .ref qm, .ref qd, .int ch, .int fe, .int sz, .int rd, .int ca, .int sx, .ref qp, .int co, .int gi, .int aw, .int cg, .int bk, .ref qs, .ref ql, .ref qo, .int ax2_52, .long wi2_53])), (qm, .inl (cJ, 8192, .inr (.inl g_63)))]) hP hD [3, 0] [1, 2, 4, 5] rfl rfl (by decide) (by decide) hk1 hFc hP1 hD1
                          generalize H1 = H at hP hS hk1 ⊢
                          have hP : va_P (dC, dI) vwCl [(qd, .inl (cJ, 131072, .inr (.inl (mL Dk)))), (qo, .inl (cZ, 16, .inl go)), (ql, .inl (cJ, 16, .inr (.inl gl))), (qs, .inl (cJ, 16, .inr (.inl gs))), (o, .inr (4, [.int cd, .int sc, .ref qm, .ref qd, .int ch, .int fe, .int sz, .int rd, .int ca, .int sx, .ref qp, .int co, .int gi, .int aw, .int cg, .int bk, .ref qs, .ref ql, .ref qo, .int ax2_52, .long wi2_53])), (qm, .inl (cJ, 8192, .inr (.inl g_63)))] H := hP
                          have hD : va_D A [(qd, .inl (cJ, 131072, .inr (.inl (mL Dk)))), (qo, .inl (cZ, 16, .inl go)), (ql, .inl (cJ, 16, .inr (.inl gl))), (qs, .inl (cJ, 16, .inr (.inl gs))), (o, .inr (4, [.int cd, .int sc, .ref qm, .ref qd, .int ch, .int fe, .int sz, .int rd, .int ca, .int sx, .ref qp, .int co, .int gi, .int aw, .int cg, .int bk, .ref qs, .ref ql, .ref qo, .int ax2_52, .long wi2_53])), (qm, .inl (cJ, 8192, .inr (.inl g_63)))] := hD
                          have hw_64 : g_63 = mL (pbs (wrs M (nth (mS O)) (nmB) kk) (off r_51) 107 1) := hw2
                          refine lv_lload hx hb dX4_request_361 (lv_at hl 0 rfl) ?_
                          refine lv_lconst (v := 1) hx hb dX4_request_363 (by decide) ?_
                          refine lv_ladd hx hb dX4_request_364 ?_
                          refine lv_topl (fun x_65 ex_65 => ?_)
                          refine lv_lstore (lv' := [(12, .long x_65), (10, .long r_3), (9, .int 0), (7, .long r_4), (5, .long r_3), (3, .long r_2), (1, .long r_1), (0, .ref o)]) hx hb dX4_request_365 hl (by decide) rfl (fun ls hl => ?_)
                          refine lv_goto (tgt := 272) hx hb dX4_request_367 (by decide) ?_
                          exact ih (kk + 1) x_65 i2 w2 Q2 ax2_52 wi2_53 g_63 (by omega) (by rw [ex_65, ekx]; exact lN_1 kk) (by omega) (by rw [hw_64, pbs1, hofr, hq0, show wrs M (nth (mS O)) nmB (kk + 1) = va_up (wrs M (nth (mS O)) nmB kk) (nth (mS O) kk) (nmB kk) from rfl, show nmB kk = 107 % 256 by unfold nmB; simp [hn0, hn1, hn2, hn3, hn4]]) (ea2) (ew2) (hseg2) (hwh2) (by omega) (fun d => by rw [hnt2, show w + 1 + d = w + (1 + d) by omega, hnt, Nat.add_assoc]) _ _ (hP.sub [4, 5, 0, 3, 2, 1] rfl) (hD.sub [4, 5, 0, 3, 2, 1] (by decide) rfl) hS ls (lv_sub hl [0, 1, 2, 3, 4, 5, 6, 7] rfl)
                      · skip
                        have hn3 : kk = 3 := by rw [ekx, lce, lN_toInt (by omega), show (3 : Int64).toInt = 3 by decide] at c_58; omega
                        refine lv_ldc2 (v := 99) hx hb hown (hw _ w_9bf0c5dfa8) dX4_request_336 ?_
                        refine lv_goto (tgt := 358) hx hb dX4_request_339 (by decide) ?_
                        have hPc := hP.sub (ws' := [(o, .inr (4, [.int cd, .int sc, .ref qm, .ref qd, .int ch, .int fe, .int sz, .int rd, .int ca, .int sx, .ref qp, .int co, .int gi, .int aw, .int cg, .int bk, .ref qs, .ref ql, .ref qo, .int ax2_52, .long wi2_53])), (qm, .inl (cJ, 8192, .inr (.inl (mL (wrs M (nth (mS O)) (nmB) kk)))))]) [3, 0] rfl
                        have hKc := hK.sub (tys' := [(cJ, .long)]) [0] rfl
                        have hDc := hD.sub (ws' := [(o, .inr (4, [.int cd, .int sc, .ref qm, .ref qd, .int ch, .int fe, .int sz, .int rd, .int ca, .int sx, .ref qp, .int co, .int gi, .int aw, .int cg, .int bk, .ref qs, .ref ql, .ref qo, .int ax2_52, .long wi2_53])), (qm, .inl (cJ, 8192, .inr (.inl (mL (wrs M (nth (mS O)) (nmB) kk)))))]) [3, 0] (by decide) rfl
                        have hFc := va_free (wc := [(o, .inr (4, [.int cd, .int sc, .ref qm, .ref qd, .int ch, .int fe, .int sz, .int rd, .int ca, .int sx, .ref qp, .int co, .int gi, .int aw, .int cg, .int bk, .ref qs, .ref ql, .ref qo, .int ax2_52, .long wi2_53])), (qm, .inl (cJ, 8192, .inr (.inl (mL (wrs M (nth (mS O)) (nmB) kk)))))]) hD hS hA [3, 0] rfl
                        have hZc : ZZ (va_A [(o, .inr (4, [.int cd, .int sc, .ref qm, .ref qd, .int ch, .int fe, .int sz, .int rd, .int ca, .int sx, .ref qp, .int co, .int gi, .int aw, .int cg, .int bk, .ref qs, .ref ql, .ref qo, .int ax2_52, .long wi2_53])), (qm, .inl (cJ, 8192, .inr (.inl (mL (wrs M (nth (mS O)) (nmB) kk)))))] H.size) s H := (hZ.kept hS.2.1).narrow hFc
                        refine va_callv (va_runV (As := [.long r_51, .int 1, .long 99]) (rest := []) ⟨hx, hb, hml, hown, hw⟩ (m_put l dC dI o cd sc qm qd ch fe sz rd ca sx qp co gi aw cg bk qs ql qo ax2_52 wi2_53 cJ (wrs M (nth (mS O)) (nmB) kk) r_51 1 99 1 (off r_51) 99 H.size rfl (by decide) hro.1 hro.2 (byt_wrs hM nmB_lt _) rfl (by decide)) (cwV 3 hw (gV w_9c56ffd0dc w_152cce5fe8 w_ffdd99591d w_2b384744dc w_947246c675) rfl rfl rfl (by decide +kernel) ⟨Nat.le_of_ble_eq_true rfl, Nat.le_of_ble_eq_true rfl⟩) ⟨fun a U g mk q => by obtain ⟨q0, q1, qP, qK, qD, qZ⟩ := q; exact ⟨q0, q1, qP, va_K.moved (u := U) (U := U.calling g mk a) (Vm.Alike.refl U.vm) qK, qD, ZZ.same (u := U) (U := U.calling g mk a) rfl qZ⟩, va_recv hKc hPc (ci := 4) (q0 := 0) rfl rfl, fun U hU hW => ⟨rfl, by rw [hU], by rw [hU]; exact hPc, va_K.moved hW.alike hKc, hDc.weaken (fun _ _ _ _ => trivial), by rw [hU]; exact ZZ.warm hW hZc⟩⟩ rfl rfl hl.1 rfl (lv_room (Nat.le_of_ble_eq_true rfl)) dX4_request_358 ⟨Nat.zero_le _, Nat.zero_le _⟩) hS (fun q _ h => hFc q h) hFc (fun u t H1 locs ht hvm hw2 hB hz1 hk1 hS => ?_)
                        obtain ⟨g_66, rfl⟩ : ∃ z, z = u := ⟨_, rfl⟩
                        obtain ⟨hP1, hK1, hD1⟩ := hB
                        rw [ht] at hP1
                        have hK1 := va_K.moved hvm.symm hK1
                        try dsimp only at hw2
                        obtain ⟨hP, hD⟩ := va_join (wr := [(qd, .inl (cJ, 131072, .inr (.inl (mL Dk)))), (qo, .inl (cZ, 16, .inl go)), (ql, .inl (cJ, 16, .inr (.inl gl))), (qs, .inl (cJ, 16, .inr (.inl gs)))]) (w1 := [(o, .inr (4, [.int cd, .int sc, .ref qm, .ref qd, .int ch, .int fe, .int sz, .int rd, .int ca, .int sx, .ref qp, .int co, .int gi, .int aw, .int cg, .int bk, .ref qs, .ref ql, .ref qo, .int ax2_52, .long wi2_53])), (qm, .inl (cJ, 8192, .inr (.inl g_66)))]) hP hD [3, 0] [1, 2, 4, 5] rfl rfl (by decide) (by decide) hk1 hFc hP1 hD1
                        generalize H1 = H at hP hS hk1 ⊢
                        have hP : va_P (dC, dI) vwCl [(qd, .inl (cJ, 131072, .inr (.inl (mL Dk)))), (qo, .inl (cZ, 16, .inl go)), (ql, .inl (cJ, 16, .inr (.inl gl))), (qs, .inl (cJ, 16, .inr (.inl gs))), (o, .inr (4, [.int cd, .int sc, .ref qm, .ref qd, .int ch, .int fe, .int sz, .int rd, .int ca, .int sx, .ref qp, .int co, .int gi, .int aw, .int cg, .int bk, .ref qs, .ref ql, .ref qo, .int ax2_52, .long wi2_53])), (qm, .inl (cJ, 8192, .inr (.inl g_66)))] H := hP
                        have hD : va_D A [(qd, .inl (cJ, 131072, .inr (.inl (mL Dk)))), (qo, .inl (cZ, 16, .inl go)), (ql, .inl (cJ, 16, .inr (.inl gl))), (qs, .inl (cJ, 16, .inr (.inl gs))), (o, .inr (4, [.int cd, .int sc, .ref qm, .ref qd, .int ch, .int fe, .int sz, .int rd, .int ca, .int sx, .ref qp, .int co, .int gi, .int aw, .int cg, .int bk, .ref qs, .ref ql, .ref qo, .int ax2_52, .long wi2_53])), (qm, .inl (cJ, 8192, .inr (.inl g_66)))] := hD
                        have hw_67 : g_66 = mL (pbs (wrs M (nth (mS O)) (nmB) kk) (off r_51) 99 1) := hw2
                        refine lv_lload hx hb dX4_request_361 (lv_at hl 0 rfl) ?_
                        refine lv_lconst (v := 1) hx hb dX4_request_363 (by decide) ?_
                        refine lv_ladd hx hb dX4_request_364 ?_
                        refine lv_topl (fun x_68 ex_68 => ?_)
                        refine lv_lstore (lv' := [(12, .long x_68), (10, .long r_3), (9, .int 0), (7, .long r_4), (5, .long r_3), (3, .long r_2), (1, .long r_1), (0, .ref o)]) hx hb dX4_request_365 hl (by decide) rfl (fun ls hl => ?_)
                        refine lv_goto (tgt := 272) hx hb dX4_request_367 (by decide) ?_
                        exact ih (kk + 1) x_68 i2 w2 Q2 ax2_52 wi2_53 g_66 (by omega) (by rw [ex_68, ekx]; exact lN_1 kk) (by omega) (by rw [hw_67, pbs1, hofr, hq0, show wrs M (nth (mS O)) nmB (kk + 1) = va_up (wrs M (nth (mS O)) nmB kk) (nth (mS O) kk) (nmB kk) from rfl, show nmB kk = 99 % 256 by unfold nmB; simp [hn0, hn1, hn2, hn3]]) (ea2) (ew2) (hseg2) (hwh2) (by omega) (fun d => by rw [hnt2, show w + 1 + d = w + (1 + d) by omega, hnt, Nat.add_assoc]) _ _ (hP.sub [4, 5, 0, 3, 2, 1] rfl) (hD.sub [4, 5, 0, 3, 2, 1] (by decide) rfl) hS ls (lv_sub hl [0, 1, 2, 3, 4, 5, 6, 7] rfl)
                    · skip
                      have hn2 : kk = 2 := by rw [ekx, lce, lN_toInt (by omega), show (2 : Int64).toInt = 2 by decide] at c_57; omega
                      refine lv_ldc2 (v := 111) hx hb hown (hw _ w_a242c3d5c8) dX4_request_321 ?_
                      refine lv_goto (tgt := 358) hx hb dX4_request_324 (by decide) ?_
                      have hPc := hP.sub (ws' := [(o, .inr (4, [.int cd, .int sc, .ref qm, .ref qd, .int ch, .int fe, .int sz, .int rd, .int ca, .int sx, .ref qp, .int co, .int gi, .int aw, .int cg, .int bk, .ref qs, .ref ql, .ref qo, .int ax2_52, .long wi2_53])), (qm, .inl (cJ, 8192, .inr (.inl (mL (wrs M (nth (mS O)) (nmB) kk)))))]) [3, 0] rfl
                      have hKc := hK.sub (tys' := [(cJ, .long)]) [0] rfl
                      have hDc := hD.sub (ws' := [(o, .inr (4, [.int cd, .int sc, .ref qm, .ref qd, .int ch, .int fe, .int sz, .int rd, .int ca, .int sx, .ref qp, .int co, .int gi, .int aw, .int cg, .int bk, .ref qs, .ref ql, .ref qo, .int ax2_52, .long wi2_53])), (qm, .inl (cJ, 8192, .inr (.inl (mL (wrs M (nth (mS O)) (nmB) kk)))))]) [3, 0] (by decide) rfl
                      have hFc := va_free (wc := [(o, .inr (4, [.int cd, .int sc, .ref qm, .ref qd, .int ch, .int fe, .int sz, .int rd, .int ca, .int sx, .ref qp, .int co, .int gi, .int aw, .int cg, .int bk, .ref qs, .ref ql, .ref qo, .int ax2_52, .long wi2_53])), (qm, .inl (cJ, 8192, .inr (.inl (mL (wrs M (nth (mS O)) (nmB) kk)))))]) hD hS hA [3, 0] rfl
                      have hZc : ZZ (va_A [(o, .inr (4, [.int cd, .int sc, .ref qm, .ref qd, .int ch, .int fe, .int sz, .int rd, .int ca, .int sx, .ref qp, .int co, .int gi, .int aw, .int cg, .int bk, .ref qs, .ref ql, .ref qo, .int ax2_52, .long wi2_53])), (qm, .inl (cJ, 8192, .inr (.inl (mL (wrs M (nth (mS O)) (nmB) kk)))))] H.size) s H := (hZ.kept hS.2.1).narrow hFc
                      refine va_callv (va_runV (As := [.long r_51, .int 1, .long 111]) (rest := []) ⟨hx, hb, hml, hown, hw⟩ (m_put l dC dI o cd sc qm qd ch fe sz rd ca sx qp co gi aw cg bk qs ql qo ax2_52 wi2_53 cJ (wrs M (nth (mS O)) (nmB) kk) r_51 1 111 1 (off r_51) 111 H.size rfl (by decide) hro.1 hro.2 (byt_wrs hM nmB_lt _) rfl (by decide)) (cwV 3 hw (gV w_9c56ffd0dc w_152cce5fe8 w_ffdd99591d w_2b384744dc w_947246c675) rfl rfl rfl (by decide +kernel) ⟨Nat.le_of_ble_eq_true rfl, Nat.le_of_ble_eq_true rfl⟩) ⟨fun a U g mk q => by obtain ⟨q0, q1, qP, qK, qD, qZ⟩ := q; exact ⟨q0, q1, qP, va_K.moved (u := U) (U := U.calling g mk a) (Vm.Alike.refl U.vm) qK, qD, ZZ.same (u := U) (U := U.calling g mk a) rfl qZ⟩, va_recv hKc hPc (ci := 4) (q0 := 0) rfl rfl, fun U hU hW => ⟨rfl, by rw [hU], by rw [hU]; exact hPc, va_K.moved hW.alike hKc, hDc.weaken (fun _ _ _ _ => trivial), by rw [hU]; exact ZZ.warm hW hZc⟩⟩ rfl rfl hl.1 rfl (lv_room (Nat.le_of_ble_eq_true rfl)) dX4_request_358 ⟨Nat.zero_le _, Nat.zero_le _⟩) hS (fun q _ h => hFc q h) hFc (fun u t H1 locs ht hvm hw2 hB hz1 hk1 hS => ?_)
                      obtain ⟨g_69, rfl⟩ : ∃ z, z = u := ⟨_, rfl⟩
                      obtain ⟨hP1, hK1, hD1⟩ := hB
                      rw [ht] at hP1
                      have hK1 := va_K.moved hvm.symm hK1
                      try dsimp only at hw2
                      obtain ⟨hP, hD⟩ := va_join (wr := [(qd, .inl (cJ, 131072, .inr (.inl (mL Dk)))), (qo, .inl (cZ, 16, .inl go)), (ql, .inl (cJ, 16, .inr (.inl gl))), (qs, .inl (cJ, 16, .inr (.inl gs)))]) (w1 := [(o, .inr (4, [.int cd, .int sc, .ref qm, .ref qd, .int ch, .int fe, .int sz, .int rd, .int ca, .int sx, .ref qp, .int co, .int gi, .int aw, .int cg, .int bk, .ref qs, .ref ql, .ref qo, .int ax2_52, .long wi2_53])), (qm, .inl (cJ, 8192, .inr (.inl g_69)))]) hP hD [3, 0] [1, 2, 4, 5] rfl rfl (by decide) (by decide) hk1 hFc hP1 hD1
                      generalize H1 = H at hP hS hk1 ⊢
                      have hP : va_P (dC, dI) vwCl [(qd, .inl (cJ, 131072, .inr (.inl (mL Dk)))), (qo, .inl (cZ, 16, .inl go)), (ql, .inl (cJ, 16, .inr (.inl gl))), (qs, .inl (cJ, 16, .inr (.inl gs))), (o, .inr (4, [.int cd, .int sc, .ref qm, .ref qd, .int ch, .int fe, .int sz, .int rd, .int ca, .int sx, .ref qp, .int co, .int gi, .int aw, .int cg, .int bk, .ref qs, .ref ql, .ref qo, .int ax2_52, .long wi2_53])), (qm, .inl (cJ, 8192, .inr (.inl g_69)))] H := hP
                      have hD : va_D A [(qd, .inl (cJ, 131072, .inr (.inl (mL Dk)))), (qo, .inl (cZ, 16, .inl go)), (ql, .inl (cJ, 16, .inr (.inl gl))), (qs, .inl (cJ, 16, .inr (.inl gs))), (o, .inr (4, [.int cd, .int sc, .ref qm, .ref qd, .int ch, .int fe, .int sz, .int rd, .int ca, .int sx, .ref qp, .int co, .int gi, .int aw, .int cg, .int bk, .ref qs, .ref ql, .ref qo, .int ax2_52, .long wi2_53])), (qm, .inl (cJ, 8192, .inr (.inl g_69)))] := hD
                      have hw_70 : g_69 = mL (pbs (wrs M (nth (mS O)) (nmB) kk) (off r_51) 111 1) := hw2
                      refine lv_lload hx hb dX4_request_361 (lv_at hl 0 rfl) ?_
                      refine lv_lconst (v := 1) hx hb dX4_request_363 (by decide) ?_
                      refine lv_ladd hx hb dX4_request_364 ?_
                      refine lv_topl (fun x_71 ex_71 => ?_)
                      refine lv_lstore (lv' := [(12, .long x_71), (10, .long r_3), (9, .int 0), (7, .long r_4), (5, .long r_3), (3, .long r_2), (1, .long r_1), (0, .ref o)]) hx hb dX4_request_365 hl (by decide) rfl (fun ls hl => ?_)
                      refine lv_goto (tgt := 272) hx hb dX4_request_367 (by decide) ?_
                      exact ih (kk + 1) x_71 i2 w2 Q2 ax2_52 wi2_53 g_69 (by omega) (by rw [ex_71, ekx]; exact lN_1 kk) (by omega) (by rw [hw_70, pbs1, hofr, hq0, show wrs M (nth (mS O)) nmB (kk + 1) = va_up (wrs M (nth (mS O)) nmB kk) (nth (mS O) kk) (nmB kk) from rfl, show nmB kk = 111 % 256 by unfold nmB; simp [hn0, hn1, hn2]]) (ea2) (ew2) (hseg2) (hwh2) (by omega) (fun d => by rw [hnt2, show w + 1 + d = w + (1 + d) by omega, hnt, Nat.add_assoc]) _ _ (hP.sub [4, 5, 0, 3, 2, 1] rfl) (hD.sub [4, 5, 0, 3, 2, 1] (by decide) rfl) hS ls (lv_sub hl [0, 1, 2, 3, 4, 5, 6, 7] rfl)
                  · skip
                    have hn1 : kk = 1 := by rw [ekx, lce, lN_toInt (by omega), show (1 : Int64).toInt = 1 by decide] at c_56; omega
                    refine lv_ldc2 (v := 108) hx hb hown (hw _ w_12f9603ea7) dX4_request_306 ?_
                    refine lv_goto (tgt := 358) hx hb dX4_request_309 (by decide) ?_
                    have hPc := hP.sub (ws' := [(o, .inr (4, [.int cd, .int sc, .ref qm, .ref qd, .int ch, .int fe, .int sz, .int rd, .int ca, .int sx, .ref qp, .int co, .int gi, .int aw, .int cg, .int bk, .ref qs, .ref ql, .ref qo, .int ax2_52, .long wi2_53])), (qm, .inl (cJ, 8192, .inr (.inl (mL (wrs M (nth (mS O)) (nmB) kk)))))]) [3, 0] rfl
                    have hKc := hK.sub (tys' := [(cJ, .long)]) [0] rfl
                    have hDc := hD.sub (ws' := [(o, .inr (4, [.int cd, .int sc, .ref qm, .ref qd, .int ch, .int fe, .int sz, .int rd, .int ca, .int sx, .ref qp, .int co, .int gi, .int aw, .int cg, .int bk, .ref qs, .ref ql, .ref qo, .int ax2_52, .long wi2_53])), (qm, .inl (cJ, 8192, .inr (.inl (mL (wrs M (nth (mS O)) (nmB) kk)))))]) [3, 0] (by decide) rfl
                    have hFc := va_free (wc := [(o, .inr (4, [.int cd, .int sc, .ref qm, .ref qd, .int ch, .int fe, .int sz, .int rd, .int ca, .int sx, .ref qp, .int co, .int gi, .int aw, .int cg, .int bk, .ref qs, .ref ql, .ref qo, .int ax2_52, .long wi2_53])), (qm, .inl (cJ, 8192, .inr (.inl (mL (wrs M (nth (mS O)) (nmB) kk)))))]) hD hS hA [3, 0] rfl
                    have hZc : ZZ (va_A [(o, .inr (4, [.int cd, .int sc, .ref qm, .ref qd, .int ch, .int fe, .int sz, .int rd, .int ca, .int sx, .ref qp, .int co, .int gi, .int aw, .int cg, .int bk, .ref qs, .ref ql, .ref qo, .int ax2_52, .long wi2_53])), (qm, .inl (cJ, 8192, .inr (.inl (mL (wrs M (nth (mS O)) (nmB) kk)))))] H.size) s H := (hZ.kept hS.2.1).narrow hFc
                    refine va_callv (va_runV (As := [.long r_51, .int 1, .long 108]) (rest := []) ⟨hx, hb, hml, hown, hw⟩ (m_put l dC dI o cd sc qm qd ch fe sz rd ca sx qp co gi aw cg bk qs ql qo ax2_52 wi2_53 cJ (wrs M (nth (mS O)) (nmB) kk) r_51 1 108 1 (off r_51) 108 H.size rfl (by decide) hro.1 hro.2 (byt_wrs hM nmB_lt _) rfl (by decide)) (cwV 3 hw (gV w_9c56ffd0dc w_152cce5fe8 w_ffdd99591d w_2b384744dc w_947246c675) rfl rfl rfl (by decide +kernel) ⟨Nat.le_of_ble_eq_true rfl, Nat.le_of_ble_eq_true rfl⟩) ⟨fun a U g mk q => by obtain ⟨q0, q1, qP, qK, qD, qZ⟩ := q; exact ⟨q0, q1, qP, va_K.moved (u := U) (U := U.calling g mk a) (Vm.Alike.refl U.vm) qK, qD, ZZ.same (u := U) (U := U.calling g mk a) rfl qZ⟩, va_recv hKc hPc (ci := 4) (q0 := 0) rfl rfl, fun U hU hW => ⟨rfl, by rw [hU], by rw [hU]; exact hPc, va_K.moved hW.alike hKc, hDc.weaken (fun _ _ _ _ => trivial), by rw [hU]; exact ZZ.warm hW hZc⟩⟩ rfl rfl hl.1 rfl (lv_room (Nat.le_of_ble_eq_true rfl)) dX4_request_358 ⟨Nat.zero_le _, Nat.zero_le _⟩) hS (fun q _ h => hFc q h) hFc (fun u t H1 locs ht hvm hw2 hB hz1 hk1 hS => ?_)
                    obtain ⟨g_72, rfl⟩ : ∃ z, z = u := ⟨_, rfl⟩
                    obtain ⟨hP1, hK1, hD1⟩ := hB
                    rw [ht] at hP1
                    have hK1 := va_K.moved hvm.symm hK1
                    try dsimp only at hw2
                    obtain ⟨hP, hD⟩ := va_join (wr := [(qd, .inl (cJ, 131072, .inr (.inl (mL Dk)))), (qo, .inl (cZ, 16, .inl go)), (ql, .inl (cJ, 16, .inr (.inl gl))), (qs, .inl (cJ, 16, .inr (.inl gs)))]) (w1 := [(o, .inr (4, [.int cd, .int sc, .ref qm, .ref qd, .int ch, .int fe, .int sz, .int rd, .int ca, .int sx, .ref qp, .int co, .int gi, .int aw, .int cg, .int bk, .ref qs, .ref ql, .ref qo, .int ax2_52, .long wi2_53])), (qm, .inl (cJ, 8192, .inr (.inl g_72)))]) hP hD [3, 0] [1, 2, 4, 5] rfl rfl (by decide) (by decide) hk1 hFc hP1 hD1
                    generalize H1 = H at hP hS hk1 ⊢
                    have hP : va_P (dC, dI) vwCl [(qd, .inl (cJ, 131072, .inr (.inl (mL Dk)))), (qo, .inl (cZ, 16, .inl go)), (ql, .inl (cJ, 16, .inr (.inl gl))), (qs, .inl (cJ, 16, .inr (.inl gs))), (o, .inr (4, [.int cd, .int sc, .ref qm, .ref qd, .int ch, .int fe, .int sz, .int rd, .int ca, .int sx, .ref qp, .int co, .int gi, .int aw, .int cg, .int bk, .ref qs, .ref ql, .ref qo, .int ax2_52, .long wi2_53])), (qm, .inl (cJ, 8192, .inr (.inl g_72)))] H := hP
                    have hD : va_D A [(qd, .inl (cJ, 131072, .inr (.inl (mL Dk)))), (qo, .inl (cZ, 16, .inl go)), (ql, .inl (cJ, 16, .inr (.inl gl))), (qs, .inl (cJ, 16, .inr (.inl gs))), (o, .inr (4, [.int cd, .int sc, .ref qm, .ref qd, .int ch, .int fe, .int sz, .int rd, .int ca, .int sx, .ref qp, .int co, .int gi, .int aw, .int cg, .int bk, .ref qs, .ref ql, .ref qo, .int ax2_52, .long wi2_53])), (qm, .inl (cJ, 8192, .inr (.inl g_72)))] := hD
                    have hw_73 : g_72 = mL (pbs (wrs M (nth (mS O)) (nmB) kk) (off r_51) 108 1) := hw2
                    refine lv_lload hx hb dX4_request_361 (lv_at hl 0 rfl) ?_
                    refine lv_lconst (v := 1) hx hb dX4_request_363 (by decide) ?_
                    refine lv_ladd hx hb dX4_request_364 ?_
                    refine lv_topl (fun x_74 ex_74 => ?_)
                    refine lv_lstore (lv' := [(12, .long x_74), (10, .long r_3), (9, .int 0), (7, .long r_4), (5, .long r_3), (3, .long r_2), (1, .long r_1), (0, .ref o)]) hx hb dX4_request_365 hl (by decide) rfl (fun ls hl => ?_)
                    refine lv_goto (tgt := 272) hx hb dX4_request_367 (by decide) ?_
                    exact ih (kk + 1) x_74 i2 w2 Q2 ax2_52 wi2_53 g_72 (by omega) (by rw [ex_74, ekx]; exact lN_1 kk) (by omega) (by rw [hw_73, pbs1, hofr, hq0, show wrs M (nth (mS O)) nmB (kk + 1) = va_up (wrs M (nth (mS O)) nmB kk) (nth (mS O) kk) (nmB kk) from rfl, show nmB kk = 108 % 256 by unfold nmB; simp [hn0, hn1]]) (ea2) (ew2) (hseg2) (hwh2) (by omega) (fun d => by rw [hnt2, show w + 1 + d = w + (1 + d) by omega, hnt, Nat.add_assoc]) _ _ (hP.sub [4, 5, 0, 3, 2, 1] rfl) (hD.sub [4, 5, 0, 3, 2, 1] (by decide) rfl) hS ls (lv_sub hl [0, 1, 2, 3, 4, 5, 6, 7] rfl)
                · skip
                  have hn0 : kk = 0 := by rw [ekx, lce, lN_toInt (by omega), show (0 : Int64).toInt = 0 by decide] at c_55; omega
                  refine lv_ldc2 (v := 98) hx hb hown (hw _ w_ba8c995a55) dX4_request_293 ?_
                  refine lv_goto (tgt := 358) hx hb dX4_request_296 (by decide) ?_
                  have hPc := hP.sub (ws' := [(o, .inr (4, [.int cd, .int sc, .ref qm, .ref qd, .int ch, .int fe, .int sz, .int rd, .int ca, .int sx, .ref qp, .int co, .int gi, .int aw, .int cg, .int bk, .ref qs, .ref ql, .ref qo, .int ax2_52, .long wi2_53])), (qm, .inl (cJ, 8192, .inr (.inl (mL (wrs M (nth (mS O)) (nmB) kk)))))]) [3, 0] rfl
                  have hKc := hK.sub (tys' := [(cJ, .long)]) [0] rfl
                  have hDc := hD.sub (ws' := [(o, .inr (4, [.int cd, .int sc, .ref qm, .ref qd, .int ch, .int fe, .int sz, .int rd, .int ca, .int sx, .ref qp, .int co, .int gi, .int aw, .int cg, .int bk, .ref qs, .ref ql, .ref qo, .int ax2_52, .long wi2_53])), (qm, .inl (cJ, 8192, .inr (.inl (mL (wrs M (nth (mS O)) (nmB) kk)))))]) [3, 0] (by decide) rfl
                  have hFc := va_free (wc := [(o, .inr (4, [.int cd, .int sc, .ref qm, .ref qd, .int ch, .int fe, .int sz, .int rd, .int ca, .int sx, .ref qp, .int co, .int gi, .int aw, .int cg, .int bk, .ref qs, .ref ql, .ref qo, .int ax2_52, .long wi2_53])), (qm, .inl (cJ, 8192, .inr (.inl (mL (wrs M (nth (mS O)) (nmB) kk)))))]) hD hS hA [3, 0] rfl
                  have hZc : ZZ (va_A [(o, .inr (4, [.int cd, .int sc, .ref qm, .ref qd, .int ch, .int fe, .int sz, .int rd, .int ca, .int sx, .ref qp, .int co, .int gi, .int aw, .int cg, .int bk, .ref qs, .ref ql, .ref qo, .int ax2_52, .long wi2_53])), (qm, .inl (cJ, 8192, .inr (.inl (mL (wrs M (nth (mS O)) (nmB) kk)))))] H.size) s H := (hZ.kept hS.2.1).narrow hFc
                  refine va_callv (va_runV (As := [.long r_51, .int 1, .long 98]) (rest := []) ⟨hx, hb, hml, hown, hw⟩ (m_put l dC dI o cd sc qm qd ch fe sz rd ca sx qp co gi aw cg bk qs ql qo ax2_52 wi2_53 cJ (wrs M (nth (mS O)) (nmB) kk) r_51 1 98 1 (off r_51) 98 H.size rfl (by decide) hro.1 hro.2 (byt_wrs hM nmB_lt _) rfl (by decide)) (cwV 3 hw (gV w_9c56ffd0dc w_152cce5fe8 w_ffdd99591d w_2b384744dc w_947246c675) rfl rfl rfl (by decide +kernel) ⟨Nat.le_of_ble_eq_true rfl, Nat.le_of_ble_eq_true rfl⟩) ⟨fun a U g mk q => by obtain ⟨q0, q1, qP, qK, qD, qZ⟩ := q; exact ⟨q0, q1, qP, va_K.moved (u := U) (U := U.calling g mk a) (Vm.Alike.refl U.vm) qK, qD, ZZ.same (u := U) (U := U.calling g mk a) rfl qZ⟩, va_recv hKc hPc (ci := 4) (q0 := 0) rfl rfl, fun U hU hW => ⟨rfl, by rw [hU], by rw [hU]; exact hPc, va_K.moved hW.alike hKc, hDc.weaken (fun _ _ _ _ => trivial), by rw [hU]; exact ZZ.warm hW hZc⟩⟩ rfl rfl hl.1 rfl (lv_room (Nat.le_of_ble_eq_true rfl)) dX4_request_358 ⟨Nat.zero_le _, Nat.zero_le _⟩) hS (fun q _ h => hFc q h) hFc (fun u t H1 locs ht hvm hw2 hB hz1 hk1 hS => ?_)
                  obtain ⟨g_75, rfl⟩ : ∃ z, z = u := ⟨_, rfl⟩
                  obtain ⟨hP1, hK1, hD1⟩ := hB
                  rw [ht] at hP1
                  have hK1 := va_K.moved hvm.symm hK1
                  try dsimp only at hw2
                  obtain ⟨hP, hD⟩ := va_join (wr := [(qd, .inl (cJ, 131072, .inr (.inl (mL Dk)))), (qo, .inl (cZ, 16, .inl go)), (ql, .inl (cJ, 16, .inr (.inl gl))), (qs, .inl (cJ, 16, .inr (.inl gs)))]) (w1 := [(o, .inr (4, [.int cd, .int sc, .ref qm, .ref qd, .int ch, .int fe, .int sz, .int rd, .int ca, .int sx, .ref qp, .int co, .int gi, .int aw, .int cg, .int bk, .ref qs, .ref ql, .ref qo, .int ax2_52, .long wi2_53])), (qm, .inl (cJ, 8192, .inr (.inl g_75)))]) hP hD [3, 0] [1, 2, 4, 5] rfl rfl (by decide) (by decide) hk1 hFc hP1 hD1
                  generalize H1 = H at hP hS hk1 ⊢
                  have hP : va_P (dC, dI) vwCl [(qd, .inl (cJ, 131072, .inr (.inl (mL Dk)))), (qo, .inl (cZ, 16, .inl go)), (ql, .inl (cJ, 16, .inr (.inl gl))), (qs, .inl (cJ, 16, .inr (.inl gs))), (o, .inr (4, [.int cd, .int sc, .ref qm, .ref qd, .int ch, .int fe, .int sz, .int rd, .int ca, .int sx, .ref qp, .int co, .int gi, .int aw, .int cg, .int bk, .ref qs, .ref ql, .ref qo, .int ax2_52, .long wi2_53])), (qm, .inl (cJ, 8192, .inr (.inl g_75)))] H := hP
                  have hD : va_D A [(qd, .inl (cJ, 131072, .inr (.inl (mL Dk)))), (qo, .inl (cZ, 16, .inl go)), (ql, .inl (cJ, 16, .inr (.inl gl))), (qs, .inl (cJ, 16, .inr (.inl gs))), (o, .inr (4, [.int cd, .int sc, .ref qm, .ref qd, .int ch, .int fe, .int sz, .int rd, .int ca, .int sx, .ref qp, .int co, .int gi, .int aw, .int cg, .int bk, .ref qs, .ref ql, .ref qo, .int ax2_52, .long wi2_53])), (qm, .inl (cJ, 8192, .inr (.inl g_75)))] := hD
                  have hw_76 : g_75 = mL (pbs (wrs M (nth (mS O)) (nmB) kk) (off r_51) 98 1) := hw2
                  refine lv_lload hx hb dX4_request_361 (lv_at hl 0 rfl) ?_
                  refine lv_lconst (v := 1) hx hb dX4_request_363 (by decide) ?_
                  refine lv_ladd hx hb dX4_request_364 ?_
                  refine lv_topl (fun x_77 ex_77 => ?_)
                  refine lv_lstore (lv' := [(12, .long x_77), (10, .long r_3), (9, .int 0), (7, .long r_4), (5, .long r_3), (3, .long r_2), (1, .long r_1), (0, .ref o)]) hx hb dX4_request_365 hl (by decide) rfl (fun ls hl => ?_)
                  refine lv_goto (tgt := 272) hx hb dX4_request_367 (by decide) ?_
                  exact ih (kk + 1) x_77 i2 w2 Q2 ax2_52 wi2_53 g_75 (by omega) (by rw [ex_77, ekx]; exact lN_1 kk) (by omega) (by rw [hw_76, pbs1, hofr, hq0, show wrs M (nth (mS O)) nmB (kk + 1) = va_up (wrs M (nth (mS O)) nmB kk) (nth (mS O) kk) (nmB kk) from rfl, show nmB kk = 98 % 256 by unfold nmB; simp [hn0]]) (ea2) (ew2) (hseg2) (hwh2) (by omega) (fun d => by rw [hnt2, show w + 1 + d = w + (1 + d) by omega, hnt, Nat.add_assoc]) _ _ (hP.sub [4, 5, 0, 3, 2, 1] rfl) (hD.sub [4, 5, 0, 3, 2, 1] (by decide) rfl) hS ls (lv_sub hl [0, 1, 2, 3, 4, 5, 6, 7] rfl)
          exact loop272 (min (tot (mS O) - 1) 20 + 1) 0 0 C.length 0 (mS O) ax2_46 0 (mL M) (by omega) (rfl) (Nat.zero_le _) (rfl) (hw_47) (rfl) (hsg.1) (Nat.zero_le _) (by omega) (fun _ => rfl) _ _ (hP.sub [4, 0, 1, 2, 3, 5] rfl) (hD.sub [4, 0, 1, 2, 3, 5] (by decide) rfl) hS ls (lv_sub hl [0, 1, 2, 3, 4, 5, 6, 7] rfl)
    · skip
      have hkd1 : nbs M (hdO C) 4 = 1 := by rw [hr_1, lce, pk_lT hkb, l1] at c_6; omega
      refine lv_aload_n hx hb dX4_request_145 rfl (lv_at hl 6 rfl) ?_
      refine lv_lload_n hx hb dX4_request_146 rfl (lv_at hl 4 rfl) ?_
      refine lv_lload hx hb dX4_request_147 (lv_at hl 2 rfl) ?_
      have hPc := hP.sub (ws' := [(o, .inr (4, [.int cd, .int sc, .ref qm, .ref qd, .int ch, .int fe, .int sz, .int rd, .int ca, .int sx, .ref qp, .int co, .int gi, .int aw, .int cg, .int bk, .ref qs, .ref ql, .ref qo, .int ax, .long wi]))]) [0] rfl
      have hKc := hK.sub (tys' := []) [] rfl
      have hZc := (hZ.kept hS.2.1).narrow (B := fun _ => False) (fun _ h => h.elim)
      refine vp_callSi (va_runV (As := [.long r_2, .long r_4]) (rest := []) ⟨hx, hb, hml, hown, hw⟩ (m_areSectors l dC dI o cd sc qm qd ch fe sz rd ca sx qp co gi aw cg bk qs ql qo ax wi nn r_2 r_4 (tot (mS C.tail)) hsc hnn e7 (by omega)) (cwV 2 hw (gV w_95112c7325 w_6e7c24b732 w_59c9d152b6 w_2b384744dc w_aa6924bbef) rfl rfl rfl (by decide +kernel) ⟨Nat.le_of_ble_eq_true rfl, Nat.le_of_ble_eq_true rfl⟩) ⟨fun a U g mk q => by obtain ⟨q0, qP, qK, qZ⟩ := q; exact ⟨q0, qP, va_K.moved (u := U) (U := U.calling g mk a) (Vm.Alike.refl U.vm) qK, ZZ.same (u := U) (U := U.calling g mk a) rfl qZ⟩, va_recv hKc hPc (ci := 4) (q0 := 0) rfl rfl, fun U hU hW => ⟨rfl, by rw [hU]; exact hPc, va_K.moved hW.alike hKc, by rw [hU]; exact ZZ.warm hW hZc⟩⟩ rfl rfl hl.1 rfl (lv_room (Nat.le_of_ble_eq_true rfl)) dX4_request_149 ⟨Nat.zero_le _, Nat.zero_le _⟩).run (fun r_78 hr_78 => ?_)
      have hr_78 : r_78 = bI (secP r_2 nn (tot (mS C.tail))) := hr_78
      refine lv_if_eq (tgt := 159) hx hb dX4_request_152 (by decide) (fun c_79 => ?_) (fun c_79 => ?_)
      · skip
        have b_80 : ¬ (secP r_2 nn (tot (mS C.tail))) := bI_0 (by rw [← hr_78]; exact c_79)
        refine lv_iconst (v := 1) hx hb dX4_request_159 (by decide) ?_
        refine lv_istore (lv' := [(9, .int 1), (10, .long 0), (7, .long r_4), (5, .long r_3), (3, .long r_2), (1, .long r_1), (0, .ref o)]) hx hb dX4_request_160 hl (by decide) rfl (fun ls hl => ?_)
        refine lv_iload hx hb dX4_request_162 (lv_at hl 0 rfl) ?_
        refine lv_if_ne (tgt := 384) hx hb dX4_request_164 (by decide) (fun c_81 => ?_) (fun c_81 => ?_)
        · skip
          have hBq : reqB spM M Dk nn cg C O = (M, Dk, cg, 0, 1) := by unfold reqB spM; rw [if_neg hkd0, if_pos hkd1, if_neg (by rw [← hr_2]; exact fun z => b_80 (of_decide_eq_true z))]
          refine lv_aload_n hx hb dX4_request_384 rfl (lv_at hl 6 rfl) ?_
          refine lv_aload_n hx hb dX4_request_385 rfl (lv_at hl 6 rfl) ?_
          refine va_get (D := (dC, dI)) (ci := 4) (v := .ref qs) (C := RX4) (T := TX4) (N := 21) hx hb hw inX4 hown hK hP 0 rfl rfl 16 (by decide) (hw _ w_c92d01c177) (fun _ h9 => h9) rfl dX4_request_386 ?_
          refine lv_aload_n hx hb dX4_request_389 rfl (lv_at hl 6 rfl) ?_
          refine va_get (D := (dC, dI)) (ci := 4) (v := .int bk) (C := RX4) (T := TX4) (N := 21) hx hb hw inX4 hown hK hP 0 rfl rfl 15 (by decide) (hw _ w_f0da19b997) (fun _ h9 => h9) rfl dX4_request_390 ?_
          refine lv_iconst (v := 1) hx hb dX4_request_393 (by decide) ?_
          refine lv_isub hx hb dX4_request_394 ?_
          refine va_lald hx hb hK hP 3 0 rfl rfl hla.1 dX4_request_395 ?_
          refine lv_aload_n hx hb dX4_request_396 rfl (lv_at hl 6 rfl) ?_
          refine va_get (D := (dC, dI)) (ci := 4) (v := .ref ql) (C := RX4) (T := TX4) (N := 21) hx hb hw inX4 hown hK hP 0 rfl rfl 17 (by decide) (hw _ w_c20510a516) (fun _ h9 => h9) rfl dX4_request_397 ?_
          refine lv_aload_n hx hb dX4_request_400 rfl (lv_at hl 6 rfl) ?_
          refine va_get (D := (dC, dI)) (ci := 4) (v := .int bk) (C := RX4) (T := TX4) (N := 21) hx hb hw inX4 hown hK hP 0 rfl rfl 15 (by decide) (hw _ w_f0da19b997) (fun _ h9 => h9) rfl dX4_request_401 ?_
          refine lv_iconst (v := 1) hx hb dX4_request_404 (by decide) ?_
          refine lv_isub hx hb dX4_request_405 ?_
          refine va_lald hx hb hK hP 4 0 rfl rfl hla.1 dX4_request_406 ?_
          refine lv_ladd hx hb dX4_request_407 ?_
          refine lv_lconst (v := 1) hx hb dX4_request_408 (by decide) ?_
          refine lv_lsub hx hb dX4_request_409 ?_
          refine lv_iconst (v := 1) hx hb dX4_request_410 (by decide) ?_
          refine lv_iload hx hb dX4_request_411 (lv_at hl 0 rfl) ?_
          refine lv_i2l (v := (1 : Int32).toInt64) hx hb dX4_request_413 rfl ?_
          have hPc := hP.sub (ws' := [(o, .inr (4, [.int cd, .int sc, .ref qm, .ref qd, .int ch, .int fe, .int sz, .int rd, .int ca, .int sx, .ref qp, .int co, .int gi, .int aw, .int cg, .int bk, .ref qs, .ref ql, .ref qo, .int ax, .long wi])), (qm, .inl (cJ, 8192, .inr (.inl (mL M))))]) [0, 1] rfl
          have hKc := hK.sub (tys' := [(cJ, .long)]) [0] rfl
          have hDc := hD.sub (ws' := [(o, .inr (4, [.int cd, .int sc, .ref qm, .ref qd, .int ch, .int fe, .int sz, .int rd, .int ca, .int sx, .ref qp, .int co, .int gi, .int aw, .int cg, .int bk, .ref qs, .ref ql, .ref qo, .int ax, .long wi])), (qm, .inl (cJ, 8192, .inr (.inl (mL M))))]) [0, 1] (by decide) rfl
          have hFc := va_free (wc := [(o, .inr (4, [.int cd, .int sc, .ref qm, .ref qd, .int ch, .int fe, .int sz, .int rd, .int ca, .int sx, .ref qp, .int co, .int gi, .int aw, .int cg, .int bk, .ref qs, .ref ql, .ref qo, .int ax, .long wi])), (qm, .inl (cJ, 8192, .inr (.inl (mL M))))]) hD hS hA [0, 1] rfl
          have hZc : ZZ (va_A [(o, .inr (4, [.int cd, .int sc, .ref qm, .ref qd, .int ch, .int fe, .int sz, .int rd, .int ca, .int sx, .ref qp, .int co, .int gi, .int aw, .int cg, .int bk, .ref qs, .ref ql, .ref qo, .int ax, .long wi])), (qm, .inl (cJ, 8192, .inr (.inl (mL M))))] s.heap.size) s s.heap := (hZ.kept hS.2.1).narrow hFc
          refine va_callv (va_runV (As := [.long (((gs (bk - 1).toNatClampNeg) + (gl (bk - 1).toNatClampNeg)) - 1), .int 1, .long ((1 : Int32).toInt64)]) (rest := []) ⟨hx, hb, hml, hown, hw⟩ (m_put l dC dI o cd sc qm qd ch fe sz rd ca sx qp co gi aw cg bk qs ql qo ax wi cJ M (((gs (bk - 1).toNatClampNeg) + (gl (bk - 1).toNatClampNeg)) - 1) 1 ((1 : Int32).toInt64) 1 (rpl O) 1 s.heap.size rfl (by decide) hla.2.1 hla.2.2 hM rfl (by decide)) (cwV 3 hw (gV w_9c56ffd0dc w_152cce5fe8 w_ffdd99591d w_2b384744dc w_947246c675) rfl rfl rfl (by decide +kernel) ⟨Nat.le_of_ble_eq_true rfl, Nat.le_of_ble_eq_true rfl⟩) ⟨fun a U g mk q => by obtain ⟨q0, q1, qP, qK, qD, qZ⟩ := q; exact ⟨q0, q1, qP, va_K.moved (u := U) (U := U.calling g mk a) (Vm.Alike.refl U.vm) qK, qD, ZZ.same (u := U) (U := U.calling g mk a) rfl qZ⟩, va_recv hKc hPc (ci := 4) (q0 := 0) rfl rfl, fun U hU hW => ⟨rfl, by rw [hU], by rw [hU]; exact hPc, va_K.moved hW.alike hKc, hDc.weaken (fun _ _ _ _ => trivial), by rw [hU]; exact ZZ.warm hW hZc⟩⟩ rfl rfl hl.1 rfl (lv_room (Nat.le_of_ble_eq_true rfl)) dX4_request_414 ⟨Nat.zero_le _, Nat.zero_le _⟩) hS (fun q _ h => hFc q h) hFc (fun u t H1 locs ht hvm hw2 hB hz1 hk1 hS => ?_)
          obtain ⟨g_82, rfl⟩ : ∃ z, z = u := ⟨_, rfl⟩
          obtain ⟨hP1, hK1, hD1⟩ := hB
          rw [ht] at hP1
          have hK1 := va_K.moved hvm.symm hK1
          try dsimp only at hw2
          obtain ⟨hP, hD⟩ := va_join (wr := [(qd, .inl (cJ, 131072, .inr (.inl (mL Dk)))), (qs, .inl (cJ, 16, .inr (.inl gs))), (ql, .inl (cJ, 16, .inr (.inl gl))), (qo, .inl (cZ, 16, .inl go))]) (w1 := [(o, .inr (4, [.int cd, .int sc, .ref qm, .ref qd, .int ch, .int fe, .int sz, .int rd, .int ca, .int sx, .ref qp, .int co, .int gi, .int aw, .int cg, .int bk, .ref qs, .ref ql, .ref qo, .int ax, .long wi])), (qm, .inl (cJ, 8192, .inr (.inl g_82)))]) hP hD [0, 1] [2, 3, 4, 5] rfl rfl (by decide) (by decide) hk1 hFc hP1 hD1
          generalize H1 = H at hP hS hk1 ⊢
          have hP : va_P (dC, dI) vwCl [(qd, .inl (cJ, 131072, .inr (.inl (mL Dk)))), (qs, .inl (cJ, 16, .inr (.inl gs))), (ql, .inl (cJ, 16, .inr (.inl gl))), (qo, .inl (cZ, 16, .inl go)), (o, .inr (4, [.int cd, .int sc, .ref qm, .ref qd, .int ch, .int fe, .int sz, .int rd, .int ca, .int sx, .ref qp, .int co, .int gi, .int aw, .int cg, .int bk, .ref qs, .ref ql, .ref qo, .int ax, .long wi])), (qm, .inl (cJ, 8192, .inr (.inl g_82)))] H := hP
          have hD : va_D A [(qd, .inl (cJ, 131072, .inr (.inl (mL Dk)))), (qs, .inl (cJ, 16, .inr (.inl gs))), (ql, .inl (cJ, 16, .inr (.inl gl))), (qo, .inl (cZ, 16, .inl go)), (o, .inr (4, [.int cd, .int sc, .ref qm, .ref qd, .int ch, .int fe, .int sz, .int rd, .int ca, .int sx, .ref qp, .int co, .int gi, .int aw, .int cg, .int bk, .ref qs, .ref ql, .ref qo, .int ax, .long wi])), (qm, .inl (cJ, 8192, .inr (.inl g_82)))] := hD
          have hw_83 : g_82 = mL (pbs M (rpl O) 1 1) := hw2
          refine lv_lload hx hb dX4_request_417 (lv_at hl 1 rfl) ?_
          refine lv_lconst (v := 1) hx hb dX4_request_419 (by decide) ?_
          refine lv_ladd hx hb dX4_request_420 ?_
          have hP9 : va_P (dC, dI) vwCl [(o, .inr (4, [.int cd, .int sc, .ref qm, .ref qd, .int ch, .int fe, .int sz, .int rd, .int ca, .int sx, .ref qp, .int co, .int gi, .int aw, .int cg, .int bk, .ref qs, .ref ql, .ref qo, .int ax, .long wi])), (qm, .inl (cJ, 8192, .inr (.inl g_82))), (qd, .inl (cJ, 131072, .inr (.inl (mL Dk)))), (qs, .inl (cJ, 16, .inr (.inl gs))), (ql, .inl (cJ, 16, .inr (.inl gl))), (qo, .inl (cZ, 16, .inl go))] H := by exact hP.sub (ws' := [(o, .inr (4, [.int cd, .int sc, .ref qm, .ref qd, .int ch, .int fe, .int sz, .int rd, .int ca, .int sx, .ref qp, .int co, .int gi, .int aw, .int cg, .int bk, .ref qs, .ref ql, .ref qo, .int ax, .long wi])), (qm, .inl (cJ, 8192, .inr (.inl g_82))), (qd, .inl (cJ, 131072, .inr (.inl (mL Dk)))), (qs, .inl (cJ, 16, .inr (.inl gs))), (ql, .inl (cJ, 16, .inr (.inl gl))), (qo, .inl (cZ, 16, .inl go))]) [4, 5, 0, 1, 2, 3] rfl
          have hD9 : va_D A [(o, .inr (4, [.int cd, .int sc, .ref qm, .ref qd, .int ch, .int fe, .int sz, .int rd, .int ca, .int sx, .ref qp, .int co, .int gi, .int aw, .int cg, .int bk, .ref qs, .ref ql, .ref qo, .int ax, .long wi])), (qm, .inl (cJ, 8192, .inr (.inl g_82))), (qd, .inl (cJ, 131072, .inr (.inl (mL Dk)))), (qs, .inl (cJ, 16, .inr (.inl gs))), (ql, .inl (cJ, 16, .inr (.inl gl))), (qo, .inl (cZ, 16, .inl go))] := by exact hD.sub (ws' := [(o, .inr (4, [.int cd, .int sc, .ref qm, .ref qd, .int ch, .int fe, .int sz, .int rd, .int ca, .int sx, .ref qp, .int co, .int gi, .int aw, .int cg, .int bk, .ref qs, .ref ql, .ref qo, .int ax, .long wi])), (qm, .inl (cJ, 8192, .inr (.inl g_82))), (qd, .inl (cJ, 131072, .inr (.inl (mL Dk)))), (qs, .inl (cJ, 16, .inr (.inl gs))), (ql, .inl (cJ, 16, .inr (.inl gl))), (qo, .inl (cZ, 16, .inl go))]) [4, 5, 0, 1, 2, 3] (by decide) rfl
          have hK9 := hK.sub (tys' := [(cJ, .long), (cZ, .boolean)]) [0, 1] rfl
          exact W.lret (v := 0 + 1) hx hb hr (fun t ht hW => ⟨⟨_, (cg, ax, wi, g_82, mL Dk), rfl, (by unfold reqS; rw [hBq]; exact ⟨by rw [hw_83, pbs1]; rfl, rfl, rfl, rfl⟩), by rw [ht]; exact hP9, va_K.moved hW.alike hK9, hD9⟩, hS.F ht⟩) hS.2.2 dX4_request_421
        · skip
          exact absurd c_81 (by decide)
      · skip
        have b_84 : (secP r_2 nn (tot (mS C.tail))) := bI_1 (by rw [← hr_78]; exact c_79)
        have hsp : secP r_2 nn (tot (mS C.tail)) := b_84
        refine lv_iconst (v := 0) hx hb dX4_request_155 (by decide) ?_
        refine lv_goto (tgt := 160) hx hb dX4_request_156 (by decide) ?_
        refine lv_istore (lv' := [(9, .int 0), (10, .long 0), (7, .long r_4), (5, .long r_3), (3, .long r_2), (1, .long r_1), (0, .ref o)]) hx hb dX4_request_160 hl (by decide) rfl (fun ls hl => ?_)
        refine lv_iload hx hb dX4_request_162 (lv_at hl 0 rfl) ?_
        refine lv_if_ne (tgt := 384) hx hb dX4_request_164 (by decide) (fun c_85 => ?_) (fun c_85 => ?_)
        · skip
          exact absurd c_85 (by decide)
        · skip
          refine lv_aload_n hx hb dX4_request_167 rfl (lv_at hl 6 rfl) ?_
          refine lv_iconst (v := 0) hx hb dX4_request_168 (by decide) ?_
          have hC2 : 1 < C.length := by
            have hpos : 0 < tot (mS C.tail) := hsp.1
            rcases C with _ | ⟨c0, _ | ⟨c1, C⟩⟩
            · exact absurd hpos (Nat.lt_irrefl 0)
            · exact absurd hpos (Nat.lt_irrefl 0)
            · simp
          have hPc := hP.sub (ws' := [(o, .inr (4, [.int cd, .int sc, .ref qm, .ref qd, .int ch, .int fe, .int sz, .int rd, .int ca, .int sx, .ref qp, .int co, .int gi, .int aw, .int cg, .int bk, .ref qs, .ref ql, .ref qo, .int ax, .long wi])), (qo, .inl (cZ, 16, .inl go))]) [0, 5] rfl
          have hKc := hK.sub (tys' := [(cZ, .boolean)]) [1] rfl
          have hDc := hD.sub (ws' := [(o, .inr (4, [.int cd, .int sc, .ref qm, .ref qd, .int ch, .int fe, .int sz, .int rd, .int ca, .int sx, .ref qp, .int co, .int gi, .int aw, .int cg, .int bk, .ref qs, .ref ql, .ref qo, .int ax, .long wi])), (qo, .inl (cZ, 16, .inl go))]) [0, 5] (by decide) rfl
          have hFc := va_free (wc := [(o, .inr (4, [.int cd, .int sc, .ref qm, .ref qd, .int ch, .int fe, .int sz, .int rd, .int ca, .int sx, .ref qp, .int co, .int gi, .int aw, .int cg, .int bk, .ref qs, .ref ql, .ref qo, .int ax, .long wi])), (qo, .inl (cZ, 16, .inl go))]) hD hS hA [0, 5] rfl
          have hZc : ZZ (va_A [(o, .inr (4, [.int cd, .int sc, .ref qm, .ref qd, .int ch, .int fe, .int sz, .int rd, .int ca, .int sx, .ref qp, .int co, .int gi, .int aw, .int cg, .int bk, .ref qs, .ref ql, .ref qo, .int ax, .long wi])), (qo, .inl (cZ, 16, .inl go))] s.heap.size) s s.heap := (hZ.kept hS.2.1).narrow hFc
          refine va_callv (va_runV (As := [.int 0]) (rest := []) ⟨hx, hb, hml, hown, hw⟩ (m_beginData0 l dC dI o cd sc qm qd ch fe sz rd ca sx qp co gi aw cg bk qs ql qo ax wi cZ go 1 s.heap.size (by decide) (by decide) (hgg.2.2.2 1 hC2) (fun i h1 h2 => absurd h2 (by omega))) (cwV 1 hw (gV w_bfbe5a51b4 w_cd2c971d8c w_ba37063f50 w_2b384744dc w_7825aad9b6) rfl rfl rfl (by decide +kernel) ⟨Nat.le_of_ble_eq_true rfl, Nat.le_of_ble_eq_true rfl⟩) ⟨fun a U g mk q => by obtain ⟨q0, q1, qP, qK, qD, qZ⟩ := q; exact ⟨q0, q1, qP, va_K.moved (u := U) (U := U.calling g mk a) (Vm.Alike.refl U.vm) qK, qD, ZZ.same (u := U) (U := U.calling g mk a) rfl qZ⟩, va_recv hKc hPc (ci := 4) (q0 := 0) rfl rfl, fun U hU hW => ⟨rfl, by rw [hU], by rw [hU]; exact hPc, va_K.moved hW.alike hKc, hDc.weaken (fun _ _ _ _ => trivial), by rw [hU]; exact ZZ.warm hW hZc⟩⟩ rfl rfl hl.1 rfl (lv_room (Nat.le_of_ble_eq_true rfl)) dX4_request_169 ⟨Nat.zero_le _, Nat.zero_le _⟩) hS (fun q _ h => hFc q h) hFc (fun u t H1 locs ht hvm hw2 hB hz1 hk1 hS => ?_)
          obtain ⟨ax2_86, rfl⟩ : ∃ z, z = u := ⟨_, rfl⟩
          obtain ⟨hP1, hK1, hD1⟩ := hB
          rw [ht] at hP1
          have hK1 := va_K.moved hvm.symm hK1
          try dsimp only at hw2
          obtain ⟨hP, hD⟩ := va_join (wr := [(qm, .inl (cJ, 8192, .inr (.inl (mL M)))), (qd, .inl (cJ, 131072, .inr (.inl (mL Dk)))), (qs, .inl (cJ, 16, .inr (.inl gs))), (ql, .inl (cJ, 16, .inr (.inl gl)))]) (w1 := [(o, .inr (4, [.int cd, .int sc, .ref qm, .ref qd, .int ch, .int fe, .int sz, .int rd, .int ca, .int sx, .ref qp, .int co, .int gi, .int aw, .int cg, .int bk, .ref qs, .ref ql, .ref qo, .int ax2_86, .long 0])), (qo, .inl (cZ, 16, .inl go))]) hP hD [0, 5] [1, 2, 3, 4] rfl rfl (by decide) (by decide) hk1 hFc hP1 hD1
          generalize H1 = H at hP hS hk1 ⊢
          have hP : va_P (dC, dI) vwCl [(qm, .inl (cJ, 8192, .inr (.inl (mL M)))), (qd, .inl (cJ, 131072, .inr (.inl (mL Dk)))), (qs, .inl (cJ, 16, .inr (.inl gs))), (ql, .inl (cJ, 16, .inr (.inl gl))), (o, .inr (4, [.int cd, .int sc, .ref qm, .ref qd, .int ch, .int fe, .int sz, .int rd, .int ca, .int sx, .ref qp, .int co, .int gi, .int aw, .int cg, .int bk, .ref qs, .ref ql, .ref qo, .int ax2_86, .long 0])), (qo, .inl (cZ, 16, .inl go))] H := hP
          have hD : va_D A [(qm, .inl (cJ, 8192, .inr (.inl (mL M)))), (qd, .inl (cJ, 131072, .inr (.inl (mL Dk)))), (qs, .inl (cJ, 16, .inr (.inl gs))), (ql, .inl (cJ, 16, .inr (.inl gl))), (o, .inr (4, [.int cd, .int sc, .ref qm, .ref qd, .int ch, .int fe, .int sz, .int rd, .int ca, .int sx, .ref qp, .int co, .int gi, .int aw, .int cg, .int bk, .ref qs, .ref ql, .ref qo, .int ax2_86, .long 0])), (qo, .inl (cZ, 16, .inl go))] := hD
          have hw_87 : ax2_86 = nI 1 := hw2
          refine lv_lconst (v := 0) hx hb dX4_request_172 (by decide) ?_
          refine lv_lstore (lv' := [(12, .long 0), (9, .int 0), (10, .long 0), (7, .long r_4), (5, .long r_3), (3, .long r_2), (1, .long r_1), (0, .ref o)]) hx hb dX4_request_173 hl (by decide) rfl (fun ls hl => ?_)
          have loop175 : ∀ (N : Nat) (kk : Nat) (kx : Int64) (i : Nat) (w : Nat) (Q : List (Nat × Nat)) (ax3 : Int32) (wi3 : Int64) (g : Nat → Int64) (hN : tot (mS C.tail) - kk < N) (ekx : kx = lN kk) (hkT : kk ≤ tot (mS C.tail)) (eg : g = mL (wrs Dk (fun k => 512 * r_2.toInt.toNat + k) (fun k => M (nth (mS C.tail) k)) kk)) (ea : ax3 = nI i) (ew : wi3 = lN w) (hseg : seg gs gl i Q) (hwh : w ≤ hdl Q) (hwt : w + (tot (mS C.tail) - kk) = tot Q) (hnt : ∀ d, nth Q (w + d) = nth (mS C.tail) (kk + d)) (H : Heap) (locs : List Loc) (hP : va_P (dC, dI) vwCl [(o, .inr (4, [.int cd, .int sc, .ref qm, .ref qd, .int ch, .int fe, .int sz, .int rd, .int ca, .int sx, .ref qp, .int co, .int gi, .int aw, .int cg, .int bk, .ref qs, .ref ql, .ref qo, .int ax3, .long wi3])), (qm, .inl (cJ, 8192, .inr (.inl (mL M)))), (qd, .inl (cJ, 131072, .inr (.inl g))), (qs, .inl (cJ, 16, .inr (.inl gs))), (ql, .inl (cJ, 16, .inr (.inl gl))), (qo, .inl (cZ, 16, .inl go))] H) (hD : va_D A [(o, .inr (4, [.int cd, .int sc, .ref qm, .ref qd, .int ch, .int fe, .int sz, .int rd, .int ca, .int sx, .ref qp, .int co, .int gi, .int aw, .int cg, .int bk, .ref qs, .ref ql, .ref qo, .int ax3, .long wi3])), (qm, .inl (cJ, 8192, .inr (.inl (mL M)))), (qd, .inl (cJ, 131072, .inr (.inl g))), (qs, .inl (cJ, 16, .inr (.inl gs))), (ql, .inl (cJ, 16, .inr (.inl gl))), (qo, .inl (cZ, 16, .inl go))]) (hS : va_S A s.heap H locs) (ls : Array Slot) (hl : lv_has ls 14 [(12, .long kx), (9, .int 0), (10, .long 0), (7, .long r_4), (5, .long r_3), (3, .long r_2), (1, .long r_1), (0, .ref o)]), W p l e (headSpec wsX4_request ({ frames := 2, cells := 0, slots := 0, locals := 100 })).room s m [.ref o].toArray below meth c H locs 0 0 (MQ below (va_Ql (fun (r : Int64) (u : Int32 × Int32 × Int64 × (Nat → Int64) × (Nat → Int64)) => match u with | (cg2, ax2, wi2, gm, gd) => gm = mL (reqS spM M Dk nn cg C O).1 ∧ gd = mL (reqS spM M Dk nn cg C O).2.1 ∧ cg2 = (reqS spM M Dk nn cg C O).2.2.1 ∧ r = lN (reqS spM M Dk nn cg C O).2.2.2) (fun (u : Int32 × Int32 × Int64 × (Nat → Int64) × (Nat → Int64)) (t : State) => match u with | (cg2, ax2, wi2, gm, gd) => va_P (dC, dI) vwCl [(o, .inr (4, [.int cd, .int sc, .ref qm, .ref qd, .int ch, .int fe, .int sz, .int rd, .int ca, .int sx, .ref qp, .int co, .int gi, .int aw, .int cg2, .int bk, .ref qs, .ref ql, .ref qo, .int ax2, .long wi2])), (qm, .inl (cJ, 8192, .inr (.inl gm))), (qd, .inl (cJ, 131072, .inr (.inl gd))), (qs, .inl (cJ, 16, .inr (.inl gs))), (ql, .inl (cJ, 16, .inr (.inl gl))), (qo, .inl (cZ, 16, .inl go))] t.heap ∧ va_K (dC, dI) vwCl [(cJ, .long), (cZ, .boolean)] t ∧ va_D A [(o, .inr (4, [.int cd, .int sc, .ref qm, .ref qd, .int ch, .int fe, .int sz, .int rd, .int ca, .int sx, .ref qp, .int co, .int gi, .int aw, .int cg2, .int bk, .ref qs, .ref ql, .ref qo, .int ax2, .long wi2])), (qm, .inl (cJ, 8192, .inr (.inl gm))), (qd, .inl (cJ, 131072, .inr (.inl gd))), (qs, .inl (cJ, 16, .inr (.inl gs))), (ql, .inl (cJ, 16, .inr (.inl gl))), (qo, .inl (cZ, 16, .inl go))]) A) [.ref o].toArray s 0 0 A) (F0 m 175 ls []) := by
            intro N
            induction N with
            | zero => intro kk kx i w Q ax3 wi3 g hN ekx hkT eg ea ew hseg hwh hwt hnt H locs hP hD hS ls hl; exact absurd hN (Nat.not_lt_zero _)
            | succ N ih =>
              intro kk kx i w Q ax3 wi3 g hN ekx hkT eg ea ew hseg hwh hwt hnt H locs hP hD hS ls hl
              refine lv_lload hx hb dX4_request_175 (lv_at hl 0 rfl) ?_
              refine lv_lload hx hb dX4_request_177 (lv_at hl 3 rfl) ?_
              refine W.lcmp hx hb dX4_request_179 ?_
              refine lv_if_ge (tgt := 218) hx hb dX4_request_180 (by decide) (fun c_88 => ?_) (fun c_88 => ?_)
              · skip
                have hkk : kk = tot (mS C.tail) := by rw [ekx, e7, lcge, lN_toInt (by omega), lN_toInt (by omega)] at c_88; omega
                subst eg
                refine lv_aload_n hx hb dX4_request_218 rfl (lv_at hl 7 rfl) ?_
                refine lv_dup hx hb dX4_request_219 rfl ?_
                refine va_get (D := (dC, dI)) (ci := 4) (v := .int cg) (C := RX4) (T := TX4) (N := 21) hx hb hw inX4 hown hK hP 0 rfl rfl 14 (by decide) (hw _ w_45c0d117f5) (fun _ h9 => h9) rfl dX4_request_220 ?_
                refine lv_lload hx hb dX4_request_223 (lv_at hl 3 rfl) ?_
                refine lv_ldc2 (v := 512) hx hb hown (hw _ w_5782e256a5) dX4_request_225 ?_
                refine lv_ldiv hx hb dX4_request_228 (by decide) ?_
                refine lv_l2i (v := (r_4 / 512).toInt32) hx hb dX4_request_229 rfl ?_
                refine lv_iadd hx hb dX4_request_230 ?_
                refine lv_topi (fun x_89 ex_89 => ?_)
                refine va_put (D := (dC, dI)) (ci := 4) (v := .int x_89) (ty := .int) (C := RX4) (T := TX4) (N := 21) hx hb hw inX4 tyX4 tyX4_ok nmX4 hown hK hP hD hS 0 rfl rfl 14 (by decide) (hw _ w_45c0d117f5) (fun _ h9 => h9) rfl (by decide +kernel) rfl rfl (Nat.le_of_ble_eq_true rfl) dX4_request_231 (fun H locs hP hD hS => ?_)
                have hP : va_P (dC, dI) vwCl [(o, .inr (4, [.int cd, .int sc, .ref qm, .ref qd, .int ch, .int fe, .int sz, .int rd, .int ca, .int sx, .ref qp, .int co, .int gi, .int aw, .int x_89, .int bk, .ref qs, .ref ql, .ref qo, .int ax3, .long wi3])), (qm, .inl (cJ, 8192, .inr (.inl (mL M)))), (qd, .inl (cJ, 131072, .inr (.inl (mL (wrs Dk (fun k => 512 * r_2.toInt.toNat + k) (fun k => M (nth (mS C.tail) k)) kk))))), (qs, .inl (cJ, 16, .inr (.inl gs))), (ql, .inl (cJ, 16, .inr (.inl gl))), (qo, .inl (cZ, 16, .inl go))] H := hP
                have hD : va_D A [(o, .inr (4, [.int cd, .int sc, .ref qm, .ref qd, .int ch, .int fe, .int sz, .int rd, .int ca, .int sx, .ref qp, .int co, .int gi, .int aw, .int x_89, .int bk, .ref qs, .ref ql, .ref qo, .int ax3, .long wi3])), (qm, .inl (cJ, 8192, .inr (.inl (mL M)))), (qd, .inl (cJ, 131072, .inr (.inl (mL (wrs Dk (fun k => 512 * r_2.toInt.toNat + k) (fun k => M (nth (mS C.tail) k)) kk))))), (qs, .inl (cJ, 16, .inr (.inl gs))), (ql, .inl (cJ, 16, .inr (.inl gl))), (qo, .inl (cZ, 16, .inl go))] := hD
                refine lv_goto (tgt := 384) hx hb dX4_request_234 (by decide) ?_
                have hBq : reqB spM M Dk nn cg C O = (M, wrs Dk (fun k => 512 * r_2.toInt.toNat + k) (fun k => M (nth (mS C.tail) k)) kk, cg + nI (tot (mS C.tail) / 512), 0, 0) := by rw [hkk, hr_2]; unfold reqB spM; rw [if_neg hkd0, if_pos hkd1, if_pos (decide_eq_true (by rw [← hr_2]; exact hsp))]
                refine lv_aload_n hx hb dX4_request_384 rfl (lv_at hl 7 rfl) ?_
                refine lv_aload_n hx hb dX4_request_385 rfl (lv_at hl 7 rfl) ?_
                refine va_get (D := (dC, dI)) (ci := 4) (v := .ref qs) (C := RX4) (T := TX4) (N := 21) hx hb hw inX4 hown hK hP 0 rfl rfl 16 (by decide) (hw _ w_c92d01c177) (fun _ h9 => h9) rfl dX4_request_386 ?_
                refine lv_aload_n hx hb dX4_request_389 rfl (lv_at hl 7 rfl) ?_
                refine va_get (D := (dC, dI)) (ci := 4) (v := .int bk) (C := RX4) (T := TX4) (N := 21) hx hb hw inX4 hown hK hP 0 rfl rfl 15 (by decide) (hw _ w_f0da19b997) (fun _ h9 => h9) rfl dX4_request_390 ?_
                refine lv_iconst (v := 1) hx hb dX4_request_393 (by decide) ?_
                refine lv_isub hx hb dX4_request_394 ?_
                refine va_lald hx hb hK hP 3 0 rfl rfl hla.1 dX4_request_395 ?_
                refine lv_aload_n hx hb dX4_request_396 rfl (lv_at hl 7 rfl) ?_
                refine va_get (D := (dC, dI)) (ci := 4) (v := .ref ql) (C := RX4) (T := TX4) (N := 21) hx hb hw inX4 hown hK hP 0 rfl rfl 17 (by decide) (hw _ w_c20510a516) (fun _ h9 => h9) rfl dX4_request_397 ?_
                refine lv_aload_n hx hb dX4_request_400 rfl (lv_at hl 7 rfl) ?_
                refine va_get (D := (dC, dI)) (ci := 4) (v := .int bk) (C := RX4) (T := TX4) (N := 21) hx hb hw inX4 hown hK hP 0 rfl rfl 15 (by decide) (hw _ w_f0da19b997) (fun _ h9 => h9) rfl dX4_request_401 ?_
                refine lv_iconst (v := 1) hx hb dX4_request_404 (by decide) ?_
                refine lv_isub hx hb dX4_request_405 ?_
                refine va_lald hx hb hK hP 4 0 rfl rfl hla.1 dX4_request_406 ?_
                refine lv_ladd hx hb dX4_request_407 ?_
                refine lv_lconst (v := 1) hx hb dX4_request_408 (by decide) ?_
                refine lv_lsub hx hb dX4_request_409 ?_
                refine lv_iconst (v := 1) hx hb dX4_request_410 (by decide) ?_
                refine lv_iload hx hb dX4_request_411 (lv_at hl 1 rfl) ?_
                refine lv_i2l (v := (0 : Int32).toInt64) hx hb dX4_request_413 rfl ?_
                have hPc := hP.sub (ws' := [(o, .inr (4, [.int cd, .int sc, .ref qm, .ref qd, .int ch, .int fe, .int sz, .int rd, .int ca, .int sx, .ref qp, .int co, .int gi, .int aw, .int x_89, .int bk, .ref qs, .ref ql, .ref qo, .int ax3, .long wi3])), (qm, .inl (cJ, 8192, .inr (.inl (mL M))))]) [0, 1] rfl
                have hKc := hK.sub (tys' := [(cJ, .long)]) [0] rfl
                have hDc := hD.sub (ws' := [(o, .inr (4, [.int cd, .int sc, .ref qm, .ref qd, .int ch, .int fe, .int sz, .int rd, .int ca, .int sx, .ref qp, .int co, .int gi, .int aw, .int x_89, .int bk, .ref qs, .ref ql, .ref qo, .int ax3, .long wi3])), (qm, .inl (cJ, 8192, .inr (.inl (mL M))))]) [0, 1] (by decide) rfl
                have hFc := va_free (wc := [(o, .inr (4, [.int cd, .int sc, .ref qm, .ref qd, .int ch, .int fe, .int sz, .int rd, .int ca, .int sx, .ref qp, .int co, .int gi, .int aw, .int x_89, .int bk, .ref qs, .ref ql, .ref qo, .int ax3, .long wi3])), (qm, .inl (cJ, 8192, .inr (.inl (mL M))))]) hD hS hA [0, 1] rfl
                have hZc : ZZ (va_A [(o, .inr (4, [.int cd, .int sc, .ref qm, .ref qd, .int ch, .int fe, .int sz, .int rd, .int ca, .int sx, .ref qp, .int co, .int gi, .int aw, .int x_89, .int bk, .ref qs, .ref ql, .ref qo, .int ax3, .long wi3])), (qm, .inl (cJ, 8192, .inr (.inl (mL M))))] H.size) s H := (hZ.kept hS.2.1).narrow hFc
                refine va_callv (va_runV (As := [.long (((gs (bk - 1).toNatClampNeg) + (gl (bk - 1).toNatClampNeg)) - 1), .int 1, .long ((0 : Int32).toInt64)]) (rest := []) ⟨hx, hb, hml, hown, hw⟩ (m_put l dC dI o cd sc qm qd ch fe sz rd ca sx qp co gi aw x_89 bk qs ql qo ax3 wi3 cJ M (((gs (bk - 1).toNatClampNeg) + (gl (bk - 1).toNatClampNeg)) - 1) 1 ((0 : Int32).toInt64) 1 (rpl O) 0 H.size rfl (by decide) hla.2.1 hla.2.2 hM rfl (by decide)) (cwV 3 hw (gV w_9c56ffd0dc w_152cce5fe8 w_ffdd99591d w_2b384744dc w_947246c675) rfl rfl rfl (by decide +kernel) ⟨Nat.le_of_ble_eq_true rfl, Nat.le_of_ble_eq_true rfl⟩) ⟨fun a U g mk q => by obtain ⟨q0, q1, qP, qK, qD, qZ⟩ := q; exact ⟨q0, q1, qP, va_K.moved (u := U) (U := U.calling g mk a) (Vm.Alike.refl U.vm) qK, qD, ZZ.same (u := U) (U := U.calling g mk a) rfl qZ⟩, va_recv hKc hPc (ci := 4) (q0 := 0) rfl rfl, fun U hU hW => ⟨rfl, by rw [hU], by rw [hU]; exact hPc, va_K.moved hW.alike hKc, hDc.weaken (fun _ _ _ _ => trivial), by rw [hU]; exact ZZ.warm hW hZc⟩⟩ rfl rfl hl.1 rfl (lv_room (Nat.le_of_ble_eq_true rfl)) dX4_request_414 ⟨Nat.zero_le _, Nat.zero_le _⟩) hS (fun q _ h => hFc q h) hFc (fun u t H1 locs ht hvm hw2 hB hz1 hk1 hS => ?_)
                obtain ⟨g_90, rfl⟩ : ∃ z, z = u := ⟨_, rfl⟩
                obtain ⟨hP1, hK1, hD1⟩ := hB
                rw [ht] at hP1
                have hK1 := va_K.moved hvm.symm hK1
                try dsimp only at hw2
                obtain ⟨hP, hD⟩ := va_join (wr := [(qd, .inl (cJ, 131072, .inr (.inl (mL (wrs Dk (fun k => 512 * r_2.toInt.toNat + k) (fun k => M (nth (mS C.tail) k)) kk))))), (qs, .inl (cJ, 16, .inr (.inl gs))), (ql, .inl (cJ, 16, .inr (.inl gl))), (qo, .inl (cZ, 16, .inl go))]) (w1 := [(o, .inr (4, [.int cd, .int sc, .ref qm, .ref qd, .int ch, .int fe, .int sz, .int rd, .int ca, .int sx, .ref qp, .int co, .int gi, .int aw, .int x_89, .int bk, .ref qs, .ref ql, .ref qo, .int ax3, .long wi3])), (qm, .inl (cJ, 8192, .inr (.inl g_90)))]) hP hD [0, 1] [2, 3, 4, 5] rfl rfl (by decide) (by decide) hk1 hFc hP1 hD1
                generalize H1 = H at hP hS hk1 ⊢
                have hP : va_P (dC, dI) vwCl [(qd, .inl (cJ, 131072, .inr (.inl (mL (wrs Dk (fun k => 512 * r_2.toInt.toNat + k) (fun k => M (nth (mS C.tail) k)) kk))))), (qs, .inl (cJ, 16, .inr (.inl gs))), (ql, .inl (cJ, 16, .inr (.inl gl))), (qo, .inl (cZ, 16, .inl go)), (o, .inr (4, [.int cd, .int sc, .ref qm, .ref qd, .int ch, .int fe, .int sz, .int rd, .int ca, .int sx, .ref qp, .int co, .int gi, .int aw, .int x_89, .int bk, .ref qs, .ref ql, .ref qo, .int ax3, .long wi3])), (qm, .inl (cJ, 8192, .inr (.inl g_90)))] H := hP
                have hD : va_D A [(qd, .inl (cJ, 131072, .inr (.inl (mL (wrs Dk (fun k => 512 * r_2.toInt.toNat + k) (fun k => M (nth (mS C.tail) k)) kk))))), (qs, .inl (cJ, 16, .inr (.inl gs))), (ql, .inl (cJ, 16, .inr (.inl gl))), (qo, .inl (cZ, 16, .inl go)), (o, .inr (4, [.int cd, .int sc, .ref qm, .ref qd, .int ch, .int fe, .int sz, .int rd, .int ca, .int sx, .ref qp, .int co, .int gi, .int aw, .int x_89, .int bk, .ref qs, .ref ql, .ref qo, .int ax3, .long wi3])), (qm, .inl (cJ, 8192, .inr (.inl g_90)))] := hD
                have hw_91 : g_90 = mL (pbs M (rpl O) 0 1) := hw2
                refine lv_lload hx hb dX4_request_417 (lv_at hl 2 rfl) ?_
                refine lv_lconst (v := 1) hx hb dX4_request_419 (by decide) ?_
                refine lv_ladd hx hb dX4_request_420 ?_
                have hP9 : va_P (dC, dI) vwCl [(o, .inr (4, [.int cd, .int sc, .ref qm, .ref qd, .int ch, .int fe, .int sz, .int rd, .int ca, .int sx, .ref qp, .int co, .int gi, .int aw, .int x_89, .int bk, .ref qs, .ref ql, .ref qo, .int ax3, .long wi3])), (qm, .inl (cJ, 8192, .inr (.inl g_90))), (qd, .inl (cJ, 131072, .inr (.inl (mL (wrs Dk (fun k => 512 * r_2.toInt.toNat + k) (fun k => M (nth (mS C.tail) k)) kk))))), (qs, .inl (cJ, 16, .inr (.inl gs))), (ql, .inl (cJ, 16, .inr (.inl gl))), (qo, .inl (cZ, 16, .inl go))] H := by exact hP.sub (ws' := [(o, .inr (4, [.int cd, .int sc, .ref qm, .ref qd, .int ch, .int fe, .int sz, .int rd, .int ca, .int sx, .ref qp, .int co, .int gi, .int aw, .int x_89, .int bk, .ref qs, .ref ql, .ref qo, .int ax3, .long wi3])), (qm, .inl (cJ, 8192, .inr (.inl g_90))), (qd, .inl (cJ, 131072, .inr (.inl (mL (wrs Dk (fun k => 512 * r_2.toInt.toNat + k) (fun k => M (nth (mS C.tail) k)) kk))))), (qs, .inl (cJ, 16, .inr (.inl gs))), (ql, .inl (cJ, 16, .inr (.inl gl))), (qo, .inl (cZ, 16, .inl go))]) [4, 5, 0, 1, 2, 3] rfl
                have hD9 : va_D A [(o, .inr (4, [.int cd, .int sc, .ref qm, .ref qd, .int ch, .int fe, .int sz, .int rd, .int ca, .int sx, .ref qp, .int co, .int gi, .int aw, .int x_89, .int bk, .ref qs, .ref ql, .ref qo, .int ax3, .long wi3])), (qm, .inl (cJ, 8192, .inr (.inl g_90))), (qd, .inl (cJ, 131072, .inr (.inl (mL (wrs Dk (fun k => 512 * r_2.toInt.toNat + k) (fun k => M (nth (mS C.tail) k)) kk))))), (qs, .inl (cJ, 16, .inr (.inl gs))), (ql, .inl (cJ, 16, .inr (.inl gl))), (qo, .inl (cZ, 16, .inl go))] := by exact hD.sub (ws' := [(o, .inr (4, [.int cd, .int sc, .ref qm, .ref qd, .int ch, .int fe, .int sz, .int rd, .int ca, .int sx, .ref qp, .int co, .int gi, .int aw, .int x_89, .int bk, .ref qs, .ref ql, .ref qo, .int ax3, .long wi3])), (qm, .inl (cJ, 8192, .inr (.inl g_90))), (qd, .inl (cJ, 131072, .inr (.inl (mL (wrs Dk (fun k => 512 * r_2.toInt.toNat + k) (fun k => M (nth (mS C.tail) k)) kk))))), (qs, .inl (cJ, 16, .inr (.inl gs))), (ql, .inl (cJ, 16, .inr (.inl gl))), (qo, .inl (cZ, 16, .inl go))]) [4, 5, 0, 1, 2, 3] (by decide) rfl
                have hK9 := hK.sub (tys' := [(cJ, .long), (cZ, .boolean)]) [0, 1] rfl
                exact W.lret (v := 0 + 1) hx hb hr (fun t ht hW => ⟨⟨_, (x_89, ax3, wi3, g_90, mL (wrs Dk (fun k => 512 * r_2.toInt.toNat + k) (fun k => M (nth (mS C.tail) k)) kk)), rfl, (by unfold reqS; rw [hBq]; exact ⟨by rw [hw_91, pbs1]; rfl, rfl, (by rw [ex_89, e7, show (512 : Int64) = lN 512 from rfl, pk_lDiv (by omega) (by decide) (by decide), lN_i]; rfl), rfl⟩), by rw [ht]; exact hP9, va_K.moved hW.alike hK9, hD9⟩, hS.F ht⟩) hS.2.2 dX4_request_421
              · skip
                have hkk : kk < tot (mS C.tail) := by rw [ekx, e7, lcge, lN_toInt (by omega), lN_toInt (by omega)] at c_88; omega
                subst eg
                refine lv_aload_n hx hb dX4_request_183 rfl (lv_at hl 7 rfl) ?_
                refine va_get (D := (dC, dI)) (ci := 4) (v := .ref qd) (C := RX4) (T := TX4) (N := 21) hx hb hw inX4 hown hK hP 0 rfl rfl 3 (by decide) (hw _ w_ba2971feac) (fun _ h9 => h9) rfl dX4_request_184 ?_
                refine lv_ldc2 (v := 512) hx hb hown (hw _ w_5782e256a5) dX4_request_187 ?_
                refine lv_lload_n hx hb dX4_request_190 rfl (lv_at hl 5 rfl) ?_
                refine lv_lmul hx hb dX4_request_191 ?_
                refine lv_lload hx hb dX4_request_192 (lv_at hl 0 rfl) ?_
                refine lv_ladd hx hb dX4_request_194 ?_
                refine lv_l2i (v := ((512 * r_2) + kx).toInt32) hx hb dX4_request_195 rfl ?_
                refine lv_aload_n hx hb dX4_request_196 rfl (lv_at hl 7 rfl) ?_
                refine lv_aload_n hx hb dX4_request_197 rfl (lv_at hl 7 rfl) ?_
                have hPc := hP.sub (ws' := [(o, .inr (4, [.int cd, .int sc, .ref qm, .ref qd, .int ch, .int fe, .int sz, .int rd, .int ca, .int sx, .ref qp, .int co, .int gi, .int aw, .int cg, .int bk, .ref qs, .ref ql, .ref qo, .int ax3, .long wi3])), (ql, .inl (cJ, 16, .inr (.inl gl))), (qs, .inl (cJ, 16, .inr (.inl gs)))]) [0, 4, 3] rfl
                have hKc := hK.sub (tys' := [(cJ, .long)]) [0] rfl
                have hDc := hD.sub (ws' := [(o, .inr (4, [.int cd, .int sc, .ref qm, .ref qd, .int ch, .int fe, .int sz, .int rd, .int ca, .int sx, .ref qp, .int co, .int gi, .int aw, .int cg, .int bk, .ref qs, .ref ql, .ref qo, .int ax3, .long wi3])), (ql, .inl (cJ, 16, .inr (.inl gl))), (qs, .inl (cJ, 16, .inr (.inl gs)))]) [0, 4, 3] (by decide) rfl
                have hFc := va_free (wc := [(o, .inr (4, [.int cd, .int sc, .ref qm, .ref qd, .int ch, .int fe, .int sz, .int rd, .int ca, .int sx, .ref qp, .int co, .int gi, .int aw, .int cg, .int bk, .ref qs, .ref ql, .ref qo, .int ax3, .long wi3])), (ql, .inl (cJ, 16, .inr (.inl gl))), (qs, .inl (cJ, 16, .inr (.inl gs)))]) hD hS hA [0, 4, 3] rfl
                have hZc : ZZ (va_A [(o, .inr (4, [.int cd, .int sc, .ref qm, .ref qd, .int ch, .int fe, .int sz, .int rd, .int ca, .int sx, .ref qp, .int co, .int gi, .int aw, .int cg, .int bk, .ref qs, .ref ql, .ref qo, .int ax3, .long wi3])), (ql, .inl (cJ, 16, .inr (.inl gl))), (qs, .inl (cJ, 16, .inr (.inl gs)))] H.size) s H := (hZ.kept hS.2.1).narrow hFc
                refine va_calll (va_runV (As := []) (rest := [.ref o, .int (((512 * r_2) + kx).toInt32), .ref qd]) ⟨hx, hb, hml, hown, hw⟩ (m_nextByte l dC dI o cd sc qm qd ch fe sz rd ca sx qp co gi aw cg bk qs ql qo ax3 wi3 cJ gs gl i w Q H.size ea ew hseg hwh (by omega)) (cwV 0 hw (gV w_a95c20584f w_7f5d544229 w_2d0be2425c w_2b384744dc w_93b28c0a11) rfl rfl rfl (by decide +kernel) ⟨Nat.le_of_ble_eq_true rfl, Nat.le_of_ble_eq_true rfl⟩) ⟨fun a U g mk q => by obtain ⟨q0, q1, qP, qK, qD, qZ⟩ := q; exact ⟨q0, q1, qP, va_K.moved (u := U) (U := U.calling g mk a) (Vm.Alike.refl U.vm) qK, qD, ZZ.same (u := U) (U := U.calling g mk a) rfl qZ⟩, va_recv hKc hPc (ci := 4) (q0 := 0) rfl rfl, fun U hU hW => ⟨rfl, by rw [hU], by rw [hU]; exact hPc, va_K.moved hW.alike hKc, hDc.weaken (fun _ _ _ _ => trivial), by rw [hU]; exact ZZ.warm hW hZc⟩⟩ rfl rfl hl.1 rfl (lv_room (Nat.le_of_ble_eq_true rfl)) dX4_request_198 ⟨Nat.zero_le _, Nat.zero_le _⟩) hS (fun q _ h => hFc q h) hFc (fun r_92 u t H1 locs ht hvm hw2 hB hz1 hk1 hS => ?_)
                obtain ⟨ax2_93, wi2_94⟩ := u
                obtain ⟨hP1, hK1, hD1⟩ := hB
                rw [ht] at hP1
                have hK1 := va_K.moved hvm.symm hK1
                try dsimp only at hw2
                obtain ⟨hP, hD⟩ := va_join (wr := [(qm, .inl (cJ, 8192, .inr (.inl (mL M)))), (qd, .inl (cJ, 131072, .inr (.inl (mL (wrs Dk (fun k => 512 * r_2.toInt.toNat + k) (fun k => M (nth (mS C.tail) k)) kk))))), (qo, .inl (cZ, 16, .inl go))]) (w1 := [(o, .inr (4, [.int cd, .int sc, .ref qm, .ref qd, .int ch, .int fe, .int sz, .int rd, .int ca, .int sx, .ref qp, .int co, .int gi, .int aw, .int cg, .int bk, .ref qs, .ref ql, .ref qo, .int ax2_93, .long wi2_94])), (ql, .inl (cJ, 16, .inr (.inl gl))), (qs, .inl (cJ, 16, .inr (.inl gs)))]) hP hD [0, 4, 3] [1, 2, 5] rfl rfl (by decide) (by decide) hk1 hFc hP1 hD1
                generalize H1 = H at hP hS hk1 ⊢
                have hP : va_P (dC, dI) vwCl [(qm, .inl (cJ, 8192, .inr (.inl (mL M)))), (qd, .inl (cJ, 131072, .inr (.inl (mL (wrs Dk (fun k => 512 * r_2.toInt.toNat + k) (fun k => M (nth (mS C.tail) k)) kk))))), (qo, .inl (cZ, 16, .inl go)), (o, .inr (4, [.int cd, .int sc, .ref qm, .ref qd, .int ch, .int fe, .int sz, .int rd, .int ca, .int sx, .ref qp, .int co, .int gi, .int aw, .int cg, .int bk, .ref qs, .ref ql, .ref qo, .int ax2_93, .long wi2_94])), (ql, .inl (cJ, 16, .inr (.inl gl))), (qs, .inl (cJ, 16, .inr (.inl gs)))] H := hP
                have hD : va_D A [(qm, .inl (cJ, 8192, .inr (.inl (mL M)))), (qd, .inl (cJ, 131072, .inr (.inl (mL (wrs Dk (fun k => 512 * r_2.toInt.toNat + k) (fun k => M (nth (mS C.tail) k)) kk))))), (qo, .inl (cZ, 16, .inl go)), (o, .inr (4, [.int cd, .int sc, .ref qm, .ref qd, .int ch, .int fe, .int sz, .int rd, .int ca, .int sx, .ref qp, .int co, .int gi, .int aw, .int cg, .int bk, .ref qs, .ref ql, .ref qo, .int ax2_93, .long wi2_94])), (ql, .inl (cJ, 16, .inr (.inl gl))), (qs, .inl (cJ, 16, .inr (.inl gs)))] := hD
                have hw_95 : (∃ (i2 w2 : Nat) (R2 : List (Nat × Nat)), ax2_93 = nI i2 ∧ wi2_94 = lN w2 ∧ seg gs gl i2 R2 ∧ w2 ≤ hdl R2 ∧ w2 + (tot Q - w) = tot R2 + 1 ∧ ∀ d, nth R2 (w2 + d) = nth Q (w + 1 + d)) ∧ thP r_92 1 ∧ off r_92 = nth Q w := hw2
                obtain ⟨⟨i2, w2, Q2, ea2, ew2, hseg2, hwh2, hwt2, hnt2⟩, hthr, hofr⟩ := hw_95
                have hq0 : nth Q w = nth (mS C.tail) kk := hnt 0
                have hro := off_0 (ct := 1) hthr (by decide) (by decide)
                refine lv_iconst (v := 1) hx hb dX4_request_201 (by decide) ?_
                have hPc := hP.sub (ws' := [(o, .inr (4, [.int cd, .int sc, .ref qm, .ref qd, .int ch, .int fe, .int sz, .int rd, .int ca, .int sx, .ref qp, .int co, .int gi, .int aw, .int cg, .int bk, .ref qs, .ref ql, .ref qo, .int ax2_93, .long wi2_94])), (qm, .inl (cJ, 8192, .inr (.inl (mL M))))]) [3, 0] rfl
                have hKc := hK.sub (tys' := [(cJ, .long)]) [0] rfl
                have hZc := (hZ.kept hS.2.1).narrow (B := fun _ => False) (fun _ h => h.elim)
                refine vp_callSl (va_runV (As := [.long r_92, .int 1]) (rest := [.int (((512 * r_2) + kx).toInt32), .ref qd]) ⟨hx, hb, hml, hown, hw⟩ (m_number l dC dI o cd sc qm qd ch fe sz rd ca sx qp co gi aw cg bk qs ql qo ax2_93 wi2_94 cJ M r_92 1 1 (off r_92) rfl (by decide) hro.1 hro.2 hM) (cwV 2 hw (gV w_b394cd0f6f w_fab48a5191 w_cc770dbe30 w_2b384744dc w_c1a5c9b18f) rfl rfl rfl (by decide +kernel) ⟨Nat.le_of_ble_eq_true rfl, Nat.le_of_ble_eq_true rfl⟩) ⟨fun a U g mk q => by obtain ⟨q0, qP, qK, qZ⟩ := q; exact ⟨q0, qP, va_K.moved (u := U) (U := U.calling g mk a) (Vm.Alike.refl U.vm) qK, ZZ.same (u := U) (U := U.calling g mk a) rfl qZ⟩, va_recv hKc hPc (ci := 4) (q0 := 0) rfl rfl, fun U hU hW => ⟨rfl, by rw [hU]; exact hPc, va_K.moved hW.alike hKc, by rw [hU]; exact ZZ.warm hW hZc⟩⟩ rfl rfl hl.1 rfl (lv_room (Nat.le_of_ble_eq_true rfl)) dX4_request_202 ⟨Nat.zero_le _, Nat.zero_le _⟩).run (fun r_96 hr_96 => ?_)
                have hr_96 : r_96 = lN (nbs M (off r_92) 1) := hr_96
                refine lv_l2i (v := r_96.toInt32) hx hb dX4_request_205 rfl ?_
                have hPc := hP.sub (ws' := [(qd, .inl (cJ, 131072, .inr (.inl (mL (wrs Dk (fun k => 512 * r_2.toInt.toNat + k) (fun k => M (nth (mS C.tail) k)) kk)))))]) [1] rfl
                have hKc := hK.sub (tys' := [(cJ, .long)]) [0] rfl
                have hDc := hD.sub (ws' := [(qd, .inl (cJ, 131072, .inr (.inl (mL (wrs Dk (fun k => 512 * r_2.toInt.toNat + k) (fun k => M (nth (mS C.tail) k)) kk)))))]) [1] (by decide) rfl
                have hFc := va_free (wc := [(qd, .inl (cJ, 131072, .inr (.inl (mL (wrs Dk (fun k => 512 * r_2.toInt.toNat + k) (fun k => M (nth (mS C.tail) k)) kk)))))]) hD hS hA [1] rfl
                have hZc : ZZ (va_A [(qd, .inl (cJ, 131072, .inr (.inl (mL (wrs Dk (fun k => 512 * r_2.toInt.toNat + k) (fun k => M (nth (mS C.tail) k)) kk)))))] H.size) s H := (hZ.kept hS.2.1).narrow hFc
                refine va_callv (va_runS (As := [.ref qd, .int (((512 * r_2) + kx).toInt32), .int r_96.toInt32]) (rest := []) ⟨hx, hb, hml, hown, hw⟩ (m_putByte l dC dI qd cJ 131072 (wrs Dk (fun k => 512 * r_2.toInt.toNat + k) (fun k => M (nth (mS C.tail) k)) kk) (((512 * r_2) + kx).toInt32) (512 * r_2.toInt.toNat + kk) r_96.toInt32 H.size (by rw [ekx]; exact idx_ok hsp.2.2.2.1 kk) (by have h1 := hsp.2.2.2.1; have h2 := hsp.2.2.2.2.1; have h3 := hsp.2.2.2.2.2; have h4 := hsp.2.2.1; omega) (by decide) (byt_wrs hDk (fun _ => hM _) _)) (va_cwS 3 hw (gS w_25dd54422a w_d05a527ec7 w_2b384744dc w_6cd80c4d0e) rfl rfl rfl (by decide +kernel) ⟨Nat.le_of_ble_eq_true rfl, Nat.le_of_ble_eq_true rfl⟩) ⟨fun a U g mk q => by obtain ⟨q0, q1, qP, qK, qD, qZ⟩ := q; exact ⟨q0, q1, qP, va_K.moved (u := U) (U := U.calling g mk a) (Vm.Alike.refl U.vm) qK, qD, ZZ.same (u := U) (U := U.calling g mk a) rfl qZ⟩, fun U hU hW => ⟨rfl, by rw [hU], by rw [hU]; exact hPc, va_K.moved hW.alike hKc, hDc.weaken (fun _ _ _ _ => trivial), by rw [hU]; exact ZZ.warm hW hZc⟩⟩ rfl rfl hl.1 rfl (lv_room (Nat.le_of_ble_eq_true rfl)) dX4_request_206 ⟨Nat.zero_le _, Nat.zero_le _⟩) hS (fun q _ h => hFc q h) hFc (fun u t H1 locs ht hvm hw2 hB hz1 hk1 hS => ?_)
                obtain ⟨g_97, rfl⟩ : ∃ z, z = u := ⟨_, rfl⟩
                obtain ⟨hP1, hK1, hD1⟩ := hB
                rw [ht] at hP1
                have hK1 := va_K.moved hvm.symm hK1
                try dsimp only at hw2
                obtain ⟨hP, hD⟩ := va_join (wr := [(qm, .inl (cJ, 8192, .inr (.inl (mL M)))), (qo, .inl (cZ, 16, .inl go)), (o, .inr (4, [.int cd, .int sc, .ref qm, .ref qd, .int ch, .int fe, .int sz, .int rd, .int ca, .int sx, .ref qp, .int co, .int gi, .int aw, .int cg, .int bk, .ref qs, .ref ql, .ref qo, .int ax2_93, .long wi2_94])), (ql, .inl (cJ, 16, .inr (.inl gl))), (qs, .inl (cJ, 16, .inr (.inl gs)))]) (w1 := [(qd, .inl (cJ, 131072, .inr (.inl g_97)))]) hP hD [1] [0, 2, 3, 4, 5] rfl rfl (by decide) (by decide) hk1 hFc hP1 hD1
                generalize H1 = H at hP hS hk1 ⊢
                have hP : va_P (dC, dI) vwCl [(qm, .inl (cJ, 8192, .inr (.inl (mL M)))), (qo, .inl (cZ, 16, .inl go)), (o, .inr (4, [.int cd, .int sc, .ref qm, .ref qd, .int ch, .int fe, .int sz, .int rd, .int ca, .int sx, .ref qp, .int co, .int gi, .int aw, .int cg, .int bk, .ref qs, .ref ql, .ref qo, .int ax2_93, .long wi2_94])), (ql, .inl (cJ, 16, .inr (.inl gl))), (qs, .inl (cJ, 16, .inr (.inl gs))), (qd, .inl (cJ, 131072, .inr (.inl g_97)))] H := hP
                have hD : va_D A [(qm, .inl (cJ, 8192, .inr (.inl (mL M)))), (qo, .inl (cZ, 16, .inl go)), (o, .inr (4, [.int cd, .int sc, .ref qm, .ref qd, .int ch, .int fe, .int sz, .int rd, .int ca, .int sx, .ref qp, .int co, .int gi, .int aw, .int cg, .int bk, .ref qs, .ref ql, .ref qo, .int ax2_93, .long wi2_94])), (ql, .inl (cJ, 16, .inr (.inl gl))), (qs, .inl (cJ, 16, .inr (.inl gs))), (qd, .inl (cJ, 131072, .inr (.inl g_97)))] := hD
                have hw_98 : g_97 = mL (va_up (wrs Dk (fun k => 512 * r_2.toInt.toNat + k) (fun k => M (nth (mS C.tail) k)) kk) (512 * r_2.toInt.toNat + kk) (r_96.toInt32.toBitVec.toNat % 256)) := hw2
                refine lv_lload hx hb dX4_request_209 (lv_at hl 0 rfl) ?_
                refine lv_lconst (v := 1) hx hb dX4_request_211 (by decide) ?_
                refine lv_ladd hx hb dX4_request_212 ?_
                refine lv_topl (fun x_99 ex_99 => ?_)
                refine lv_lstore (lv' := [(12, .long x_99), (9, .int 0), (10, .long 0), (7, .long r_4), (5, .long r_3), (3, .long r_2), (1, .long r_1), (0, .ref o)]) hx hb dX4_request_213 hl (by decide) rfl (fun ls hl => ?_)
                refine lv_goto (tgt := 175) hx hb dX4_request_215 (by decide) ?_
                exact ih (kk + 1) x_99 i2 w2 Q2 ax2_93 wi2_94 g_97 (by omega) (by rw [ex_99, ekx]; exact lN_1 kk) (by omega) (by rw [hw_98, hr_96, lN_i, nI_256, nbs1, Nat.mod_eq_of_lt (hM _), hofr, hq0]; rfl) (ea2) (ew2) (hseg2) (hwh2) (by omega) (fun d => by rw [hnt2, show w + 1 + d = w + (1 + d) by omega, hnt, Nat.add_assoc]) _ _ (hP.sub [2, 0, 5, 4, 3, 1] rfl) (hD.sub [2, 0, 5, 4, 3, 1] (by decide) rfl) hS ls (lv_sub hl [0, 1, 2, 3, 4, 5, 6, 7] rfl)
          exact loop175 (tot (mS C.tail) + 1) 0 0 1 0 (mS C.tail) ax2_86 0 (mL Dk) (by omega) (rfl) (Nat.zero_le _) (rfl) (hw_87) (rfl) (hsg.2) (Nat.zero_le _) (by omega) (fun _ => rfl) _ _ (hP.sub [4, 0, 1, 2, 3, 5] rfl) (hD.sub [4, 0, 1, 2, 3, 5] (by decide) rfl) hS ls (lv_sub hl [0, 1, 2, 3, 4, 5, 6, 7] rfl)
  · skip
    have hkd0 : nbs M (hdO C) 4 = 0 := by rw [hr_1, lce, pk_lT hkb, l0] at c_5; omega
    refine lv_aload_n hx hb dX4_request_55 rfl (lv_at hl 6 rfl) ?_
    refine lv_lload_n hx hb dX4_request_56 rfl (lv_at hl 4 rfl) ?_
    refine lv_lload hx hb dX4_request_57 (lv_at hl 3 rfl) ?_
    have hPc := hP.sub (ws' := [(o, .inr (4, [.int cd, .int sc, .ref qm, .ref qd, .int ch, .int fe, .int sz, .int rd, .int ca, .int sx, .ref qp, .int co, .int gi, .int aw, .int cg, .int bk, .ref qs, .ref ql, .ref qo, .int ax, .long wi]))]) [0] rfl
    have hKc := hK.sub (tys' := []) [] rfl
    have hZc := (hZ.kept hS.2.1).narrow (B := fun _ => False) (fun _ h => h.elim)
    refine vp_callSi (va_runV (As := [.long r_2, .long r_3]) (rest := []) ⟨hx, hb, hml, hown, hw⟩ (m_areSectors l dC dI o cd sc qm qd ch fe sz rd ca sx qp co gi aw cg bk qs ql qo ax wi nn r_2 r_3 (tot (mS O) - 1) hsc hnn e5 (by omega)) (cwV 2 hw (gV w_95112c7325 w_6e7c24b732 w_59c9d152b6 w_2b384744dc w_aa6924bbef) rfl rfl rfl (by decide +kernel) ⟨Nat.le_of_ble_eq_true rfl, Nat.le_of_ble_eq_true rfl⟩) ⟨fun a U g mk q => by obtain ⟨q0, qP, qK, qZ⟩ := q; exact ⟨q0, qP, va_K.moved (u := U) (U := U.calling g mk a) (Vm.Alike.refl U.vm) qK, ZZ.same (u := U) (U := U.calling g mk a) rfl qZ⟩, va_recv hKc hPc (ci := 4) (q0 := 0) rfl rfl, fun U hU hW => ⟨rfl, by rw [hU]; exact hPc, va_K.moved hW.alike hKc, by rw [hU]; exact ZZ.warm hW hZc⟩⟩ rfl rfl hl.1 rfl (lv_room (Nat.le_of_ble_eq_true rfl)) dX4_request_59 ⟨Nat.zero_le _, Nat.zero_le _⟩).run (fun r_100 hr_100 => ?_)
    have hr_100 : r_100 = bI (secP r_2 nn (tot (mS O) - 1)) := hr_100
    refine lv_if_eq (tgt := 69) hx hb dX4_request_62 (by decide) (fun c_101 => ?_) (fun c_101 => ?_)
    · skip
      have b_102 : ¬ (secP r_2 nn (tot (mS O) - 1)) := bI_0 (by rw [← hr_100]; exact c_101)
      refine lv_iconst (v := 1) hx hb dX4_request_69 (by decide) ?_
      refine lv_istore (lv' := [(9, .int 1), (10, .long 0), (7, .long r_4), (5, .long r_3), (3, .long r_2), (1, .long r_1), (0, .ref o)]) hx hb dX4_request_70 hl (by decide) rfl (fun ls hl => ?_)
      refine lv_iload hx hb dX4_request_72 (lv_at hl 0 rfl) ?_
      refine lv_if_ne (tgt := 82) hx hb dX4_request_74 (by decide) (fun c_103 => ?_) (fun c_103 => ?_)
      · skip
        refine lv_lconst (v := 0) hx hb dX4_request_82 (by decide) ?_
        refine lv_lstore (lv' := [(10, .long 0), (9, .int 1), (7, .long r_4), (5, .long r_3), (3, .long r_2), (1, .long r_1), (0, .ref o)]) hx hb dX4_request_83 hl (by decide) rfl (fun ls hl => ?_)
        refine lv_aload_n hx hb dX4_request_85 rfl (lv_at hl 6 rfl) ?_
        refine lv_iconst (v := 1) hx hb dX4_request_86 (by decide) ?_
        have hPc := hP.sub (ws' := [(o, .inr (4, [.int cd, .int sc, .ref qm, .ref qd, .int ch, .int fe, .int sz, .int rd, .int ca, .int sx, .ref qp, .int co, .int gi, .int aw, .int cg, .int bk, .ref qs, .ref ql, .ref qo, .int ax, .long wi])), (qo, .inl (cZ, 16, .inl go))]) [0, 5] rfl
        have hKc := hK.sub (tys' := [(cZ, .boolean)]) [1] rfl
        have hDc := hD.sub (ws' := [(o, .inr (4, [.int cd, .int sc, .ref qm, .ref qd, .int ch, .int fe, .int sz, .int rd, .int ca, .int sx, .ref qp, .int co, .int gi, .int aw, .int cg, .int bk, .ref qs, .ref ql, .ref qo, .int ax, .long wi])), (qo, .inl (cZ, 16, .inl go))]) [0, 5] (by decide) rfl
        have hFc := va_free (wc := [(o, .inr (4, [.int cd, .int sc, .ref qm, .ref qd, .int ch, .int fe, .int sz, .int rd, .int ca, .int sx, .ref qp, .int co, .int gi, .int aw, .int cg, .int bk, .ref qs, .ref ql, .ref qo, .int ax, .long wi])), (qo, .inl (cZ, 16, .inl go))]) hD hS hA [0, 5] rfl
        have hZc : ZZ (va_A [(o, .inr (4, [.int cd, .int sc, .ref qm, .ref qd, .int ch, .int fe, .int sz, .int rd, .int ca, .int sx, .ref qp, .int co, .int gi, .int aw, .int cg, .int bk, .ref qs, .ref ql, .ref qo, .int ax, .long wi])), (qo, .inl (cZ, 16, .inl go))] s.heap.size) s s.heap := (hZ.kept hS.2.1).narrow hFc
        refine va_callv (va_runV (As := [.int 1]) (rest := []) ⟨hx, hb, hml, hown, hw⟩ (m_beginData1 l dC dI o cd sc qm qd ch fe sz rd ca sx qp co gi aw cg bk qs ql qo ax wi cZ go C.length s.heap.size hgg.1 hgg.2.1 hgg.2.2.1 (fun i _ h => by rw [hgg.2.2.2 i h]; decide)) (cwV 1 hw (gV w_bfbe5a51b4 w_cd2c971d8c w_ba37063f50 w_2b384744dc w_7825aad9b6) rfl rfl rfl (by decide +kernel) ⟨Nat.le_of_ble_eq_true rfl, Nat.le_of_ble_eq_true rfl⟩) ⟨fun a U g mk q => by obtain ⟨q0, q1, qP, qK, qD, qZ⟩ := q; exact ⟨q0, q1, qP, va_K.moved (u := U) (U := U.calling g mk a) (Vm.Alike.refl U.vm) qK, qD, ZZ.same (u := U) (U := U.calling g mk a) rfl qZ⟩, va_recv hKc hPc (ci := 4) (q0 := 0) rfl rfl, fun U hU hW => ⟨rfl, by rw [hU], by rw [hU]; exact hPc, va_K.moved hW.alike hKc, hDc.weaken (fun _ _ _ _ => trivial), by rw [hU]; exact ZZ.warm hW hZc⟩⟩ rfl rfl hl.1 rfl (lv_room (Nat.le_of_ble_eq_true rfl)) dX4_request_87 ⟨Nat.zero_le _, Nat.zero_le _⟩) hS (fun q _ h => hFc q h) hFc (fun u t H1 locs ht hvm hw2 hB hz1 hk1 hS => ?_)
        obtain ⟨ax2_104, rfl⟩ : ∃ z, z = u := ⟨_, rfl⟩
        obtain ⟨hP1, hK1, hD1⟩ := hB
        rw [ht] at hP1
        have hK1 := va_K.moved hvm.symm hK1
        try dsimp only at hw2
        obtain ⟨hP, hD⟩ := va_join (wr := [(qm, .inl (cJ, 8192, .inr (.inl (mL M)))), (qd, .inl (cJ, 131072, .inr (.inl (mL Dk)))), (qs, .inl (cJ, 16, .inr (.inl gs))), (ql, .inl (cJ, 16, .inr (.inl gl)))]) (w1 := [(o, .inr (4, [.int cd, .int sc, .ref qm, .ref qd, .int ch, .int fe, .int sz, .int rd, .int ca, .int sx, .ref qp, .int co, .int gi, .int aw, .int cg, .int bk, .ref qs, .ref ql, .ref qo, .int ax2_104, .long 0])), (qo, .inl (cZ, 16, .inl go))]) hP hD [0, 5] [1, 2, 3, 4] rfl rfl (by decide) (by decide) hk1 hFc hP1 hD1
        generalize H1 = H at hP hS hk1 ⊢
        have hP : va_P (dC, dI) vwCl [(qm, .inl (cJ, 8192, .inr (.inl (mL M)))), (qd, .inl (cJ, 131072, .inr (.inl (mL Dk)))), (qs, .inl (cJ, 16, .inr (.inl gs))), (ql, .inl (cJ, 16, .inr (.inl gl))), (o, .inr (4, [.int cd, .int sc, .ref qm, .ref qd, .int ch, .int fe, .int sz, .int rd, .int ca, .int sx, .ref qp, .int co, .int gi, .int aw, .int cg, .int bk, .ref qs, .ref ql, .ref qo, .int ax2_104, .long 0])), (qo, .inl (cZ, 16, .inl go))] H := hP
        have hD : va_D A [(qm, .inl (cJ, 8192, .inr (.inl (mL M)))), (qd, .inl (cJ, 131072, .inr (.inl (mL Dk)))), (qs, .inl (cJ, 16, .inr (.inl gs))), (ql, .inl (cJ, 16, .inr (.inl gl))), (o, .inr (4, [.int cd, .int sc, .ref qm, .ref qd, .int ch, .int fe, .int sz, .int rd, .int ca, .int sx, .ref qp, .int co, .int gi, .int aw, .int cg, .int bk, .ref qs, .ref ql, .ref qo, .int ax2_104, .long 0])), (qo, .inl (cZ, 16, .inl go))] := hD
        have hw_105 : ax2_104 = nI C.length := hw2
        refine lv_lconst (v := 0) hx hb dX4_request_90 (by decide) ?_
        refine lv_lstore (lv' := [(12, .long 0), (10, .long 0), (9, .int 1), (7, .long r_4), (5, .long r_3), (3, .long r_2), (1, .long r_1), (0, .ref o)]) hx hb dX4_request_91 hl (by decide) rfl (fun ls hl => ?_)
        refine lv_lload hx hb dX4_request_93 (lv_at hl 0 rfl) ?_
        refine lv_lload hx hb dX4_request_95 (lv_at hl 1 rfl) ?_
        refine W.lcmp hx hb dX4_request_97 ?_
        refine lv_if_ge (tgt := 136) hx hb dX4_request_98 (by decide) (fun c_106 => ?_) (fun c_106 => ?_)
        · skip
          refine lv_goto (tgt := 384) hx hb dX4_request_136 (by decide) ?_
          have hBq : reqB spM M Dk nn cg C O = (M, Dk, cg, 0, 1) := by unfold reqB spM; rw [if_pos hkd0, if_neg (by rw [← hr_2]; exact fun z => b_102 (of_decide_eq_true z))]
          refine lv_aload_n hx hb dX4_request_384 rfl (lv_at hl 7 rfl) ?_
          refine lv_aload_n hx hb dX4_request_385 rfl (lv_at hl 7 rfl) ?_
          refine va_get (D := (dC, dI)) (ci := 4) (v := .ref qs) (C := RX4) (T := TX4) (N := 21) hx hb hw inX4 hown hK hP 4 rfl rfl 16 (by decide) (hw _ w_c92d01c177) (fun _ h9 => h9) rfl dX4_request_386 ?_
          refine lv_aload_n hx hb dX4_request_389 rfl (lv_at hl 7 rfl) ?_
          refine va_get (D := (dC, dI)) (ci := 4) (v := .int bk) (C := RX4) (T := TX4) (N := 21) hx hb hw inX4 hown hK hP 4 rfl rfl 15 (by decide) (hw _ w_f0da19b997) (fun _ h9 => h9) rfl dX4_request_390 ?_
          refine lv_iconst (v := 1) hx hb dX4_request_393 (by decide) ?_
          refine lv_isub hx hb dX4_request_394 ?_
          refine va_lald hx hb hK hP 2 0 rfl rfl hla.1 dX4_request_395 ?_
          refine lv_aload_n hx hb dX4_request_396 rfl (lv_at hl 7 rfl) ?_
          refine va_get (D := (dC, dI)) (ci := 4) (v := .ref ql) (C := RX4) (T := TX4) (N := 21) hx hb hw inX4 hown hK hP 4 rfl rfl 17 (by decide) (hw _ w_c20510a516) (fun _ h9 => h9) rfl dX4_request_397 ?_
          refine lv_aload_n hx hb dX4_request_400 rfl (lv_at hl 7 rfl) ?_
          refine va_get (D := (dC, dI)) (ci := 4) (v := .int bk) (C := RX4) (T := TX4) (N := 21) hx hb hw inX4 hown hK hP 4 rfl rfl 15 (by decide) (hw _ w_f0da19b997) (fun _ h9 => h9) rfl dX4_request_401 ?_
          refine lv_iconst (v := 1) hx hb dX4_request_404 (by decide) ?_
          refine lv_isub hx hb dX4_request_405 ?_
          refine va_lald hx hb hK hP 3 0 rfl rfl hla.1 dX4_request_406 ?_
          refine lv_ladd hx hb dX4_request_407 ?_
          refine lv_lconst (v := 1) hx hb dX4_request_408 (by decide) ?_
          refine lv_lsub hx hb dX4_request_409 ?_
          refine lv_iconst (v := 1) hx hb dX4_request_410 (by decide) ?_
          refine lv_iload hx hb dX4_request_411 (lv_at hl 2 rfl) ?_
          refine lv_i2l (v := (1 : Int32).toInt64) hx hb dX4_request_413 rfl ?_
          have hPc := hP.sub (ws' := [(o, .inr (4, [.int cd, .int sc, .ref qm, .ref qd, .int ch, .int fe, .int sz, .int rd, .int ca, .int sx, .ref qp, .int co, .int gi, .int aw, .int cg, .int bk, .ref qs, .ref ql, .ref qo, .int ax2_104, .long 0])), (qm, .inl (cJ, 8192, .inr (.inl (mL M))))]) [4, 0] rfl
          have hKc := hK.sub (tys' := [(cJ, .long)]) [0] rfl
          have hDc := hD.sub (ws' := [(o, .inr (4, [.int cd, .int sc, .ref qm, .ref qd, .int ch, .int fe, .int sz, .int rd, .int ca, .int sx, .ref qp, .int co, .int gi, .int aw, .int cg, .int bk, .ref qs, .ref ql, .ref qo, .int ax2_104, .long 0])), (qm, .inl (cJ, 8192, .inr (.inl (mL M))))]) [4, 0] (by decide) rfl
          have hFc := va_free (wc := [(o, .inr (4, [.int cd, .int sc, .ref qm, .ref qd, .int ch, .int fe, .int sz, .int rd, .int ca, .int sx, .ref qp, .int co, .int gi, .int aw, .int cg, .int bk, .ref qs, .ref ql, .ref qo, .int ax2_104, .long 0])), (qm, .inl (cJ, 8192, .inr (.inl (mL M))))]) hD hS hA [4, 0] rfl
          have hZc : ZZ (va_A [(o, .inr (4, [.int cd, .int sc, .ref qm, .ref qd, .int ch, .int fe, .int sz, .int rd, .int ca, .int sx, .ref qp, .int co, .int gi, .int aw, .int cg, .int bk, .ref qs, .ref ql, .ref qo, .int ax2_104, .long 0])), (qm, .inl (cJ, 8192, .inr (.inl (mL M))))] H.size) s H := (hZ.kept hS.2.1).narrow hFc
          refine va_callv (va_runV (As := [.long (((gs (bk - 1).toNatClampNeg) + (gl (bk - 1).toNatClampNeg)) - 1), .int 1, .long ((1 : Int32).toInt64)]) (rest := []) ⟨hx, hb, hml, hown, hw⟩ (m_put l dC dI o cd sc qm qd ch fe sz rd ca sx qp co gi aw cg bk qs ql qo ax2_104 0 cJ M (((gs (bk - 1).toNatClampNeg) + (gl (bk - 1).toNatClampNeg)) - 1) 1 ((1 : Int32).toInt64) 1 (rpl O) 1 H.size rfl (by decide) hla.2.1 hla.2.2 hM rfl (by decide)) (cwV 3 hw (gV w_9c56ffd0dc w_152cce5fe8 w_ffdd99591d w_2b384744dc w_947246c675) rfl rfl rfl (by decide +kernel) ⟨Nat.le_of_ble_eq_true rfl, Nat.le_of_ble_eq_true rfl⟩) ⟨fun a U g mk q => by obtain ⟨q0, q1, qP, qK, qD, qZ⟩ := q; exact ⟨q0, q1, qP, va_K.moved (u := U) (U := U.calling g mk a) (Vm.Alike.refl U.vm) qK, qD, ZZ.same (u := U) (U := U.calling g mk a) rfl qZ⟩, va_recv hKc hPc (ci := 4) (q0 := 0) rfl rfl, fun U hU hW => ⟨rfl, by rw [hU], by rw [hU]; exact hPc, va_K.moved hW.alike hKc, hDc.weaken (fun _ _ _ _ => trivial), by rw [hU]; exact ZZ.warm hW hZc⟩⟩ rfl rfl hl.1 rfl (lv_room (Nat.le_of_ble_eq_true rfl)) dX4_request_414 ⟨Nat.zero_le _, Nat.zero_le _⟩) hS (fun q _ h => hFc q h) hFc (fun u t H1 locs ht hvm hw2 hB hz1 hk1 hS => ?_)
          obtain ⟨g_107, rfl⟩ : ∃ z, z = u := ⟨_, rfl⟩
          obtain ⟨hP1, hK1, hD1⟩ := hB
          rw [ht] at hP1
          have hK1 := va_K.moved hvm.symm hK1
          try dsimp only at hw2
          obtain ⟨hP, hD⟩ := va_join (wr := [(qd, .inl (cJ, 131072, .inr (.inl (mL Dk)))), (qs, .inl (cJ, 16, .inr (.inl gs))), (ql, .inl (cJ, 16, .inr (.inl gl))), (qo, .inl (cZ, 16, .inl go))]) (w1 := [(o, .inr (4, [.int cd, .int sc, .ref qm, .ref qd, .int ch, .int fe, .int sz, .int rd, .int ca, .int sx, .ref qp, .int co, .int gi, .int aw, .int cg, .int bk, .ref qs, .ref ql, .ref qo, .int ax2_104, .long 0])), (qm, .inl (cJ, 8192, .inr (.inl g_107)))]) hP hD [4, 0] [1, 2, 3, 5] rfl rfl (by decide) (by decide) hk1 hFc hP1 hD1
          generalize H1 = H at hP hS hk1 ⊢
          have hP : va_P (dC, dI) vwCl [(qd, .inl (cJ, 131072, .inr (.inl (mL Dk)))), (qs, .inl (cJ, 16, .inr (.inl gs))), (ql, .inl (cJ, 16, .inr (.inl gl))), (qo, .inl (cZ, 16, .inl go)), (o, .inr (4, [.int cd, .int sc, .ref qm, .ref qd, .int ch, .int fe, .int sz, .int rd, .int ca, .int sx, .ref qp, .int co, .int gi, .int aw, .int cg, .int bk, .ref qs, .ref ql, .ref qo, .int ax2_104, .long 0])), (qm, .inl (cJ, 8192, .inr (.inl g_107)))] H := hP
          have hD : va_D A [(qd, .inl (cJ, 131072, .inr (.inl (mL Dk)))), (qs, .inl (cJ, 16, .inr (.inl gs))), (ql, .inl (cJ, 16, .inr (.inl gl))), (qo, .inl (cZ, 16, .inl go)), (o, .inr (4, [.int cd, .int sc, .ref qm, .ref qd, .int ch, .int fe, .int sz, .int rd, .int ca, .int sx, .ref qp, .int co, .int gi, .int aw, .int cg, .int bk, .ref qs, .ref ql, .ref qo, .int ax2_104, .long 0])), (qm, .inl (cJ, 8192, .inr (.inl g_107)))] := hD
          have hw_108 : g_107 = mL (pbs M (rpl O) 1 1) := hw2
          refine lv_lload hx hb dX4_request_417 (lv_at hl 1 rfl) ?_
          refine lv_lconst (v := 1) hx hb dX4_request_419 (by decide) ?_
          refine lv_ladd hx hb dX4_request_420 ?_
          have hP9 : va_P (dC, dI) vwCl [(o, .inr (4, [.int cd, .int sc, .ref qm, .ref qd, .int ch, .int fe, .int sz, .int rd, .int ca, .int sx, .ref qp, .int co, .int gi, .int aw, .int cg, .int bk, .ref qs, .ref ql, .ref qo, .int ax2_104, .long 0])), (qm, .inl (cJ, 8192, .inr (.inl g_107))), (qd, .inl (cJ, 131072, .inr (.inl (mL Dk)))), (qs, .inl (cJ, 16, .inr (.inl gs))), (ql, .inl (cJ, 16, .inr (.inl gl))), (qo, .inl (cZ, 16, .inl go))] H := by exact hP.sub (ws' := [(o, .inr (4, [.int cd, .int sc, .ref qm, .ref qd, .int ch, .int fe, .int sz, .int rd, .int ca, .int sx, .ref qp, .int co, .int gi, .int aw, .int cg, .int bk, .ref qs, .ref ql, .ref qo, .int ax2_104, .long 0])), (qm, .inl (cJ, 8192, .inr (.inl g_107))), (qd, .inl (cJ, 131072, .inr (.inl (mL Dk)))), (qs, .inl (cJ, 16, .inr (.inl gs))), (ql, .inl (cJ, 16, .inr (.inl gl))), (qo, .inl (cZ, 16, .inl go))]) [4, 5, 0, 1, 2, 3] rfl
          have hD9 : va_D A [(o, .inr (4, [.int cd, .int sc, .ref qm, .ref qd, .int ch, .int fe, .int sz, .int rd, .int ca, .int sx, .ref qp, .int co, .int gi, .int aw, .int cg, .int bk, .ref qs, .ref ql, .ref qo, .int ax2_104, .long 0])), (qm, .inl (cJ, 8192, .inr (.inl g_107))), (qd, .inl (cJ, 131072, .inr (.inl (mL Dk)))), (qs, .inl (cJ, 16, .inr (.inl gs))), (ql, .inl (cJ, 16, .inr (.inl gl))), (qo, .inl (cZ, 16, .inl go))] := by exact hD.sub (ws' := [(o, .inr (4, [.int cd, .int sc, .ref qm, .ref qd, .int ch, .int fe, .int sz, .int rd, .int ca, .int sx, .ref qp, .int co, .int gi, .int aw, .int cg, .int bk, .ref qs, .ref ql, .ref qo, .int ax2_104, .long 0])), (qm, .inl (cJ, 8192, .inr (.inl g_107))), (qd, .inl (cJ, 131072, .inr (.inl (mL Dk)))), (qs, .inl (cJ, 16, .inr (.inl gs))), (ql, .inl (cJ, 16, .inr (.inl gl))), (qo, .inl (cZ, 16, .inl go))]) [4, 5, 0, 1, 2, 3] (by decide) rfl
          have hK9 := hK.sub (tys' := [(cJ, .long), (cZ, .boolean)]) [0, 1] rfl
          exact W.lret (v := 0 + 1) hx hb hr (fun t ht hW => ⟨⟨_, (cg, ax2_104, 0, g_107, mL Dk), rfl, (by unfold reqS; rw [hBq]; exact ⟨by rw [hw_108, pbs1]; rfl, rfl, rfl, rfl⟩), by rw [ht]; exact hP9, va_K.moved hW.alike hK9, hD9⟩, hS.F ht⟩) hS.2.2 dX4_request_421
        · skip
          exact absurd (by decide) c_106
      · skip
        exact absurd c_103 (by decide)
    · skip
      have b_109 : (secP r_2 nn (tot (mS O) - 1)) := bI_1 (by rw [← hr_100]; exact c_101)
      have hsp : secP r_2 nn (tot (mS O) - 1) := b_109
      refine lv_iconst (v := 0) hx hb dX4_request_65 (by decide) ?_
      refine lv_goto (tgt := 70) hx hb dX4_request_66 (by decide) ?_
      refine lv_istore (lv' := [(9, .int 0), (10, .long 0), (7, .long r_4), (5, .long r_3), (3, .long r_2), (1, .long r_1), (0, .ref o)]) hx hb dX4_request_70 hl (by decide) rfl (fun ls hl => ?_)
      refine lv_iload hx hb dX4_request_72 (lv_at hl 0 rfl) ?_
      refine lv_if_ne (tgt := 82) hx hb dX4_request_74 (by decide) (fun c_110 => ?_) (fun c_110 => ?_)
      · skip
        exact absurd c_110 (by decide)
      · skip
        refine lv_lload hx hb dX4_request_77 (lv_at hl 3 rfl) ?_
        refine lv_goto (tgt := 83) hx hb dX4_request_79 (by decide) ?_
        refine lv_lstore (lv' := [(10, .long r_3), (9, .int 0), (7, .long r_4), (5, .long r_3), (3, .long r_2), (1, .long r_1), (0, .ref o)]) hx hb dX4_request_83 hl (by decide) rfl (fun ls hl => ?_)
        refine lv_aload_n hx hb dX4_request_85 rfl (lv_at hl 6 rfl) ?_
        refine lv_iconst (v := 1) hx hb dX4_request_86 (by decide) ?_
        have hPc := hP.sub (ws' := [(o, .inr (4, [.int cd, .int sc, .ref qm, .ref qd, .int ch, .int fe, .int sz, .int rd, .int ca, .int sx, .ref qp, .int co, .int gi, .int aw, .int cg, .int bk, .ref qs, .ref ql, .ref qo, .int ax, .long wi])), (qo, .inl (cZ, 16, .inl go))]) [0, 5] rfl
        have hKc := hK.sub (tys' := [(cZ, .boolean)]) [1] rfl
        have hDc := hD.sub (ws' := [(o, .inr (4, [.int cd, .int sc, .ref qm, .ref qd, .int ch, .int fe, .int sz, .int rd, .int ca, .int sx, .ref qp, .int co, .int gi, .int aw, .int cg, .int bk, .ref qs, .ref ql, .ref qo, .int ax, .long wi])), (qo, .inl (cZ, 16, .inl go))]) [0, 5] (by decide) rfl
        have hFc := va_free (wc := [(o, .inr (4, [.int cd, .int sc, .ref qm, .ref qd, .int ch, .int fe, .int sz, .int rd, .int ca, .int sx, .ref qp, .int co, .int gi, .int aw, .int cg, .int bk, .ref qs, .ref ql, .ref qo, .int ax, .long wi])), (qo, .inl (cZ, 16, .inl go))]) hD hS hA [0, 5] rfl
        have hZc : ZZ (va_A [(o, .inr (4, [.int cd, .int sc, .ref qm, .ref qd, .int ch, .int fe, .int sz, .int rd, .int ca, .int sx, .ref qp, .int co, .int gi, .int aw, .int cg, .int bk, .ref qs, .ref ql, .ref qo, .int ax, .long wi])), (qo, .inl (cZ, 16, .inl go))] s.heap.size) s s.heap := (hZ.kept hS.2.1).narrow hFc
        refine va_callv (va_runV (As := [.int 1]) (rest := []) ⟨hx, hb, hml, hown, hw⟩ (m_beginData1 l dC dI o cd sc qm qd ch fe sz rd ca sx qp co gi aw cg bk qs ql qo ax wi cZ go C.length s.heap.size hgg.1 hgg.2.1 hgg.2.2.1 (fun i _ h => by rw [hgg.2.2.2 i h]; decide)) (cwV 1 hw (gV w_bfbe5a51b4 w_cd2c971d8c w_ba37063f50 w_2b384744dc w_7825aad9b6) rfl rfl rfl (by decide +kernel) ⟨Nat.le_of_ble_eq_true rfl, Nat.le_of_ble_eq_true rfl⟩) ⟨fun a U g mk q => by obtain ⟨q0, q1, qP, qK, qD, qZ⟩ := q; exact ⟨q0, q1, qP, va_K.moved (u := U) (U := U.calling g mk a) (Vm.Alike.refl U.vm) qK, qD, ZZ.same (u := U) (U := U.calling g mk a) rfl qZ⟩, va_recv hKc hPc (ci := 4) (q0 := 0) rfl rfl, fun U hU hW => ⟨rfl, by rw [hU], by rw [hU]; exact hPc, va_K.moved hW.alike hKc, hDc.weaken (fun _ _ _ _ => trivial), by rw [hU]; exact ZZ.warm hW hZc⟩⟩ rfl rfl hl.1 rfl (lv_room (Nat.le_of_ble_eq_true rfl)) dX4_request_87 ⟨Nat.zero_le _, Nat.zero_le _⟩) hS (fun q _ h => hFc q h) hFc (fun u t H1 locs ht hvm hw2 hB hz1 hk1 hS => ?_)
        obtain ⟨ax2_111, rfl⟩ : ∃ z, z = u := ⟨_, rfl⟩
        obtain ⟨hP1, hK1, hD1⟩ := hB
        rw [ht] at hP1
        have hK1 := va_K.moved hvm.symm hK1
        try dsimp only at hw2
        obtain ⟨hP, hD⟩ := va_join (wr := [(qm, .inl (cJ, 8192, .inr (.inl (mL M)))), (qd, .inl (cJ, 131072, .inr (.inl (mL Dk)))), (qs, .inl (cJ, 16, .inr (.inl gs))), (ql, .inl (cJ, 16, .inr (.inl gl)))]) (w1 := [(o, .inr (4, [.int cd, .int sc, .ref qm, .ref qd, .int ch, .int fe, .int sz, .int rd, .int ca, .int sx, .ref qp, .int co, .int gi, .int aw, .int cg, .int bk, .ref qs, .ref ql, .ref qo, .int ax2_111, .long 0])), (qo, .inl (cZ, 16, .inl go))]) hP hD [0, 5] [1, 2, 3, 4] rfl rfl (by decide) (by decide) hk1 hFc hP1 hD1
        generalize H1 = H at hP hS hk1 ⊢
        have hP : va_P (dC, dI) vwCl [(qm, .inl (cJ, 8192, .inr (.inl (mL M)))), (qd, .inl (cJ, 131072, .inr (.inl (mL Dk)))), (qs, .inl (cJ, 16, .inr (.inl gs))), (ql, .inl (cJ, 16, .inr (.inl gl))), (o, .inr (4, [.int cd, .int sc, .ref qm, .ref qd, .int ch, .int fe, .int sz, .int rd, .int ca, .int sx, .ref qp, .int co, .int gi, .int aw, .int cg, .int bk, .ref qs, .ref ql, .ref qo, .int ax2_111, .long 0])), (qo, .inl (cZ, 16, .inl go))] H := hP
        have hD : va_D A [(qm, .inl (cJ, 8192, .inr (.inl (mL M)))), (qd, .inl (cJ, 131072, .inr (.inl (mL Dk)))), (qs, .inl (cJ, 16, .inr (.inl gs))), (ql, .inl (cJ, 16, .inr (.inl gl))), (o, .inr (4, [.int cd, .int sc, .ref qm, .ref qd, .int ch, .int fe, .int sz, .int rd, .int ca, .int sx, .ref qp, .int co, .int gi, .int aw, .int cg, .int bk, .ref qs, .ref ql, .ref qo, .int ax2_111, .long 0])), (qo, .inl (cZ, 16, .inl go))] := hD
        have hw_112 : ax2_111 = nI C.length := hw2
        refine lv_lconst (v := 0) hx hb dX4_request_90 (by decide) ?_
        refine lv_lstore (lv' := [(12, .long 0), (10, .long r_3), (9, .int 0), (7, .long r_4), (5, .long r_3), (3, .long r_2), (1, .long r_1), (0, .ref o)]) hx hb dX4_request_91 hl (by decide) rfl (fun ls hl => ?_)
        have loop93 : ∀ (N : Nat) (kk : Nat) (kx : Int64) (i : Nat) (w : Nat) (Q : List (Nat × Nat)) (ax3 : Int32) (wi3 : Int64) (g : Nat → Int64) (hN : tot (mS O) - 1 - kk < N) (ekx : kx = lN kk) (hkT : kk ≤ tot (mS O) - 1) (eg : g = mL (wrs M (nth (mS O)) (fun k => Dk (512 * r_2.toInt.toNat + k)) kk)) (ea : ax3 = nI i) (ew : wi3 = lN w) (hseg : seg gs gl i Q) (hwh : w ≤ hdl Q) (hwt : w + (tot (mS O) - kk) = tot Q) (hnt : ∀ d, nth Q (w + d) = nth (mS O) (kk + d)) (H : Heap) (locs : List Loc) (hP : va_P (dC, dI) vwCl [(o, .inr (4, [.int cd, .int sc, .ref qm, .ref qd, .int ch, .int fe, .int sz, .int rd, .int ca, .int sx, .ref qp, .int co, .int gi, .int aw, .int cg, .int bk, .ref qs, .ref ql, .ref qo, .int ax3, .long wi3])), (qm, .inl (cJ, 8192, .inr (.inl g))), (qd, .inl (cJ, 131072, .inr (.inl (mL Dk)))), (qs, .inl (cJ, 16, .inr (.inl gs))), (ql, .inl (cJ, 16, .inr (.inl gl))), (qo, .inl (cZ, 16, .inl go))] H) (hD : va_D A [(o, .inr (4, [.int cd, .int sc, .ref qm, .ref qd, .int ch, .int fe, .int sz, .int rd, .int ca, .int sx, .ref qp, .int co, .int gi, .int aw, .int cg, .int bk, .ref qs, .ref ql, .ref qo, .int ax3, .long wi3])), (qm, .inl (cJ, 8192, .inr (.inl g))), (qd, .inl (cJ, 131072, .inr (.inl (mL Dk)))), (qs, .inl (cJ, 16, .inr (.inl gs))), (ql, .inl (cJ, 16, .inr (.inl gl))), (qo, .inl (cZ, 16, .inl go))]) (hS : va_S A s.heap H locs) (ls : Array Slot) (hl : lv_has ls 14 [(12, .long kx), (10, .long r_3), (9, .int 0), (7, .long r_4), (5, .long r_3), (3, .long r_2), (1, .long r_1), (0, .ref o)]), W p l e (headSpec wsX4_request ({ frames := 2, cells := 0, slots := 0, locals := 100 })).room s m [.ref o].toArray below meth c H locs 0 0 (MQ below (va_Ql (fun (r : Int64) (u : Int32 × Int32 × Int64 × (Nat → Int64) × (Nat → Int64)) => match u with | (cg2, ax2, wi2, gm, gd) => gm = mL (reqS spM M Dk nn cg C O).1 ∧ gd = mL (reqS spM M Dk nn cg C O).2.1 ∧ cg2 = (reqS spM M Dk nn cg C O).2.2.1 ∧ r = lN (reqS spM M Dk nn cg C O).2.2.2) (fun (u : Int32 × Int32 × Int64 × (Nat → Int64) × (Nat → Int64)) (t : State) => match u with | (cg2, ax2, wi2, gm, gd) => va_P (dC, dI) vwCl [(o, .inr (4, [.int cd, .int sc, .ref qm, .ref qd, .int ch, .int fe, .int sz, .int rd, .int ca, .int sx, .ref qp, .int co, .int gi, .int aw, .int cg2, .int bk, .ref qs, .ref ql, .ref qo, .int ax2, .long wi2])), (qm, .inl (cJ, 8192, .inr (.inl gm))), (qd, .inl (cJ, 131072, .inr (.inl gd))), (qs, .inl (cJ, 16, .inr (.inl gs))), (ql, .inl (cJ, 16, .inr (.inl gl))), (qo, .inl (cZ, 16, .inl go))] t.heap ∧ va_K (dC, dI) vwCl [(cJ, .long), (cZ, .boolean)] t ∧ va_D A [(o, .inr (4, [.int cd, .int sc, .ref qm, .ref qd, .int ch, .int fe, .int sz, .int rd, .int ca, .int sx, .ref qp, .int co, .int gi, .int aw, .int cg2, .int bk, .ref qs, .ref ql, .ref qo, .int ax2, .long wi2])), (qm, .inl (cJ, 8192, .inr (.inl gm))), (qd, .inl (cJ, 131072, .inr (.inl gd))), (qs, .inl (cJ, 16, .inr (.inl gs))), (ql, .inl (cJ, 16, .inr (.inl gl))), (qo, .inl (cZ, 16, .inl go))]) A) [.ref o].toArray s 0 0 A) (F0 m 93 ls []) := by
          intro N
          induction N with
          | zero => intro kk kx i w Q ax3 wi3 g hN ekx hkT eg ea ew hseg hwh hwt hnt H locs hP hD hS ls hl; exact absurd hN (Nat.not_lt_zero _)
          | succ N ih =>
            intro kk kx i w Q ax3 wi3 g hN ekx hkT eg ea ew hseg hwh hwt hnt H locs hP hD hS ls hl
            refine lv_lload hx hb dX4_request_93 (lv_at hl 0 rfl) ?_
            refine lv_lload hx hb dX4_request_95 (lv_at hl 1 rfl) ?_
            refine W.lcmp hx hb dX4_request_97 ?_
            refine lv_if_ge (tgt := 136) hx hb dX4_request_98 (by decide) (fun c_113 => ?_) (fun c_113 => ?_)
            · skip
              have hkk : kk = tot (mS O) - 1 := by rw [ekx, e5, lcge, lN_toInt (by omega), lN_toInt (by omega)] at c_113; omega
              subst eg
              refine lv_goto (tgt := 384) hx hb dX4_request_136 (by decide) ?_
              have hBq : reqB spM M Dk nn cg C O = (wrs M (nth (mS O)) (fun k => Dk (512 * r_2.toInt.toNat + k)) kk, Dk, cg, kk, 0) := by rw [hkk, hr_2]; unfold reqB spM; rw [if_pos hkd0, if_pos (decide_eq_true (by rw [← hr_2]; exact hsp))]
              refine lv_aload_n hx hb dX4_request_384 rfl (lv_at hl 7 rfl) ?_
              refine lv_aload_n hx hb dX4_request_385 rfl (lv_at hl 7 rfl) ?_
              refine va_get (D := (dC, dI)) (ci := 4) (v := .ref qs) (C := RX4) (T := TX4) (N := 21) hx hb hw inX4 hown hK hP 0 rfl rfl 16 (by decide) (hw _ w_c92d01c177) (fun _ h9 => h9) rfl dX4_request_386 ?_
              refine lv_aload_n hx hb dX4_request_389 rfl (lv_at hl 7 rfl) ?_
              refine va_get (D := (dC, dI)) (ci := 4) (v := .int bk) (C := RX4) (T := TX4) (N := 21) hx hb hw inX4 hown hK hP 0 rfl rfl 15 (by decide) (hw _ w_f0da19b997) (fun _ h9 => h9) rfl dX4_request_390 ?_
              refine lv_iconst (v := 1) hx hb dX4_request_393 (by decide) ?_
              refine lv_isub hx hb dX4_request_394 ?_
              refine va_lald hx hb hK hP 3 0 rfl rfl hla.1 dX4_request_395 ?_
              refine lv_aload_n hx hb dX4_request_396 rfl (lv_at hl 7 rfl) ?_
              refine va_get (D := (dC, dI)) (ci := 4) (v := .ref ql) (C := RX4) (T := TX4) (N := 21) hx hb hw inX4 hown hK hP 0 rfl rfl 17 (by decide) (hw _ w_c20510a516) (fun _ h9 => h9) rfl dX4_request_397 ?_
              refine lv_aload_n hx hb dX4_request_400 rfl (lv_at hl 7 rfl) ?_
              refine va_get (D := (dC, dI)) (ci := 4) (v := .int bk) (C := RX4) (T := TX4) (N := 21) hx hb hw inX4 hown hK hP 0 rfl rfl 15 (by decide) (hw _ w_f0da19b997) (fun _ h9 => h9) rfl dX4_request_401 ?_
              refine lv_iconst (v := 1) hx hb dX4_request_404 (by decide) ?_
              refine lv_isub hx hb dX4_request_405 ?_
              refine va_lald hx hb hK hP 4 0 rfl rfl hla.1 dX4_request_406 ?_
              refine lv_ladd hx hb dX4_request_407 ?_
              refine lv_lconst (v := 1) hx hb dX4_request_408 (by decide) ?_
              refine lv_lsub hx hb dX4_request_409 ?_
              refine lv_iconst (v := 1) hx hb dX4_request_410 (by decide) ?_
              refine lv_iload hx hb dX4_request_411 (lv_at hl 2 rfl) ?_
              refine lv_i2l (v := (0 : Int32).toInt64) hx hb dX4_request_413 rfl ?_
              have hPc := hP.sub (ws' := [(o, .inr (4, [.int cd, .int sc, .ref qm, .ref qd, .int ch, .int fe, .int sz, .int rd, .int ca, .int sx, .ref qp, .int co, .int gi, .int aw, .int cg, .int bk, .ref qs, .ref ql, .ref qo, .int ax3, .long wi3])), (qm, .inl (cJ, 8192, .inr (.inl (mL (wrs M (nth (mS O)) (fun k => Dk (512 * r_2.toInt.toNat + k)) kk)))))]) [0, 1] rfl
              have hKc := hK.sub (tys' := [(cJ, .long)]) [0] rfl
              have hDc := hD.sub (ws' := [(o, .inr (4, [.int cd, .int sc, .ref qm, .ref qd, .int ch, .int fe, .int sz, .int rd, .int ca, .int sx, .ref qp, .int co, .int gi, .int aw, .int cg, .int bk, .ref qs, .ref ql, .ref qo, .int ax3, .long wi3])), (qm, .inl (cJ, 8192, .inr (.inl (mL (wrs M (nth (mS O)) (fun k => Dk (512 * r_2.toInt.toNat + k)) kk)))))]) [0, 1] (by decide) rfl
              have hFc := va_free (wc := [(o, .inr (4, [.int cd, .int sc, .ref qm, .ref qd, .int ch, .int fe, .int sz, .int rd, .int ca, .int sx, .ref qp, .int co, .int gi, .int aw, .int cg, .int bk, .ref qs, .ref ql, .ref qo, .int ax3, .long wi3])), (qm, .inl (cJ, 8192, .inr (.inl (mL (wrs M (nth (mS O)) (fun k => Dk (512 * r_2.toInt.toNat + k)) kk)))))]) hD hS hA [0, 1] rfl
              have hZc : ZZ (va_A [(o, .inr (4, [.int cd, .int sc, .ref qm, .ref qd, .int ch, .int fe, .int sz, .int rd, .int ca, .int sx, .ref qp, .int co, .int gi, .int aw, .int cg, .int bk, .ref qs, .ref ql, .ref qo, .int ax3, .long wi3])), (qm, .inl (cJ, 8192, .inr (.inl (mL (wrs M (nth (mS O)) (fun k => Dk (512 * r_2.toInt.toNat + k)) kk)))))] H.size) s H := (hZ.kept hS.2.1).narrow hFc
              refine va_callv (va_runV (As := [.long (((gs (bk - 1).toNatClampNeg) + (gl (bk - 1).toNatClampNeg)) - 1), .int 1, .long ((0 : Int32).toInt64)]) (rest := []) ⟨hx, hb, hml, hown, hw⟩ (m_put l dC dI o cd sc qm qd ch fe sz rd ca sx qp co gi aw cg bk qs ql qo ax3 wi3 cJ (wrs M (nth (mS O)) (fun k => Dk (512 * r_2.toInt.toNat + k)) kk) (((gs (bk - 1).toNatClampNeg) + (gl (bk - 1).toNatClampNeg)) - 1) 1 ((0 : Int32).toInt64) 1 (rpl O) 0 H.size rfl (by decide) hla.2.1 hla.2.2 (byt_wrs hM (fun _ => hDk _) _) rfl (by decide)) (cwV 3 hw (gV w_9c56ffd0dc w_152cce5fe8 w_ffdd99591d w_2b384744dc w_947246c675) rfl rfl rfl (by decide +kernel) ⟨Nat.le_of_ble_eq_true rfl, Nat.le_of_ble_eq_true rfl⟩) ⟨fun a U g mk q => by obtain ⟨q0, q1, qP, qK, qD, qZ⟩ := q; exact ⟨q0, q1, qP, va_K.moved (u := U) (U := U.calling g mk a) (Vm.Alike.refl U.vm) qK, qD, ZZ.same (u := U) (U := U.calling g mk a) rfl qZ⟩, va_recv hKc hPc (ci := 4) (q0 := 0) rfl rfl, fun U hU hW => ⟨rfl, by rw [hU], by rw [hU]; exact hPc, va_K.moved hW.alike hKc, hDc.weaken (fun _ _ _ _ => trivial), by rw [hU]; exact ZZ.warm hW hZc⟩⟩ rfl rfl hl.1 rfl (lv_room (Nat.le_of_ble_eq_true rfl)) dX4_request_414 ⟨Nat.zero_le _, Nat.zero_le _⟩) hS (fun q _ h => hFc q h) hFc (fun u t H1 locs ht hvm hw2 hB hz1 hk1 hS => ?_)
              obtain ⟨g_114, rfl⟩ : ∃ z, z = u := ⟨_, rfl⟩
              obtain ⟨hP1, hK1, hD1⟩ := hB
              rw [ht] at hP1
              have hK1 := va_K.moved hvm.symm hK1
              try dsimp only at hw2
              obtain ⟨hP, hD⟩ := va_join (wr := [(qd, .inl (cJ, 131072, .inr (.inl (mL Dk)))), (qs, .inl (cJ, 16, .inr (.inl gs))), (ql, .inl (cJ, 16, .inr (.inl gl))), (qo, .inl (cZ, 16, .inl go))]) (w1 := [(o, .inr (4, [.int cd, .int sc, .ref qm, .ref qd, .int ch, .int fe, .int sz, .int rd, .int ca, .int sx, .ref qp, .int co, .int gi, .int aw, .int cg, .int bk, .ref qs, .ref ql, .ref qo, .int ax3, .long wi3])), (qm, .inl (cJ, 8192, .inr (.inl g_114)))]) hP hD [0, 1] [2, 3, 4, 5] rfl rfl (by decide) (by decide) hk1 hFc hP1 hD1
              generalize H1 = H at hP hS hk1 ⊢
              have hP : va_P (dC, dI) vwCl [(qd, .inl (cJ, 131072, .inr (.inl (mL Dk)))), (qs, .inl (cJ, 16, .inr (.inl gs))), (ql, .inl (cJ, 16, .inr (.inl gl))), (qo, .inl (cZ, 16, .inl go)), (o, .inr (4, [.int cd, .int sc, .ref qm, .ref qd, .int ch, .int fe, .int sz, .int rd, .int ca, .int sx, .ref qp, .int co, .int gi, .int aw, .int cg, .int bk, .ref qs, .ref ql, .ref qo, .int ax3, .long wi3])), (qm, .inl (cJ, 8192, .inr (.inl g_114)))] H := hP
              have hD : va_D A [(qd, .inl (cJ, 131072, .inr (.inl (mL Dk)))), (qs, .inl (cJ, 16, .inr (.inl gs))), (ql, .inl (cJ, 16, .inr (.inl gl))), (qo, .inl (cZ, 16, .inl go)), (o, .inr (4, [.int cd, .int sc, .ref qm, .ref qd, .int ch, .int fe, .int sz, .int rd, .int ca, .int sx, .ref qp, .int co, .int gi, .int aw, .int cg, .int bk, .ref qs, .ref ql, .ref qo, .int ax3, .long wi3])), (qm, .inl (cJ, 8192, .inr (.inl g_114)))] := hD
              have hw_115 : g_114 = mL (pbs (wrs M (nth (mS O)) (fun k => Dk (512 * r_2.toInt.toNat + k)) kk) (rpl O) 0 1) := hw2
              refine lv_lload hx hb dX4_request_417 (lv_at hl 1 rfl) ?_
              refine lv_lconst (v := 1) hx hb dX4_request_419 (by decide) ?_
              refine lv_ladd hx hb dX4_request_420 ?_
              have hP9 : va_P (dC, dI) vwCl [(o, .inr (4, [.int cd, .int sc, .ref qm, .ref qd, .int ch, .int fe, .int sz, .int rd, .int ca, .int sx, .ref qp, .int co, .int gi, .int aw, .int cg, .int bk, .ref qs, .ref ql, .ref qo, .int ax3, .long wi3])), (qm, .inl (cJ, 8192, .inr (.inl g_114))), (qd, .inl (cJ, 131072, .inr (.inl (mL Dk)))), (qs, .inl (cJ, 16, .inr (.inl gs))), (ql, .inl (cJ, 16, .inr (.inl gl))), (qo, .inl (cZ, 16, .inl go))] H := by exact hP.sub (ws' := [(o, .inr (4, [.int cd, .int sc, .ref qm, .ref qd, .int ch, .int fe, .int sz, .int rd, .int ca, .int sx, .ref qp, .int co, .int gi, .int aw, .int cg, .int bk, .ref qs, .ref ql, .ref qo, .int ax3, .long wi3])), (qm, .inl (cJ, 8192, .inr (.inl g_114))), (qd, .inl (cJ, 131072, .inr (.inl (mL Dk)))), (qs, .inl (cJ, 16, .inr (.inl gs))), (ql, .inl (cJ, 16, .inr (.inl gl))), (qo, .inl (cZ, 16, .inl go))]) [4, 5, 0, 1, 2, 3] rfl
              have hD9 : va_D A [(o, .inr (4, [.int cd, .int sc, .ref qm, .ref qd, .int ch, .int fe, .int sz, .int rd, .int ca, .int sx, .ref qp, .int co, .int gi, .int aw, .int cg, .int bk, .ref qs, .ref ql, .ref qo, .int ax3, .long wi3])), (qm, .inl (cJ, 8192, .inr (.inl g_114))), (qd, .inl (cJ, 131072, .inr (.inl (mL Dk)))), (qs, .inl (cJ, 16, .inr (.inl gs))), (ql, .inl (cJ, 16, .inr (.inl gl))), (qo, .inl (cZ, 16, .inl go))] := by exact hD.sub (ws' := [(o, .inr (4, [.int cd, .int sc, .ref qm, .ref qd, .int ch, .int fe, .int sz, .int rd, .int ca, .int sx, .ref qp, .int co, .int gi, .int aw, .int cg, .int bk, .ref qs, .ref ql, .ref qo, .int ax3, .long wi3])), (qm, .inl (cJ, 8192, .inr (.inl g_114))), (qd, .inl (cJ, 131072, .inr (.inl (mL Dk)))), (qs, .inl (cJ, 16, .inr (.inl gs))), (ql, .inl (cJ, 16, .inr (.inl gl))), (qo, .inl (cZ, 16, .inl go))]) [4, 5, 0, 1, 2, 3] (by decide) rfl
              have hK9 := hK.sub (tys' := [(cJ, .long), (cZ, .boolean)]) [0, 1] rfl
              exact W.lret (v := r_3 + 1) hx hb hr (fun t ht hW => ⟨⟨_, (cg, ax3, wi3, g_114, mL Dk), rfl, (by unfold reqS; rw [hBq]; exact ⟨by rw [hw_115, pbs1]; rfl, rfl, rfl, (by rw [e5, hkk]; exact lN_1 _)⟩), by rw [ht]; exact hP9, va_K.moved hW.alike hK9, hD9⟩, hS.F ht⟩) hS.2.2 dX4_request_421
            · skip
              have hkk : kk < tot (mS O) - 1 := by rw [ekx, e5, lcge, lN_toInt (by omega), lN_toInt (by omega)] at c_113; omega
              subst eg
              refine lv_aload_n hx hb dX4_request_101 rfl (lv_at hl 7 rfl) ?_
              refine lv_aload_n hx hb dX4_request_102 rfl (lv_at hl 7 rfl) ?_
              have hPc := hP.sub (ws' := [(o, .inr (4, [.int cd, .int sc, .ref qm, .ref qd, .int ch, .int fe, .int sz, .int rd, .int ca, .int sx, .ref qp, .int co, .int gi, .int aw, .int cg, .int bk, .ref qs, .ref ql, .ref qo, .int ax3, .long wi3])), (ql, .inl (cJ, 16, .inr (.inl gl))), (qs, .inl (cJ, 16, .inr (.inl gs)))]) [0, 4, 3] rfl
              have hKc := hK.sub (tys' := [(cJ, .long)]) [0] rfl
              have hDc := hD.sub (ws' := [(o, .inr (4, [.int cd, .int sc, .ref qm, .ref qd, .int ch, .int fe, .int sz, .int rd, .int ca, .int sx, .ref qp, .int co, .int gi, .int aw, .int cg, .int bk, .ref qs, .ref ql, .ref qo, .int ax3, .long wi3])), (ql, .inl (cJ, 16, .inr (.inl gl))), (qs, .inl (cJ, 16, .inr (.inl gs)))]) [0, 4, 3] (by decide) rfl
              have hFc := va_free (wc := [(o, .inr (4, [.int cd, .int sc, .ref qm, .ref qd, .int ch, .int fe, .int sz, .int rd, .int ca, .int sx, .ref qp, .int co, .int gi, .int aw, .int cg, .int bk, .ref qs, .ref ql, .ref qo, .int ax3, .long wi3])), (ql, .inl (cJ, 16, .inr (.inl gl))), (qs, .inl (cJ, 16, .inr (.inl gs)))]) hD hS hA [0, 4, 3] rfl
              have hZc : ZZ (va_A [(o, .inr (4, [.int cd, .int sc, .ref qm, .ref qd, .int ch, .int fe, .int sz, .int rd, .int ca, .int sx, .ref qp, .int co, .int gi, .int aw, .int cg, .int bk, .ref qs, .ref ql, .ref qo, .int ax3, .long wi3])), (ql, .inl (cJ, 16, .inr (.inl gl))), (qs, .inl (cJ, 16, .inr (.inl gs)))] H.size) s H := (hZ.kept hS.2.1).narrow hFc
              refine va_calll (va_runV (As := []) (rest := [.ref o]) ⟨hx, hb, hml, hown, hw⟩ (m_nextByte l dC dI o cd sc qm qd ch fe sz rd ca sx qp co gi aw cg bk qs ql qo ax3 wi3 cJ gs gl i w Q H.size ea ew hseg hwh (by omega)) (cwV 0 hw (gV w_a95c20584f w_7f5d544229 w_2d0be2425c w_2b384744dc w_93b28c0a11) rfl rfl rfl (by decide +kernel) ⟨Nat.le_of_ble_eq_true rfl, Nat.le_of_ble_eq_true rfl⟩) ⟨fun a U g mk q => by obtain ⟨q0, q1, qP, qK, qD, qZ⟩ := q; exact ⟨q0, q1, qP, va_K.moved (u := U) (U := U.calling g mk a) (Vm.Alike.refl U.vm) qK, qD, ZZ.same (u := U) (U := U.calling g mk a) rfl qZ⟩, va_recv hKc hPc (ci := 4) (q0 := 0) rfl rfl, fun U hU hW => ⟨rfl, by rw [hU], by rw [hU]; exact hPc, va_K.moved hW.alike hKc, hDc.weaken (fun _ _ _ _ => trivial), by rw [hU]; exact ZZ.warm hW hZc⟩⟩ rfl rfl hl.1 rfl (lv_room (Nat.le_of_ble_eq_true rfl)) dX4_request_103 ⟨Nat.zero_le _, Nat.zero_le _⟩) hS (fun q _ h => hFc q h) hFc (fun r_116 u t H1 locs ht hvm hw2 hB hz1 hk1 hS => ?_)
              obtain ⟨ax2_117, wi2_118⟩ := u
              obtain ⟨hP1, hK1, hD1⟩ := hB
              rw [ht] at hP1
              have hK1 := va_K.moved hvm.symm hK1
              try dsimp only at hw2
              obtain ⟨hP, hD⟩ := va_join (wr := [(qm, .inl (cJ, 8192, .inr (.inl (mL (wrs M (nth (mS O)) (fun k => Dk (512 * r_2.toInt.toNat + k)) kk))))), (qd, .inl (cJ, 131072, .inr (.inl (mL Dk)))), (qo, .inl (cZ, 16, .inl go))]) (w1 := [(o, .inr (4, [.int cd, .int sc, .ref qm, .ref qd, .int ch, .int fe, .int sz, .int rd, .int ca, .int sx, .ref qp, .int co, .int gi, .int aw, .int cg, .int bk, .ref qs, .ref ql, .ref qo, .int ax2_117, .long wi2_118])), (ql, .inl (cJ, 16, .inr (.inl gl))), (qs, .inl (cJ, 16, .inr (.inl gs)))]) hP hD [0, 4, 3] [1, 2, 5] rfl rfl (by decide) (by decide) hk1 hFc hP1 hD1
              generalize H1 = H at hP hS hk1 ⊢
              have hP : va_P (dC, dI) vwCl [(qm, .inl (cJ, 8192, .inr (.inl (mL (wrs M (nth (mS O)) (fun k => Dk (512 * r_2.toInt.toNat + k)) kk))))), (qd, .inl (cJ, 131072, .inr (.inl (mL Dk)))), (qo, .inl (cZ, 16, .inl go)), (o, .inr (4, [.int cd, .int sc, .ref qm, .ref qd, .int ch, .int fe, .int sz, .int rd, .int ca, .int sx, .ref qp, .int co, .int gi, .int aw, .int cg, .int bk, .ref qs, .ref ql, .ref qo, .int ax2_117, .long wi2_118])), (ql, .inl (cJ, 16, .inr (.inl gl))), (qs, .inl (cJ, 16, .inr (.inl gs)))] H := hP
              have hD : va_D A [(qm, .inl (cJ, 8192, .inr (.inl (mL (wrs M (nth (mS O)) (fun k => Dk (512 * r_2.toInt.toNat + k)) kk))))), (qd, .inl (cJ, 131072, .inr (.inl (mL Dk)))), (qo, .inl (cZ, 16, .inl go)), (o, .inr (4, [.int cd, .int sc, .ref qm, .ref qd, .int ch, .int fe, .int sz, .int rd, .int ca, .int sx, .ref qp, .int co, .int gi, .int aw, .int cg, .int bk, .ref qs, .ref ql, .ref qo, .int ax2_117, .long wi2_118])), (ql, .inl (cJ, 16, .inr (.inl gl))), (qs, .inl (cJ, 16, .inr (.inl gs)))] := hD
              have hw_119 : (∃ (i2 w2 : Nat) (R2 : List (Nat × Nat)), ax2_117 = nI i2 ∧ wi2_118 = lN w2 ∧ seg gs gl i2 R2 ∧ w2 ≤ hdl R2 ∧ w2 + (tot Q - w) = tot R2 + 1 ∧ ∀ d, nth R2 (w2 + d) = nth Q (w + 1 + d)) ∧ thP r_116 1 ∧ off r_116 = nth Q w := hw2
              obtain ⟨⟨i2, w2, Q2, ea2, ew2, hseg2, hwh2, hwt2, hnt2⟩, hthr, hofr⟩ := hw_119
              have hq0 : nth Q w = nth (mS O) kk := hnt 0
              have hro := off_0 (ct := 1) hthr (by decide) (by decide)
              refine lv_iconst (v := 1) hx hb dX4_request_106 (by decide) ?_
              refine lv_aload_n hx hb dX4_request_107 rfl (lv_at hl 7 rfl) ?_
              refine va_get (D := (dC, dI)) (ci := 4) (v := .ref qd) (C := RX4) (T := TX4) (N := 21) hx hb hw inX4 hown hK hP 3 rfl rfl 3 (by decide) (hw _ w_ba2971feac) (fun _ h9 => h9) rfl dX4_request_108 ?_
              refine lv_ldc2 (v := 512) hx hb hown (hw _ w_5782e256a5) dX4_request_111 ?_
              refine lv_lload_n hx hb dX4_request_114 rfl (lv_at hl 5 rfl) ?_
              refine lv_lmul hx hb dX4_request_115 ?_
              refine lv_lload hx hb dX4_request_116 (lv_at hl 0 rfl) ?_
              refine lv_ladd hx hb dX4_request_118 ?_
              refine lv_l2i (v := ((512 * r_2) + kx).toInt32) hx hb dX4_request_119 rfl ?_
              have hPc := hP.sub (ws' := [(qd, .inl (cJ, 131072, .inr (.inl (mL Dk))))]) [1] rfl
              have hKc := hK.sub (tys' := [(cJ, .long)]) [0] rfl
              have hZc := (hZ.kept hS.2.1).narrow (B := fun _ => False) (fun _ h => h.elim)
              refine vp_callSi (va_runS (As := [.ref qd, .int (((512 * r_2) + kx).toInt32)]) (rest := [.int 1, .long r_116, .ref o]) ⟨hx, hb, hml, hown, hw⟩ (m_byteOf l dC dI qd cJ 131072 Dk (((512 * r_2) + kx).toInt32) (512 * r_2.toInt.toNat + kk) (by rw [ekx]; exact idx_ok hsp.2.2.2.1 kk) (by have h1 := hsp.2.2.2.1; have h2 := hsp.2.2.2.2.1; have h3 := hsp.2.2.2.2.2; have h4 := hsp.2.2.1; omega) (by decide) hDk) (va_cwS 2 hw (gS w_0040d9f8c6 w_54d35d2618 w_2b384744dc w_0c3ce745cc) rfl rfl rfl (by decide +kernel) ⟨Nat.le_of_ble_eq_true rfl, Nat.le_of_ble_eq_true rfl⟩) ⟨fun a U g mk q => by obtain ⟨q0, qP, qK, qZ⟩ := q; exact ⟨q0, qP, va_K.moved (u := U) (U := U.calling g mk a) (Vm.Alike.refl U.vm) qK, ZZ.same (u := U) (U := U.calling g mk a) rfl qZ⟩, fun U hU hW => ⟨rfl, by rw [hU]; exact hPc, va_K.moved hW.alike hKc, by rw [hU]; exact ZZ.warm hW hZc⟩⟩ rfl rfl hl.1 rfl (lv_room (Nat.le_of_ble_eq_true rfl)) dX4_request_120 ⟨Nat.zero_le _, Nat.zero_le _⟩).run (fun r_120 hr_120 => ?_)
              have hr_120 : r_120 = nI (Dk (512 * r_2.toInt.toNat + kk)) := hr_120
              refine lv_i2l (v := r_120.toInt64) hx hb dX4_request_123 rfl ?_
              have hPc := hP.sub (ws' := [(o, .inr (4, [.int cd, .int sc, .ref qm, .ref qd, .int ch, .int fe, .int sz, .int rd, .int ca, .int sx, .ref qp, .int co, .int gi, .int aw, .int cg, .int bk, .ref qs, .ref ql, .ref qo, .int ax2_117, .long wi2_118])), (qm, .inl (cJ, 8192, .inr (.inl (mL (wrs M (nth (mS O)) (fun k => Dk (512 * r_2.toInt.toNat + k)) kk)))))]) [3, 0] rfl
              have hKc := hK.sub (tys' := [(cJ, .long)]) [0] rfl
              have hDc := hD.sub (ws' := [(o, .inr (4, [.int cd, .int sc, .ref qm, .ref qd, .int ch, .int fe, .int sz, .int rd, .int ca, .int sx, .ref qp, .int co, .int gi, .int aw, .int cg, .int bk, .ref qs, .ref ql, .ref qo, .int ax2_117, .long wi2_118])), (qm, .inl (cJ, 8192, .inr (.inl (mL (wrs M (nth (mS O)) (fun k => Dk (512 * r_2.toInt.toNat + k)) kk)))))]) [3, 0] (by decide) rfl
              have hFc := va_free (wc := [(o, .inr (4, [.int cd, .int sc, .ref qm, .ref qd, .int ch, .int fe, .int sz, .int rd, .int ca, .int sx, .ref qp, .int co, .int gi, .int aw, .int cg, .int bk, .ref qs, .ref ql, .ref qo, .int ax2_117, .long wi2_118])), (qm, .inl (cJ, 8192, .inr (.inl (mL (wrs M (nth (mS O)) (fun k => Dk (512 * r_2.toInt.toNat + k)) kk)))))]) hD hS hA [3, 0] rfl
              have hZc : ZZ (va_A [(o, .inr (4, [.int cd, .int sc, .ref qm, .ref qd, .int ch, .int fe, .int sz, .int rd, .int ca, .int sx, .ref qp, .int co, .int gi, .int aw, .int cg, .int bk, .ref qs, .ref ql, .ref qo, .int ax2_117, .long wi2_118])), (qm, .inl (cJ, 8192, .inr (.inl (mL (wrs M (nth (mS O)) (fun k => Dk (512 * r_2.toInt.toNat + k)) kk)))))] H.size) s H := (hZ.kept hS.2.1).narrow hFc
              refine va_callv (va_runV (As := [.long r_116, .int 1, .long r_120.toInt64]) (rest := []) ⟨hx, hb, hml, hown, hw⟩ (m_put l dC dI o cd sc qm qd ch fe sz rd ca sx qp co gi aw cg bk qs ql qo ax2_117 wi2_118 cJ (wrs M (nth (mS O)) (fun k => Dk (512 * r_2.toInt.toNat + k)) kk) r_116 1 r_120.toInt64 1 (off r_116) (Dk (512 * r_2.toInt.toNat + kk)) H.size rfl (by decide) hro.1 hro.2 (byt_wrs hM (fun _ => hDk _) _) (by rw [hr_120, nI_l (Nat.lt_of_lt_of_le (hDk _) (by decide))]) (Nat.lt_of_lt_of_le (hDk _) (by decide))) (cwV 3 hw (gV w_9c56ffd0dc w_152cce5fe8 w_ffdd99591d w_2b384744dc w_947246c675) rfl rfl rfl (by decide +kernel) ⟨Nat.le_of_ble_eq_true rfl, Nat.le_of_ble_eq_true rfl⟩) ⟨fun a U g mk q => by obtain ⟨q0, q1, qP, qK, qD, qZ⟩ := q; exact ⟨q0, q1, qP, va_K.moved (u := U) (U := U.calling g mk a) (Vm.Alike.refl U.vm) qK, qD, ZZ.same (u := U) (U := U.calling g mk a) rfl qZ⟩, va_recv hKc hPc (ci := 4) (q0 := 0) rfl rfl, fun U hU hW => ⟨rfl, by rw [hU], by rw [hU]; exact hPc, va_K.moved hW.alike hKc, hDc.weaken (fun _ _ _ _ => trivial), by rw [hU]; exact ZZ.warm hW hZc⟩⟩ rfl rfl hl.1 rfl (lv_room (Nat.le_of_ble_eq_true rfl)) dX4_request_124 ⟨Nat.zero_le _, Nat.zero_le _⟩) hS (fun q _ h => hFc q h) hFc (fun u t H1 locs ht hvm hw2 hB hz1 hk1 hS => ?_)
              obtain ⟨g_121, rfl⟩ : ∃ z, z = u := ⟨_, rfl⟩
              obtain ⟨hP1, hK1, hD1⟩ := hB
              rw [ht] at hP1
              have hK1 := va_K.moved hvm.symm hK1
              try dsimp only at hw2
              obtain ⟨hP, hD⟩ := va_join (wr := [(qd, .inl (cJ, 131072, .inr (.inl (mL Dk)))), (qo, .inl (cZ, 16, .inl go)), (ql, .inl (cJ, 16, .inr (.inl gl))), (qs, .inl (cJ, 16, .inr (.inl gs)))]) (w1 := [(o, .inr (4, [.int cd, .int sc, .ref qm, .ref qd, .int ch, .int fe, .int sz, .int rd, .int ca, .int sx, .ref qp, .int co, .int gi, .int aw, .int cg, .int bk, .ref qs, .ref ql, .ref qo, .int ax2_117, .long wi2_118])), (qm, .inl (cJ, 8192, .inr (.inl g_121)))]) hP hD [3, 0] [1, 2, 4, 5] rfl rfl (by decide) (by decide) hk1 hFc hP1 hD1
              generalize H1 = H at hP hS hk1 ⊢
              have hP : va_P (dC, dI) vwCl [(qd, .inl (cJ, 131072, .inr (.inl (mL Dk)))), (qo, .inl (cZ, 16, .inl go)), (ql, .inl (cJ, 16, .inr (.inl gl))), (qs, .inl (cJ, 16, .inr (.inl gs))), (o, .inr (4, [.int cd, .int sc, .ref qm, .ref qd, .int ch, .int fe, .int sz, .int rd, .int ca, .int sx, .ref qp, .int co, .int gi, .int aw, .int cg, .int bk, .ref qs, .ref ql, .ref qo, .int ax2_117, .long wi2_118])), (qm, .inl (cJ, 8192, .inr (.inl g_121)))] H := hP
              have hD : va_D A [(qd, .inl (cJ, 131072, .inr (.inl (mL Dk)))), (qo, .inl (cZ, 16, .inl go)), (ql, .inl (cJ, 16, .inr (.inl gl))), (qs, .inl (cJ, 16, .inr (.inl gs))), (o, .inr (4, [.int cd, .int sc, .ref qm, .ref qd, .int ch, .int fe, .int sz, .int rd, .int ca, .int sx, .ref qp, .int co, .int gi, .int aw, .int cg, .int bk, .ref qs, .ref ql, .ref qo, .int ax2_117, .long wi2_118])), (qm, .inl (cJ, 8192, .inr (.inl g_121)))] := hD
              have hw_122 : g_121 = mL (pbs (wrs M (nth (mS O)) (fun k => Dk (512 * r_2.toInt.toNat + k)) kk) (off r_116) (Dk (512 * r_2.toInt.toNat + kk)) 1) := hw2
              refine lv_lload hx hb dX4_request_127 (lv_at hl 0 rfl) ?_
              refine lv_lconst (v := 1) hx hb dX4_request_129 (by decide) ?_
              refine lv_ladd hx hb dX4_request_130 ?_
              refine lv_topl (fun x_123 ex_123 => ?_)
              refine lv_lstore (lv' := [(12, .long x_123), (10, .long r_3), (9, .int 0), (7, .long r_4), (5, .long r_3), (3, .long r_2), (1, .long r_1), (0, .ref o)]) hx hb dX4_request_131 hl (by decide) rfl (fun ls hl => ?_)
              refine lv_goto (tgt := 93) hx hb dX4_request_133 (by decide) ?_
              exact ih (kk + 1) x_123 i2 w2 Q2 ax2_117 wi2_118 g_121 (by omega) (by rw [ex_123, ekx]; exact lN_1 kk) (by omega) (by rw [hw_122, pbs1, Nat.mod_eq_of_lt (hDk _), hofr, hq0]; rfl) (ea2) (ew2) (hseg2) (hwh2) (by omega) (fun d => by rw [hnt2, show w + 1 + d = w + (1 + d) by omega, hnt, Nat.add_assoc]) _ _ (hP.sub [4, 5, 0, 3, 2, 1] rfl) (hD.sub [4, 5, 0, 3, 2, 1] (by decide) rfl) hS ls (lv_sub hl [0, 1, 2, 3, 4, 5, 6, 7] rfl)
        exact loop93 (tot (mS O) - 1 + 1) 0 0 C.length 0 (mS O) ax2_111 0 (mL M) (by omega) (rfl) (Nat.zero_le _) (rfl) (hw_112) (rfl) (hsg.1) (Nat.zero_le _) (by omega) (fun _ => rfl) _ _ (hP.sub [4, 0, 1, 2, 3, 5] rfl) (hD.sub [4, 0, 1, 2, 3, 5] (by decide) rfl) hS ls (lv_sub hl [0, 1, 2, 3, 4, 5, 6, 7] rfl)
