set_option maxHeartbeats 4000000 in
set_option maxRecDepth 100000 in
/-- Model.load -/
theorem m_load (l : Launch) (dC : Nat → ClassId) (dI : Nat → Nat → Nat) (o : Nat) (cd : Int32) (sc : Int32) (qm : Nat) (qd : Nat) (ch : Int32) (fe : Int32) (sz : Int32) (rd : Int32) (ca : Int32) (sx : Int32) (qp : Nat) (co : Int32) (gi : Int32) (aw : Int32) (cg : Int32) (bk : Int32) (qs : Nat) (ql : Nat) (qo : Nat) (ax : Int32) (wi : Int64) (cJ : ClassId) (M : Nat → Nat) (a : Int64) (zz : Int32) (zS : Nat) (hM : byt M) : Met l yX4_load wsX4_load ({ frames := 2, cells := 0, slots := 0, locals := 100 }) (va_Pc [.ref o, .long a, .int zz] (fun U => U.heap.size = zS ∧ va_P (dC, dI) vwCl [(o, .inr (4, [.int cd, .int sc, .ref qm, .ref qd, .int ch, .int fe, .int sz, .int rd, .int ca, .int sx, .ref qp, .int co, .int gi, .int aw, .int cg, .int bk, .ref qs, .ref ql, .ref qo, .int ax, .long wi])), (qm, .inl (cJ, 8192, .inr (.inl (mL M))))] U.heap ∧ va_K (dC, dI) vwCl [(cJ, .long)] U ∧ va_D (fun _ => True) [(o, .inr (4, [.int cd, .int sc, .ref qm, .ref qd, .int ch, .int fe, .int sz, .int rd, .int ca, .int sx, .ref qp, .int co, .int gi, .int aw, .int cg, .int bk, .ref qs, .ref ql, .ref qo, .int ax, .long wi])), (qm, .inl (cJ, 8192, .inr (.inl (mL M))))] ∧ ZZ (va_A [(o, .inr (4, [.int cd, .int sc, .ref qm, .ref qd, .int ch, .int fe, .int sz, .int rd, .int ca, .int sx, .ref qp, .int co, .int gi, .int aw, .int cg, .int bk, .ref qs, .ref ql, .ref qo, .int ax, .long wi])), (qm, .inl (cJ, 8192, .inr (.inl (mL M))))] zS) U U.heap)) (va_Ql (fun (r : Int64) (u : Int32) => match u with | cd2 => cd2 = ldc a zz ∧ (cd2 = 0 → r = lN (nbs M (off a) zz.toInt.toNat))) (fun (u : Int32) (t : State) => match u with | cd2 => va_P (dC, dI) vwCl [(o, .inr (4, [.int cd2, .int sc, .ref qm, .ref qd, .int ch, .int fe, .int sz, .int rd, .int ca, .int sx, .ref qp, .int co, .int gi, .int aw, .int cg, .int bk, .ref qs, .ref ql, .ref qo, .int ax, .long wi])), (qm, .inl (cJ, 8192, .inr (.inl (mL M))))] t.heap ∧ va_K (dC, dI) vwCl [(cJ, .long)] t ∧ va_D (va_A [(o, .inr (4, [.int cd, .int sc, .ref qm, .ref qd, .int ch, .int fe, .int sz, .int rd, .int ca, .int sx, .ref qp, .int co, .int gi, .int aw, .int cg, .int bk, .ref qs, .ref ql, .ref qo, .int ax, .long wi])), (qm, .inl (cJ, 8192, .inr (.inl (mL M))))] zS) [(o, .inr (4, [.int cd2, .int sc, .ref qm, .ref qd, .int ch, .int fe, .int sz, .int rd, .int ca, .int sx, .ref qp, .int co, .int gi, .int aw, .int cg, .int bk, .ref qs, .ref ql, .ref qo, .int ax, .long wi])), (qm, .inl (cJ, 8192, .inr (.inl (mL M))))]) (va_A [(o, .inr (4, [.int cd, .int sc, .ref qm, .ref qd, .int ch, .int fe, .int sz, .int rd, .int ca, .int sx, .ref qp, .int co, .int gi, .int aw, .int cg, .int bk, .ref qs, .ref ql, .ref qo, .int ax, .long wi])), (qm, .inl (cJ, 8192, .inr (.inl (mL M))))] zS)) 0 0 (va_A [(o, .inr (4, [.int cd, .int sc, .ref qm, .ref qd, .int ch, .int fe, .int sz, .int rd, .int ca, .int sx, .ref qp, .int co, .int gi, .int aw, .int cg, .int bk, .ref qs, .ref ql, .ref qo, .int ax, .long wi])), (qm, .inl (cJ, 8192, .inr (.inl (mL M))))] zS) := by
  refine Met.ofW (cc := cX4_load) (maxL := 4) (ret := (some .long)) (by decide) rfl ?_
  intro p e s m args below meth c s₁ B hml hv
  obtain ⟨rfl, hsz, hP, hK, hD0, hZ⟩ := hv
  have hx := B.exec
  have hb := B.bytes
  have hr := B.returns
  have hts := atoms_spec (ws := wsX4_load) B.pre
  have hw : ∀ w ∈ WW, w.before _ s = true := fun w h => hts w (List.mem_cons_of_mem _ h)
  have hown : s.vm.findClass RX4 = some m.cls := findClass_of_methodNamed B.named
  have hlocks := B.notSynchronized
  subst hsz
  have hD := hD0.self (sz := s.heap.size)
  generalize hAe : va_A [(o, .inr (4, [.int cd, .int sc, .ref qm, .ref qd, .int ch, .int fe, .int sz, .int rd, .int ca, .int sx, .ref qp, .int co, .int gi, .int aw, .int cg, .int bk, .ref qs, .ref ql, .ref qo, .int ax, .long wi])), (qm, .inl (cJ, 8192, .inr (.inl (mL M))))] s.heap.size = A at hD hZ ⊢
  have hA : ∀ q : Nat, s.heap.size ≤ q → A q := fun q h => by rw [← hAe]; exact Or.inr h
  have hS : va_S A s.heap s.heap [] := va_S.rf
  have hP : va_P (dC, dI) vwCl [(o, .inr (4, [.int cd, .int sc, .ref qm, .ref qd, .int ch, .int fe, .int sz, .int rd, .int ca, .int sx, .ref qp, .int co, .int gi, .int aw, .int cg, .int bk, .ref qs, .ref ql, .ref qo, .int ax, .long wi])), (qm, .inl (cJ, 8192, .inr (.inl (mL M))))] s.heap := hP
  have hl := lv_entry ([.ref o, .long a, .int zz]) (n := 4) (Nat.le_of_ble_eq_true rfl)
  rw [lg_entry_eq]
  generalize (lg_sl ([.ref o, .long a, .int zz]) ++ List.replicate (4 - (lg_sl ([.ref o, .long a, .int zz])).length) Slot.unset).toArray = ls at hl ⊢
  have hl : lv_has ls 4 [(0, .ref o), (1, .long a), (3, .int zz)] := hl
  refine lv_aload_n hx hb dX4_load_0 rfl (lv_at hl 0 rfl) ?_
  refine lv_iload_n hx hb dX4_load_1 rfl (lv_at hl 2 rfl) ?_
  have hPc := hP.sub (ws' := []) [] rfl
  have hKc := hK.sub (tys' := []) [] rfl
  have hZc := (hZ.kept hS.2.1).narrow (B := fun _ => False) (fun _ h => h.elim)
  refine vp_callSi (va_runS (As := [.int zz]) (rest := [.ref o]) ⟨hx, hb, hml, hown, hw⟩ (m_isSize l dC dI zz) (va_cwS 1 hw (gS w_5715e2e213 w_2216d958f3 w_2b384744dc w_44e629b627) rfl rfl rfl (by decide +kernel) ⟨Nat.le_of_ble_eq_true rfl, Nat.le_of_ble_eq_true rfl⟩) ⟨fun a U g mk q => by obtain ⟨q0, qP, qK, qZ⟩ := q; exact ⟨q0, qP, va_K.moved (u := U) (U := U.calling g mk a) (Vm.Alike.refl U.vm) qK, ZZ.same (u := U) (U := U.calling g mk a) rfl qZ⟩, fun U hU hW => ⟨rfl, by rw [hU]; exact hPc, va_K.moved hW.alike hKc, by rw [hU]; exact ZZ.warm hW hZc⟩⟩ rfl rfl hl.1 rfl (lv_room (Nat.le_of_ble_eq_true rfl)) dX4_load_2 ⟨Nat.zero_le _, Nat.zero_le _⟩).run (fun r_1 hr_1 => ?_)
  have hr_1 : r_1 = bI (szP zz) := hr_1
  refine lv_if_ne (tgt := 12) hx hb dX4_load_5 (by decide) (fun c_2 => ?_) (fun c_2 => ?_)
  · skip
    have b_3 : (szP zz) := bI_1 (by rw [← hr_1]; exact c_2)
    refine lv_lload_n hx hb dX4_load_12 rfl (lv_at hl 1 rfl) ?_
    refine lv_iload_n hx hb dX4_load_13 rfl (lv_at hl 2 rfl) ?_
    refine lv_i2l (v := zz.toInt64) hx hb dX4_load_14 rfl ?_
    have hPc := hP.sub (ws' := []) [] rfl
    have hKc := hK.sub (tys' := []) [] rfl
    have hZc := (hZ.kept hS.2.1).narrow (B := fun _ => False) (fun _ h => h.elim)
    refine vp_callSi (va_runS (As := [.long a, .long zz.toInt64]) (rest := [.ref o]) ⟨hx, hb, hml, hown, hw⟩ (m_isThere l dC dI a zz.toInt64) (va_cwS 2 hw (gS w_e4da178cff w_3b07a2b4f7 w_2b384744dc w_a857523ad5) rfl rfl rfl (by decide +kernel) ⟨Nat.le_of_ble_eq_true rfl, Nat.le_of_ble_eq_true rfl⟩) ⟨fun a U g mk q => by obtain ⟨q0, qP, qK, qZ⟩ := q; exact ⟨q0, qP, va_K.moved (u := U) (U := U.calling g mk a) (Vm.Alike.refl U.vm) qK, ZZ.same (u := U) (U := U.calling g mk a) rfl qZ⟩, fun U hU hW => ⟨rfl, by rw [hU]; exact hPc, va_K.moved hW.alike hKc, by rw [hU]; exact ZZ.warm hW hZc⟩⟩ rfl rfl hl.1 rfl (lv_room (Nat.le_of_ble_eq_true rfl)) dX4_load_15 ⟨Nat.zero_le _, Nat.zero_le _⟩).run (fun r_4 hr_4 => ?_)
    have hr_4 : r_4 = bI (thP a zz.toInt64) := hr_4
    refine lv_if_ne (tgt := 25) hx hb dX4_load_18 (by decide) (fun c_5 => ?_) (fun c_5 => ?_)
    · skip
      have b_6 : (thP a zz.toInt64) := bI_1 (by rw [← hr_4]; exact c_5)
      refine lv_iconst (v := 0) hx hb dX4_load_25 (by decide) ?_
      refine va_put (D := (dC, dI)) (ci := 4) (v := .int 0) (ty := .int) (C := RX4) (T := TX4) (N := 21) hx hb hw inX4 tyX4 tyX4_ok nmX4 hown hK hP hD hS 0 rfl rfl 0 (by decide) (hw _ w_5657dd785d) (fun _ h9 => h9) rfl (by decide +kernel) rfl rfl (Nat.le_of_ble_eq_true rfl) dX4_load_26 (fun H locs hP hD hS => ?_)
      have hP : va_P (dC, dI) vwCl [(o, .inr (4, [.int 0, .int sc, .ref qm, .ref qd, .int ch, .int fe, .int sz, .int rd, .int ca, .int sx, .ref qp, .int co, .int gi, .int aw, .int cg, .int bk, .ref qs, .ref ql, .ref qo, .int ax, .long wi])), (qm, .inl (cJ, 8192, .inr (.inl (mL M))))] H := hP
      have hD : va_D A [(o, .inr (4, [.int 0, .int sc, .ref qm, .ref qd, .int ch, .int fe, .int sz, .int rd, .int ca, .int sx, .ref qp, .int co, .int gi, .int aw, .int cg, .int bk, .ref qs, .ref ql, .ref qo, .int ax, .long wi])), (qm, .inl (cJ, 8192, .inr (.inl (mL M))))] := hD
      refine lv_aload_n hx hb dX4_load_29 rfl (lv_at hl 0 rfl) ?_
      refine va_get (D := (dC, dI)) (ci := 4) (v := .int 0) (C := RX4) (T := TX4) (N := 21) hx hb hw inX4 hown hK hP 0 rfl rfl 0 (by decide) (hw _ w_5657dd785d) (fun _ h9 => h9) rfl dX4_load_30 ?_
      refine lv_if_le (tgt := 40) hx hb dX4_load_33 (by decide) (fun c_7 => ?_) (fun c_7 => ?_)
      · skip
        obtain ⟨j, hz, hj0, hj, ho, hp, hjt⟩ := mem_ok b_3 b_6
        refine lv_aload_n hx hb dX4_load_40 rfl (lv_at hl 0 rfl) ?_
        refine lv_lload_n hx hb dX4_load_41 rfl (lv_at hl 1 rfl) ?_
        refine lv_iload_n hx hb dX4_load_42 rfl (lv_at hl 2 rfl) ?_
        have hPc := hP.sub (ws' := [(o, .inr (4, [.int 0, .int sc, .ref qm, .ref qd, .int ch, .int fe, .int sz, .int rd, .int ca, .int sx, .ref qp, .int co, .int gi, .int aw, .int cg, .int bk, .ref qs, .ref ql, .ref qo, .int ax, .long wi])), (qm, .inl (cJ, 8192, .inr (.inl (mL M))))]) [0, 1] rfl
        have hKc := hK.sub (tys' := [(cJ, .long)]) [0] rfl
        have hZc := (hZ.kept hS.2.1).narrow (B := fun _ => False) (fun _ h => h.elim)
        refine vp_callSl (va_runV (As := [.long a, .int zz]) (rest := []) ⟨hx, hb, hml, hown, hw⟩ (m_number l dC dI o 0 sc qm qd ch fe sz rd ca sx qp co gi aw cg bk qs ql qo ax wi cJ M a zz j (off a) hz hj ho hp hM) (cwV 2 hw (gV w_b394cd0f6f w_fab48a5191 w_cc770dbe30 w_2b384744dc w_c1a5c9b18f) rfl rfl rfl (by decide +kernel) ⟨Nat.le_of_ble_eq_true rfl, Nat.le_of_ble_eq_true rfl⟩) ⟨fun a U g mk q => by obtain ⟨q0, qP, qK, qZ⟩ := q; exact ⟨q0, qP, va_K.moved (u := U) (U := U.calling g mk a) (Vm.Alike.refl U.vm) qK, ZZ.same (u := U) (U := U.calling g mk a) rfl qZ⟩, va_recv hKc hPc (ci := 4) (q0 := 0) rfl rfl, fun U hU hW => ⟨rfl, by rw [hU]; exact hPc, va_K.moved hW.alike hKc, by rw [hU]; exact ZZ.warm hW hZc⟩⟩ rfl rfl hl.1 rfl (lv_room (Nat.le_of_ble_eq_true rfl)) dX4_load_43 ⟨Nat.zero_le _, Nat.zero_le _⟩).run (fun r_8 hr_8 => ?_)
        have hr_8 : r_8 = lN (nbs M (off a) j) := hr_8
        have hP9 : va_P (dC, dI) vwCl [(o, .inr (4, [.int 0, .int sc, .ref qm, .ref qd, .int ch, .int fe, .int sz, .int rd, .int ca, .int sx, .ref qp, .int co, .int gi, .int aw, .int cg, .int bk, .ref qs, .ref ql, .ref qo, .int ax, .long wi])), (qm, .inl (cJ, 8192, .inr (.inl (mL M))))] H := by exact hP.sub (ws' := [(o, .inr (4, [.int 0, .int sc, .ref qm, .ref qd, .int ch, .int fe, .int sz, .int rd, .int ca, .int sx, .ref qp, .int co, .int gi, .int aw, .int cg, .int bk, .ref qs, .ref ql, .ref qo, .int ax, .long wi])), (qm, .inl (cJ, 8192, .inr (.inl (mL M))))]) [0, 1] rfl
        have hD9 : va_D A [(o, .inr (4, [.int 0, .int sc, .ref qm, .ref qd, .int ch, .int fe, .int sz, .int rd, .int ca, .int sx, .ref qp, .int co, .int gi, .int aw, .int cg, .int bk, .ref qs, .ref ql, .ref qo, .int ax, .long wi])), (qm, .inl (cJ, 8192, .inr (.inl (mL M))))] := by exact hD.sub (ws' := [(o, .inr (4, [.int 0, .int sc, .ref qm, .ref qd, .int ch, .int fe, .int sz, .int rd, .int ca, .int sx, .ref qp, .int co, .int gi, .int aw, .int cg, .int bk, .ref qs, .ref ql, .ref qo, .int ax, .long wi])), (qm, .inl (cJ, 8192, .inr (.inl (mL M))))]) [0, 1] (by decide) rfl
        have hK9 := hK.sub (tys' := [(cJ, .long)]) [0] rfl
        exact W.lret (v := r_8) hx hb hr (fun t ht hW => ⟨⟨_, (0), rfl, ⟨(show 0 = ldc a zz by unfold ldc; rw [if_pos b_3, if_pos b_6]), fun _ => by rw [hr_8, hjt]⟩, by rw [ht]; exact hP9, va_K.moved hW.alike hK9, hD9⟩, hS.F ht⟩) hS.2.2 dX4_load_46
      · skip
        exact absurd c_7 (by decide)
    · skip
      have b_9 : ¬ (thP a zz.toInt64) := bI_0 (by rw [← hr_4]; exact c_5)
      refine lv_iconst (v := 2) hx hb dX4_load_21 (by decide) ?_
      refine lv_goto (tgt := 26) hx hb dX4_load_22 (by decide) ?_
      refine va_put (D := (dC, dI)) (ci := 4) (v := .int 2) (ty := .int) (C := RX4) (T := TX4) (N := 21) hx hb hw inX4 tyX4 tyX4_ok nmX4 hown hK hP hD hS 0 rfl rfl 0 (by decide) (hw _ w_5657dd785d) (fun _ h9 => h9) rfl (by decide +kernel) rfl rfl (Nat.le_of_ble_eq_true rfl) dX4_load_26 (fun H locs hP hD hS => ?_)
      have hP : va_P (dC, dI) vwCl [(o, .inr (4, [.int 2, .int sc, .ref qm, .ref qd, .int ch, .int fe, .int sz, .int rd, .int ca, .int sx, .ref qp, .int co, .int gi, .int aw, .int cg, .int bk, .ref qs, .ref ql, .ref qo, .int ax, .long wi])), (qm, .inl (cJ, 8192, .inr (.inl (mL M))))] H := hP
      have hD : va_D A [(o, .inr (4, [.int 2, .int sc, .ref qm, .ref qd, .int ch, .int fe, .int sz, .int rd, .int ca, .int sx, .ref qp, .int co, .int gi, .int aw, .int cg, .int bk, .ref qs, .ref ql, .ref qo, .int ax, .long wi])), (qm, .inl (cJ, 8192, .inr (.inl (mL M))))] := hD
      refine lv_aload_n hx hb dX4_load_29 rfl (lv_at hl 0 rfl) ?_
      refine va_get (D := (dC, dI)) (ci := 4) (v := .int 2) (C := RX4) (T := TX4) (N := 21) hx hb hw inX4 hown hK hP 0 rfl rfl 0 (by decide) (hw _ w_5657dd785d) (fun _ h9 => h9) rfl dX4_load_30 ?_
      refine lv_if_le (tgt := 40) hx hb dX4_load_33 (by decide) (fun c_10 => ?_) (fun c_10 => ?_)
      · skip
        exact absurd c_10 (by decide)
      · skip
        refine lv_lconst (v := 0) hx hb dX4_load_36 (by decide) ?_
        refine lv_goto (tgt := 46) hx hb dX4_load_37 (by decide) ?_
        have hP9 : va_P (dC, dI) vwCl [(o, .inr (4, [.int 2, .int sc, .ref qm, .ref qd, .int ch, .int fe, .int sz, .int rd, .int ca, .int sx, .ref qp, .int co, .int gi, .int aw, .int cg, .int bk, .ref qs, .ref ql, .ref qo, .int ax, .long wi])), (qm, .inl (cJ, 8192, .inr (.inl (mL M))))] H := by exact hP.sub (ws' := [(o, .inr (4, [.int 2, .int sc, .ref qm, .ref qd, .int ch, .int fe, .int sz, .int rd, .int ca, .int sx, .ref qp, .int co, .int gi, .int aw, .int cg, .int bk, .ref qs, .ref ql, .ref qo, .int ax, .long wi])), (qm, .inl (cJ, 8192, .inr (.inl (mL M))))]) [0, 1] rfl
        have hD9 : va_D A [(o, .inr (4, [.int 2, .int sc, .ref qm, .ref qd, .int ch, .int fe, .int sz, .int rd, .int ca, .int sx, .ref qp, .int co, .int gi, .int aw, .int cg, .int bk, .ref qs, .ref ql, .ref qo, .int ax, .long wi])), (qm, .inl (cJ, 8192, .inr (.inl (mL M))))] := by exact hD.sub (ws' := [(o, .inr (4, [.int 2, .int sc, .ref qm, .ref qd, .int ch, .int fe, .int sz, .int rd, .int ca, .int sx, .ref qp, .int co, .int gi, .int aw, .int cg, .int bk, .ref qs, .ref ql, .ref qo, .int ax, .long wi])), (qm, .inl (cJ, 8192, .inr (.inl (mL M))))]) [0, 1] (by decide) rfl
        have hK9 := hK.sub (tys' := [(cJ, .long)]) [0] rfl
        exact W.lret (v := 0) hx hb hr (fun t ht hW => ⟨⟨_, (2), rfl, ⟨(show 2 = ldc a zz by unfold ldc; rw [if_pos b_3, if_neg b_9]), fun z => absurd z (by decide)⟩, by rw [ht]; exact hP9, va_K.moved hW.alike hK9, hD9⟩, hS.F ht⟩) hS.2.2 dX4_load_46
  · skip
    have b_11 : ¬ (szP zz) := bI_0 (by rw [← hr_1]; exact c_2)
    refine lv_iconst (v := 1) hx hb dX4_load_8 (by decide) ?_
    refine lv_goto (tgt := 26) hx hb dX4_load_9 (by decide) ?_
    refine va_put (D := (dC, dI)) (ci := 4) (v := .int 1) (ty := .int) (C := RX4) (T := TX4) (N := 21) hx hb hw inX4 tyX4 tyX4_ok nmX4 hown hK hP hD hS 0 rfl rfl 0 (by decide) (hw _ w_5657dd785d) (fun _ h9 => h9) rfl (by decide +kernel) rfl rfl (Nat.le_of_ble_eq_true rfl) dX4_load_26 (fun H locs hP hD hS => ?_)
    have hP : va_P (dC, dI) vwCl [(o, .inr (4, [.int 1, .int sc, .ref qm, .ref qd, .int ch, .int fe, .int sz, .int rd, .int ca, .int sx, .ref qp, .int co, .int gi, .int aw, .int cg, .int bk, .ref qs, .ref ql, .ref qo, .int ax, .long wi])), (qm, .inl (cJ, 8192, .inr (.inl (mL M))))] H := hP
    have hD : va_D A [(o, .inr (4, [.int 1, .int sc, .ref qm, .ref qd, .int ch, .int fe, .int sz, .int rd, .int ca, .int sx, .ref qp, .int co, .int gi, .int aw, .int cg, .int bk, .ref qs, .ref ql, .ref qo, .int ax, .long wi])), (qm, .inl (cJ, 8192, .inr (.inl (mL M))))] := hD
    refine lv_aload_n hx hb dX4_load_29 rfl (lv_at hl 0 rfl) ?_
    refine va_get (D := (dC, dI)) (ci := 4) (v := .int 1) (C := RX4) (T := TX4) (N := 21) hx hb hw inX4 hown hK hP 0 rfl rfl 0 (by decide) (hw _ w_5657dd785d) (fun _ h9 => h9) rfl dX4_load_30 ?_
    refine lv_if_le (tgt := 40) hx hb dX4_load_33 (by decide) (fun c_12 => ?_) (fun c_12 => ?_)
    · skip
      exact absurd c_12 (by decide)
    · skip
      refine lv_lconst (v := 0) hx hb dX4_load_36 (by decide) ?_
      refine lv_goto (tgt := 46) hx hb dX4_load_37 (by decide) ?_
      have hP9 : va_P (dC, dI) vwCl [(o, .inr (4, [.int 1, .int sc, .ref qm, .ref qd, .int ch, .int fe, .int sz, .int rd, .int ca, .int sx, .ref qp, .int co, .int gi, .int aw, .int cg, .int bk, .ref qs, .ref ql, .ref qo, .int ax, .long wi])), (qm, .inl (cJ, 8192, .inr (.inl (mL M))))] H := by exact hP.sub (ws' := [(o, .inr (4, [.int 1, .int sc, .ref qm, .ref qd, .int ch, .int fe, .int sz, .int rd, .int ca, .int sx, .ref qp, .int co, .int gi, .int aw, .int cg, .int bk, .ref qs, .ref ql, .ref qo, .int ax, .long wi])), (qm, .inl (cJ, 8192, .inr (.inl (mL M))))]) [0, 1] rfl
      have hD9 : va_D A [(o, .inr (4, [.int 1, .int sc, .ref qm, .ref qd, .int ch, .int fe, .int sz, .int rd, .int ca, .int sx, .ref qp, .int co, .int gi, .int aw, .int cg, .int bk, .ref qs, .ref ql, .ref qo, .int ax, .long wi])), (qm, .inl (cJ, 8192, .inr (.inl (mL M))))] := by exact hD.sub (ws' := [(o, .inr (4, [.int 1, .int sc, .ref qm, .ref qd, .int ch, .int fe, .int sz, .int rd, .int ca, .int sx, .ref qp, .int co, .int gi, .int aw, .int cg, .int bk, .ref qs, .ref ql, .ref qo, .int ax, .long wi])), (qm, .inl (cJ, 8192, .inr (.inl (mL M))))]) [0, 1] (by decide) rfl
      have hK9 := hK.sub (tys' := [(cJ, .long)]) [0] rfl
      exact W.lret (v := 0) hx hb hr (fun t ht hW => ⟨⟨_, (1), rfl, ⟨(show 1 = ldc a zz by unfold ldc; rw [if_neg b_11]), fun z => absurd z (by decide)⟩, by rw [ht]; exact hP9, va_K.moved hW.alike hK9, hD9⟩, hS.F ht⟩) hS.2.2 dX4_load_46
set_option maxHeartbeats 4000000 in
set_option maxRecDepth 100000 in
/-- Model.store -/
theorem m_store (l : Launch) (dC : Nat → ClassId) (dI : Nat → Nat → Nat) (o : Nat) (cd : Int32) (sc : Int32) (qm : Nat) (qd : Nat) (ch : Int32) (fe : Int32) (sz : Int32) (rd : Int32) (ca : Int32) (sx : Int32) (qp : Nat) (co : Int32) (gi : Int32) (aw : Int32) (cg : Int32) (bk : Int32) (qs : Nat) (ql : Nat) (qo : Nat) (ax : Int32) (wi : Int64) (cJ : ClassId) (M : Nat → Nat) (a : Int64) (zz : Int32) (vv : Int64) (w : Nat) (zS : Nat) (hM : byt M) (hv : vv = lN w) (hwl : w < 2 ^ 64) : Met l yX4_store wsX4_store ({ frames := 2, cells := 0, slots := 0, locals := 100 }) (va_Pc [.ref o, .long a, .int zz, .long vv] (fun U => U.heap.size = zS ∧ va_P (dC, dI) vwCl [(o, .inr (4, [.int cd, .int sc, .ref qm, .ref qd, .int ch, .int fe, .int sz, .int rd, .int ca, .int sx, .ref qp, .int co, .int gi, .int aw, .int cg, .int bk, .ref qs, .ref ql, .ref qo, .int ax, .long wi])), (qm, .inl (cJ, 8192, .inr (.inl (mL M))))] U.heap ∧ va_K (dC, dI) vwCl [(cJ, .long)] U ∧ va_D (fun _ => True) [(o, .inr (4, [.int cd, .int sc, .ref qm, .ref qd, .int ch, .int fe, .int sz, .int rd, .int ca, .int sx, .ref qp, .int co, .int gi, .int aw, .int cg, .int bk, .ref qs, .ref ql, .ref qo, .int ax, .long wi])), (qm, .inl (cJ, 8192, .inr (.inl (mL M))))] ∧ ZZ (va_A [(o, .inr (4, [.int cd, .int sc, .ref qm, .ref qd, .int ch, .int fe, .int sz, .int rd, .int ca, .int sx, .ref qp, .int co, .int gi, .int aw, .int cg, .int bk, .ref qs, .ref ql, .ref qo, .int ax, .long wi])), (qm, .inl (cJ, 8192, .inr (.inl (mL M))))] zS) U U.heap)) (va_Qv (fun (u : Int32 × (Nat → Int64)) => match u with | (cd2, g) => cd2 = ldc a zz ∧ g = mL (stM M a zz w)) (fun (u : Int32 × (Nat → Int64)) (t : State) => match u with | (cd2, g) => va_P (dC, dI) vwCl [(o, .inr (4, [.int cd2, .int sc, .ref qm, .ref qd, .int ch, .int fe, .int sz, .int rd, .int ca, .int sx, .ref qp, .int co, .int gi, .int aw, .int cg, .int bk, .ref qs, .ref ql, .ref qo, .int ax, .long wi])), (qm, .inl (cJ, 8192, .inr (.inl g)))] t.heap ∧ va_K (dC, dI) vwCl [(cJ, .long)] t ∧ va_D (va_A [(o, .inr (4, [.int cd, .int sc, .ref qm, .ref qd, .int ch, .int fe, .int sz, .int rd, .int ca, .int sx, .ref qp, .int co, .int gi, .int aw, .int cg, .int bk, .ref qs, .ref ql, .ref qo, .int ax, .long wi])), (qm, .inl (cJ, 8192, .inr (.inl (mL M))))] zS) [(o, .inr (4, [.int cd2, .int sc, .ref qm, .ref qd, .int ch, .int fe, .int sz, .int rd, .int ca, .int sx, .ref qp, .int co, .int gi, .int aw, .int cg, .int bk, .ref qs, .ref ql, .ref qo, .int ax, .long wi])), (qm, .inl (cJ, 8192, .inr (.inl g)))]) (va_A [(o, .inr (4, [.int cd, .int sc, .ref qm, .ref qd, .int ch, .int fe, .int sz, .int rd, .int ca, .int sx, .ref qp, .int co, .int gi, .int aw, .int cg, .int bk, .ref qs, .ref ql, .ref qo, .int ax, .long wi])), (qm, .inl (cJ, 8192, .inr (.inl (mL M))))] zS)) 0 0 (va_A [(o, .inr (4, [.int cd, .int sc, .ref qm, .ref qd, .int ch, .int fe, .int sz, .int rd, .int ca, .int sx, .ref qp, .int co, .int gi, .int aw, .int cg, .int bk, .ref qs, .ref ql, .ref qo, .int ax, .long wi])), (qm, .inl (cJ, 8192, .inr (.inl (mL M))))] zS) := by
  refine Met.ofW (cc := cX4_store) (maxL := 6) (ret := (none)) (by decide) rfl ?_
  intro p e s m args below meth c s₁ B hml hv
  obtain ⟨rfl, hsz, hP, hK, hD0, hZ⟩ := hv
  have hx := B.exec
  have hb := B.bytes
  have hr := B.returns
  have hts := atoms_spec (ws := wsX4_store) B.pre
  have hw : ∀ w ∈ WW, w.before _ s = true := fun w h => hts w (List.mem_cons_of_mem _ h)
  have hown : s.vm.findClass RX4 = some m.cls := findClass_of_methodNamed B.named
  have hlocks := B.notSynchronized
  subst hsz
  have hD := hD0.self (sz := s.heap.size)
  generalize hAe : va_A [(o, .inr (4, [.int cd, .int sc, .ref qm, .ref qd, .int ch, .int fe, .int sz, .int rd, .int ca, .int sx, .ref qp, .int co, .int gi, .int aw, .int cg, .int bk, .ref qs, .ref ql, .ref qo, .int ax, .long wi])), (qm, .inl (cJ, 8192, .inr (.inl (mL M))))] s.heap.size = A at hD hZ ⊢
  have hA : ∀ q : Nat, s.heap.size ≤ q → A q := fun q h => by rw [← hAe]; exact Or.inr h
  have hS : va_S A s.heap s.heap [] := va_S.rf
  have hP : va_P (dC, dI) vwCl [(o, .inr (4, [.int cd, .int sc, .ref qm, .ref qd, .int ch, .int fe, .int sz, .int rd, .int ca, .int sx, .ref qp, .int co, .int gi, .int aw, .int cg, .int bk, .ref qs, .ref ql, .ref qo, .int ax, .long wi])), (qm, .inl (cJ, 8192, .inr (.inl (mL M))))] s.heap := hP
  have hl := lv_entry ([.ref o, .long a, .int zz, .long vv]) (n := 6) (Nat.le_of_ble_eq_true rfl)
  rw [lg_entry_eq]
  generalize (lg_sl ([.ref o, .long a, .int zz, .long vv]) ++ List.replicate (6 - (lg_sl ([.ref o, .long a, .int zz, .long vv])).length) Slot.unset).toArray = ls at hl ⊢
  have hl : lv_has ls 6 [(0, .ref o), (1, .long a), (3, .int zz), (4, .long vv)] := hl
  refine lv_aload_n hx hb dX4_store_0 rfl (lv_at hl 0 rfl) ?_
  refine lv_iload_n hx hb dX4_store_1 rfl (lv_at hl 2 rfl) ?_
  have hPc := hP.sub (ws' := []) [] rfl
  have hKc := hK.sub (tys' := []) [] rfl
  have hZc := (hZ.kept hS.2.1).narrow (B := fun _ => False) (fun _ h => h.elim)
  refine vp_callSi (va_runS (As := [.int zz]) (rest := [.ref o]) ⟨hx, hb, hml, hown, hw⟩ (m_isSize l dC dI zz) (va_cwS 1 hw (gS w_5715e2e213 w_2216d958f3 w_2b384744dc w_44e629b627) rfl rfl rfl (by decide +kernel) ⟨Nat.le_of_ble_eq_true rfl, Nat.le_of_ble_eq_true rfl⟩) ⟨fun a U g mk q => by obtain ⟨q0, qP, qK, qZ⟩ := q; exact ⟨q0, qP, va_K.moved (u := U) (U := U.calling g mk a) (Vm.Alike.refl U.vm) qK, ZZ.same (u := U) (U := U.calling g mk a) rfl qZ⟩, fun U hU hW => ⟨rfl, by rw [hU]; exact hPc, va_K.moved hW.alike hKc, by rw [hU]; exact ZZ.warm hW hZc⟩⟩ rfl rfl hl.1 rfl (lv_room (Nat.le_of_ble_eq_true rfl)) dX4_store_2 ⟨Nat.zero_le _, Nat.zero_le _⟩).run (fun r_1 hr_1 => ?_)
  have hr_1 : r_1 = bI (szP zz) := hr_1
  refine lv_if_ne (tgt := 12) hx hb dX4_store_5 (by decide) (fun c_2 => ?_) (fun c_2 => ?_)
  · skip
    have b_3 : (szP zz) := bI_1 (by rw [← hr_1]; exact c_2)
    refine lv_lload_n hx hb dX4_store_12 rfl (lv_at hl 1 rfl) ?_
    refine lv_iload_n hx hb dX4_store_13 rfl (lv_at hl 2 rfl) ?_
    refine lv_i2l (v := zz.toInt64) hx hb dX4_store_14 rfl ?_
    have hPc := hP.sub (ws' := []) [] rfl
    have hKc := hK.sub (tys' := []) [] rfl
    have hZc := (hZ.kept hS.2.1).narrow (B := fun _ => False) (fun _ h => h.elim)
    refine vp_callSi (va_runS (As := [.long a, .long zz.toInt64]) (rest := [.ref o]) ⟨hx, hb, hml, hown, hw⟩ (m_isThere l dC dI a zz.toInt64) (va_cwS 2 hw (gS w_e4da178cff w_3b07a2b4f7 w_2b384744dc w_a857523ad5) rfl rfl rfl (by decide +kernel) ⟨Nat.le_of_ble_eq_true rfl, Nat.le_of_ble_eq_true rfl⟩) ⟨fun a U g mk q => by obtain ⟨q0, qP, qK, qZ⟩ := q; exact ⟨q0, qP, va_K.moved (u := U) (U := U.calling g mk a) (Vm.Alike.refl U.vm) qK, ZZ.same (u := U) (U := U.calling g mk a) rfl qZ⟩, fun U hU hW => ⟨rfl, by rw [hU]; exact hPc, va_K.moved hW.alike hKc, by rw [hU]; exact ZZ.warm hW hZc⟩⟩ rfl rfl hl.1 rfl (lv_room (Nat.le_of_ble_eq_true rfl)) dX4_store_15 ⟨Nat.zero_le _, Nat.zero_le _⟩).run (fun r_4 hr_4 => ?_)
    have hr_4 : r_4 = bI (thP a zz.toInt64) := hr_4
    refine lv_if_ne (tgt := 25) hx hb dX4_store_18 (by decide) (fun c_5 => ?_) (fun c_5 => ?_)
    · skip
      have b_6 : (thP a zz.toInt64) := bI_1 (by rw [← hr_4]; exact c_5)
      refine lv_iconst (v := 0) hx hb dX4_store_25 (by decide) ?_
      refine va_put (D := (dC, dI)) (ci := 4) (v := .int 0) (ty := .int) (C := RX4) (T := TX4) (N := 21) hx hb hw inX4 tyX4 tyX4_ok nmX4 hown hK hP hD hS 0 rfl rfl 0 (by decide) (hw _ w_5657dd785d) (fun _ h9 => h9) rfl (by decide +kernel) rfl rfl (Nat.le_of_ble_eq_true rfl) dX4_store_26 (fun H locs hP hD hS => ?_)
      have hP : va_P (dC, dI) vwCl [(o, .inr (4, [.int 0, .int sc, .ref qm, .ref qd, .int ch, .int fe, .int sz, .int rd, .int ca, .int sx, .ref qp, .int co, .int gi, .int aw, .int cg, .int bk, .ref qs, .ref ql, .ref qo, .int ax, .long wi])), (qm, .inl (cJ, 8192, .inr (.inl (mL M))))] H := hP
      have hD : va_D A [(o, .inr (4, [.int 0, .int sc, .ref qm, .ref qd, .int ch, .int fe, .int sz, .int rd, .int ca, .int sx, .ref qp, .int co, .int gi, .int aw, .int cg, .int bk, .ref qs, .ref ql, .ref qo, .int ax, .long wi])), (qm, .inl (cJ, 8192, .inr (.inl (mL M))))] := hD
      refine lv_aload_n hx hb dX4_store_29 rfl (lv_at hl 0 rfl) ?_
      refine va_get (D := (dC, dI)) (ci := 4) (v := .int 0) (C := RX4) (T := TX4) (N := 21) hx hb hw inX4 hown hK hP 0 rfl rfl 0 (by decide) (hw _ w_5657dd785d) (fun _ h9 => h9) rfl dX4_store_30 ?_
      refine lv_if_ne (tgt := 44) hx hb dX4_store_33 (by decide) (fun c_7 => ?_) (fun c_7 => ?_)
      · skip
        exact absurd c_7 (by decide)
      · skip
        obtain ⟨j, hz, hj0, hj, ho, hp, hjt⟩ := mem_ok b_3 b_6
        refine lv_aload_n hx hb dX4_store_36 rfl (lv_at hl 0 rfl) ?_
        refine lv_lload_n hx hb dX4_store_37 rfl (lv_at hl 1 rfl) ?_
        refine lv_iload_n hx hb dX4_store_38 rfl (lv_at hl 2 rfl) ?_
        refine lv_lload hx hb dX4_store_39 (lv_at hl 3 rfl) ?_
        have hPc := hP.sub (ws' := [(o, .inr (4, [.int 0, .int sc, .ref qm, .ref qd, .int ch, .int fe, .int sz, .int rd, .int ca, .int sx, .ref qp, .int co, .int gi, .int aw, .int cg, .int bk, .ref qs, .ref ql, .ref qo, .int ax, .long wi])), (qm, .inl (cJ, 8192, .inr (.inl (mL M))))]) [0, 1] rfl
        have hKc := hK.sub (tys' := [(cJ, .long)]) [0] rfl
        have hDc := hD.sub (ws' := [(o, .inr (4, [.int 0, .int sc, .ref qm, .ref qd, .int ch, .int fe, .int sz, .int rd, .int ca, .int sx, .ref qp, .int co, .int gi, .int aw, .int cg, .int bk, .ref qs, .ref ql, .ref qo, .int ax, .long wi])), (qm, .inl (cJ, 8192, .inr (.inl (mL M))))]) [0, 1] (by decide) rfl
        have hFc := va_free (wc := [(o, .inr (4, [.int 0, .int sc, .ref qm, .ref qd, .int ch, .int fe, .int sz, .int rd, .int ca, .int sx, .ref qp, .int co, .int gi, .int aw, .int cg, .int bk, .ref qs, .ref ql, .ref qo, .int ax, .long wi])), (qm, .inl (cJ, 8192, .inr (.inl (mL M))))]) hD hS hA [0, 1] rfl
        have hZc : ZZ (va_A [(o, .inr (4, [.int 0, .int sc, .ref qm, .ref qd, .int ch, .int fe, .int sz, .int rd, .int ca, .int sx, .ref qp, .int co, .int gi, .int aw, .int cg, .int bk, .ref qs, .ref ql, .ref qo, .int ax, .long wi])), (qm, .inl (cJ, 8192, .inr (.inl (mL M))))] H.size) s H := (hZ.kept hS.2.1).narrow hFc
        refine va_callv (va_runV (As := [.long a, .int zz, .long vv]) (rest := []) ⟨hx, hb, hml, hown, hw⟩ (m_put l dC dI o 0 sc qm qd ch fe sz rd ca sx qp co gi aw cg bk qs ql qo ax wi cJ M a zz vv j (off a) w H.size hz hj ho hp hM hv hwl) (cwV 3 hw (gV w_9c56ffd0dc w_152cce5fe8 w_ffdd99591d w_2b384744dc w_947246c675) rfl rfl rfl (by decide +kernel) ⟨Nat.le_of_ble_eq_true rfl, Nat.le_of_ble_eq_true rfl⟩) ⟨fun a U g mk q => by obtain ⟨q0, q1, qP, qK, qD, qZ⟩ := q; exact ⟨q0, q1, qP, va_K.moved (u := U) (U := U.calling g mk a) (Vm.Alike.refl U.vm) qK, qD, ZZ.same (u := U) (U := U.calling g mk a) rfl qZ⟩, va_recv hKc hPc (ci := 4) (q0 := 0) rfl rfl, fun U hU hW => ⟨rfl, by rw [hU], by rw [hU]; exact hPc, va_K.moved hW.alike hKc, hDc.weaken (fun _ _ _ _ => trivial), by rw [hU]; exact ZZ.warm hW hZc⟩⟩ rfl rfl hl.1 rfl (lv_room (Nat.le_of_ble_eq_true rfl)) dX4_store_41 ⟨Nat.zero_le _, Nat.zero_le _⟩) hS (fun q _ h => hFc q h) hFc (fun u t H1 locs ht hvm hw2 hB hz1 hk1 hS => ?_)
        obtain ⟨g_8, rfl⟩ : ∃ z, z = u := ⟨_, rfl⟩
        obtain ⟨hP1, hK1, hD1⟩ := hB
        rw [ht] at hP1
        have hK1 := va_K.moved hvm.symm hK1
        try dsimp only at hw2
        obtain ⟨hP, hD⟩ := va_join (wr := []) (w1 := [(o, .inr (4, [.int 0, .int sc, .ref qm, .ref qd, .int ch, .int fe, .int sz, .int rd, .int ca, .int sx, .ref qp, .int co, .int gi, .int aw, .int cg, .int bk, .ref qs, .ref ql, .ref qo, .int ax, .long wi])), (qm, .inl (cJ, 8192, .inr (.inl g_8)))]) hP hD [0, 1] [] rfl rfl (by decide) (by decide) hk1 hFc hP1 hD1
        generalize H1 = H at hP hS hk1 ⊢
        have hP : va_P (dC, dI) vwCl [(o, .inr (4, [.int 0, .int sc, .ref qm, .ref qd, .int ch, .int fe, .int sz, .int rd, .int ca, .int sx, .ref qp, .int co, .int gi, .int aw, .int cg, .int bk, .ref qs, .ref ql, .ref qo, .int ax, .long wi])), (qm, .inl (cJ, 8192, .inr (.inl g_8)))] H := hP
        have hD : va_D A [(o, .inr (4, [.int 0, .int sc, .ref qm, .ref qd, .int ch, .int fe, .int sz, .int rd, .int ca, .int sx, .ref qp, .int co, .int gi, .int aw, .int cg, .int bk, .ref qs, .ref ql, .ref qo, .int ax, .long wi])), (qm, .inl (cJ, 8192, .inr (.inl g_8)))] := hD
        have hw_9 : g_8 = mL (pbs M (off a) w j) := hw2
        have hP9 : va_P (dC, dI) vwCl [(o, .inr (4, [.int 0, .int sc, .ref qm, .ref qd, .int ch, .int fe, .int sz, .int rd, .int ca, .int sx, .ref qp, .int co, .int gi, .int aw, .int cg, .int bk, .ref qs, .ref ql, .ref qo, .int ax, .long wi])), (qm, .inl (cJ, 8192, .inr (.inl g_8)))] H := by exact hP.sub (ws' := [(o, .inr (4, [.int 0, .int sc, .ref qm, .ref qd, .int ch, .int fe, .int sz, .int rd, .int ca, .int sx, .ref qp, .int co, .int gi, .int aw, .int cg, .int bk, .ref qs, .ref ql, .ref qo, .int ax, .long wi])), (qm, .inl (cJ, 8192, .inr (.inl g_8)))]) [0, 1] rfl
        have hD9 : va_D A [(o, .inr (4, [.int 0, .int sc, .ref qm, .ref qd, .int ch, .int fe, .int sz, .int rd, .int ca, .int sx, .ref qp, .int co, .int gi, .int aw, .int cg, .int bk, .ref qs, .ref ql, .ref qo, .int ax, .long wi])), (qm, .inl (cJ, 8192, .inr (.inl g_8)))] := by exact hD.sub (ws' := [(o, .inr (4, [.int 0, .int sc, .ref qm, .ref qd, .int ch, .int fe, .int sz, .int rd, .int ca, .int sx, .ref qp, .int co, .int gi, .int aw, .int cg, .int bk, .ref qs, .ref ql, .ref qo, .int ax, .long wi])), (qm, .inl (cJ, 8192, .inr (.inl g_8)))]) [0, 1] (by decide) rfl
        have hK9 := hK.sub (tys' := [(cJ, .long)]) [0] rfl
        exact W.vret hx hb hr (fun t ht hW => ⟨⟨(0, g_8), rfl, (by have e := (show 0 = ldc a zz by unfold ldc; rw [if_pos b_3, if_pos b_6]); refine ⟨e, ?_⟩; unfold stM; rw [if_pos e.symm, hjt]; exact hw_9), by rw [ht]; exact hP9, va_K.moved hW.alike hK9, hD9⟩, hS.F ht⟩) hS.2.2 dX4_store_44
    · skip
      have b_10 : ¬ (thP a zz.toInt64) := bI_0 (by rw [← hr_4]; exact c_5)
      refine lv_iconst (v := 2) hx hb dX4_store_21 (by decide) ?_
      refine lv_goto (tgt := 26) hx hb dX4_store_22 (by decide) ?_
      refine va_put (D := (dC, dI)) (ci := 4) (v := .int 2) (ty := .int) (C := RX4) (T := TX4) (N := 21) hx hb hw inX4 tyX4 tyX4_ok nmX4 hown hK hP hD hS 0 rfl rfl 0 (by decide) (hw _ w_5657dd785d) (fun _ h9 => h9) rfl (by decide +kernel) rfl rfl (Nat.le_of_ble_eq_true rfl) dX4_store_26 (fun H locs hP hD hS => ?_)
      have hP : va_P (dC, dI) vwCl [(o, .inr (4, [.int 2, .int sc, .ref qm, .ref qd, .int ch, .int fe, .int sz, .int rd, .int ca, .int sx, .ref qp, .int co, .int gi, .int aw, .int cg, .int bk, .ref qs, .ref ql, .ref qo, .int ax, .long wi])), (qm, .inl (cJ, 8192, .inr (.inl (mL M))))] H := hP
      have hD : va_D A [(o, .inr (4, [.int 2, .int sc, .ref qm, .ref qd, .int ch, .int fe, .int sz, .int rd, .int ca, .int sx, .ref qp, .int co, .int gi, .int aw, .int cg, .int bk, .ref qs, .ref ql, .ref qo, .int ax, .long wi])), (qm, .inl (cJ, 8192, .inr (.inl (mL M))))] := hD
      refine lv_aload_n hx hb dX4_store_29 rfl (lv_at hl 0 rfl) ?_
      refine va_get (D := (dC, dI)) (ci := 4) (v := .int 2) (C := RX4) (T := TX4) (N := 21) hx hb hw inX4 hown hK hP 0 rfl rfl 0 (by decide) (hw _ w_5657dd785d) (fun _ h9 => h9) rfl dX4_store_30 ?_
      refine lv_if_ne (tgt := 44) hx hb dX4_store_33 (by decide) (fun c_11 => ?_) (fun c_11 => ?_)
      · skip
        have hP9 : va_P (dC, dI) vwCl [(o, .inr (4, [.int 2, .int sc, .ref qm, .ref qd, .int ch, .int fe, .int sz, .int rd, .int ca, .int sx, .ref qp, .int co, .int gi, .int aw, .int cg, .int bk, .ref qs, .ref ql, .ref qo, .int ax, .long wi])), (qm, .inl (cJ, 8192, .inr (.inl (mL M))))] H := by exact hP.sub (ws' := [(o, .inr (4, [.int 2, .int sc, .ref qm, .ref qd, .int ch, .int fe, .int sz, .int rd, .int ca, .int sx, .ref qp, .int co, .int gi, .int aw, .int cg, .int bk, .ref qs, .ref ql, .ref qo, .int ax, .long wi])), (qm, .inl (cJ, 8192, .inr (.inl (mL M))))]) [0, 1] rfl
        have hD9 : va_D A [(o, .inr (4, [.int 2, .int sc, .ref qm, .ref qd, .int ch, .int fe, .int sz, .int rd, .int ca, .int sx, .ref qp, .int co, .int gi, .int aw, .int cg, .int bk, .ref qs, .ref ql, .ref qo, .int ax, .long wi])), (qm, .inl (cJ, 8192, .inr (.inl (mL M))))] := by exact hD.sub (ws' := [(o, .inr (4, [.int 2, .int sc, .ref qm, .ref qd, .int ch, .int fe, .int sz, .int rd, .int ca, .int sx, .ref qp, .int co, .int gi, .int aw, .int cg, .int bk, .ref qs, .ref ql, .ref qo, .int ax, .long wi])), (qm, .inl (cJ, 8192, .inr (.inl (mL M))))]) [0, 1] (by decide) rfl
        have hK9 := hK.sub (tys' := [(cJ, .long)]) [0] rfl
        exact W.vret hx hb hr (fun t ht hW => ⟨⟨(2, mL M), rfl, (by have e := (show 2 = ldc a zz by unfold ldc; rw [if_pos b_3, if_neg b_10]); refine ⟨e, ?_⟩; unfold stM; rw [if_neg (by rw [← e]; decide)]), by rw [ht]; exact hP9, va_K.moved hW.alike hK9, hD9⟩, hS.F ht⟩) hS.2.2 dX4_store_44
      · skip
        exact absurd c_11 (by decide)
  · skip
    have b_12 : ¬ (szP zz) := bI_0 (by rw [← hr_1]; exact c_2)
    refine lv_iconst (v := 1) hx hb dX4_store_8 (by decide) ?_
    refine lv_goto (tgt := 26) hx hb dX4_store_9 (by decide) ?_
    refine va_put (D := (dC, dI)) (ci := 4) (v := .int 1) (ty := .int) (C := RX4) (T := TX4) (N := 21) hx hb hw inX4 tyX4 tyX4_ok nmX4 hown hK hP hD hS 0 rfl rfl 0 (by decide) (hw _ w_5657dd785d) (fun _ h9 => h9) rfl (by decide +kernel) rfl rfl (Nat.le_of_ble_eq_true rfl) dX4_store_26 (fun H locs hP hD hS => ?_)
    have hP : va_P (dC, dI) vwCl [(o, .inr (4, [.int 1, .int sc, .ref qm, .ref qd, .int ch, .int fe, .int sz, .int rd, .int ca, .int sx, .ref qp, .int co, .int gi, .int aw, .int cg, .int bk, .ref qs, .ref ql, .ref qo, .int ax, .long wi])), (qm, .inl (cJ, 8192, .inr (.inl (mL M))))] H := hP
    have hD : va_D A [(o, .inr (4, [.int 1, .int sc, .ref qm, .ref qd, .int ch, .int fe, .int sz, .int rd, .int ca, .int sx, .ref qp, .int co, .int gi, .int aw, .int cg, .int bk, .ref qs, .ref ql, .ref qo, .int ax, .long wi])), (qm, .inl (cJ, 8192, .inr (.inl (mL M))))] := hD
    refine lv_aload_n hx hb dX4_store_29 rfl (lv_at hl 0 rfl) ?_
    refine va_get (D := (dC, dI)) (ci := 4) (v := .int 1) (C := RX4) (T := TX4) (N := 21) hx hb hw inX4 hown hK hP 0 rfl rfl 0 (by decide) (hw _ w_5657dd785d) (fun _ h9 => h9) rfl dX4_store_30 ?_
    refine lv_if_ne (tgt := 44) hx hb dX4_store_33 (by decide) (fun c_13 => ?_) (fun c_13 => ?_)
    · skip
      have hP9 : va_P (dC, dI) vwCl [(o, .inr (4, [.int 1, .int sc, .ref qm, .ref qd, .int ch, .int fe, .int sz, .int rd, .int ca, .int sx, .ref qp, .int co, .int gi, .int aw, .int cg, .int bk, .ref qs, .ref ql, .ref qo, .int ax, .long wi])), (qm, .inl (cJ, 8192, .inr (.inl (mL M))))] H := by exact hP.sub (ws' := [(o, .inr (4, [.int 1, .int sc, .ref qm, .ref qd, .int ch, .int fe, .int sz, .int rd, .int ca, .int sx, .ref qp, .int co, .int gi, .int aw, .int cg, .int bk, .ref qs, .ref ql, .ref qo, .int ax, .long wi])), (qm, .inl (cJ, 8192, .inr (.inl (mL M))))]) [0, 1] rfl
      have hD9 : va_D A [(o, .inr (4, [.int 1, .int sc, .ref qm, .ref qd, .int ch, .int fe, .int sz, .int rd, .int ca, .int sx, .ref qp, .int co, .int gi, .int aw, .int cg, .int bk, .ref qs, .ref ql, .ref qo, .int ax, .long wi])), (qm, .inl (cJ, 8192, .inr (.inl (mL M))))] := by exact hD.sub (ws' := [(o, .inr (4, [.int 1, .int sc, .ref qm, .ref qd, .int ch, .int fe, .int sz, .int rd, .int ca, .int sx, .ref qp, .int co, .int gi, .int aw, .int cg, .int bk, .ref qs, .ref ql, .ref qo, .int ax, .long wi])), (qm, .inl (cJ, 8192, .inr (.inl (mL M))))]) [0, 1] (by decide) rfl
      have hK9 := hK.sub (tys' := [(cJ, .long)]) [0] rfl
      exact W.vret hx hb hr (fun t ht hW => ⟨⟨(1, mL M), rfl, (by have e := (show 1 = ldc a zz by unfold ldc; rw [if_neg b_12]); refine ⟨e, ?_⟩; unfold stM; rw [if_neg (by rw [← e]; decide)]), by rw [ht]; exact hP9, va_K.moved hW.alike hK9, hD9⟩, hS.F ht⟩) hS.2.2 dX4_store_44
    · skip
      exact absurd c_13 (by decide)
set_option maxHeartbeats 4000000 in
set_option maxRecDepth 100000 in
/-- Model.noPlace -/
theorem m_noPlace (l : Launch) (dC : Nat → ClassId) (dI : Nat → Nat → Nat) (o : Nat) (cd : Int32) (sc : Int32) (qm : Nat) (qd : Nat) (ch : Int32) (fe : Int32) (sz : Int32) (rd : Int32) (ca : Int32) (sx : Int32) (qp : Nat) (co : Int32) (gi : Int32) (aw : Int32) (cg : Int32) (bk : Int32) (qs : Nat) (ql : Nat) (qo : Nat) (ax : Int32) (wi : Int64) (nn : Nat) (x : Int32) (zS : Nat) (hsc : sc = nI nn) (hnn : nn ≤ 2048) : Met l yX4_noPlace wsX4_noPlace ({ frames := 0, cells := 0, slots := 0, locals := 0 }) (va_Pc [.ref o, .int x] (fun U => U.heap.size = zS ∧ va_P (dC, dI) vwCl [(o, .inr (4, [.int cd, .int sc, .ref qm, .ref qd, .int ch, .int fe, .int sz, .int rd, .int ca, .int sx, .ref qp, .int co, .int gi, .int aw, .int cg, .int bk, .ref qs, .ref ql, .ref qo, .int ax, .long wi]))] U.heap ∧ va_K (dC, dI) vwCl [] U ∧ va_D (fun _ => True) [(o, .inr (4, [.int cd, .int sc, .ref qm, .ref qd, .int ch, .int fe, .int sz, .int rd, .int ca, .int sx, .ref qp, .int co, .int gi, .int aw, .int cg, .int bk, .ref qs, .ref ql, .ref qo, .int ax, .long wi]))] ∧ ZZ (va_A [(o, .inr (4, [.int cd, .int sc, .ref qm, .ref qd, .int ch, .int fe, .int sz, .int rd, .int ca, .int sx, .ref qp, .int co, .int gi, .int aw, .int cg, .int bk, .ref qs, .ref ql, .ref qo, .int ax, .long wi]))] zS) U U.heap)) (va_Qi (fun (r : Int32) (u : Int32) => match u with | cd2 => cd2 = bI (npP x nn) ∧ r = bI (npP x nn)) (fun (u : Int32) (t : State) => match u with | cd2 => va_P (dC, dI) vwCl [(o, .inr (4, [.int cd2, .int sc, .ref qm, .ref qd, .int ch, .int fe, .int sz, .int rd, .int ca, .int sx, .ref qp, .int co, .int gi, .int aw, .int cg, .int bk, .ref qs, .ref ql, .ref qo, .int ax, .long wi]))] t.heap ∧ va_K (dC, dI) vwCl [] t ∧ va_D (va_A [(o, .inr (4, [.int cd, .int sc, .ref qm, .ref qd, .int ch, .int fe, .int sz, .int rd, .int ca, .int sx, .ref qp, .int co, .int gi, .int aw, .int cg, .int bk, .ref qs, .ref ql, .ref qo, .int ax, .long wi]))] zS) [(o, .inr (4, [.int cd2, .int sc, .ref qm, .ref qd, .int ch, .int fe, .int sz, .int rd, .int ca, .int sx, .ref qp, .int co, .int gi, .int aw, .int cg, .int bk, .ref qs, .ref ql, .ref qo, .int ax, .long wi]))]) (va_A [(o, .inr (4, [.int cd, .int sc, .ref qm, .ref qd, .int ch, .int fe, .int sz, .int rd, .int ca, .int sx, .ref qp, .int co, .int gi, .int aw, .int cg, .int bk, .ref qs, .ref ql, .ref qo, .int ax, .long wi]))] zS)) 0 0 (va_A [(o, .inr (4, [.int cd, .int sc, .ref qm, .ref qd, .int ch, .int fe, .int sz, .int rd, .int ca, .int sx, .ref qp, .int co, .int gi, .int aw, .int cg, .int bk, .ref qs, .ref ql, .ref qo, .int ax, .long wi]))] zS) := by
  refine Met.ofW (cc := cX4_noPlace) (maxL := 2) (ret := (some .boolean)) (by decide) rfl ?_
  intro p e s m args below meth c s₁ B hml hv
  obtain ⟨rfl, hsz, hP, hK, hD0, hZ⟩ := hv
  have hx := B.exec
  have hb := B.bytes
  have hr := B.returns
  have hts := atoms_spec (ws := wsX4_noPlace) B.pre
  have hw : ∀ w ∈ WW, w.before _ s = true := fun w h => hts w (List.mem_cons_of_mem _ h)
  have hown : s.vm.findClass RX4 = some m.cls := findClass_of_methodNamed B.named
  have hlocks := B.notSynchronized
  subst hsz
  have hD := hD0.self (sz := s.heap.size)
  generalize hAe : va_A [(o, .inr (4, [.int cd, .int sc, .ref qm, .ref qd, .int ch, .int fe, .int sz, .int rd, .int ca, .int sx, .ref qp, .int co, .int gi, .int aw, .int cg, .int bk, .ref qs, .ref ql, .ref qo, .int ax, .long wi]))] s.heap.size = A at hD hZ ⊢
  have hA : ∀ q : Nat, s.heap.size ≤ q → A q := fun q h => by rw [← hAe]; exact Or.inr h
  have hS : va_S A s.heap s.heap [] := va_S.rf
  have hP : va_P (dC, dI) vwCl [(o, .inr (4, [.int cd, .int sc, .ref qm, .ref qd, .int ch, .int fe, .int sz, .int rd, .int ca, .int sx, .ref qp, .int co, .int gi, .int aw, .int cg, .int bk, .ref qs, .ref ql, .ref qo, .int ax, .long wi]))] s.heap := hP
  have hl := lv_entry ([.ref o, .int x]) (n := 2) (Nat.le_of_ble_eq_true rfl)
  rw [lg_entry_eq]
  generalize (lg_sl ([.ref o, .int x]) ++ List.replicate (2 - (lg_sl ([.ref o, .int x])).length) Slot.unset).toArray = ls at hl ⊢
  have hl : lv_has ls 2 [(0, .ref o), (1, .int x)] := hl
  refine lv_aload_n hx hb dX4_noPlace_0 rfl (lv_at hl 0 rfl) ?_
  refine lv_iload_n hx hb dX4_noPlace_1 rfl (lv_at hl 1 rfl) ?_
  refine lv_if_lt (tgt := 17) hx hb dX4_noPlace_2 (by decide) (fun c_1 => ?_) (fun c_1 => ?_)
  · skip
    refine lv_iconst (v := 1) hx hb dX4_noPlace_17 (by decide) ?_
    refine lv_goto (tgt := 22) hx hb dX4_noPlace_18 (by decide) ?_
    refine va_put (D := (dC, dI)) (ci := 4) (v := .int 1) (ty := .int) (C := RX4) (T := TX4) (N := 21) hx hb hw inX4 tyX4 tyX4_ok nmX4 hown hK hP hD hS 0 rfl rfl 0 (by decide) (hw _ w_5657dd785d) (fun _ h9 => h9) rfl (by decide +kernel) rfl rfl (Nat.le_of_ble_eq_true rfl) dX4_noPlace_22 (fun H locs hP hD hS => ?_)
    have hP : va_P (dC, dI) vwCl [(o, .inr (4, [.int 1, .int sc, .ref qm, .ref qd, .int ch, .int fe, .int sz, .int rd, .int ca, .int sx, .ref qp, .int co, .int gi, .int aw, .int cg, .int bk, .ref qs, .ref ql, .ref qo, .int ax, .long wi]))] H := hP
    have hD : va_D A [(o, .inr (4, [.int 1, .int sc, .ref qm, .ref qd, .int ch, .int fe, .int sz, .int rd, .int ca, .int sx, .ref qp, .int co, .int gi, .int aw, .int cg, .int bk, .ref qs, .ref ql, .ref qo, .int ax, .long wi]))] := hD
    refine lv_aload_n hx hb dX4_noPlace_25 rfl (lv_at hl 0 rfl) ?_
    refine va_get (D := (dC, dI)) (ci := 4) (v := .int 1) (C := RX4) (T := TX4) (N := 21) hx hb hw inX4 hown hK hP 0 rfl rfl 0 (by decide) (hw _ w_5657dd785d) (fun _ h9 => h9) rfl dX4_noPlace_26 ?_
    refine lv_if_le (tgt := 36) hx hb dX4_noPlace_29 (by decide) (fun c_2 => ?_) (fun c_2 => ?_)
    · skip
      exact absurd c_2 (by decide)
    · skip
      refine lv_iconst (v := 1) hx hb dX4_noPlace_32 (by decide) ?_
      refine lv_goto (tgt := 37) hx hb dX4_noPlace_33 (by decide) ?_
      have hP9 : va_P (dC, dI) vwCl [(o, .inr (4, [.int 1, .int sc, .ref qm, .ref qd, .int ch, .int fe, .int sz, .int rd, .int ca, .int sx, .ref qp, .int co, .int gi, .int aw, .int cg, .int bk, .ref qs, .ref ql, .ref qo, .int ax, .long wi]))] H := by exact hP.sub (ws' := [(o, .inr (4, [.int 1, .int sc, .ref qm, .ref qd, .int ch, .int fe, .int sz, .int rd, .int ca, .int sx, .ref qp, .int co, .int gi, .int aw, .int cg, .int bk, .ref qs, .ref ql, .ref qo, .int ax, .long wi]))]) [0] rfl
      have hD9 : va_D A [(o, .inr (4, [.int 1, .int sc, .ref qm, .ref qd, .int ch, .int fe, .int sz, .int rd, .int ca, .int sx, .ref qp, .int co, .int gi, .int aw, .int cg, .int bk, .ref qs, .ref ql, .ref qo, .int ax, .long wi]))] := by exact hD.sub (ws' := [(o, .inr (4, [.int 1, .int sc, .ref qm, .ref qd, .int ch, .int fe, .int sz, .int rd, .int ca, .int sx, .ref qp, .int co, .int gi, .int aw, .int cg, .int bk, .ref qs, .ref ql, .ref qo, .int ax, .long wi]))]) [0] (by decide) rfl
      have hK9 := hK.sub (tys' := []) [] rfl
      exact W.zret (v := 1) hx hb hr rfl (fun t ht hW => ⟨⟨_, (1), rfl, ⟨(bI_t (np_1 nn c_1)).symm, (bI_t (np_1 nn c_1)).symm⟩, by rw [ht]; exact hP9, va_K.moved hW.alike hK9, hD9⟩, hS.F ht⟩) hS.2.2 dX4_noPlace_37
  · skip
    refine lv_iload_n hx hb dX4_noPlace_5 rfl (lv_at hl 1 rfl) ?_
    refine lv_sipush (v := 512) hx hb dX4_noPlace_6 (by decide) ?_
    refine lv_aload_n hx hb dX4_noPlace_9 rfl (lv_at hl 0 rfl) ?_
    refine va_get (D := (dC, dI)) (ci := 4) (v := .int sc) (C := RX4) (T := TX4) (N := 21) hx hb hw inX4 hown hK hP 0 rfl rfl 1 (by decide) (hw _ w_40cba09e19) (fun _ h9 => h9) rfl dX4_noPlace_10 ?_
    refine lv_imul hx hb dX4_noPlace_13 ?_
    refine lv_icmp_lt (tgt := 21) hx hb dX4_noPlace_14 (by decide) (fun c_3 => ?_) (fun c_3 => ?_)
    · skip
      refine lv_iconst (v := 0) hx hb dX4_noPlace_21 (by decide) ?_
      refine va_put (D := (dC, dI)) (ci := 4) (v := .int 0) (ty := .int) (C := RX4) (T := TX4) (N := 21) hx hb hw inX4 tyX4 tyX4_ok nmX4 hown hK hP hD hS 0 rfl rfl 0 (by decide) (hw _ w_5657dd785d) (fun _ h9 => h9) rfl (by decide +kernel) rfl rfl (Nat.le_of_ble_eq_true rfl) dX4_noPlace_22 (fun H locs hP hD hS => ?_)
      have hP : va_P (dC, dI) vwCl [(o, .inr (4, [.int 0, .int sc, .ref qm, .ref qd, .int ch, .int fe, .int sz, .int rd, .int ca, .int sx, .ref qp, .int co, .int gi, .int aw, .int cg, .int bk, .ref qs, .ref ql, .ref qo, .int ax, .long wi]))] H := hP
      have hD : va_D A [(o, .inr (4, [.int 0, .int sc, .ref qm, .ref qd, .int ch, .int fe, .int sz, .int rd, .int ca, .int sx, .ref qp, .int co, .int gi, .int aw, .int cg, .int bk, .ref qs, .ref ql, .ref qo, .int ax, .long wi]))] := hD
      refine lv_aload_n hx hb dX4_noPlace_25 rfl (lv_at hl 0 rfl) ?_
      refine va_get (D := (dC, dI)) (ci := 4) (v := .int 0) (C := RX4) (T := TX4) (N := 21) hx hb hw inX4 hown hK hP 0 rfl rfl 0 (by decide) (hw _ w_5657dd785d) (fun _ h9 => h9) rfl dX4_noPlace_26 ?_
      refine lv_if_le (tgt := 36) hx hb dX4_noPlace_29 (by decide) (fun c_4 => ?_) (fun c_4 => ?_)
      · skip
        refine lv_iconst (v := 0) hx hb dX4_noPlace_36 (by decide) ?_
        have hP9 : va_P (dC, dI) vwCl [(o, .inr (4, [.int 0, .int sc, .ref qm, .ref qd, .int ch, .int fe, .int sz, .int rd, .int ca, .int sx, .ref qp, .int co, .int gi, .int aw, .int cg, .int bk, .ref qs, .ref ql, .ref qo, .int ax, .long wi]))] H := by exact hP.sub (ws' := [(o, .inr (4, [.int 0, .int sc, .ref qm, .ref qd, .int ch, .int fe, .int sz, .int rd, .int ca, .int sx, .ref qp, .int co, .int gi, .int aw, .int cg, .int bk, .ref qs, .ref ql, .ref qo, .int ax, .long wi]))]) [0] rfl
        have hD9 : va_D A [(o, .inr (4, [.int 0, .int sc, .ref qm, .ref qd, .int ch, .int fe, .int sz, .int rd, .int ca, .int sx, .ref qp, .int co, .int gi, .int aw, .int cg, .int bk, .ref qs, .ref ql, .ref qo, .int ax, .long wi]))] := by exact hD.sub (ws' := [(o, .inr (4, [.int 0, .int sc, .ref qm, .ref qd, .int ch, .int fe, .int sz, .int rd, .int ca, .int sx, .ref qp, .int co, .int gi, .int aw, .int cg, .int bk, .ref qs, .ref ql, .ref qo, .int ax, .long wi]))]) [0] (by decide) rfl
        have hK9 := hK.sub (tys' := []) [] rfl
        exact W.zret (v := 0) hx hb hr rfl (fun t ht hW => ⟨⟨_, (0), rfl, ⟨(bI_f (np_3 hnn c_1 (by rw [← hsc]; exact c_3))).symm, (bI_f (np_3 hnn c_1 (by rw [← hsc]; exact c_3))).symm⟩, by rw [ht]; exact hP9, va_K.moved hW.alike hK9, hD9⟩, hS.F ht⟩) hS.2.2 dX4_noPlace_37
      · skip
        exact absurd c_4 (by decide)
    · skip
      refine lv_iconst (v := 1) hx hb dX4_noPlace_17 (by decide) ?_
      refine lv_goto (tgt := 22) hx hb dX4_noPlace_18 (by decide) ?_
      refine va_put (D := (dC, dI)) (ci := 4) (v := .int 1) (ty := .int) (C := RX4) (T := TX4) (N := 21) hx hb hw inX4 tyX4 tyX4_ok nmX4 hown hK hP hD hS 0 rfl rfl 0 (by decide) (hw _ w_5657dd785d) (fun _ h9 => h9) rfl (by decide +kernel) rfl rfl (Nat.le_of_ble_eq_true rfl) dX4_noPlace_22 (fun H locs hP hD hS => ?_)
      have hP : va_P (dC, dI) vwCl [(o, .inr (4, [.int 1, .int sc, .ref qm, .ref qd, .int ch, .int fe, .int sz, .int rd, .int ca, .int sx, .ref qp, .int co, .int gi, .int aw, .int cg, .int bk, .ref qs, .ref ql, .ref qo, .int ax, .long wi]))] H := hP
      have hD : va_D A [(o, .inr (4, [.int 1, .int sc, .ref qm, .ref qd, .int ch, .int fe, .int sz, .int rd, .int ca, .int sx, .ref qp, .int co, .int gi, .int aw, .int cg, .int bk, .ref qs, .ref ql, .ref qo, .int ax, .long wi]))] := hD
      refine lv_aload_n hx hb dX4_noPlace_25 rfl (lv_at hl 0 rfl) ?_
      refine va_get (D := (dC, dI)) (ci := 4) (v := .int 1) (C := RX4) (T := TX4) (N := 21) hx hb hw inX4 hown hK hP 0 rfl rfl 0 (by decide) (hw _ w_5657dd785d) (fun _ h9 => h9) rfl dX4_noPlace_26 ?_
      refine lv_if_le (tgt := 36) hx hb dX4_noPlace_29 (by decide) (fun c_5 => ?_) (fun c_5 => ?_)
      · skip
        exact absurd c_5 (by decide)
      · skip
        refine lv_iconst (v := 1) hx hb dX4_noPlace_32 (by decide) ?_
        refine lv_goto (tgt := 37) hx hb dX4_noPlace_33 (by decide) ?_
        have hP9 : va_P (dC, dI) vwCl [(o, .inr (4, [.int 1, .int sc, .ref qm, .ref qd, .int ch, .int fe, .int sz, .int rd, .int ca, .int sx, .ref qp, .int co, .int gi, .int aw, .int cg, .int bk, .ref qs, .ref ql, .ref qo, .int ax, .long wi]))] H := by exact hP.sub (ws' := [(o, .inr (4, [.int 1, .int sc, .ref qm, .ref qd, .int ch, .int fe, .int sz, .int rd, .int ca, .int sx, .ref qp, .int co, .int gi, .int aw, .int cg, .int bk, .ref qs, .ref ql, .ref qo, .int ax, .long wi]))]) [0] rfl
        have hD9 : va_D A [(o, .inr (4, [.int 1, .int sc, .ref qm, .ref qd, .int ch, .int fe, .int sz, .int rd, .int ca, .int sx, .ref qp, .int co, .int gi, .int aw, .int cg, .int bk, .ref qs, .ref ql, .ref qo, .int ax, .long wi]))] := by exact hD.sub (ws' := [(o, .inr (4, [.int 1, .int sc, .ref qm, .ref qd, .int ch, .int fe, .int sz, .int rd, .int ca, .int sx, .ref qp, .int co, .int gi, .int aw, .int cg, .int bk, .ref qs, .ref ql, .ref qo, .int ax, .long wi]))]) [0] (by decide) rfl
        have hK9 := hK.sub (tys' := []) [] rfl
        exact W.zret (v := 1) hx hb hr rfl (fun t ht hW => ⟨⟨_, (1), rfl, ⟨(bI_t (np_2 hnn (by rw [← hsc]; exact c_3))).symm, (bI_t (np_2 hnn (by rw [← hsc]; exact c_3))).symm⟩, by rw [ht]; exact hP9, va_K.moved hW.alike hK9, hD9⟩, hS.F ht⟩) hS.2.2 dX4_noPlace_37
set_option maxHeartbeats 4000000 in
set_option maxRecDepth 100000 in
/-- Model.disk -/
theorem m_disk (l : Launch) (dC : Nat → ClassId) (dI : Nat → Nat → Nat) (o : Nat) (cd : Int32) (sc : Int32) (qm : Nat) (qd : Nat) (ch : Int32) (fe : Int32) (sz : Int32) (rd : Int32) (ca : Int32) (sx : Int32) (qp : Nat) (co : Int32) (gi : Int32) (aw : Int32) (cg : Int32) (bk : Int32) (qs : Nat) (ql : Nat) (qo : Nat) (ax : Int32) (wi : Int64) (cJ : ClassId) (Dk : Nat → Nat) (nn : Nat) (x : Int32) (zS : Nat) (hsc : sc = nI nn) (hnn : nn ≤ 2048) (hD9 : byt Dk) : Met l yX4_disk wsX4_disk ({ frames := 1, cells := 0, slots := 0, locals := 60 }) (va_Pc [.ref o, .int x] (fun U => U.heap.size = zS ∧ va_P (dC, dI) vwCl [(o, .inr (4, [.int cd, .int sc, .ref qm, .ref qd, .int ch, .int fe, .int sz, .int rd, .int ca, .int sx, .ref qp, .int co, .int gi, .int aw, .int cg, .int bk, .ref qs, .ref ql, .ref qo, .int ax, .long wi])), (qd, .inl (cJ, 131072, .inr (.inl (mL Dk))))] U.heap ∧ va_K (dC, dI) vwCl [(cJ, .long)] U ∧ va_D (fun _ => True) [(o, .inr (4, [.int cd, .int sc, .ref qm, .ref qd, .int ch, .int fe, .int sz, .int rd, .int ca, .int sx, .ref qp, .int co, .int gi, .int aw, .int cg, .int bk, .ref qs, .ref ql, .ref qo, .int ax, .long wi])), (qd, .inl (cJ, 131072, .inr (.inl (mL Dk))))] ∧ ZZ (va_A [(o, .inr (4, [.int cd, .int sc, .ref qm, .ref qd, .int ch, .int fe, .int sz, .int rd, .int ca, .int sx, .ref qp, .int co, .int gi, .int aw, .int cg, .int bk, .ref qs, .ref ql, .ref qo, .int ax, .long wi])), (qd, .inl (cJ, 131072, .inr (.inl (mL Dk))))] zS) U U.heap)) (va_Qi (fun (r : Int32) (u : Int32) => match u with | cd2 => cd2 = bI (npP x nn) ∧ (¬ npP x nn → r = nI (Dk x.toInt.toNat))) (fun (u : Int32) (t : State) => match u with | cd2 => va_P (dC, dI) vwCl [(o, .inr (4, [.int cd2, .int sc, .ref qm, .ref qd, .int ch, .int fe, .int sz, .int rd, .int ca, .int sx, .ref qp, .int co, .int gi, .int aw, .int cg, .int bk, .ref qs, .ref ql, .ref qo, .int ax, .long wi])), (qd, .inl (cJ, 131072, .inr (.inl (mL Dk))))] t.heap ∧ va_K (dC, dI) vwCl [(cJ, .long)] t ∧ va_D (va_A [(o, .inr (4, [.int cd, .int sc, .ref qm, .ref qd, .int ch, .int fe, .int sz, .int rd, .int ca, .int sx, .ref qp, .int co, .int gi, .int aw, .int cg, .int bk, .ref qs, .ref ql, .ref qo, .int ax, .long wi])), (qd, .inl (cJ, 131072, .inr (.inl (mL Dk))))] zS) [(o, .inr (4, [.int cd2, .int sc, .ref qm, .ref qd, .int ch, .int fe, .int sz, .int rd, .int ca, .int sx, .ref qp, .int co, .int gi, .int aw, .int cg, .int bk, .ref qs, .ref ql, .ref qo, .int ax, .long wi])), (qd, .inl (cJ, 131072, .inr (.inl (mL Dk))))]) (va_A [(o, .inr (4, [.int cd, .int sc, .ref qm, .ref qd, .int ch, .int fe, .int sz, .int rd, .int ca, .int sx, .ref qp, .int co, .int gi, .int aw, .int cg, .int bk, .ref qs, .ref ql, .ref qo, .int ax, .long wi])), (qd, .inl (cJ, 131072, .inr (.inl (mL Dk))))] zS)) 0 0 (va_A [(o, .inr (4, [.int cd, .int sc, .ref qm, .ref qd, .int ch, .int fe, .int sz, .int rd, .int ca, .int sx, .ref qp, .int co, .int gi, .int aw, .int cg, .int bk, .ref qs, .ref ql, .ref qo, .int ax, .long wi])), (qd, .inl (cJ, 131072, .inr (.inl (mL Dk))))] zS) := by
  refine Met.ofW (cc := cX4_disk) (maxL := 2) (ret := (some .int)) (by decide) rfl ?_
  intro p e s m args below meth c s₁ B hml hv
  obtain ⟨rfl, hsz, hP, hK, hD0, hZ⟩ := hv
  have hx := B.exec
  have hb := B.bytes
  have hr := B.returns
  have hts := atoms_spec (ws := wsX4_disk) B.pre
  have hw : ∀ w ∈ WW, w.before _ s = true := fun w h => hts w (List.mem_cons_of_mem _ h)
  have hown : s.vm.findClass RX4 = some m.cls := findClass_of_methodNamed B.named
  have hlocks := B.notSynchronized
  subst hsz
  have hD := hD0.self (sz := s.heap.size)
  generalize hAe : va_A [(o, .inr (4, [.int cd, .int sc, .ref qm, .ref qd, .int ch, .int fe, .int sz, .int rd, .int ca, .int sx, .ref qp, .int co, .int gi, .int aw, .int cg, .int bk, .ref qs, .ref ql, .ref qo, .int ax, .long wi])), (qd, .inl (cJ, 131072, .inr (.inl (mL Dk))))] s.heap.size = A at hD hZ ⊢
  have hA : ∀ q : Nat, s.heap.size ≤ q → A q := fun q h => by rw [← hAe]; exact Or.inr h
  have hS : va_S A s.heap s.heap [] := va_S.rf
  have hP : va_P (dC, dI) vwCl [(o, .inr (4, [.int cd, .int sc, .ref qm, .ref qd, .int ch, .int fe, .int sz, .int rd, .int ca, .int sx, .ref qp, .int co, .int gi, .int aw, .int cg, .int bk, .ref qs, .ref ql, .ref qo, .int ax, .long wi])), (qd, .inl (cJ, 131072, .inr (.inl (mL Dk))))] s.heap := hP
  have hl := lv_entry ([.ref o, .int x]) (n := 2) (Nat.le_of_ble_eq_true rfl)
  rw [lg_entry_eq]
  generalize (lg_sl ([.ref o, .int x]) ++ List.replicate (2 - (lg_sl ([.ref o, .int x])).length) Slot.unset).toArray = ls at hl ⊢
  have hl : lv_has ls 2 [(0, .ref o), (1, .int x)] := hl
  refine lv_aload_n hx hb dX4_disk_0 rfl (lv_at hl 0 rfl) ?_
  refine lv_iload_n hx hb dX4_disk_1 rfl (lv_at hl 1 rfl) ?_
  have hPc := hP.sub (ws' := [(o, .inr (4, [.int cd, .int sc, .ref qm, .ref qd, .int ch, .int fe, .int sz, .int rd, .int ca, .int sx, .ref qp, .int co, .int gi, .int aw, .int cg, .int bk, .ref qs, .ref ql, .ref qo, .int ax, .long wi]))]) [0] rfl
  have hKc := hK.sub (tys' := []) [] rfl
  have hDc := hD.sub (ws' := [(o, .inr (4, [.int cd, .int sc, .ref qm, .ref qd, .int ch, .int fe, .int sz, .int rd, .int ca, .int sx, .ref qp, .int co, .int gi, .int aw, .int cg, .int bk, .ref qs, .ref ql, .ref qo, .int ax, .long wi]))]) [0] (by decide) rfl
  have hFc := va_free (wc := [(o, .inr (4, [.int cd, .int sc, .ref qm, .ref qd, .int ch, .int fe, .int sz, .int rd, .int ca, .int sx, .ref qp, .int co, .int gi, .int aw, .int cg, .int bk, .ref qs, .ref ql, .ref qo, .int ax, .long wi]))]) hD hS hA [0] rfl
  have hZc : ZZ (va_A [(o, .inr (4, [.int cd, .int sc, .ref qm, .ref qd, .int ch, .int fe, .int sz, .int rd, .int ca, .int sx, .ref qp, .int co, .int gi, .int aw, .int cg, .int bk, .ref qs, .ref ql, .ref qo, .int ax, .long wi]))] s.heap.size) s s.heap := (hZ.kept hS.2.1).narrow hFc
  refine va_calli (va_runV (As := [.int x]) (rest := []) ⟨hx, hb, hml, hown, hw⟩ (m_noPlace l dC dI o cd sc qm qd ch fe sz rd ca sx qp co gi aw cg bk qs ql qo ax wi nn x s.heap.size (by assumption) (by assumption)) (cwV 1 hw (gV w_76b5efa41c w_5863aa291e w_c88c388056 w_2b384744dc w_810c996c29) rfl rfl rfl (by decide +kernel) ⟨Nat.le_of_ble_eq_true rfl, Nat.le_of_ble_eq_true rfl⟩) ⟨fun a U g mk q => by obtain ⟨q0, q1, qP, qK, qD, qZ⟩ := q; exact ⟨q0, q1, qP, va_K.moved (u := U) (U := U.calling g mk a) (Vm.Alike.refl U.vm) qK, qD, ZZ.same (u := U) (U := U.calling g mk a) rfl qZ⟩, va_recv hKc hPc (ci := 4) (q0 := 0) rfl rfl, fun U hU hW => ⟨rfl, by rw [hU], by rw [hU]; exact hPc, va_K.moved hW.alike hKc, hDc.weaken (fun _ _ _ _ => trivial), by rw [hU]; exact ZZ.warm hW hZc⟩⟩ rfl rfl hl.1 rfl (lv_room (Nat.le_of_ble_eq_true rfl)) dX4_disk_2 ⟨Nat.zero_le _, Nat.zero_le _⟩) hS (fun q _ h => hFc q h) hFc (fun r_1 u t H1 locs ht hvm hw2 hB hz1 hk1 hS => ?_)
  obtain ⟨cd2_2, rfl⟩ : ∃ z, z = u := ⟨_, rfl⟩
  obtain ⟨hP1, hK1, hD1⟩ := hB
  rw [ht] at hP1
  have hK1 := va_K.moved hvm.symm hK1
  try dsimp only at hw2
  obtain ⟨hP, hD⟩ := va_join (wr := [(qd, .inl (cJ, 131072, .inr (.inl (mL Dk))))]) (w1 := [(o, .inr (4, [.int cd2_2, .int sc, .ref qm, .ref qd, .int ch, .int fe, .int sz, .int rd, .int ca, .int sx, .ref qp, .int co, .int gi, .int aw, .int cg, .int bk, .ref qs, .ref ql, .ref qo, .int ax, .long wi]))]) hP hD [0] [1] rfl rfl (by decide) (by decide) hk1 hFc hP1 hD1
  generalize H1 = H at hP hS hk1 ⊢
  have hP : va_P (dC, dI) vwCl [(qd, .inl (cJ, 131072, .inr (.inl (mL Dk)))), (o, .inr (4, [.int cd2_2, .int sc, .ref qm, .ref qd, .int ch, .int fe, .int sz, .int rd, .int ca, .int sx, .ref qp, .int co, .int gi, .int aw, .int cg, .int bk, .ref qs, .ref ql, .ref qo, .int ax, .long wi]))] H := hP
  have hD : va_D A [(qd, .inl (cJ, 131072, .inr (.inl (mL Dk)))), (o, .inr (4, [.int cd2_2, .int sc, .ref qm, .ref qd, .int ch, .int fe, .int sz, .int rd, .int ca, .int sx, .ref qp, .int co, .int gi, .int aw, .int cg, .int bk, .ref qs, .ref ql, .ref qo, .int ax, .long wi]))] := hD
  have hw_3 : cd2_2 = bI (npP x nn) ∧ r_1 = bI (npP x nn) := hw2
  refine lv_if_eq (tgt := 12) hx hb dX4_disk_5 (by decide) (fun c_4 => ?_) (fun c_4 => ?_)
  · skip
    have b_5 : ¬ (npP x nn) := bI_0 (by rw [← hw_3.2]; exact c_4)
    refine lv_aload_n hx hb dX4_disk_12 rfl (lv_at hl 0 rfl) ?_
    refine va_get (D := (dC, dI)) (ci := 4) (v := .ref qd) (C := RX4) (T := TX4) (N := 21) hx hb hw inX4 hown hK hP 1 rfl rfl 3 (by decide) (hw _ w_ba2971feac) (fun _ h9 => h9) rfl dX4_disk_13 ?_
    refine lv_iload_n hx hb dX4_disk_16 rfl (lv_at hl 1 rfl) ?_
    have hPc := hP.sub (ws' := [(qd, .inl (cJ, 131072, .inr (.inl (mL Dk))))]) [0] rfl
    have hKc := hK.sub (tys' := [(cJ, .long)]) [0] rfl
    have hZc := (hZ.kept hS.2.1).narrow (B := fun _ => False) (fun _ h => h.elim)
    refine vp_callSi (va_runS (As := [.ref qd, .int x]) (rest := []) ⟨hx, hb, hml, hown, hw⟩ (m_byteOf l dC dI qd cJ 131072 Dk x x.toInt.toNat (np_i b_5).1 (by have := (np_i b_5).2; omega) (by decide) hD9) (va_cwS 2 hw (gS w_0040d9f8c6 w_54d35d2618 w_2b384744dc w_0c3ce745cc) rfl rfl rfl (by decide +kernel) ⟨Nat.le_of_ble_eq_true rfl, Nat.le_of_ble_eq_true rfl⟩) ⟨fun a U g mk q => by obtain ⟨q0, qP, qK, qZ⟩ := q; exact ⟨q0, qP, va_K.moved (u := U) (U := U.calling g mk a) (Vm.Alike.refl U.vm) qK, ZZ.same (u := U) (U := U.calling g mk a) rfl qZ⟩, fun U hU hW => ⟨rfl, by rw [hU]; exact hPc, va_K.moved hW.alike hKc, by rw [hU]; exact ZZ.warm hW hZc⟩⟩ rfl rfl hl.1 rfl (lv_room (Nat.le_of_ble_eq_true rfl)) dX4_disk_17 ⟨Nat.zero_le _, Nat.zero_le _⟩).run (fun r_6 hr_6 => ?_)
    have hr_6 : r_6 = nI (Dk x.toInt.toNat) := hr_6
    have hP9 : va_P (dC, dI) vwCl [(o, .inr (4, [.int cd2_2, .int sc, .ref qm, .ref qd, .int ch, .int fe, .int sz, .int rd, .int ca, .int sx, .ref qp, .int co, .int gi, .int aw, .int cg, .int bk, .ref qs, .ref ql, .ref qo, .int ax, .long wi])), (qd, .inl (cJ, 131072, .inr (.inl (mL Dk))))] H := by exact hP.sub (ws' := [(o, .inr (4, [.int cd2_2, .int sc, .ref qm, .ref qd, .int ch, .int fe, .int sz, .int rd, .int ca, .int sx, .ref qp, .int co, .int gi, .int aw, .int cg, .int bk, .ref qs, .ref ql, .ref qo, .int ax, .long wi])), (qd, .inl (cJ, 131072, .inr (.inl (mL Dk))))]) [1, 0] rfl
    have hD9 : va_D A [(o, .inr (4, [.int cd2_2, .int sc, .ref qm, .ref qd, .int ch, .int fe, .int sz, .int rd, .int ca, .int sx, .ref qp, .int co, .int gi, .int aw, .int cg, .int bk, .ref qs, .ref ql, .ref qo, .int ax, .long wi])), (qd, .inl (cJ, 131072, .inr (.inl (mL Dk))))] := by exact hD.sub (ws' := [(o, .inr (4, [.int cd2_2, .int sc, .ref qm, .ref qd, .int ch, .int fe, .int sz, .int rd, .int ca, .int sx, .ref qp, .int co, .int gi, .int aw, .int cg, .int bk, .ref qs, .ref ql, .ref qo, .int ax, .long wi])), (qd, .inl (cJ, 131072, .inr (.inl (mL Dk))))]) [1, 0] (by decide) rfl
    have hK9 := hK.sub (tys' := [(cJ, .long)]) [0] rfl
    exact W.iret (v := r_6) hx hb hr (fun t ht hW => ⟨⟨_, (cd2_2), rfl, ⟨hw_3.1, fun _ => hr_6⟩, by rw [ht]; exact hP9, va_K.moved hW.alike hK9, hD9⟩, hS.F ht⟩) hS.2.2 dX4_disk_20
  · skip
    have b_7 : (npP x nn) := bI_1 (by rw [← hw_3.2]; exact c_4)
    refine lv_iconst (v := 0) hx hb dX4_disk_8 (by decide) ?_
    refine lv_goto (tgt := 20) hx hb dX4_disk_9 (by decide) ?_
    have hP9 : va_P (dC, dI) vwCl [(o, .inr (4, [.int cd2_2, .int sc, .ref qm, .ref qd, .int ch, .int fe, .int sz, .int rd, .int ca, .int sx, .ref qp, .int co, .int gi, .int aw, .int cg, .int bk, .ref qs, .ref ql, .ref qo, .int ax, .long wi])), (qd, .inl (cJ, 131072, .inr (.inl (mL Dk))))] H := by exact hP.sub (ws' := [(o, .inr (4, [.int cd2_2, .int sc, .ref qm, .ref qd, .int ch, .int fe, .int sz, .int rd, .int ca, .int sx, .ref qp, .int co, .int gi, .int aw, .int cg, .int bk, .ref qs, .ref ql, .ref qo, .int ax, .long wi])), (qd, .inl (cJ, 131072, .inr (.inl (mL Dk))))]) [1, 0] rfl
    have hD9 : va_D A [(o, .inr (4, [.int cd2_2, .int sc, .ref qm, .ref qd, .int ch, .int fe, .int sz, .int rd, .int ca, .int sx, .ref qp, .int co, .int gi, .int aw, .int cg, .int bk, .ref qs, .ref ql, .ref qo, .int ax, .long wi])), (qd, .inl (cJ, 131072, .inr (.inl (mL Dk))))] := by exact hD.sub (ws' := [(o, .inr (4, [.int cd2_2, .int sc, .ref qm, .ref qd, .int ch, .int fe, .int sz, .int rd, .int ca, .int sx, .ref qp, .int co, .int gi, .int aw, .int cg, .int bk, .ref qs, .ref ql, .ref qo, .int ax, .long wi])), (qd, .inl (cJ, 131072, .inr (.inl (mL Dk))))]) [1, 0] (by decide) rfl
    have hK9 := hK.sub (tys' := [(cJ, .long)]) [0] rfl
    exact W.iret (v := 0) hx hb hr (fun t ht hW => ⟨⟨_, (cd2_2), rfl, ⟨hw_3.1, fun z => absurd b_7 z⟩, by rw [ht]; exact hP9, va_K.moved hW.alike hK9, hD9⟩, hS.F ht⟩) hS.2.2 dX4_disk_20
set_option maxHeartbeats 4000000 in
set_option maxRecDepth 100000 in
/-- Model.setDisk -/
theorem m_setDisk (l : Launch) (dC : Nat → ClassId) (dI : Nat → Nat → Nat) (o : Nat) (cd : Int32) (sc : Int32) (qm : Nat) (qd : Nat) (ch : Int32) (fe : Int32) (sz : Int32) (rd : Int32) (ca : Int32) (sx : Int32) (qp : Nat) (co : Int32) (gi : Int32) (aw : Int32) (cg : Int32) (bk : Int32) (qs : Nat) (ql : Nat) (qo : Nat) (ax : Int32) (wi : Int64) (cJ : ClassId) (Dk : Nat → Nat) (nn : Nat) (x : Int32) (v : Int32) (zS : Nat) (hsc : sc = nI nn) (hnn : nn ≤ 2048) (hD9 : byt Dk) : Met l yX4_setDisk wsX4_setDisk ({ frames := 1, cells := 0, slots := 0, locals := 60 }) (va_Pc [.ref o, .int x, .int v] (fun U => U.heap.size = zS ∧ va_P (dC, dI) vwCl [(o, .inr (4, [.int cd, .int sc, .ref qm, .ref qd, .int ch, .int fe, .int sz, .int rd, .int ca, .int sx, .ref qp, .int co, .int gi, .int aw, .int cg, .int bk, .ref qs, .ref ql, .ref qo, .int ax, .long wi])), (qd, .inl (cJ, 131072, .inr (.inl (mL Dk))))] U.heap ∧ va_K (dC, dI) vwCl [(cJ, .long)] U ∧ va_D (fun _ => True) [(o, .inr (4, [.int cd, .int sc, .ref qm, .ref qd, .int ch, .int fe, .int sz, .int rd, .int ca, .int sx, .ref qp, .int co, .int gi, .int aw, .int cg, .int bk, .ref qs, .ref ql, .ref qo, .int ax, .long wi])), (qd, .inl (cJ, 131072, .inr (.inl (mL Dk))))] ∧ ZZ (va_A [(o, .inr (4, [.int cd, .int sc, .ref qm, .ref qd, .int ch, .int fe, .int sz, .int rd, .int ca, .int sx, .ref qp, .int co, .int gi, .int aw, .int cg, .int bk, .ref qs, .ref ql, .ref qo, .int ax, .long wi])), (qd, .inl (cJ, 131072, .inr (.inl (mL Dk))))] zS) U U.heap)) (va_Qv (fun (u : Int32 × (Nat → Int64)) => match u with | (cd2, g) => cd2 = bI (npP x nn) ∧ g = mL (if npP x nn then Dk else va_up Dk x.toInt.toNat (v.toBitVec.toNat % 256))) (fun (u : Int32 × (Nat → Int64)) (t : State) => match u with | (cd2, g) => va_P (dC, dI) vwCl [(o, .inr (4, [.int cd2, .int sc, .ref qm, .ref qd, .int ch, .int fe, .int sz, .int rd, .int ca, .int sx, .ref qp, .int co, .int gi, .int aw, .int cg, .int bk, .ref qs, .ref ql, .ref qo, .int ax, .long wi])), (qd, .inl (cJ, 131072, .inr (.inl g)))] t.heap ∧ va_K (dC, dI) vwCl [(cJ, .long)] t ∧ va_D (va_A [(o, .inr (4, [.int cd, .int sc, .ref qm, .ref qd, .int ch, .int fe, .int sz, .int rd, .int ca, .int sx, .ref qp, .int co, .int gi, .int aw, .int cg, .int bk, .ref qs, .ref ql, .ref qo, .int ax, .long wi])), (qd, .inl (cJ, 131072, .inr (.inl (mL Dk))))] zS) [(o, .inr (4, [.int cd2, .int sc, .ref qm, .ref qd, .int ch, .int fe, .int sz, .int rd, .int ca, .int sx, .ref qp, .int co, .int gi, .int aw, .int cg, .int bk, .ref qs, .ref ql, .ref qo, .int ax, .long wi])), (qd, .inl (cJ, 131072, .inr (.inl g)))]) (va_A [(o, .inr (4, [.int cd, .int sc, .ref qm, .ref qd, .int ch, .int fe, .int sz, .int rd, .int ca, .int sx, .ref qp, .int co, .int gi, .int aw, .int cg, .int bk, .ref qs, .ref ql, .ref qo, .int ax, .long wi])), (qd, .inl (cJ, 131072, .inr (.inl (mL Dk))))] zS)) 0 0 (va_A [(o, .inr (4, [.int cd, .int sc, .ref qm, .ref qd, .int ch, .int fe, .int sz, .int rd, .int ca, .int sx, .ref qp, .int co, .int gi, .int aw, .int cg, .int bk, .ref qs, .ref ql, .ref qo, .int ax, .long wi])), (qd, .inl (cJ, 131072, .inr (.inl (mL Dk))))] zS) := by
  refine Met.ofW (cc := cX4_setDisk) (maxL := 3) (ret := (none)) (by decide) rfl ?_
  intro p e s m args below meth c s₁ B hml hv
  obtain ⟨rfl, hsz, hP, hK, hD0, hZ⟩ := hv
  have hx := B.exec
  have hb := B.bytes
  have hr := B.returns
  have hts := atoms_spec (ws := wsX4_setDisk) B.pre
  have hw : ∀ w ∈ WW, w.before _ s = true := fun w h => hts w (List.mem_cons_of_mem _ h)
  have hown : s.vm.findClass RX4 = some m.cls := findClass_of_methodNamed B.named
  have hlocks := B.notSynchronized
  subst hsz
  have hD := hD0.self (sz := s.heap.size)
  generalize hAe : va_A [(o, .inr (4, [.int cd, .int sc, .ref qm, .ref qd, .int ch, .int fe, .int sz, .int rd, .int ca, .int sx, .ref qp, .int co, .int gi, .int aw, .int cg, .int bk, .ref qs, .ref ql, .ref qo, .int ax, .long wi])), (qd, .inl (cJ, 131072, .inr (.inl (mL Dk))))] s.heap.size = A at hD hZ ⊢
  have hA : ∀ q : Nat, s.heap.size ≤ q → A q := fun q h => by rw [← hAe]; exact Or.inr h
  have hS : va_S A s.heap s.heap [] := va_S.rf
  have hP : va_P (dC, dI) vwCl [(o, .inr (4, [.int cd, .int sc, .ref qm, .ref qd, .int ch, .int fe, .int sz, .int rd, .int ca, .int sx, .ref qp, .int co, .int gi, .int aw, .int cg, .int bk, .ref qs, .ref ql, .ref qo, .int ax, .long wi])), (qd, .inl (cJ, 131072, .inr (.inl (mL Dk))))] s.heap := hP
  have hl := lv_entry ([.ref o, .int x, .int v]) (n := 3) (Nat.le_of_ble_eq_true rfl)
  rw [lg_entry_eq]
  generalize (lg_sl ([.ref o, .int x, .int v]) ++ List.replicate (3 - (lg_sl ([.ref o, .int x, .int v])).length) Slot.unset).toArray = ls at hl ⊢
  have hl : lv_has ls 3 [(0, .ref o), (1, .int x), (2, .int v)] := hl
  refine lv_aload_n hx hb dX4_setDisk_0 rfl (lv_at hl 0 rfl) ?_
  refine lv_iload_n hx hb dX4_setDisk_1 rfl (lv_at hl 1 rfl) ?_
  have hPc := hP.sub (ws' := [(o, .inr (4, [.int cd, .int sc, .ref qm, .ref qd, .int ch, .int fe, .int sz, .int rd, .int ca, .int sx, .ref qp, .int co, .int gi, .int aw, .int cg, .int bk, .ref qs, .ref ql, .ref qo, .int ax, .long wi]))]) [0] rfl
  have hKc := hK.sub (tys' := []) [] rfl
  have hDc := hD.sub (ws' := [(o, .inr (4, [.int cd, .int sc, .ref qm, .ref qd, .int ch, .int fe, .int sz, .int rd, .int ca, .int sx, .ref qp, .int co, .int gi, .int aw, .int cg, .int bk, .ref qs, .ref ql, .ref qo, .int ax, .long wi]))]) [0] (by decide) rfl
  have hFc := va_free (wc := [(o, .inr (4, [.int cd, .int sc, .ref qm, .ref qd, .int ch, .int fe, .int sz, .int rd, .int ca, .int sx, .ref qp, .int co, .int gi, .int aw, .int cg, .int bk, .ref qs, .ref ql, .ref qo, .int ax, .long wi]))]) hD hS hA [0] rfl
  have hZc : ZZ (va_A [(o, .inr (4, [.int cd, .int sc, .ref qm, .ref qd, .int ch, .int fe, .int sz, .int rd, .int ca, .int sx, .ref qp, .int co, .int gi, .int aw, .int cg, .int bk, .ref qs, .ref ql, .ref qo, .int ax, .long wi]))] s.heap.size) s s.heap := (hZ.kept hS.2.1).narrow hFc
  refine va_calli (va_runV (As := [.int x]) (rest := []) ⟨hx, hb, hml, hown, hw⟩ (m_noPlace l dC dI o cd sc qm qd ch fe sz rd ca sx qp co gi aw cg bk qs ql qo ax wi nn x s.heap.size (by assumption) (by assumption)) (cwV 1 hw (gV w_76b5efa41c w_5863aa291e w_c88c388056 w_2b384744dc w_810c996c29) rfl rfl rfl (by decide +kernel) ⟨Nat.le_of_ble_eq_true rfl, Nat.le_of_ble_eq_true rfl⟩) ⟨fun a U g mk q => by obtain ⟨q0, q1, qP, qK, qD, qZ⟩ := q; exact ⟨q0, q1, qP, va_K.moved (u := U) (U := U.calling g mk a) (Vm.Alike.refl U.vm) qK, qD, ZZ.same (u := U) (U := U.calling g mk a) rfl qZ⟩, va_recv hKc hPc (ci := 4) (q0 := 0) rfl rfl, fun U hU hW => ⟨rfl, by rw [hU], by rw [hU]; exact hPc, va_K.moved hW.alike hKc, hDc.weaken (fun _ _ _ _ => trivial), by rw [hU]; exact ZZ.warm hW hZc⟩⟩ rfl rfl hl.1 rfl (lv_room (Nat.le_of_ble_eq_true rfl)) dX4_setDisk_2 ⟨Nat.zero_le _, Nat.zero_le _⟩) hS (fun q _ h => hFc q h) hFc (fun r_1 u t H1 locs ht hvm hw2 hB hz1 hk1 hS => ?_)
  obtain ⟨cd2_2, rfl⟩ : ∃ z, z = u := ⟨_, rfl⟩
  obtain ⟨hP1, hK1, hD1⟩ := hB
  rw [ht] at hP1
  have hK1 := va_K.moved hvm.symm hK1
  try dsimp only at hw2
  obtain ⟨hP, hD⟩ := va_join (wr := [(qd, .inl (cJ, 131072, .inr (.inl (mL Dk))))]) (w1 := [(o, .inr (4, [.int cd2_2, .int sc, .ref qm, .ref qd, .int ch, .int fe, .int sz, .int rd, .int ca, .int sx, .ref qp, .int co, .int gi, .int aw, .int cg, .int bk, .ref qs, .ref ql, .ref qo, .int ax, .long wi]))]) hP hD [0] [1] rfl rfl (by decide) (by decide) hk1 hFc hP1 hD1
  generalize H1 = H at hP hS hk1 ⊢
  have hP : va_P (dC, dI) vwCl [(qd, .inl (cJ, 131072, .inr (.inl (mL Dk)))), (o, .inr (4, [.int cd2_2, .int sc, .ref qm, .ref qd, .int ch, .int fe, .int sz, .int rd, .int ca, .int sx, .ref qp, .int co, .int gi, .int aw, .int cg, .int bk, .ref qs, .ref ql, .ref qo, .int ax, .long wi]))] H := hP
  have hD : va_D A [(qd, .inl (cJ, 131072, .inr (.inl (mL Dk)))), (o, .inr (4, [.int cd2_2, .int sc, .ref qm, .ref qd, .int ch, .int fe, .int sz, .int rd, .int ca, .int sx, .ref qp, .int co, .int gi, .int aw, .int cg, .int bk, .ref qs, .ref ql, .ref qo, .int ax, .long wi]))] := hD
  have hw_3 : cd2_2 = bI (npP x nn) ∧ r_1 = bI (npP x nn) := hw2
  refine lv_if_ne (tgt := 17) hx hb dX4_setDisk_5 (by decide) (fun c_4 => ?_) (fun c_4 => ?_)
  · skip
    have b_5 : (npP x nn) := bI_1 (by rw [← hw_3.2]; exact c_4)
    have hP9 : va_P (dC, dI) vwCl [(o, .inr (4, [.int cd2_2, .int sc, .ref qm, .ref qd, .int ch, .int fe, .int sz, .int rd, .int ca, .int sx, .ref qp, .int co, .int gi, .int aw, .int cg, .int bk, .ref qs, .ref ql, .ref qo, .int ax, .long wi])), (qd, .inl (cJ, 131072, .inr (.inl (mL Dk))))] H := by exact hP.sub (ws' := [(o, .inr (4, [.int cd2_2, .int sc, .ref qm, .ref qd, .int ch, .int fe, .int sz, .int rd, .int ca, .int sx, .ref qp, .int co, .int gi, .int aw, .int cg, .int bk, .ref qs, .ref ql, .ref qo, .int ax, .long wi])), (qd, .inl (cJ, 131072, .inr (.inl (mL Dk))))]) [1, 0] rfl
    have hD9 : va_D A [(o, .inr (4, [.int cd2_2, .int sc, .ref qm, .ref qd, .int ch, .int fe, .int sz, .int rd, .int ca, .int sx, .ref qp, .int co, .int gi, .int aw, .int cg, .int bk, .ref qs, .ref ql, .ref qo, .int ax, .long wi])), (qd, .inl (cJ, 131072, .inr (.inl (mL Dk))))] := by exact hD.sub (ws' := [(o, .inr (4, [.int cd2_2, .int sc, .ref qm, .ref qd, .int ch, .int fe, .int sz, .int rd, .int ca, .int sx, .ref qp, .int co, .int gi, .int aw, .int cg, .int bk, .ref qs, .ref ql, .ref qo, .int ax, .long wi])), (qd, .inl (cJ, 131072, .inr (.inl (mL Dk))))]) [1, 0] (by decide) rfl
    have hK9 := hK.sub (tys' := [(cJ, .long)]) [0] rfl
    exact W.vret hx hb hr (fun t ht hW => ⟨⟨(cd2_2, mL Dk), rfl, ⟨hw_3.1, by rw [if_pos b_5]⟩, by rw [ht]; exact hP9, va_K.moved hW.alike hK9, hD9⟩, hS.F ht⟩) hS.2.2 dX4_setDisk_17
  · skip
    have b_6 : ¬ (npP x nn) := bI_0 (by rw [← hw_3.2]; exact c_4)
    refine lv_aload_n hx hb dX4_setDisk_8 rfl (lv_at hl 0 rfl) ?_
    refine va_get (D := (dC, dI)) (ci := 4) (v := .ref qd) (C := RX4) (T := TX4) (N := 21) hx hb hw inX4 hown hK hP 1 rfl rfl 3 (by decide) (hw _ w_ba2971feac) (fun _ h9 => h9) rfl dX4_setDisk_9 ?_
    refine lv_iload_n hx hb dX4_setDisk_12 rfl (lv_at hl 1 rfl) ?_
    refine lv_iload_n hx hb dX4_setDisk_13 rfl (lv_at hl 2 rfl) ?_
    have hPc := hP.sub (ws' := [(qd, .inl (cJ, 131072, .inr (.inl (mL Dk))))]) [0] rfl
    have hKc := hK.sub (tys' := [(cJ, .long)]) [0] rfl
    have hDc := hD.sub (ws' := [(qd, .inl (cJ, 131072, .inr (.inl (mL Dk))))]) [0] (by decide) rfl
    have hFc := va_free (wc := [(qd, .inl (cJ, 131072, .inr (.inl (mL Dk))))]) hD hS hA [0] rfl
    have hZc : ZZ (va_A [(qd, .inl (cJ, 131072, .inr (.inl (mL Dk))))] H.size) s H := (hZ.kept hS.2.1).narrow hFc
    refine va_callv (va_runS (As := [.ref qd, .int x, .int v]) (rest := []) ⟨hx, hb, hml, hown, hw⟩ (m_putByte l dC dI qd cJ 131072 Dk x x.toInt.toNat v H.size (np_i b_6).1 (by have := (np_i b_6).2; omega) (by decide) hD9) (va_cwS 3 hw (gS w_25dd54422a w_d05a527ec7 w_2b384744dc w_6cd80c4d0e) rfl rfl rfl (by decide +kernel) ⟨Nat.le_of_ble_eq_true rfl, Nat.le_of_ble_eq_true rfl⟩) ⟨fun a U g mk q => by obtain ⟨q0, q1, qP, qK, qD, qZ⟩ := q; exact ⟨q0, q1, qP, va_K.moved (u := U) (U := U.calling g mk a) (Vm.Alike.refl U.vm) qK, qD, ZZ.same (u := U) (U := U.calling g mk a) rfl qZ⟩, fun U hU hW => ⟨rfl, by rw [hU], by rw [hU]; exact hPc, va_K.moved hW.alike hKc, hDc.weaken (fun _ _ _ _ => trivial), by rw [hU]; exact ZZ.warm hW hZc⟩⟩ rfl rfl hl.1 rfl (lv_room (Nat.le_of_ble_eq_true rfl)) dX4_setDisk_14 ⟨Nat.zero_le _, Nat.zero_le _⟩) hS (fun q _ h => hFc q h) hFc (fun u t H1 locs ht hvm hw2 hB hz1 hk1 hS => ?_)
    obtain ⟨g_7, rfl⟩ : ∃ z, z = u := ⟨_, rfl⟩
    obtain ⟨hP1, hK1, hD1⟩ := hB
    rw [ht] at hP1
    have hK1 := va_K.moved hvm.symm hK1
    try dsimp only at hw2
    obtain ⟨hP, hD⟩ := va_join (wr := [(o, .inr (4, [.int cd2_2, .int sc, .ref qm, .ref qd, .int ch, .int fe, .int sz, .int rd, .int ca, .int sx, .ref qp, .int co, .int gi, .int aw, .int cg, .int bk, .ref qs, .ref ql, .ref qo, .int ax, .long wi]))]) (w1 := [(qd, .inl (cJ, 131072, .inr (.inl g_7)))]) hP hD [0] [1] rfl rfl (by decide) (by decide) hk1 hFc hP1 hD1
    generalize H1 = H at hP hS hk1 ⊢
    have hP : va_P (dC, dI) vwCl [(o, .inr (4, [.int cd2_2, .int sc, .ref qm, .ref qd, .int ch, .int fe, .int sz, .int rd, .int ca, .int sx, .ref qp, .int co, .int gi, .int aw, .int cg, .int bk, .ref qs, .ref ql, .ref qo, .int ax, .long wi])), (qd, .inl (cJ, 131072, .inr (.inl g_7)))] H := hP
    have hD : va_D A [(o, .inr (4, [.int cd2_2, .int sc, .ref qm, .ref qd, .int ch, .int fe, .int sz, .int rd, .int ca, .int sx, .ref qp, .int co, .int gi, .int aw, .int cg, .int bk, .ref qs, .ref ql, .ref qo, .int ax, .long wi])), (qd, .inl (cJ, 131072, .inr (.inl g_7)))] := hD
    have hw_8 : g_7 = mL (va_up Dk x.toInt.toNat (v.toBitVec.toNat % 256)) := hw2
    have hP9 : va_P (dC, dI) vwCl [(o, .inr (4, [.int cd2_2, .int sc, .ref qm, .ref qd, .int ch, .int fe, .int sz, .int rd, .int ca, .int sx, .ref qp, .int co, .int gi, .int aw, .int cg, .int bk, .ref qs, .ref ql, .ref qo, .int ax, .long wi])), (qd, .inl (cJ, 131072, .inr (.inl g_7)))] H := by exact hP.sub (ws' := [(o, .inr (4, [.int cd2_2, .int sc, .ref qm, .ref qd, .int ch, .int fe, .int sz, .int rd, .int ca, .int sx, .ref qp, .int co, .int gi, .int aw, .int cg, .int bk, .ref qs, .ref ql, .ref qo, .int ax, .long wi])), (qd, .inl (cJ, 131072, .inr (.inl g_7)))]) [0, 1] rfl
    have hD9 : va_D A [(o, .inr (4, [.int cd2_2, .int sc, .ref qm, .ref qd, .int ch, .int fe, .int sz, .int rd, .int ca, .int sx, .ref qp, .int co, .int gi, .int aw, .int cg, .int bk, .ref qs, .ref ql, .ref qo, .int ax, .long wi])), (qd, .inl (cJ, 131072, .inr (.inl g_7)))] := by exact hD.sub (ws' := [(o, .inr (4, [.int cd2_2, .int sc, .ref qm, .ref qd, .int ch, .int fe, .int sz, .int rd, .int ca, .int sx, .ref qp, .int co, .int gi, .int aw, .int cg, .int bk, .ref qs, .ref ql, .ref qo, .int ax, .long wi])), (qd, .inl (cJ, 131072, .inr (.inl g_7)))]) [0, 1] (by decide) rfl
    have hK9 := hK.sub (tys' := [(cJ, .long)]) [0] rfl
    exact W.vret hx hb hr (fun t ht hW => ⟨⟨(cd2_2, g_7), rfl, ⟨hw_3.1, by rw [if_neg b_6]; exact hw_8⟩, by rw [ht]; exact hP9, va_K.moved hW.alike hK9, hD9⟩, hS.F ht⟩) hS.2.2 dX4_setDisk_17
set_option maxHeartbeats 4000000 in
set_option maxRecDepth 100000 in
/-- Model.noOffset -/
theorem m_noOffset (l : Launch) (dC : Nat → ClassId) (dI : Nat → Nat → Nat) (o : Nat) (cd : Int32) (sc : Int32) (qm : Nat) (qd : Nat) (ch : Int32) (fe : Int32) (sz : Int32) (rd : Int32) (ca : Int32) (sx : Int32) (qp : Nat) (co : Int32) (gi : Int32) (aw : Int32) (cg : Int32) (bk : Int32) (qs : Nat) (ql : Nat) (qo : Nat) (ax : Int32) (wi : Int64) (x : Int32) (zS : Nat) : Met l yX4_noOffset wsX4_noOffset ({ frames := 0, cells := 0, slots := 0, locals := 0 }) (va_Pc [.ref o, .int x] (fun U => U.heap.size = zS ∧ va_P (dC, dI) vwCl [(o, .inr (4, [.int cd, .int sc, .ref qm, .ref qd, .int ch, .int fe, .int sz, .int rd, .int ca, .int sx, .ref qp, .int co, .int gi, .int aw, .int cg, .int bk, .ref qs, .ref ql, .ref qo, .int ax, .long wi]))] U.heap ∧ va_K (dC, dI) vwCl [] U ∧ va_D (fun _ => True) [(o, .inr (4, [.int cd, .int sc, .ref qm, .ref qd, .int ch, .int fe, .int sz, .int rd, .int ca, .int sx, .ref qp, .int co, .int gi, .int aw, .int cg, .int bk, .ref qs, .ref ql, .ref qo, .int ax, .long wi]))] ∧ ZZ (va_A [(o, .inr (4, [.int cd, .int sc, .ref qm, .ref qd, .int ch, .int fe, .int sz, .int rd, .int ca, .int sx, .ref qp, .int co, .int gi, .int aw, .int cg, .int bk, .ref qs, .ref ql, .ref qo, .int ax, .long wi]))] zS) U U.heap)) (va_Qi (fun (r : Int32) (u : Int32) => match u with | cd2 => cd2 = bI (noP x) ∧ r = bI (noP x)) (fun (u : Int32) (t : State) => match u with | cd2 => va_P (dC, dI) vwCl [(o, .inr (4, [.int cd2, .int sc, .ref qm, .ref qd, .int ch, .int fe, .int sz, .int rd, .int ca, .int sx, .ref qp, .int co, .int gi, .int aw, .int cg, .int bk, .ref qs, .ref ql, .ref qo, .int ax, .long wi]))] t.heap ∧ va_K (dC, dI) vwCl [] t ∧ va_D (va_A [(o, .inr (4, [.int cd, .int sc, .ref qm, .ref qd, .int ch, .int fe, .int sz, .int rd, .int ca, .int sx, .ref qp, .int co, .int gi, .int aw, .int cg, .int bk, .ref qs, .ref ql, .ref qo, .int ax, .long wi]))] zS) [(o, .inr (4, [.int cd2, .int sc, .ref qm, .ref qd, .int ch, .int fe, .int sz, .int rd, .int ca, .int sx, .ref qp, .int co, .int gi, .int aw, .int cg, .int bk, .ref qs, .ref ql, .ref qo, .int ax, .long wi]))]) (va_A [(o, .inr (4, [.int cd, .int sc, .ref qm, .ref qd, .int ch, .int fe, .int sz, .int rd, .int ca, .int sx, .ref qp, .int co, .int gi, .int aw, .int cg, .int bk, .ref qs, .ref ql, .ref qo, .int ax, .long wi]))] zS)) 0 0 (va_A [(o, .inr (4, [.int cd, .int sc, .ref qm, .ref qd, .int ch, .int fe, .int sz, .int rd, .int ca, .int sx, .ref qp, .int co, .int gi, .int aw, .int cg, .int bk, .ref qs, .ref ql, .ref qo, .int ax, .long wi]))] zS) := by
  refine Met.ofW (cc := cX4_noOffset) (maxL := 2) (ret := (some .boolean)) (by decide) rfl ?_
  intro p e s m args below meth c s₁ B hml hv
  obtain ⟨rfl, hsz, hP, hK, hD0, hZ⟩ := hv
  have hx := B.exec
  have hb := B.bytes
  have hr := B.returns
  have hts := atoms_spec (ws := wsX4_noOffset) B.pre
  have hw : ∀ w ∈ WW, w.before _ s = true := fun w h => hts w (List.mem_cons_of_mem _ h)
  have hown : s.vm.findClass RX4 = some m.cls := findClass_of_methodNamed B.named
  have hlocks := B.notSynchronized
  subst hsz
  have hD := hD0.self (sz := s.heap.size)
  generalize hAe : va_A [(o, .inr (4, [.int cd, .int sc, .ref qm, .ref qd, .int ch, .int fe, .int sz, .int rd, .int ca, .int sx, .ref qp, .int co, .int gi, .int aw, .int cg, .int bk, .ref qs, .ref ql, .ref qo, .int ax, .long wi]))] s.heap.size = A at hD hZ ⊢
  have hA : ∀ q : Nat, s.heap.size ≤ q → A q := fun q h => by rw [← hAe]; exact Or.inr h
  have hS : va_S A s.heap s.heap [] := va_S.rf
  have hP : va_P (dC, dI) vwCl [(o, .inr (4, [.int cd, .int sc, .ref qm, .ref qd, .int ch, .int fe, .int sz, .int rd, .int ca, .int sx, .ref qp, .int co, .int gi, .int aw, .int cg, .int bk, .ref qs, .ref ql, .ref qo, .int ax, .long wi]))] s.heap := hP
  have hl := lv_entry ([.ref o, .int x]) (n := 2) (Nat.le_of_ble_eq_true rfl)
  rw [lg_entry_eq]
  generalize (lg_sl ([.ref o, .int x]) ++ List.replicate (2 - (lg_sl ([.ref o, .int x])).length) Slot.unset).toArray = ls at hl ⊢
  have hl : lv_has ls 2 [(0, .ref o), (1, .int x)] := hl
  refine lv_aload_n hx hb dX4_noOffset_0 rfl (lv_at hl 0 rfl) ?_
  refine lv_iload_n hx hb dX4_noOffset_1 rfl (lv_at hl 1 rfl) ?_
  refine lv_if_lt (tgt := 18) hx hb dX4_noOffset_2 (by decide) (fun c_1 => ?_) (fun c_1 => ?_)
  · skip
    refine lv_iconst (v := 1) hx hb dX4_noOffset_18 (by decide) ?_
    refine lv_goto (tgt := 23) hx hb dX4_noOffset_19 (by decide) ?_
    refine va_put (D := (dC, dI)) (ci := 4) (v := .int 1) (ty := .int) (C := RX4) (T := TX4) (N := 21) hx hb hw inX4 tyX4 tyX4_ok nmX4 hown hK hP hD hS 0 rfl rfl 0 (by decide) (hw _ w_5657dd785d) (fun _ h9 => h9) rfl (by decide +kernel) rfl rfl (Nat.le_of_ble_eq_true rfl) dX4_noOffset_23 (fun H locs hP hD hS => ?_)
    have hP : va_P (dC, dI) vwCl [(o, .inr (4, [.int 1, .int sc, .ref qm, .ref qd, .int ch, .int fe, .int sz, .int rd, .int ca, .int sx, .ref qp, .int co, .int gi, .int aw, .int cg, .int bk, .ref qs, .ref ql, .ref qo, .int ax, .long wi]))] H := hP
    have hD : va_D A [(o, .inr (4, [.int 1, .int sc, .ref qm, .ref qd, .int ch, .int fe, .int sz, .int rd, .int ca, .int sx, .ref qp, .int co, .int gi, .int aw, .int cg, .int bk, .ref qs, .ref ql, .ref qo, .int ax, .long wi]))] := hD
    refine lv_aload_n hx hb dX4_noOffset_26 rfl (lv_at hl 0 rfl) ?_
    refine va_get (D := (dC, dI)) (ci := 4) (v := .int 1) (C := RX4) (T := TX4) (N := 21) hx hb hw inX4 hown hK hP 0 rfl rfl 0 (by decide) (hw _ w_5657dd785d) (fun _ h9 => h9) rfl dX4_noOffset_27 ?_
    refine lv_if_le (tgt := 37) hx hb dX4_noOffset_30 (by decide) (fun c_2 => ?_) (fun c_2 => ?_)
    · skip
      exact absurd c_2 (by decide)
    · skip
      refine lv_iconst (v := 1) hx hb dX4_noOffset_33 (by decide) ?_
      refine lv_goto (tgt := 38) hx hb dX4_noOffset_34 (by decide) ?_
      have hP9 : va_P (dC, dI) vwCl [(o, .inr (4, [.int 1, .int sc, .ref qm, .ref qd, .int ch, .int fe, .int sz, .int rd, .int ca, .int sx, .ref qp, .int co, .int gi, .int aw, .int cg, .int bk, .ref qs, .ref ql, .ref qo, .int ax, .long wi]))] H := by exact hP.sub (ws' := [(o, .inr (4, [.int 1, .int sc, .ref qm, .ref qd, .int ch, .int fe, .int sz, .int rd, .int ca, .int sx, .ref qp, .int co, .int gi, .int aw, .int cg, .int bk, .ref qs, .ref ql, .ref qo, .int ax, .long wi]))]) [0] rfl
      have hD9 : va_D A [(o, .inr (4, [.int 1, .int sc, .ref qm, .ref qd, .int ch, .int fe, .int sz, .int rd, .int ca, .int sx, .ref qp, .int co, .int gi, .int aw, .int cg, .int bk, .ref qs, .ref ql, .ref qo, .int ax, .long wi]))] := by exact hD.sub (ws' := [(o, .inr (4, [.int 1, .int sc, .ref qm, .ref qd, .int ch, .int fe, .int sz, .int rd, .int ca, .int sx, .ref qp, .int co, .int gi, .int aw, .int cg, .int bk, .ref qs, .ref ql, .ref qo, .int ax, .long wi]))]) [0] (by decide) rfl
      have hK9 := hK.sub (tys' := []) [] rfl
      exact W.zret (v := 1) hx hb hr rfl (fun t ht hW => ⟨⟨_, (1), rfl, ⟨(bI_t (no_1 c_1)).symm, (bI_t (no_1 c_1)).symm⟩, by rw [ht]; exact hP9, va_K.moved hW.alike hK9, hD9⟩, hS.F ht⟩) hS.2.2 dX4_noOffset_38
  · skip
    refine lv_iload_n hx hb dX4_noOffset_5 rfl (lv_at hl 1 rfl) ?_
    refine lv_sipush (v := 508) hx hb dX4_noOffset_6 (by decide) ?_
    refine lv_icmp_gt (tgt := 18) hx hb dX4_noOffset_9 (by decide) (fun c_3 => ?_) (fun c_3 => ?_)
    · skip
      refine lv_iconst (v := 1) hx hb dX4_noOffset_18 (by decide) ?_
      refine lv_goto (tgt := 23) hx hb dX4_noOffset_19 (by decide) ?_
      refine va_put (D := (dC, dI)) (ci := 4) (v := .int 1) (ty := .int) (C := RX4) (T := TX4) (N := 21) hx hb hw inX4 tyX4 tyX4_ok nmX4 hown hK hP hD hS 0 rfl rfl 0 (by decide) (hw _ w_5657dd785d) (fun _ h9 => h9) rfl (by decide +kernel) rfl rfl (Nat.le_of_ble_eq_true rfl) dX4_noOffset_23 (fun H locs hP hD hS => ?_)
      have hP : va_P (dC, dI) vwCl [(o, .inr (4, [.int 1, .int sc, .ref qm, .ref qd, .int ch, .int fe, .int sz, .int rd, .int ca, .int sx, .ref qp, .int co, .int gi, .int aw, .int cg, .int bk, .ref qs, .ref ql, .ref qo, .int ax, .long wi]))] H := hP
      have hD : va_D A [(o, .inr (4, [.int 1, .int sc, .ref qm, .ref qd, .int ch, .int fe, .int sz, .int rd, .int ca, .int sx, .ref qp, .int co, .int gi, .int aw, .int cg, .int bk, .ref qs, .ref ql, .ref qo, .int ax, .long wi]))] := hD
      refine lv_aload_n hx hb dX4_noOffset_26 rfl (lv_at hl 0 rfl) ?_
      refine va_get (D := (dC, dI)) (ci := 4) (v := .int 1) (C := RX4) (T := TX4) (N := 21) hx hb hw inX4 hown hK hP 0 rfl rfl 0 (by decide) (hw _ w_5657dd785d) (fun _ h9 => h9) rfl dX4_noOffset_27 ?_
      refine lv_if_le (tgt := 37) hx hb dX4_noOffset_30 (by decide) (fun c_4 => ?_) (fun c_4 => ?_)
      · skip
        exact absurd c_4 (by decide)
      · skip
        refine lv_iconst (v := 1) hx hb dX4_noOffset_33 (by decide) ?_
        refine lv_goto (tgt := 38) hx hb dX4_noOffset_34 (by decide) ?_
        have hP9 : va_P (dC, dI) vwCl [(o, .inr (4, [.int 1, .int sc, .ref qm, .ref qd, .int ch, .int fe, .int sz, .int rd, .int ca, .int sx, .ref qp, .int co, .int gi, .int aw, .int cg, .int bk, .ref qs, .ref ql, .ref qo, .int ax, .long wi]))] H := by exact hP.sub (ws' := [(o, .inr (4, [.int 1, .int sc, .ref qm, .ref qd, .int ch, .int fe, .int sz, .int rd, .int ca, .int sx, .ref qp, .int co, .int gi, .int aw, .int cg, .int bk, .ref qs, .ref ql, .ref qo, .int ax, .long wi]))]) [0] rfl
        have hD9 : va_D A [(o, .inr (4, [.int 1, .int sc, .ref qm, .ref qd, .int ch, .int fe, .int sz, .int rd, .int ca, .int sx, .ref qp, .int co, .int gi, .int aw, .int cg, .int bk, .ref qs, .ref ql, .ref qo, .int ax, .long wi]))] := by exact hD.sub (ws' := [(o, .inr (4, [.int 1, .int sc, .ref qm, .ref qd, .int ch, .int fe, .int sz, .int rd, .int ca, .int sx, .ref qp, .int co, .int gi, .int aw, .int cg, .int bk, .ref qs, .ref ql, .ref qo, .int ax, .long wi]))]) [0] (by decide) rfl
        have hK9 := hK.sub (tys' := []) [] rfl
        exact W.zret (v := 1) hx hb hr rfl (fun t ht hW => ⟨⟨_, (1), rfl, ⟨(bI_t (no_2 c_3)).symm, (bI_t (no_2 c_3)).symm⟩, by rw [ht]; exact hP9, va_K.moved hW.alike hK9, hD9⟩, hS.F ht⟩) hS.2.2 dX4_noOffset_38
    · skip
      refine lv_iload_n hx hb dX4_noOffset_12 rfl (lv_at hl 1 rfl) ?_
      refine lv_iconst (v := 4) hx hb dX4_noOffset_13 (by decide) ?_
      refine lv_irem hx hb dX4_noOffset_14 (by decide) ?_
      refine lv_if_eq (tgt := 22) hx hb dX4_noOffset_15 (by decide) (fun c_5 => ?_) (fun c_5 => ?_)
      · skip
        refine lv_iconst (v := 0) hx hb dX4_noOffset_22 (by decide) ?_
        refine va_put (D := (dC, dI)) (ci := 4) (v := .int 0) (ty := .int) (C := RX4) (T := TX4) (N := 21) hx hb hw inX4 tyX4 tyX4_ok nmX4 hown hK hP hD hS 0 rfl rfl 0 (by decide) (hw _ w_5657dd785d) (fun _ h9 => h9) rfl (by decide +kernel) rfl rfl (Nat.le_of_ble_eq_true rfl) dX4_noOffset_23 (fun H locs hP hD hS => ?_)
        have hP : va_P (dC, dI) vwCl [(o, .inr (4, [.int 0, .int sc, .ref qm, .ref qd, .int ch, .int fe, .int sz, .int rd, .int ca, .int sx, .ref qp, .int co, .int gi, .int aw, .int cg, .int bk, .ref qs, .ref ql, .ref qo, .int ax, .long wi]))] H := hP
        have hD : va_D A [(o, .inr (4, [.int 0, .int sc, .ref qm, .ref qd, .int ch, .int fe, .int sz, .int rd, .int ca, .int sx, .ref qp, .int co, .int gi, .int aw, .int cg, .int bk, .ref qs, .ref ql, .ref qo, .int ax, .long wi]))] := hD
        refine lv_aload_n hx hb dX4_noOffset_26 rfl (lv_at hl 0 rfl) ?_
        refine va_get (D := (dC, dI)) (ci := 4) (v := .int 0) (C := RX4) (T := TX4) (N := 21) hx hb hw inX4 hown hK hP 0 rfl rfl 0 (by decide) (hw _ w_5657dd785d) (fun _ h9 => h9) rfl dX4_noOffset_27 ?_
        refine lv_if_le (tgt := 37) hx hb dX4_noOffset_30 (by decide) (fun c_6 => ?_) (fun c_6 => ?_)
        · skip
          refine lv_iconst (v := 0) hx hb dX4_noOffset_37 (by decide) ?_
          have hP9 : va_P (dC, dI) vwCl [(o, .inr (4, [.int 0, .int sc, .ref qm, .ref qd, .int ch, .int fe, .int sz, .int rd, .int ca, .int sx, .ref qp, .int co, .int gi, .int aw, .int cg, .int bk, .ref qs, .ref ql, .ref qo, .int ax, .long wi]))] H := by exact hP.sub (ws' := [(o, .inr (4, [.int 0, .int sc, .ref qm, .ref qd, .int ch, .int fe, .int sz, .int rd, .int ca, .int sx, .ref qp, .int co, .int gi, .int aw, .int cg, .int bk, .ref qs, .ref ql, .ref qo, .int ax, .long wi]))]) [0] rfl
          have hD9 : va_D A [(o, .inr (4, [.int 0, .int sc, .ref qm, .ref qd, .int ch, .int fe, .int sz, .int rd, .int ca, .int sx, .ref qp, .int co, .int gi, .int aw, .int cg, .int bk, .ref qs, .ref ql, .ref qo, .int ax, .long wi]))] := by exact hD.sub (ws' := [(o, .inr (4, [.int 0, .int sc, .ref qm, .ref qd, .int ch, .int fe, .int sz, .int rd, .int ca, .int sx, .ref qp, .int co, .int gi, .int aw, .int cg, .int bk, .ref qs, .ref ql, .ref qo, .int ax, .long wi]))]) [0] (by decide) rfl
          have hK9 := hK.sub (tys' := []) [] rfl
          exact W.zret (v := 0) hx hb hr rfl (fun t ht hW => ⟨⟨_, (0), rfl, ⟨(bI_f (no_4 c_1 c_3 c_5)).symm, (bI_f (no_4 c_1 c_3 c_5)).symm⟩, by rw [ht]; exact hP9, va_K.moved hW.alike hK9, hD9⟩, hS.F ht⟩) hS.2.2 dX4_noOffset_38
        · skip
          exact absurd c_6 (by decide)
      · skip
        refine lv_iconst (v := 1) hx hb dX4_noOffset_18 (by decide) ?_
        refine lv_goto (tgt := 23) hx hb dX4_noOffset_19 (by decide) ?_
        refine va_put (D := (dC, dI)) (ci := 4) (v := .int 1) (ty := .int) (C := RX4) (T := TX4) (N := 21) hx hb hw inX4 tyX4 tyX4_ok nmX4 hown hK hP hD hS 0 rfl rfl 0 (by decide) (hw _ w_5657dd785d) (fun _ h9 => h9) rfl (by decide +kernel) rfl rfl (Nat.le_of_ble_eq_true rfl) dX4_noOffset_23 (fun H locs hP hD hS => ?_)
        have hP : va_P (dC, dI) vwCl [(o, .inr (4, [.int 1, .int sc, .ref qm, .ref qd, .int ch, .int fe, .int sz, .int rd, .int ca, .int sx, .ref qp, .int co, .int gi, .int aw, .int cg, .int bk, .ref qs, .ref ql, .ref qo, .int ax, .long wi]))] H := hP
        have hD : va_D A [(o, .inr (4, [.int 1, .int sc, .ref qm, .ref qd, .int ch, .int fe, .int sz, .int rd, .int ca, .int sx, .ref qp, .int co, .int gi, .int aw, .int cg, .int bk, .ref qs, .ref ql, .ref qo, .int ax, .long wi]))] := hD
        refine lv_aload_n hx hb dX4_noOffset_26 rfl (lv_at hl 0 rfl) ?_
        refine va_get (D := (dC, dI)) (ci := 4) (v := .int 1) (C := RX4) (T := TX4) (N := 21) hx hb hw inX4 hown hK hP 0 rfl rfl 0 (by decide) (hw _ w_5657dd785d) (fun _ h9 => h9) rfl dX4_noOffset_27 ?_
        refine lv_if_le (tgt := 37) hx hb dX4_noOffset_30 (by decide) (fun c_7 => ?_) (fun c_7 => ?_)
        · skip
          exact absurd c_7 (by decide)
        · skip
          refine lv_iconst (v := 1) hx hb dX4_noOffset_33 (by decide) ?_
          refine lv_goto (tgt := 38) hx hb dX4_noOffset_34 (by decide) ?_
          have hP9 : va_P (dC, dI) vwCl [(o, .inr (4, [.int 1, .int sc, .ref qm, .ref qd, .int ch, .int fe, .int sz, .int rd, .int ca, .int sx, .ref qp, .int co, .int gi, .int aw, .int cg, .int bk, .ref qs, .ref ql, .ref qo, .int ax, .long wi]))] H := by exact hP.sub (ws' := [(o, .inr (4, [.int 1, .int sc, .ref qm, .ref qd, .int ch, .int fe, .int sz, .int rd, .int ca, .int sx, .ref qp, .int co, .int gi, .int aw, .int cg, .int bk, .ref qs, .ref ql, .ref qo, .int ax, .long wi]))]) [0] rfl
          have hD9 : va_D A [(o, .inr (4, [.int 1, .int sc, .ref qm, .ref qd, .int ch, .int fe, .int sz, .int rd, .int ca, .int sx, .ref qp, .int co, .int gi, .int aw, .int cg, .int bk, .ref qs, .ref ql, .ref qo, .int ax, .long wi]))] := by exact hD.sub (ws' := [(o, .inr (4, [.int 1, .int sc, .ref qm, .ref qd, .int ch, .int fe, .int sz, .int rd, .int ca, .int sx, .ref qp, .int co, .int gi, .int aw, .int cg, .int bk, .ref qs, .ref ql, .ref qo, .int ax, .long wi]))]) [0] (by decide) rfl
          have hK9 := hK.sub (tys' := []) [] rfl
          exact W.zret (v := 1) hx hb hr rfl (fun t ht hW => ⟨⟨_, (1), rfl, ⟨(bI_t (no_3 c_1 c_3 c_5)).symm, (bI_t (no_3 c_1 c_3 c_5)).symm⟩, by rw [ht]; exact hP9, va_K.moved hW.alike hK9, hD9⟩, hS.F ht⟩) hS.2.2 dX4_noOffset_38
set_option maxHeartbeats 4000000 in
set_option maxRecDepth 100000 in
/-- Model.read -/
theorem m_read (l : Launch) (dC : Nat → ClassId) (dI : Nat → Nat → Nat) (o : Nat) (cd : Int32) (sc : Int32) (qm : Nat) (qd : Nat) (ch : Int32) (fe : Int32) (sz : Int32) (rd : Int32) (ca : Int32) (sx : Int32) (qp : Nat) (co : Int32) (gi : Int32) (aw : Int32) (cg : Int32) (bk : Int32) (qs : Nat) (ql : Nat) (qo : Nat) (ax : Int32) (wi : Int64) (x : Int32) (zS : Nat) : Met l yX4_read wsX4_read ({ frames := 1, cells := 0, slots := 0, locals := 40 }) (va_Pc [.ref o, .int x] (fun U => U.heap.size = zS ∧ va_P (dC, dI) vwCl [(o, .inr (4, [.int cd, .int sc, .ref qm, .ref qd, .int ch, .int fe, .int sz, .int rd, .int ca, .int sx, .ref qp, .int co, .int gi, .int aw, .int cg, .int bk, .ref qs, .ref ql, .ref qo, .int ax, .long wi]))] U.heap ∧ va_K (dC, dI) vwCl [] U ∧ va_D (fun _ => True) [(o, .inr (4, [.int cd, .int sc, .ref qm, .ref qd, .int ch, .int fe, .int sz, .int rd, .int ca, .int sx, .ref qp, .int co, .int gi, .int aw, .int cg, .int bk, .ref qs, .ref ql, .ref qo, .int ax, .long wi]))] ∧ ZZ (va_A [(o, .inr (4, [.int cd, .int sc, .ref qm, .ref qd, .int ch, .int fe, .int sz, .int rd, .int ca, .int sx, .ref qp, .int co, .int gi, .int aw, .int cg, .int bk, .ref qs, .ref ql, .ref qo, .int ax, .long wi]))] zS) U U.heap)) (va_Qi (fun (r : Int32) (u : Int32) => match u with | cd2 => cd2 = bI (noP x) ∧ (¬ noP x → r = rdS x fe ch rd ca sx sc)) (fun (u : Int32) (t : State) => match u with | cd2 => va_P (dC, dI) vwCl [(o, .inr (4, [.int cd2, .int sc, .ref qm, .ref qd, .int ch, .int fe, .int sz, .int rd, .int ca, .int sx, .ref qp, .int co, .int gi, .int aw, .int cg, .int bk, .ref qs, .ref ql, .ref qo, .int ax, .long wi]))] t.heap ∧ va_K (dC, dI) vwCl [] t ∧ va_D (va_A [(o, .inr (4, [.int cd, .int sc, .ref qm, .ref qd, .int ch, .int fe, .int sz, .int rd, .int ca, .int sx, .ref qp, .int co, .int gi, .int aw, .int cg, .int bk, .ref qs, .ref ql, .ref qo, .int ax, .long wi]))] zS) [(o, .inr (4, [.int cd2, .int sc, .ref qm, .ref qd, .int ch, .int fe, .int sz, .int rd, .int ca, .int sx, .ref qp, .int co, .int gi, .int aw, .int cg, .int bk, .ref qs, .ref ql, .ref qo, .int ax, .long wi]))]) (va_A [(o, .inr (4, [.int cd, .int sc, .ref qm, .ref qd, .int ch, .int fe, .int sz, .int rd, .int ca, .int sx, .ref qp, .int co, .int gi, .int aw, .int cg, .int bk, .ref qs, .ref ql, .ref qo, .int ax, .long wi]))] zS)) 0 0 (va_A [(o, .inr (4, [.int cd, .int sc, .ref qm, .ref qd, .int ch, .int fe, .int sz, .int rd, .int ca, .int sx, .ref qp, .int co, .int gi, .int aw, .int cg, .int bk, .ref qs, .ref ql, .ref qo, .int ax, .long wi]))] zS) := by
  refine Met.ofW (cc := cX4_read) (maxL := 2) (ret := (some .int)) (by decide) rfl ?_
  intro p e s m args below meth c s₁ B hml hv
  obtain ⟨rfl, hsz, hP, hK, hD0, hZ⟩ := hv
  have hx := B.exec
  have hb := B.bytes
  have hr := B.returns
  have hts := atoms_spec (ws := wsX4_read) B.pre
  have hw : ∀ w ∈ WW, w.before _ s = true := fun w h => hts w (List.mem_cons_of_mem _ h)
  have hown : s.vm.findClass RX4 = some m.cls := findClass_of_methodNamed B.named
  have hlocks := B.notSynchronized
  subst hsz
  have hD := hD0.self (sz := s.heap.size)
  generalize hAe : va_A [(o, .inr (4, [.int cd, .int sc, .ref qm, .ref qd, .int ch, .int fe, .int sz, .int rd, .int ca, .int sx, .ref qp, .int co, .int gi, .int aw, .int cg, .int bk, .ref qs, .ref ql, .ref qo, .int ax, .long wi]))] s.heap.size = A at hD hZ ⊢
  have hA : ∀ q : Nat, s.heap.size ≤ q → A q := fun q h => by rw [← hAe]; exact Or.inr h
  have hS : va_S A s.heap s.heap [] := va_S.rf
  have hP : va_P (dC, dI) vwCl [(o, .inr (4, [.int cd, .int sc, .ref qm, .ref qd, .int ch, .int fe, .int sz, .int rd, .int ca, .int sx, .ref qp, .int co, .int gi, .int aw, .int cg, .int bk, .ref qs, .ref ql, .ref qo, .int ax, .long wi]))] s.heap := hP
  have hl := lv_entry ([.ref o, .int x]) (n := 2) (Nat.le_of_ble_eq_true rfl)
  rw [lg_entry_eq]
  generalize (lg_sl ([.ref o, .int x]) ++ List.replicate (2 - (lg_sl ([.ref o, .int x])).length) Slot.unset).toArray = ls at hl ⊢
  have hl : lv_has ls 2 [(0, .ref o), (1, .int x)] := hl
  refine lv_aload_n hx hb dX4_read_0 rfl (lv_at hl 0 rfl) ?_
  refine lv_iload_n hx hb dX4_read_1 rfl (lv_at hl 1 rfl) ?_
  have hPc := hP.sub (ws' := [(o, .inr (4, [.int cd, .int sc, .ref qm, .ref qd, .int ch, .int fe, .int sz, .int rd, .int ca, .int sx, .ref qp, .int co, .int gi, .int aw, .int cg, .int bk, .ref qs, .ref ql, .ref qo, .int ax, .long wi]))]) [0] rfl
  have hKc := hK.sub (tys' := []) [] rfl
  have hDc := hD.sub (ws' := [(o, .inr (4, [.int cd, .int sc, .ref qm, .ref qd, .int ch, .int fe, .int sz, .int rd, .int ca, .int sx, .ref qp, .int co, .int gi, .int aw, .int cg, .int bk, .ref qs, .ref ql, .ref qo, .int ax, .long wi]))]) [0] (by decide) rfl
  have hFc := va_free (wc := [(o, .inr (4, [.int cd, .int sc, .ref qm, .ref qd, .int ch, .int fe, .int sz, .int rd, .int ca, .int sx, .ref qp, .int co, .int gi, .int aw, .int cg, .int bk, .ref qs, .ref ql, .ref qo, .int ax, .long wi]))]) hD hS hA [0] rfl
  have hZc : ZZ (va_A [(o, .inr (4, [.int cd, .int sc, .ref qm, .ref qd, .int ch, .int fe, .int sz, .int rd, .int ca, .int sx, .ref qp, .int co, .int gi, .int aw, .int cg, .int bk, .ref qs, .ref ql, .ref qo, .int ax, .long wi]))] s.heap.size) s s.heap := (hZ.kept hS.2.1).narrow hFc
  refine va_calli (va_runV (As := [.int x]) (rest := []) ⟨hx, hb, hml, hown, hw⟩ (m_noOffset l dC dI o cd sc qm qd ch fe sz rd ca sx qp co gi aw cg bk qs ql qo ax wi x s.heap.size) (cwV 1 hw (gV w_a5c76065d0 w_2c559bbce4 w_f18617522a w_2b384744dc w_2d25dd09ac) rfl rfl rfl (by decide +kernel) ⟨Nat.le_of_ble_eq_true rfl, Nat.le_of_ble_eq_true rfl⟩) ⟨fun a U g mk q => by obtain ⟨q0, q1, qP, qK, qD, qZ⟩ := q; exact ⟨q0, q1, qP, va_K.moved (u := U) (U := U.calling g mk a) (Vm.Alike.refl U.vm) qK, qD, ZZ.same (u := U) (U := U.calling g mk a) rfl qZ⟩, va_recv hKc hPc (ci := 4) (q0 := 0) rfl rfl, fun U hU hW => ⟨rfl, by rw [hU], by rw [hU]; exact hPc, va_K.moved hW.alike hKc, hDc.weaken (fun _ _ _ _ => trivial), by rw [hU]; exact ZZ.warm hW hZc⟩⟩ rfl rfl hl.1 rfl (lv_room (Nat.le_of_ble_eq_true rfl)) dX4_read_2 ⟨Nat.zero_le _, Nat.zero_le _⟩) hS (fun q _ h => hFc q h) hFc (fun r_1 u t H1 locs ht hvm hw2 hB hz1 hk1 hS => ?_)
  obtain ⟨cd2_2, rfl⟩ : ∃ z, z = u := ⟨_, rfl⟩
  obtain ⟨hP1, hK1, hD1⟩ := hB
  rw [ht] at hP1
  have hK1 := va_K.moved hvm.symm hK1
  try dsimp only at hw2
  obtain ⟨hP, hD⟩ := va_join (wr := []) (w1 := [(o, .inr (4, [.int cd2_2, .int sc, .ref qm, .ref qd, .int ch, .int fe, .int sz, .int rd, .int ca, .int sx, .ref qp, .int co, .int gi, .int aw, .int cg, .int bk, .ref qs, .ref ql, .ref qo, .int ax, .long wi]))]) hP hD [0] [] rfl rfl (by decide) (by decide) hk1 hFc hP1 hD1
  generalize H1 = H at hP hS hk1 ⊢
  have hP : va_P (dC, dI) vwCl [(o, .inr (4, [.int cd2_2, .int sc, .ref qm, .ref qd, .int ch, .int fe, .int sz, .int rd, .int ca, .int sx, .ref qp, .int co, .int gi, .int aw, .int cg, .int bk, .ref qs, .ref ql, .ref qo, .int ax, .long wi]))] H := hP
  have hD : va_D A [(o, .inr (4, [.int cd2_2, .int sc, .ref qm, .ref qd, .int ch, .int fe, .int sz, .int rd, .int ca, .int sx, .ref qp, .int co, .int gi, .int aw, .int cg, .int bk, .ref qs, .ref ql, .ref qo, .int ax, .long wi]))] := hD
  have hw_3 : cd2_2 = bI (noP x) ∧ r_1 = bI (noP x) := hw2
  refine lv_if_eq (tgt := 10) hx hb dX4_read_5 (by decide) (fun c_4 => ?_) (fun c_4 => ?_)
  · skip
    have b_5 : ¬ (noP x) := bI_0 (by rw [← hw_3.2]; exact c_4)
    refine lv_iload_n hx hb dX4_read_10 rfl (lv_at hl 1 rfl) ?_
    by_cases c_6 : x = (0 : Int32)
    · skip
      refine lv_lookup (off := 81) (tgt := 92) hx hb dX4_read_11 (by decide) (by rw [c_6]; decide) (by decide) ?_
      refine lv_ldc (v := 1953655158) hx hb hown (hw _ w_28d1e0179f) dX4_read_92 ?_
      have hP9 : va_P (dC, dI) vwCl [(o, .inr (4, [.int cd2_2, .int sc, .ref qm, .ref qd, .int ch, .int fe, .int sz, .int rd, .int ca, .int sx, .ref qp, .int co, .int gi, .int aw, .int cg, .int bk, .ref qs, .ref ql, .ref qo, .int ax, .long wi]))] H := by exact hP.sub (ws' := [(o, .inr (4, [.int cd2_2, .int sc, .ref qm, .ref qd, .int ch, .int fe, .int sz, .int rd, .int ca, .int sx, .ref qp, .int co, .int gi, .int aw, .int cg, .int bk, .ref qs, .ref ql, .ref qo, .int ax, .long wi]))]) [0] rfl
      have hD9 : va_D A [(o, .inr (4, [.int cd2_2, .int sc, .ref qm, .ref qd, .int ch, .int fe, .int sz, .int rd, .int ca, .int sx, .ref qp, .int co, .int gi, .int aw, .int cg, .int bk, .ref qs, .ref ql, .ref qo, .int ax, .long wi]))] := by exact hD.sub (ws' := [(o, .inr (4, [.int cd2_2, .int sc, .ref qm, .ref qd, .int ch, .int fe, .int sz, .int rd, .int ca, .int sx, .ref qp, .int co, .int gi, .int aw, .int cg, .int bk, .ref qs, .ref ql, .ref qo, .int ax, .long wi]))]) [0] (by decide) rfl
      have hK9 := hK.sub (tys' := []) [] rfl
      exact W.iret (v := 1953655158) hx hb hr (fun t ht hW => ⟨⟨_, (cd2_2), rfl, ⟨hw_3.1, fun _ => by simp [rdS, c_6]⟩, by rw [ht]; exact hP9, va_K.moved hW.alike hK9, hD9⟩, hS.F ht⟩) hS.2.2 dX4_read_94
    · skip
      by_cases c_7 : x = (4 : Int32)
      · skip
        refine lv_lookup (off := 84) (tgt := 95) hx hb dX4_read_11 (by decide) (by rw [c_7]; decide) (by decide) ?_
        refine lv_iconst (v := 2) hx hb dX4_read_95 (by decide) ?_
        have hP9 : va_P (dC, dI) vwCl [(o, .inr (4, [.int cd2_2, .int sc, .ref qm, .ref qd, .int ch, .int fe, .int sz, .int rd, .int ca, .int sx, .ref qp, .int co, .int gi, .int aw, .int cg, .int bk, .ref qs, .ref ql, .ref qo, .int ax, .long wi]))] H := by exact hP.sub (ws' := [(o, .inr (4, [.int cd2_2, .int sc, .ref qm, .ref qd, .int ch, .int fe, .int sz, .int rd, .int ca, .int sx, .ref qp, .int co, .int gi, .int aw, .int cg, .int bk, .ref qs, .ref ql, .ref qo, .int ax, .long wi]))]) [0] rfl
        have hD9 : va_D A [(o, .inr (4, [.int cd2_2, .int sc, .ref qm, .ref qd, .int ch, .int fe, .int sz, .int rd, .int ca, .int sx, .ref qp, .int co, .int gi, .int aw, .int cg, .int bk, .ref qs, .ref ql, .ref qo, .int ax, .long wi]))] := by exact hD.sub (ws' := [(o, .inr (4, [.int cd2_2, .int sc, .ref qm, .ref qd, .int ch, .int fe, .int sz, .int rd, .int ca, .int sx, .ref qp, .int co, .int gi, .int aw, .int cg, .int bk, .ref qs, .ref ql, .ref qo, .int ax, .long wi]))]) [0] (by decide) rfl
        have hK9 := hK.sub (tys' := []) [] rfl
        exact W.iret (v := 2) hx hb hr (fun t ht hW => ⟨⟨_, (cd2_2), rfl, ⟨hw_3.1, fun _ => by simp [rdS, c_6, c_7]⟩, by rw [ht]; exact hP9, va_K.moved hW.alike hK9, hD9⟩, hS.F ht⟩) hS.2.2 dX4_read_96
      · skip
        by_cases c_8 : x = (8 : Int32)
        · skip
          refine lv_lookup (off := 86) (tgt := 97) hx hb dX4_read_11 (by decide) (by rw [c_8]; decide) (by decide) ?_
          refine lv_iconst (v := 2) hx hb dX4_read_97 (by decide) ?_
          have hP9 : va_P (dC, dI) vwCl [(o, .inr (4, [.int cd2_2, .int sc, .ref qm, .ref qd, .int ch, .int fe, .int sz, .int rd, .int ca, .int sx, .ref qp, .int co, .int gi, .int aw, .int cg, .int bk, .ref qs, .ref ql, .ref qo, .int ax, .long wi]))] H := by exact hP.sub (ws' := [(o, .inr (4, [.int cd2_2, .int sc, .ref qm, .ref qd, .int ch, .int fe, .int sz, .int rd, .int ca, .int sx, .ref qp, .int co, .int gi, .int aw, .int cg, .int bk, .ref qs, .ref ql, .ref qo, .int ax, .long wi]))]) [0] rfl
          have hD9 : va_D A [(o, .inr (4, [.int cd2_2, .int sc, .ref qm, .ref qd, .int ch, .int fe, .int sz, .int rd, .int ca, .int sx, .ref qp, .int co, .int gi, .int aw, .int cg, .int bk, .ref qs, .ref ql, .ref qo, .int ax, .long wi]))] := by exact hD.sub (ws' := [(o, .inr (4, [.int cd2_2, .int sc, .ref qm, .ref qd, .int ch, .int fe, .int sz, .int rd, .int ca, .int sx, .ref qp, .int co, .int gi, .int aw, .int cg, .int bk, .ref qs, .ref ql, .ref qo, .int ax, .long wi]))]) [0] (by decide) rfl
          have hK9 := hK.sub (tys' := []) [] rfl
          exact W.iret (v := 2) hx hb hr (fun t ht hW => ⟨⟨_, (cd2_2), rfl, ⟨hw_3.1, fun _ => by simp [rdS, c_6, c_7, c_8]⟩, by rw [ht]; exact hP9, va_K.moved hW.alike hK9, hD9⟩, hS.F ht⟩) hS.2.2 dX4_read_98
        · skip
          by_cases c_9 : x = (16 : Int32)
          · skip
            refine lv_lookup (off := 88) (tgt := 99) hx hb dX4_read_11 (by decide) (by rw [c_9]; decide) (by decide) ?_
            refine lv_aload_n hx hb dX4_read_99 rfl (lv_at hl 0 rfl) ?_
            refine va_get (D := (dC, dI)) (ci := 4) (v := .int fe) (C := RX4) (T := TX4) (N := 21) hx hb hw inX4 hown hK hP 0 rfl rfl 5 (by decide) (hw _ w_deb3b8cc9d) (fun _ h9 => h9) rfl dX4_read_100 ?_
            refine lv_if_ne (tgt := 112) hx hb dX4_read_103 (by decide) (fun c_10 => ?_) (fun c_10 => ?_)
            · skip
              refine lv_aload_n hx hb dX4_read_112 rfl (lv_at hl 0 rfl) ?_
              refine va_get (D := (dC, dI)) (ci := 4) (v := .int fe) (C := RX4) (T := TX4) (N := 21) hx hb hw inX4 hown hK hP 0 rfl rfl 5 (by decide) (hw _ w_deb3b8cc9d) (fun _ h9 => h9) rfl dX4_read_113 ?_
              refine lv_iconst (v := 1) hx hb dX4_read_116 (by decide) ?_
              refine lv_icmp_ne (tgt := 124) hx hb dX4_read_117 (by decide) (fun c_11 => ?_) (fun c_11 => ?_)
              · skip
                refine lv_iconst (v := 0) hx hb dX4_read_124 (by decide) ?_
                have hP9 : va_P (dC, dI) vwCl [(o, .inr (4, [.int cd2_2, .int sc, .ref qm, .ref qd, .int ch, .int fe, .int sz, .int rd, .int ca, .int sx, .ref qp, .int co, .int gi, .int aw, .int cg, .int bk, .ref qs, .ref ql, .ref qo, .int ax, .long wi]))] H := by exact hP.sub (ws' := [(o, .inr (4, [.int cd2_2, .int sc, .ref qm, .ref qd, .int ch, .int fe, .int sz, .int rd, .int ca, .int sx, .ref qp, .int co, .int gi, .int aw, .int cg, .int bk, .ref qs, .ref ql, .ref qo, .int ax, .long wi]))]) [0] rfl
                have hD9 : va_D A [(o, .inr (4, [.int cd2_2, .int sc, .ref qm, .ref qd, .int ch, .int fe, .int sz, .int rd, .int ca, .int sx, .ref qp, .int co, .int gi, .int aw, .int cg, .int bk, .ref qs, .ref ql, .ref qo, .int ax, .long wi]))] := by exact hD.sub (ws' := [(o, .inr (4, [.int cd2_2, .int sc, .ref qm, .ref qd, .int ch, .int fe, .int sz, .int rd, .int ca, .int sx, .ref qp, .int co, .int gi, .int aw, .int cg, .int bk, .ref qs, .ref ql, .ref qo, .int ax, .long wi]))]) [0] (by decide) rfl
                have hK9 := hK.sub (tys' := []) [] rfl
                exact W.iret (v := 0) hx hb hr (fun t ht hW => ⟨⟨_, (cd2_2), rfl, ⟨hw_3.1, fun _ => by simp [rdS, c_6, c_7, c_8, c_9, c_10, c_11]⟩, by rw [ht]; exact hP9, va_K.moved hW.alike hK9, hD9⟩, hS.F ht⟩) hS.2.2 dX4_read_125
              · skip
                refine lv_iconst (v := 1) hx hb dX4_read_120 (by decide) ?_
                refine lv_goto (tgt := 125) hx hb dX4_read_121 (by decide) ?_
                have hP9 : va_P (dC, dI) vwCl [(o, .inr (4, [.int cd2_2, .int sc, .ref qm, .ref qd, .int ch, .int fe, .int sz, .int rd, .int ca, .int sx, .ref qp, .int co, .int gi, .int aw, .int cg, .int bk, .ref qs, .ref ql, .ref qo, .int ax, .long wi]))] H := by exact hP.sub (ws' := [(o, .inr (4, [.int cd2_2, .int sc, .ref qm, .ref qd, .int ch, .int fe, .int sz, .int rd, .int ca, .int sx, .ref qp, .int co, .int gi, .int aw, .int cg, .int bk, .ref qs, .ref ql, .ref qo, .int ax, .long wi]))]) [0] rfl
                have hD9 : va_D A [(o, .inr (4, [.int cd2_2, .int sc, .ref qm, .ref qd, .int ch, .int fe, .int sz, .int rd, .int ca, .int sx, .ref qp, .int co, .int gi, .int aw, .int cg, .int bk, .ref qs, .ref ql, .ref qo, .int ax, .long wi]))] := by exact hD.sub (ws' := [(o, .inr (4, [.int cd2_2, .int sc, .ref qm, .ref qd, .int ch, .int fe, .int sz, .int rd, .int ca, .int sx, .ref qp, .int co, .int gi, .int aw, .int cg, .int bk, .ref qs, .ref ql, .ref qo, .int ax, .long wi]))]) [0] (by decide) rfl
                have hK9 := hK.sub (tys' := []) [] rfl
                exact W.iret (v := 1) hx hb hr (fun t ht hW => ⟨⟨_, (cd2_2), rfl, ⟨hw_3.1, fun _ => by simp [rdS, c_6, c_7, c_8, c_9, c_10, c_11]⟩, by rw [ht]; exact hP9, va_K.moved hW.alike hK9, hD9⟩, hS.F ht⟩) hS.2.2 dX4_read_125
            · skip
              refine lv_sipush (v := 512) hx hb dX4_read_106 (by decide) ?_
              refine lv_goto (tgt := 125) hx hb dX4_read_109 (by decide) ?_
              have hP9 : va_P (dC, dI) vwCl [(o, .inr (4, [.int cd2_2, .int sc, .ref qm, .ref qd, .int ch, .int fe, .int sz, .int rd, .int ca, .int sx, .ref qp, .int co, .int gi, .int aw, .int cg, .int bk, .ref qs, .ref ql, .ref qo, .int ax, .long wi]))] H := by exact hP.sub (ws' := [(o, .inr (4, [.int cd2_2, .int sc, .ref qm, .ref qd, .int ch, .int fe, .int sz, .int rd, .int ca, .int sx, .ref qp, .int co, .int gi, .int aw, .int cg, .int bk, .ref qs, .ref ql, .ref qo, .int ax, .long wi]))]) [0] rfl
              have hD9 : va_D A [(o, .inr (4, [.int cd2_2, .int sc, .ref qm, .ref qd, .int ch, .int fe, .int sz, .int rd, .int ca, .int sx, .ref qp, .int co, .int gi, .int aw, .int cg, .int bk, .ref qs, .ref ql, .ref qo, .int ax, .long wi]))] := by exact hD.sub (ws' := [(o, .inr (4, [.int cd2_2, .int sc, .ref qm, .ref qd, .int ch, .int fe, .int sz, .int rd, .int ca, .int sx, .ref qp, .int co, .int gi, .int aw, .int cg, .int bk, .ref qs, .ref ql, .ref qo, .int ax, .long wi]))]) [0] (by decide) rfl
              have hK9 := hK.sub (tys' := []) [] rfl
              exact W.iret (v := 512) hx hb hr (fun t ht hW => ⟨⟨_, (cd2_2), rfl, ⟨hw_3.1, fun _ => by simp [rdS, c_6, c_7, c_8, c_9, c_10]⟩, by rw [ht]; exact hP9, va_K.moved hW.alike hK9, hD9⟩, hS.F ht⟩) hS.2.2 dX4_read_125
          · skip
            by_cases c_12 : x = (52 : Int32)
            · skip
              refine lv_lookup (off := 115) (tgt := 126) hx hb dX4_read_11 (by decide) (by rw [c_12]; decide) (by decide) ?_
              refine lv_aload_n hx hb dX4_read_126 rfl (lv_at hl 0 rfl) ?_
              refine va_get (D := (dC, dI)) (ci := 4) (v := .int ch) (C := RX4) (T := TX4) (N := 21) hx hb hw inX4 hown hK hP 0 rfl rfl 4 (by decide) (hw _ w_2d850835ef) (fun _ h9 => h9) rfl dX4_read_127 ?_
              refine lv_if_ne (tgt := 138) hx hb dX4_read_130 (by decide) (fun c_13 => ?_) (fun c_13 => ?_)
              · skip
                refine lv_iconst (v := 0) hx hb dX4_read_138 (by decide) ?_
                have hP9 : va_P (dC, dI) vwCl [(o, .inr (4, [.int cd2_2, .int sc, .ref qm, .ref qd, .int ch, .int fe, .int sz, .int rd, .int ca, .int sx, .ref qp, .int co, .int gi, .int aw, .int cg, .int bk, .ref qs, .ref ql, .ref qo, .int ax, .long wi]))] H := by exact hP.sub (ws' := [(o, .inr (4, [.int cd2_2, .int sc, .ref qm, .ref qd, .int ch, .int fe, .int sz, .int rd, .int ca, .int sx, .ref qp, .int co, .int gi, .int aw, .int cg, .int bk, .ref qs, .ref ql, .ref qo, .int ax, .long wi]))]) [0] rfl
                have hD9 : va_D A [(o, .inr (4, [.int cd2_2, .int sc, .ref qm, .ref qd, .int ch, .int fe, .int sz, .int rd, .int ca, .int sx, .ref qp, .int co, .int gi, .int aw, .int cg, .int bk, .ref qs, .ref ql, .ref qo, .int ax, .long wi]))] := by exact hD.sub (ws' := [(o, .inr (4, [.int cd2_2, .int sc, .ref qm, .ref qd, .int ch, .int fe, .int sz, .int rd, .int ca, .int sx, .ref qp, .int co, .int gi, .int aw, .int cg, .int bk, .ref qs, .ref ql, .ref qo, .int ax, .long wi]))]) [0] (by decide) rfl
                have hK9 := hK.sub (tys' := []) [] rfl
                exact W.iret (v := 0) hx hb hr (fun t ht hW => ⟨⟨_, (cd2_2), rfl, ⟨hw_3.1, fun _ => by simp [rdS, c_6, c_7, c_8, c_9, c_12, c_13]⟩, by rw [ht]; exact hP9, va_K.moved hW.alike hK9, hD9⟩, hS.F ht⟩) hS.2.2 dX4_read_139
              · skip
                refine lv_bipush (v := 16) hx hb dX4_read_133 (by decide) ?_
                refine lv_goto (tgt := 139) hx hb dX4_read_135 (by decide) ?_
                have hP9 : va_P (dC, dI) vwCl [(o, .inr (4, [.int cd2_2, .int sc, .ref qm, .ref qd, .int ch, .int fe, .int sz, .int rd, .int ca, .int sx, .ref qp, .int co, .int gi, .int aw, .int cg, .int bk, .ref qs, .ref ql, .ref qo, .int ax, .long wi]))] H := by exact hP.sub (ws' := [(o, .inr (4, [.int cd2_2, .int sc, .ref qm, .ref qd, .int ch, .int fe, .int sz, .int rd, .int ca, .int sx, .ref qp, .int co, .int gi, .int aw, .int cg, .int bk, .ref qs, .ref ql, .ref qo, .int ax, .long wi]))]) [0] rfl
                have hD9 : va_D A [(o, .inr (4, [.int cd2_2, .int sc, .ref qm, .ref qd, .int ch, .int fe, .int sz, .int rd, .int ca, .int sx, .ref qp, .int co, .int gi, .int aw, .int cg, .int bk, .ref qs, .ref ql, .ref qo, .int ax, .long wi]))] := by exact hD.sub (ws' := [(o, .inr (4, [.int cd2_2, .int sc, .ref qm, .ref qd, .int ch, .int fe, .int sz, .int rd, .int ca, .int sx, .ref qp, .int co, .int gi, .int aw, .int cg, .int bk, .ref qs, .ref ql, .ref qo, .int ax, .long wi]))]) [0] (by decide) rfl
                have hK9 := hK.sub (tys' := []) [] rfl
                exact W.iret (v := 16) hx hb hr (fun t ht hW => ⟨⟨_, (cd2_2), rfl, ⟨hw_3.1, fun _ => by simp [rdS, c_6, c_7, c_8, c_9, c_12, c_13]⟩, by rw [ht]; exact hP9, va_K.moved hW.alike hK9, hD9⟩, hS.F ht⟩) hS.2.2 dX4_read_139
            · skip
              by_cases c_14 : x = (68 : Int32)
              · skip
                refine lv_lookup (off := 129) (tgt := 140) hx hb dX4_read_11 (by decide) (by rw [c_14]; decide) (by decide) ?_
                refine lv_aload_n hx hb dX4_read_140 rfl (lv_at hl 0 rfl) ?_
                refine va_get (D := (dC, dI)) (ci := 4) (v := .int rd) (C := RX4) (T := TX4) (N := 21) hx hb hw inX4 hown hK hP 0 rfl rfl 7 (by decide) (hw _ w_c01c73850f) (fun _ h9 => h9) rfl dX4_read_141 ?_
                refine lv_if_eq (tgt := 158) hx hb dX4_read_144 (by decide) (fun c_15 => ?_) (fun c_15 => ?_)
                · skip
                  refine lv_iconst (v := 0) hx hb dX4_read_158 (by decide) ?_
                  have hP9 : va_P (dC, dI) vwCl [(o, .inr (4, [.int cd2_2, .int sc, .ref qm, .ref qd, .int ch, .int fe, .int sz, .int rd, .int ca, .int sx, .ref qp, .int co, .int gi, .int aw, .int cg, .int bk, .ref qs, .ref ql, .ref qo, .int ax, .long wi]))] H := by exact hP.sub (ws' := [(o, .inr (4, [.int cd2_2, .int sc, .ref qm, .ref qd, .int ch, .int fe, .int sz, .int rd, .int ca, .int sx, .ref qp, .int co, .int gi, .int aw, .int cg, .int bk, .ref qs, .ref ql, .ref qo, .int ax, .long wi]))]) [0] rfl
                  have hD9 : va_D A [(o, .inr (4, [.int cd2_2, .int sc, .ref qm, .ref qd, .int ch, .int fe, .int sz, .int rd, .int ca, .int sx, .ref qp, .int co, .int gi, .int aw, .int cg, .int bk, .ref qs, .ref ql, .ref qo, .int ax, .long wi]))] := by exact hD.sub (ws' := [(o, .inr (4, [.int cd2_2, .int sc, .ref qm, .ref qd, .int ch, .int fe, .int sz, .int rd, .int ca, .int sx, .ref qp, .int co, .int gi, .int aw, .int cg, .int bk, .ref qs, .ref ql, .ref qo, .int ax, .long wi]))]) [0] (by decide) rfl
                  have hK9 := hK.sub (tys' := []) [] rfl
                  exact W.iret (v := 0) hx hb hr (fun t ht hW => ⟨⟨_, (cd2_2), rfl, ⟨hw_3.1, fun _ => by simp [rdS, c_6, c_7, c_8, c_9, c_12, c_14, c_15]⟩, by rw [ht]; exact hP9, va_K.moved hW.alike hK9, hD9⟩, hS.F ht⟩) hS.2.2 dX4_read_159
                · skip
                  refine lv_aload_n hx hb dX4_read_147 rfl (lv_at hl 0 rfl) ?_
                  refine va_get (D := (dC, dI)) (ci := 4) (v := .int ch) (C := RX4) (T := TX4) (N := 21) hx hb hw inX4 hown hK hP 0 rfl rfl 4 (by decide) (hw _ w_2d850835ef) (fun _ h9 => h9) rfl dX4_read_148 ?_
                  refine lv_if_ne (tgt := 158) hx hb dX4_read_151 (by decide) (fun c_16 => ?_) (fun c_16 => ?_)
                  · skip
                    refine lv_iconst (v := 0) hx hb dX4_read_158 (by decide) ?_
                    have hP9 : va_P (dC, dI) vwCl [(o, .inr (4, [.int cd2_2, .int sc, .ref qm, .ref qd, .int ch, .int fe, .int sz, .int rd, .int ca, .int sx, .ref qp, .int co, .int gi, .int aw, .int cg, .int bk, .ref qs, .ref ql, .ref qo, .int ax, .long wi]))] H := by exact hP.sub (ws' := [(o, .inr (4, [.int cd2_2, .int sc, .ref qm, .ref qd, .int ch, .int fe, .int sz, .int rd, .int ca, .int sx, .ref qp, .int co, .int gi, .int aw, .int cg, .int bk, .ref qs, .ref ql, .ref qo, .int ax, .long wi]))]) [0] rfl
                    have hD9 : va_D A [(o, .inr (4, [.int cd2_2, .int sc, .ref qm, .ref qd, .int ch, .int fe, .int sz, .int rd, .int ca, .int sx, .ref qp, .int co, .int gi, .int aw, .int cg, .int bk, .ref qs, .ref ql, .ref qo, .int ax, .long wi]))] := by exact hD.sub (ws' := [(o, .inr (4, [.int cd2_2, .int sc, .ref qm, .ref qd, .int ch, .int fe, .int sz, .int rd, .int ca, .int sx, .ref qp, .int co, .int gi, .int aw, .int cg, .int bk, .ref qs, .ref ql, .ref qo, .int ax, .long wi]))]) [0] (by decide) rfl
                    have hK9 := hK.sub (tys' := []) [] rfl
                    exact W.iret (v := 0) hx hb hr (fun t ht hW => ⟨⟨_, (cd2_2), rfl, ⟨hw_3.1, fun _ => by simp [rdS, c_6, c_7, c_8, c_9, c_12, c_14, c_15, c_16]⟩, by rw [ht]; exact hP9, va_K.moved hW.alike hK9, hD9⟩, hS.F ht⟩) hS.2.2 dX4_read_159
                  · skip
                    refine lv_iconst (v := 1) hx hb dX4_read_154 (by decide) ?_
                    refine lv_goto (tgt := 159) hx hb dX4_read_155 (by decide) ?_
                    have hP9 : va_P (dC, dI) vwCl [(o, .inr (4, [.int cd2_2, .int sc, .ref qm, .ref qd, .int ch, .int fe, .int sz, .int rd, .int ca, .int sx, .ref qp, .int co, .int gi, .int aw, .int cg, .int bk, .ref qs, .ref ql, .ref qo, .int ax, .long wi]))] H := by exact hP.sub (ws' := [(o, .inr (4, [.int cd2_2, .int sc, .ref qm, .ref qd, .int ch, .int fe, .int sz, .int rd, .int ca, .int sx, .ref qp, .int co, .int gi, .int aw, .int cg, .int bk, .ref qs, .ref ql, .ref qo, .int ax, .long wi]))]) [0] rfl
                    have hD9 : va_D A [(o, .inr (4, [.int cd2_2, .int sc, .ref qm, .ref qd, .int ch, .int fe, .int sz, .int rd, .int ca, .int sx, .ref qp, .int co, .int gi, .int aw, .int cg, .int bk, .ref qs, .ref ql, .ref qo, .int ax, .long wi]))] := by exact hD.sub (ws' := [(o, .inr (4, [.int cd2_2, .int sc, .ref qm, .ref qd, .int ch, .int fe, .int sz, .int rd, .int ca, .int sx, .ref qp, .int co, .int gi, .int aw, .int cg, .int bk, .ref qs, .ref ql, .ref qo, .int ax, .long wi]))]) [0] (by decide) rfl
                    have hK9 := hK.sub (tys' := []) [] rfl
                    exact W.iret (v := 1) hx hb hr (fun t ht hW => ⟨⟨_, (cd2_2), rfl, ⟨hw_3.1, fun _ => by simp [rdS, c_6, c_7, c_8, c_9, c_12, c_14, c_15, c_16]⟩, by rw [ht]; exact hP9, va_K.moved hW.alike hK9, hD9⟩, hS.F ht⟩) hS.2.2 dX4_read_159
              · skip
                by_cases c_17 : x = (96 : Int32)
                · skip
                  refine lv_lookup (off := 149) (tgt := 160) hx hb dX4_read_11 (by decide) (by rw [c_17]; decide) (by decide) ?_
                  refine lv_aload_n hx hb dX4_read_160 rfl (lv_at hl 0 rfl) ?_
                  refine va_get (D := (dC, dI)) (ci := 4) (v := .int ca) (C := RX4) (T := TX4) (N := 21) hx hb hw inX4 hown hK hP 0 rfl rfl 8 (by decide) (hw _ w_a1dc28fbf8) (fun _ h9 => h9) rfl dX4_read_161 ?_
                  have hP9 : va_P (dC, dI) vwCl [(o, .inr (4, [.int cd2_2, .int sc, .ref qm, .ref qd, .int ch, .int fe, .int sz, .int rd, .int ca, .int sx, .ref qp, .int co, .int gi, .int aw, .int cg, .int bk, .ref qs, .ref ql, .ref qo, .int ax, .long wi]))] H := by exact hP.sub (ws' := [(o, .inr (4, [.int cd2_2, .int sc, .ref qm, .ref qd, .int ch, .int fe, .int sz, .int rd, .int ca, .int sx, .ref qp, .int co, .int gi, .int aw, .int cg, .int bk, .ref qs, .ref ql, .ref qo, .int ax, .long wi]))]) [0] rfl
                  have hD9 : va_D A [(o, .inr (4, [.int cd2_2, .int sc, .ref qm, .ref qd, .int ch, .int fe, .int sz, .int rd, .int ca, .int sx, .ref qp, .int co, .int gi, .int aw, .int cg, .int bk, .ref qs, .ref ql, .ref qo, .int ax, .long wi]))] := by exact hD.sub (ws' := [(o, .inr (4, [.int cd2_2, .int sc, .ref qm, .ref qd, .int ch, .int fe, .int sz, .int rd, .int ca, .int sx, .ref qp, .int co, .int gi, .int aw, .int cg, .int bk, .ref qs, .ref ql, .ref qo, .int ax, .long wi]))]) [0] (by decide) rfl
                  have hK9 := hK.sub (tys' := []) [] rfl
                  exact W.iret (v := ca) hx hb hr (fun t ht hW => ⟨⟨_, (cd2_2), rfl, ⟨hw_3.1, fun _ => by simp [rdS, c_6, c_7, c_8, c_9, c_12, c_14, c_17]⟩, by rw [ht]; exact hP9, va_K.moved hW.alike hK9, hD9⟩, hS.F ht⟩) hS.2.2 dX4_read_164
                · skip
                  by_cases c_18 : x = (112 : Int32)
                  · skip
                    refine lv_lookup (off := 154) (tgt := 165) hx hb dX4_read_11 (by decide) (by rw [c_18]; decide) (by decide) ?_
                    refine lv_aload_n hx hb dX4_read_165 rfl (lv_at hl 0 rfl) ?_
                    refine va_get (D := (dC, dI)) (ci := 4) (v := .int sx) (C := RX4) (T := TX4) (N := 21) hx hb hw inX4 hown hK hP 0 rfl rfl 9 (by decide) (hw _ w_9ea0e1bdff) (fun _ h9 => h9) rfl dX4_read_166 ?_
                    have hP9 : va_P (dC, dI) vwCl [(o, .inr (4, [.int cd2_2, .int sc, .ref qm, .ref qd, .int ch, .int fe, .int sz, .int rd, .int ca, .int sx, .ref qp, .int co, .int gi, .int aw, .int cg, .int bk, .ref qs, .ref ql, .ref qo, .int ax, .long wi]))] H := by exact hP.sub (ws' := [(o, .inr (4, [.int cd2_2, .int sc, .ref qm, .ref qd, .int ch, .int fe, .int sz, .int rd, .int ca, .int sx, .ref qp, .int co, .int gi, .int aw, .int cg, .int bk, .ref qs, .ref ql, .ref qo, .int ax, .long wi]))]) [0] rfl
                    have hD9 : va_D A [(o, .inr (4, [.int cd2_2, .int sc, .ref qm, .ref qd, .int ch, .int fe, .int sz, .int rd, .int ca, .int sx, .ref qp, .int co, .int gi, .int aw, .int cg, .int bk, .ref qs, .ref ql, .ref qo, .int ax, .long wi]))] := by exact hD.sub (ws' := [(o, .inr (4, [.int cd2_2, .int sc, .ref qm, .ref qd, .int ch, .int fe, .int sz, .int rd, .int ca, .int sx, .ref qp, .int co, .int gi, .int aw, .int cg, .int bk, .ref qs, .ref ql, .ref qo, .int ax, .long wi]))]) [0] (by decide) rfl
                    have hK9 := hK.sub (tys' := []) [] rfl
                    exact W.iret (v := sx) hx hb hr (fun t ht hW => ⟨⟨_, (cd2_2), rfl, ⟨hw_3.1, fun _ => by simp [rdS, c_6, c_7, c_8, c_9, c_12, c_14, c_17, c_18]⟩, by rw [ht]; exact hP9, va_K.moved hW.alike hK9, hD9⟩, hS.F ht⟩) hS.2.2 dX4_read_169
                  · skip
                    by_cases c_19 : x = (256 : Int32)
                    · skip
                      refine lv_lookup (off := 159) (tgt := 170) hx hb dX4_read_11 (by decide) (by rw [c_19]; decide) (by decide) ?_
                      refine lv_aload_n hx hb dX4_read_170 rfl (lv_at hl 0 rfl) ?_
                      refine va_get (D := (dC, dI)) (ci := 4) (v := .int sc) (C := RX4) (T := TX4) (N := 21) hx hb hw inX4 hown hK hP 0 rfl rfl 1 (by decide) (hw _ w_40cba09e19) (fun _ h9 => h9) rfl dX4_read_171 ?_
                      have hP9 : va_P (dC, dI) vwCl [(o, .inr (4, [.int cd2_2, .int sc, .ref qm, .ref qd, .int ch, .int fe, .int sz, .int rd, .int ca, .int sx, .ref qp, .int co, .int gi, .int aw, .int cg, .int bk, .ref qs, .ref ql, .ref qo, .int ax, .long wi]))] H := by exact hP.sub (ws' := [(o, .inr (4, [.int cd2_2, .int sc, .ref qm, .ref qd, .int ch, .int fe, .int sz, .int rd, .int ca, .int sx, .ref qp, .int co, .int gi, .int aw, .int cg, .int bk, .ref qs, .ref ql, .ref qo, .int ax, .long wi]))]) [0] rfl
                      have hD9 : va_D A [(o, .inr (4, [.int cd2_2, .int sc, .ref qm, .ref qd, .int ch, .int fe, .int sz, .int rd, .int ca, .int sx, .ref qp, .int co, .int gi, .int aw, .int cg, .int bk, .ref qs, .ref ql, .ref qo, .int ax, .long wi]))] := by exact hD.sub (ws' := [(o, .inr (4, [.int cd2_2, .int sc, .ref qm, .ref qd, .int ch, .int fe, .int sz, .int rd, .int ca, .int sx, .ref qp, .int co, .int gi, .int aw, .int cg, .int bk, .ref qs, .ref ql, .ref qo, .int ax, .long wi]))]) [0] (by decide) rfl
                      have hK9 := hK.sub (tys' := []) [] rfl
                      exact W.iret (v := sc) hx hb hr (fun t ht hW => ⟨⟨_, (cd2_2), rfl, ⟨hw_3.1, fun _ => by simp [rdS, c_6, c_7, c_8, c_9, c_12, c_14, c_17, c_18, c_19]⟩, by rw [ht]; exact hP9, va_K.moved hW.alike hK9, hD9⟩, hS.F ht⟩) hS.2.2 dX4_read_174
                    · skip
                      refine lv_lookup (off := 164) (tgt := 175) hx hb dX4_read_11 (by decide) (show Op.lookupswitch.offset [(0, 81), (4, 84), (8, 86), (16, 88), (52, 115), (68, 129), (96, 149), (112, 154), (256, 159)] 164 (x).toInt = 164 by rw [lv_osw c_6 (by decide), lv_osw c_7 (by decide), lv_osw c_8 (by decide), lv_osw c_9 (by decide), lv_osw c_12 (by decide), lv_osw c_14 (by decide), lv_osw c_17 (by decide), lv_osw c_18 (by decide), lv_osw c_19 (by decide)]; rfl) (by decide) ?_
                      refine lv_iconst (v := 0) hx hb dX4_read_175 (by decide) ?_
                      have hP9 : va_P (dC, dI) vwCl [(o, .inr (4, [.int cd2_2, .int sc, .ref qm, .ref qd, .int ch, .int fe, .int sz, .int rd, .int ca, .int sx, .ref qp, .int co, .int gi, .int aw, .int cg, .int bk, .ref qs, .ref ql, .ref qo, .int ax, .long wi]))] H := by exact hP.sub (ws' := [(o, .inr (4, [.int cd2_2, .int sc, .ref qm, .ref qd, .int ch, .int fe, .int sz, .int rd, .int ca, .int sx, .ref qp, .int co, .int gi, .int aw, .int cg, .int bk, .ref qs, .ref ql, .ref qo, .int ax, .long wi]))]) [0] rfl
                      have hD9 : va_D A [(o, .inr (4, [.int cd2_2, .int sc, .ref qm, .ref qd, .int ch, .int fe, .int sz, .int rd, .int ca, .int sx, .ref qp, .int co, .int gi, .int aw, .int cg, .int bk, .ref qs, .ref ql, .ref qo, .int ax, .long wi]))] := by exact hD.sub (ws' := [(o, .inr (4, [.int cd2_2, .int sc, .ref qm, .ref qd, .int ch, .int fe, .int sz, .int rd, .int ca, .int sx, .ref qp, .int co, .int gi, .int aw, .int cg, .int bk, .ref qs, .ref ql, .ref qo, .int ax, .long wi]))]) [0] (by decide) rfl
                      have hK9 := hK.sub (tys' := []) [] rfl
                      exact W.iret (v := 0) hx hb hr (fun t ht hW => ⟨⟨_, (cd2_2), rfl, ⟨hw_3.1, fun _ => by simp [rdS, c_6, c_7, c_8, c_9, c_12, c_14, c_17, c_18, c_19]⟩, by rw [ht]; exact hP9, va_K.moved hW.alike hK9, hD9⟩, hS.F ht⟩) hS.2.2 dX4_read_176
  · skip
    have b_20 : (noP x) := bI_1 (by rw [← hw_3.2]; exact c_4)
    refine lv_iconst (v := 0) hx hb dX4_read_8 (by decide) ?_
    have hP9 : va_P (dC, dI) vwCl [(o, .inr (4, [.int cd2_2, .int sc, .ref qm, .ref qd, .int ch, .int fe, .int sz, .int rd, .int ca, .int sx, .ref qp, .int co, .int gi, .int aw, .int cg, .int bk, .ref qs, .ref ql, .ref qo, .int ax, .long wi]))] H := by exact hP.sub (ws' := [(o, .inr (4, [.int cd2_2, .int sc, .ref qm, .ref qd, .int ch, .int fe, .int sz, .int rd, .int ca, .int sx, .ref qp, .int co, .int gi, .int aw, .int cg, .int bk, .ref qs, .ref ql, .ref qo, .int ax, .long wi]))]) [0] rfl
    have hD9 : va_D A [(o, .inr (4, [.int cd2_2, .int sc, .ref qm, .ref qd, .int ch, .int fe, .int sz, .int rd, .int ca, .int sx, .ref qp, .int co, .int gi, .int aw, .int cg, .int bk, .ref qs, .ref ql, .ref qo, .int ax, .long wi]))] := by exact hD.sub (ws' := [(o, .inr (4, [.int cd2_2, .int sc, .ref qm, .ref qd, .int ch, .int fe, .int sz, .int rd, .int ca, .int sx, .ref qp, .int co, .int gi, .int aw, .int cg, .int bk, .ref qs, .ref ql, .ref qo, .int ax, .long wi]))]) [0] (by decide) rfl
    have hK9 := hK.sub (tys' := []) [] rfl
    exact W.iret (v := 0) hx hb hr (fun t ht hW => ⟨⟨_, (cd2_2), rfl, ⟨hw_3.1, fun z => absurd b_20 z⟩, by rw [ht]; exact hP9, va_K.moved hW.alike hK9, hD9⟩, hS.F ht⟩) hS.2.2 dX4_read_9
set_option maxHeartbeats 4000000 in
set_option maxRecDepth 100000 in
/-- Model.answered -/
theorem m_answered (l : Launch) (dC : Nat → ClassId) (dI : Nat → Nat → Nat) (o : Nat) (cd : Int32) (sc : Int32) (qm : Nat) (qd : Nat) (ch : Int32) (fe : Int32) (sz : Int32) (rd : Int32) (ca : Int32) (sx : Int32) (qp : Nat) (co : Int32) (gi : Int32) (aw : Int32) (cg : Int32) (bk : Int32) (qs : Nat) (ql : Nat) (qo : Nat) (ax : Int32) (wi : Int64) (zS : Nat) : Met l yX4_answered wsX4_answered ({ frames := 0, cells := 0, slots := 0, locals := 0 }) (va_Pc [.ref o] (fun U => U.heap.size = zS ∧ va_P (dC, dI) vwCl [(o, .inr (4, [.int cd, .int sc, .ref qm, .ref qd, .int ch, .int fe, .int sz, .int rd, .int ca, .int sx, .ref qp, .int co, .int gi, .int aw, .int cg, .int bk, .ref qs, .ref ql, .ref qo, .int ax, .long wi]))] U.heap ∧ va_K (dC, dI) vwCl [] U ∧ va_D (fun _ => True) [(o, .inr (4, [.int cd, .int sc, .ref qm, .ref qd, .int ch, .int fe, .int sz, .int rd, .int ca, .int sx, .ref qp, .int co, .int gi, .int aw, .int cg, .int bk, .ref qs, .ref ql, .ref qo, .int ax, .long wi]))] ∧ ZZ (va_A [(o, .inr (4, [.int cd, .int sc, .ref qm, .ref qd, .int ch, .int fe, .int sz, .int rd, .int ca, .int sx, .ref qp, .int co, .int gi, .int aw, .int cg, .int bk, .ref qs, .ref ql, .ref qo, .int ax, .long wi]))] zS) U U.heap)) (va_Qi (fun (r : Int32) (_ : Unit) => r = aw) (fun (_ : Unit) (t : State) => va_P (dC, dI) vwCl [(o, .inr (4, [.int 0, .int sc, .ref qm, .ref qd, .int ch, .int fe, .int sz, .int rd, .int ca, .int sx, .ref qp, .int co, .int gi, .int aw, .int cg, .int bk, .ref qs, .ref ql, .ref qo, .int ax, .long wi]))] t.heap ∧ va_K (dC, dI) vwCl [] t ∧ va_D (va_A [(o, .inr (4, [.int cd, .int sc, .ref qm, .ref qd, .int ch, .int fe, .int sz, .int rd, .int ca, .int sx, .ref qp, .int co, .int gi, .int aw, .int cg, .int bk, .ref qs, .ref ql, .ref qo, .int ax, .long wi]))] zS) [(o, .inr (4, [.int 0, .int sc, .ref qm, .ref qd, .int ch, .int fe, .int sz, .int rd, .int ca, .int sx, .ref qp, .int co, .int gi, .int aw, .int cg, .int bk, .ref qs, .ref ql, .ref qo, .int ax, .long wi]))]) (va_A [(o, .inr (4, [.int cd, .int sc, .ref qm, .ref qd, .int ch, .int fe, .int sz, .int rd, .int ca, .int sx, .ref qp, .int co, .int gi, .int aw, .int cg, .int bk, .ref qs, .ref ql, .ref qo, .int ax, .long wi]))] zS)) 0 0 (va_A [(o, .inr (4, [.int cd, .int sc, .ref qm, .ref qd, .int ch, .int fe, .int sz, .int rd, .int ca, .int sx, .ref qp, .int co, .int gi, .int aw, .int cg, .int bk, .ref qs, .ref ql, .ref qo, .int ax, .long wi]))] zS) := by
  refine Met.ofW (cc := cX4_answered) (maxL := 1) (ret := (some .int)) (by decide) rfl ?_
  intro p e s m args below meth c s₁ B hml hv
  obtain ⟨rfl, hsz, hP, hK, hD0, hZ⟩ := hv
  have hx := B.exec
  have hb := B.bytes
  have hr := B.returns
  have hts := atoms_spec (ws := wsX4_answered) B.pre
  have hw : ∀ w ∈ WW, w.before _ s = true := fun w h => hts w (List.mem_cons_of_mem _ h)
  have hown : s.vm.findClass RX4 = some m.cls := findClass_of_methodNamed B.named
  have hlocks := B.notSynchronized
  subst hsz
  have hD := hD0.self (sz := s.heap.size)
  generalize hAe : va_A [(o, .inr (4, [.int cd, .int sc, .ref qm, .ref qd, .int ch, .int fe, .int sz, .int rd, .int ca, .int sx, .ref qp, .int co, .int gi, .int aw, .int cg, .int bk, .ref qs, .ref ql, .ref qo, .int ax, .long wi]))] s.heap.size = A at hD hZ ⊢
  have hA : ∀ q : Nat, s.heap.size ≤ q → A q := fun q h => by rw [← hAe]; exact Or.inr h
  have hS : va_S A s.heap s.heap [] := va_S.rf
  have hP : va_P (dC, dI) vwCl [(o, .inr (4, [.int cd, .int sc, .ref qm, .ref qd, .int ch, .int fe, .int sz, .int rd, .int ca, .int sx, .ref qp, .int co, .int gi, .int aw, .int cg, .int bk, .ref qs, .ref ql, .ref qo, .int ax, .long wi]))] s.heap := hP
  have hl := lv_entry ([.ref o]) (n := 1) (Nat.le_of_ble_eq_true rfl)
  rw [lg_entry_eq]
  generalize (lg_sl ([.ref o]) ++ List.replicate (1 - (lg_sl ([.ref o])).length) Slot.unset).toArray = ls at hl ⊢
  have hl : lv_has ls 1 [(0, .ref o)] := hl
  refine lv_aload_n hx hb dX4_answered_0 rfl (lv_at hl 0 rfl) ?_
  refine lv_iconst (v := 0) hx hb dX4_answered_1 (by decide) ?_
  refine va_put (D := (dC, dI)) (ci := 4) (v := .int 0) (ty := .int) (C := RX4) (T := TX4) (N := 21) hx hb hw inX4 tyX4 tyX4_ok nmX4 hown hK hP hD hS 0 rfl rfl 0 (by decide) (hw _ w_5657dd785d) (fun _ h9 => h9) rfl (by decide +kernel) rfl rfl (Nat.le_of_ble_eq_true rfl) dX4_answered_2 (fun H locs hP hD hS => ?_)
  have hP : va_P (dC, dI) vwCl [(o, .inr (4, [.int 0, .int sc, .ref qm, .ref qd, .int ch, .int fe, .int sz, .int rd, .int ca, .int sx, .ref qp, .int co, .int gi, .int aw, .int cg, .int bk, .ref qs, .ref ql, .ref qo, .int ax, .long wi]))] H := hP
  have hD : va_D A [(o, .inr (4, [.int 0, .int sc, .ref qm, .ref qd, .int ch, .int fe, .int sz, .int rd, .int ca, .int sx, .ref qp, .int co, .int gi, .int aw, .int cg, .int bk, .ref qs, .ref ql, .ref qo, .int ax, .long wi]))] := hD
  refine lv_aload_n hx hb dX4_answered_5 rfl (lv_at hl 0 rfl) ?_
  refine va_get (D := (dC, dI)) (ci := 4) (v := .int aw) (C := RX4) (T := TX4) (N := 21) hx hb hw inX4 hown hK hP 0 rfl rfl 13 (by decide) (hw _ w_ed900e442d) (fun _ h9 => h9) rfl dX4_answered_6 ?_
  have hP9 : va_P (dC, dI) vwCl [(o, .inr (4, [.int 0, .int sc, .ref qm, .ref qd, .int ch, .int fe, .int sz, .int rd, .int ca, .int sx, .ref qp, .int co, .int gi, .int aw, .int cg, .int bk, .ref qs, .ref ql, .ref qo, .int ax, .long wi]))] H := by exact hP.sub (ws' := [(o, .inr (4, [.int 0, .int sc, .ref qm, .ref qd, .int ch, .int fe, .int sz, .int rd, .int ca, .int sx, .ref qp, .int co, .int gi, .int aw, .int cg, .int bk, .ref qs, .ref ql, .ref qo, .int ax, .long wi]))]) [0] rfl
  have hD9 : va_D A [(o, .inr (4, [.int 0, .int sc, .ref qm, .ref qd, .int ch, .int fe, .int sz, .int rd, .int ca, .int sx, .ref qp, .int co, .int gi, .int aw, .int cg, .int bk, .ref qs, .ref ql, .ref qo, .int ax, .long wi]))] := by exact hD.sub (ws' := [(o, .inr (4, [.int 0, .int sc, .ref qm, .ref qd, .int ch, .int fe, .int sz, .int rd, .int ca, .int sx, .ref qp, .int co, .int gi, .int aw, .int cg, .int bk, .ref qs, .ref ql, .ref qo, .int ax, .long wi]))]) [0] (by decide) rfl
  have hK9 := hK.sub (tys' := []) [] rfl
  exact W.iret (v := aw) hx hb hr (fun t ht hW => ⟨⟨_, (), rfl, rfl, by rw [ht]; exact hP9, va_K.moved hW.alike hK9, hD9⟩, hS.F ht⟩) hS.2.2 dX4_answered_9
set_option maxHeartbeats 4000000 in
set_option maxRecDepth 100000 in
/-- Model.changed -/
theorem m_changed (l : Launch) (dC : Nat → ClassId) (dI : Nat → Nat → Nat) (o : Nat) (cd : Int32) (sc : Int32) (qm : Nat) (qd : Nat) (ch : Int32) (fe : Int32) (sz : Int32) (rd : Int32) (ca : Int32) (sx : Int32) (qp : Nat) (co : Int32) (gi : Int32) (aw : Int32) (cg : Int32) (bk : Int32) (qs : Nat) (ql : Nat) (qo : Nat) (ax : Int32) (wi : Int64) (zS : Nat) : Met l yX4_changed wsX4_changed ({ frames := 0, cells := 0, slots := 0, locals := 0 }) (va_Pc [.ref o] (fun U => U.heap.size = zS ∧ va_P (dC, dI) vwCl [(o, .inr (4, [.int cd, .int sc, .ref qm, .ref qd, .int ch, .int fe, .int sz, .int rd, .int ca, .int sx, .ref qp, .int co, .int gi, .int aw, .int cg, .int bk, .ref qs, .ref ql, .ref qo, .int ax, .long wi]))] U.heap ∧ va_K (dC, dI) vwCl [] U ∧ va_D (fun _ => True) [(o, .inr (4, [.int cd, .int sc, .ref qm, .ref qd, .int ch, .int fe, .int sz, .int rd, .int ca, .int sx, .ref qp, .int co, .int gi, .int aw, .int cg, .int bk, .ref qs, .ref ql, .ref qo, .int ax, .long wi]))] ∧ ZZ (va_A [(o, .inr (4, [.int cd, .int sc, .ref qm, .ref qd, .int ch, .int fe, .int sz, .int rd, .int ca, .int sx, .ref qp, .int co, .int gi, .int aw, .int cg, .int bk, .ref qs, .ref ql, .ref qo, .int ax, .long wi]))] zS) U U.heap)) (va_Qi (fun (r : Int32) (_ : Unit) => r = cg) (fun (_ : Unit) (t : State) => va_P (dC, dI) vwCl [(o, .inr (4, [.int 0, .int sc, .ref qm, .ref qd, .int ch, .int fe, .int sz, .int rd, .int ca, .int sx, .ref qp, .int co, .int gi, .int aw, .int cg, .int bk, .ref qs, .ref ql, .ref qo, .int ax, .long wi]))] t.heap ∧ va_K (dC, dI) vwCl [] t ∧ va_D (va_A [(o, .inr (4, [.int cd, .int sc, .ref qm, .ref qd, .int ch, .int fe, .int sz, .int rd, .int ca, .int sx, .ref qp, .int co, .int gi, .int aw, .int cg, .int bk, .ref qs, .ref ql, .ref qo, .int ax, .long wi]))] zS) [(o, .inr (4, [.int 0, .int sc, .ref qm, .ref qd, .int ch, .int fe, .int sz, .int rd, .int ca, .int sx, .ref qp, .int co, .int gi, .int aw, .int cg, .int bk, .ref qs, .ref ql, .ref qo, .int ax, .long wi]))]) (va_A [(o, .inr (4, [.int cd, .int sc, .ref qm, .ref qd, .int ch, .int fe, .int sz, .int rd, .int ca, .int sx, .ref qp, .int co, .int gi, .int aw, .int cg, .int bk, .ref qs, .ref ql, .ref qo, .int ax, .long wi]))] zS)) 0 0 (va_A [(o, .inr (4, [.int cd, .int sc, .ref qm, .ref qd, .int ch, .int fe, .int sz, .int rd, .int ca, .int sx, .ref qp, .int co, .int gi, .int aw, .int cg, .int bk, .ref qs, .ref ql, .ref qo, .int ax, .long wi]))] zS) := by
  refine Met.ofW (cc := cX4_changed) (maxL := 1) (ret := (some .int)) (by decide) rfl ?_
  intro p e s m args below meth c s₁ B hml hv
  obtain ⟨rfl, hsz, hP, hK, hD0, hZ⟩ := hv
  have hx := B.exec
  have hb := B.bytes
  have hr := B.returns
  have hts := atoms_spec (ws := wsX4_changed) B.pre
  have hw : ∀ w ∈ WW, w.before _ s = true := fun w h => hts w (List.mem_cons_of_mem _ h)
  have hown : s.vm.findClass RX4 = some m.cls := findClass_of_methodNamed B.named
  have hlocks := B.notSynchronized
  subst hsz
  have hD := hD0.self (sz := s.heap.size)
  generalize hAe : va_A [(o, .inr (4, [.int cd, .int sc, .ref qm, .ref qd, .int ch, .int fe, .int sz, .int rd, .int ca, .int sx, .ref qp, .int co, .int gi, .int aw, .int cg, .int bk, .ref qs, .ref ql, .ref qo, .int ax, .long wi]))] s.heap.size = A at hD hZ ⊢
  have hA : ∀ q : Nat, s.heap.size ≤ q → A q := fun q h => by rw [← hAe]; exact Or.inr h
  have hS : va_S A s.heap s.heap [] := va_S.rf
  have hP : va_P (dC, dI) vwCl [(o, .inr (4, [.int cd, .int sc, .ref qm, .ref qd, .int ch, .int fe, .int sz, .int rd, .int ca, .int sx, .ref qp, .int co, .int gi, .int aw, .int cg, .int bk, .ref qs, .ref ql, .ref qo, .int ax, .long wi]))] s.heap := hP
  have hl := lv_entry ([.ref o]) (n := 1) (Nat.le_of_ble_eq_true rfl)
  rw [lg_entry_eq]
  generalize (lg_sl ([.ref o]) ++ List.replicate (1 - (lg_sl ([.ref o])).length) Slot.unset).toArray = ls at hl ⊢
  have hl : lv_has ls 1 [(0, .ref o)] := hl
  refine lv_aload_n hx hb dX4_changed_0 rfl (lv_at hl 0 rfl) ?_
  refine lv_iconst (v := 0) hx hb dX4_changed_1 (by decide) ?_
  refine va_put (D := (dC, dI)) (ci := 4) (v := .int 0) (ty := .int) (C := RX4) (T := TX4) (N := 21) hx hb hw inX4 tyX4 tyX4_ok nmX4 hown hK hP hD hS 0 rfl rfl 0 (by decide) (hw _ w_5657dd785d) (fun _ h9 => h9) rfl (by decide +kernel) rfl rfl (Nat.le_of_ble_eq_true rfl) dX4_changed_2 (fun H locs hP hD hS => ?_)
  have hP : va_P (dC, dI) vwCl [(o, .inr (4, [.int 0, .int sc, .ref qm, .ref qd, .int ch, .int fe, .int sz, .int rd, .int ca, .int sx, .ref qp, .int co, .int gi, .int aw, .int cg, .int bk, .ref qs, .ref ql, .ref qo, .int ax, .long wi]))] H := hP
  have hD : va_D A [(o, .inr (4, [.int 0, .int sc, .ref qm, .ref qd, .int ch, .int fe, .int sz, .int rd, .int ca, .int sx, .ref qp, .int co, .int gi, .int aw, .int cg, .int bk, .ref qs, .ref ql, .ref qo, .int ax, .long wi]))] := hD
  refine lv_aload_n hx hb dX4_changed_5 rfl (lv_at hl 0 rfl) ?_
  refine va_get (D := (dC, dI)) (ci := 4) (v := .int cg) (C := RX4) (T := TX4) (N := 21) hx hb hw inX4 hown hK hP 0 rfl rfl 14 (by decide) (hw _ w_45c0d117f5) (fun _ h9 => h9) rfl dX4_changed_6 ?_
  have hP9 : va_P (dC, dI) vwCl [(o, .inr (4, [.int 0, .int sc, .ref qm, .ref qd, .int ch, .int fe, .int sz, .int rd, .int ca, .int sx, .ref qp, .int co, .int gi, .int aw, .int cg, .int bk, .ref qs, .ref ql, .ref qo, .int ax, .long wi]))] H := by exact hP.sub (ws' := [(o, .inr (4, [.int 0, .int sc, .ref qm, .ref qd, .int ch, .int fe, .int sz, .int rd, .int ca, .int sx, .ref qp, .int co, .int gi, .int aw, .int cg, .int bk, .ref qs, .ref ql, .ref qo, .int ax, .long wi]))]) [0] rfl
  have hD9 : va_D A [(o, .inr (4, [.int 0, .int sc, .ref qm, .ref qd, .int ch, .int fe, .int sz, .int rd, .int ca, .int sx, .ref qp, .int co, .int gi, .int aw, .int cg, .int bk, .ref qs, .ref ql, .ref qo, .int ax, .long wi]))] := by exact hD.sub (ws' := [(o, .inr (4, [.int 0, .int sc, .ref qm, .ref qd, .int ch, .int fe, .int sz, .int rd, .int ca, .int sx, .ref qp, .int co, .int gi, .int aw, .int cg, .int bk, .ref qs, .ref ql, .ref qo, .int ax, .long wi]))]) [0] (by decide) rfl
  have hK9 := hK.sub (tys' := []) [] rfl
  exact W.iret (v := cg) hx hb hr (fun t ht hW => ⟨⟨_, (), rfl, rfl, by rw [ht]; exact hP9, va_K.moved hW.alike hK9, hD9⟩, hS.F ht⟩) hS.2.2 dX4_changed_9
set_option maxHeartbeats 4000000 in
set_option maxRecDepth 100000 in
/-- Model.line -/
theorem m_line (l : Launch) (dC : Nat → ClassId) (dI : Nat → Nat → Nat) (o : Nat) (cd : Int32) (sc : Int32) (qm : Nat) (qd : Nat) (ch : Int32) (fe : Int32) (sz : Int32) (rd : Int32) (ca : Int32) (sx : Int32) (qp : Nat) (co : Int32) (gi : Int32) (aw : Int32) (cg : Int32) (bk : Int32) (qs : Nat) (ql : Nat) (qo : Nat) (ax : Int32) (wi : Int64) (zS : Nat) : Met l yX4_line wsX4_line ({ frames := 0, cells := 0, slots := 0, locals := 0 }) (va_Pc [.ref o] (fun U => U.heap.size = zS ∧ va_P (dC, dI) vwCl [(o, .inr (4, [.int cd, .int sc, .ref qm, .ref qd, .int ch, .int fe, .int sz, .int rd, .int ca, .int sx, .ref qp, .int co, .int gi, .int aw, .int cg, .int bk, .ref qs, .ref ql, .ref qo, .int ax, .long wi]))] U.heap ∧ va_K (dC, dI) vwCl [] U ∧ va_D (fun _ => True) [(o, .inr (4, [.int cd, .int sc, .ref qm, .ref qd, .int ch, .int fe, .int sz, .int rd, .int ca, .int sx, .ref qp, .int co, .int gi, .int aw, .int cg, .int bk, .ref qs, .ref ql, .ref qo, .int ax, .long wi]))] ∧ ZZ (va_A [(o, .inr (4, [.int cd, .int sc, .ref qm, .ref qd, .int ch, .int fe, .int sz, .int rd, .int ca, .int sx, .ref qp, .int co, .int gi, .int aw, .int cg, .int bk, .ref qs, .ref ql, .ref qo, .int ax, .long wi]))] zS) U U.heap)) (va_Qi (fun (r : Int32) (_ : Unit) => r = bI (¬ ca = 0)) (fun (_ : Unit) (t : State) => va_P (dC, dI) vwCl [(o, .inr (4, [.int 0, .int sc, .ref qm, .ref qd, .int ch, .int fe, .int sz, .int rd, .int ca, .int sx, .ref qp, .int co, .int gi, .int aw, .int cg, .int bk, .ref qs, .ref ql, .ref qo, .int ax, .long wi]))] t.heap ∧ va_K (dC, dI) vwCl [] t ∧ va_D (va_A [(o, .inr (4, [.int cd, .int sc, .ref qm, .ref qd, .int ch, .int fe, .int sz, .int rd, .int ca, .int sx, .ref qp, .int co, .int gi, .int aw, .int cg, .int bk, .ref qs, .ref ql, .ref qo, .int ax, .long wi]))] zS) [(o, .inr (4, [.int 0, .int sc, .ref qm, .ref qd, .int ch, .int fe, .int sz, .int rd, .int ca, .int sx, .ref qp, .int co, .int gi, .int aw, .int cg, .int bk, .ref qs, .ref ql, .ref qo, .int ax, .long wi]))]) (va_A [(o, .inr (4, [.int cd, .int sc, .ref qm, .ref qd, .int ch, .int fe, .int sz, .int rd, .int ca, .int sx, .ref qp, .int co, .int gi, .int aw, .int cg, .int bk, .ref qs, .ref ql, .ref qo, .int ax, .long wi]))] zS)) 0 0 (va_A [(o, .inr (4, [.int cd, .int sc, .ref qm, .ref qd, .int ch, .int fe, .int sz, .int rd, .int ca, .int sx, .ref qp, .int co, .int gi, .int aw, .int cg, .int bk, .ref qs, .ref ql, .ref qo, .int ax, .long wi]))] zS) := by
  refine Met.ofW (cc := cX4_line) (maxL := 1) (ret := (some .boolean)) (by decide) rfl ?_
  intro p e s m args below meth c s₁ B hml hv
  obtain ⟨rfl, hsz, hP, hK, hD0, hZ⟩ := hv
  have hx := B.exec
  have hb := B.bytes
  have hr := B.returns
  have hts := atoms_spec (ws := wsX4_line) B.pre
  have hw : ∀ w ∈ WW, w.before _ s = true := fun w h => hts w (List.mem_cons_of_mem _ h)
  have hown : s.vm.findClass RX4 = some m.cls := findClass_of_methodNamed B.named
  have hlocks := B.notSynchronized
  subst hsz
  have hD := hD0.self (sz := s.heap.size)
  generalize hAe : va_A [(o, .inr (4, [.int cd, .int sc, .ref qm, .ref qd, .int ch, .int fe, .int sz, .int rd, .int ca, .int sx, .ref qp, .int co, .int gi, .int aw, .int cg, .int bk, .ref qs, .ref ql, .ref qo, .int ax, .long wi]))] s.heap.size = A at hD hZ ⊢
  have hA : ∀ q : Nat, s.heap.size ≤ q → A q := fun q h => by rw [← hAe]; exact Or.inr h
  have hS : va_S A s.heap s.heap [] := va_S.rf
  have hP : va_P (dC, dI) vwCl [(o, .inr (4, [.int cd, .int sc, .ref qm, .ref qd, .int ch, .int fe, .int sz, .int rd, .int ca, .int sx, .ref qp, .int co, .int gi, .int aw, .int cg, .int bk, .ref qs, .ref ql, .ref qo, .int ax, .long wi]))] s.heap := hP
  have hl := lv_entry ([.ref o]) (n := 1) (Nat.le_of_ble_eq_true rfl)
  rw [lg_entry_eq]
  generalize (lg_sl ([.ref o]) ++ List.replicate (1 - (lg_sl ([.ref o])).length) Slot.unset).toArray = ls at hl ⊢
  have hl : lv_has ls 1 [(0, .ref o)] := hl
  refine lv_aload_n hx hb dX4_line_0 rfl (lv_at hl 0 rfl) ?_
  refine lv_iconst (v := 0) hx hb dX4_line_1 (by decide) ?_
  refine va_put (D := (dC, dI)) (ci := 4) (v := .int 0) (ty := .int) (C := RX4) (T := TX4) (N := 21) hx hb hw inX4 tyX4 tyX4_ok nmX4 hown hK hP hD hS 0 rfl rfl 0 (by decide) (hw _ w_5657dd785d) (fun _ h9 => h9) rfl (by decide +kernel) rfl rfl (Nat.le_of_ble_eq_true rfl) dX4_line_2 (fun H locs hP hD hS => ?_)
  have hP : va_P (dC, dI) vwCl [(o, .inr (4, [.int 0, .int sc, .ref qm, .ref qd, .int ch, .int fe, .int sz, .int rd, .int ca, .int sx, .ref qp, .int co, .int gi, .int aw, .int cg, .int bk, .ref qs, .ref ql, .ref qo, .int ax, .long wi]))] H := hP
  have hD : va_D A [(o, .inr (4, [.int 0, .int sc, .ref qm, .ref qd, .int ch, .int fe, .int sz, .int rd, .int ca, .int sx, .ref qp, .int co, .int gi, .int aw, .int cg, .int bk, .ref qs, .ref ql, .ref qo, .int ax, .long wi]))] := hD
  refine lv_aload_n hx hb dX4_line_5 rfl (lv_at hl 0 rfl) ?_
  refine va_get (D := (dC, dI)) (ci := 4) (v := .int ca) (C := RX4) (T := TX4) (N := 21) hx hb hw inX4 hown hK hP 0 rfl rfl 8 (by decide) (hw _ w_a1dc28fbf8) (fun _ h9 => h9) rfl dX4_line_6 ?_
  refine lv_if_eq (tgt := 16) hx hb dX4_line_9 (by decide) (fun c_1 => ?_) (fun c_1 => ?_)
  · skip
    refine lv_iconst (v := 0) hx hb dX4_line_16 (by decide) ?_
    have hP9 : va_P (dC, dI) vwCl [(o, .inr (4, [.int 0, .int sc, .ref qm, .ref qd, .int ch, .int fe, .int sz, .int rd, .int ca, .int sx, .ref qp, .int co, .int gi, .int aw, .int cg, .int bk, .ref qs, .ref ql, .ref qo, .int ax, .long wi]))] H := by exact hP.sub (ws' := [(o, .inr (4, [.int 0, .int sc, .ref qm, .ref qd, .int ch, .int fe, .int sz, .int rd, .int ca, .int sx, .ref qp, .int co, .int gi, .int aw, .int cg, .int bk, .ref qs, .ref ql, .ref qo, .int ax, .long wi]))]) [0] rfl
    have hD9 : va_D A [(o, .inr (4, [.int 0, .int sc, .ref qm, .ref qd, .int ch, .int fe, .int sz, .int rd, .int ca, .int sx, .ref qp, .int co, .int gi, .int aw, .int cg, .int bk, .ref qs, .ref ql, .ref qo, .int ax, .long wi]))] := by exact hD.sub (ws' := [(o, .inr (4, [.int 0, .int sc, .ref qm, .ref qd, .int ch, .int fe, .int sz, .int rd, .int ca, .int sx, .ref qp, .int co, .int gi, .int aw, .int cg, .int bk, .ref qs, .ref ql, .ref qo, .int ax, .long wi]))]) [0] (by decide) rfl
    have hK9 := hK.sub (tys' := []) [] rfl
    exact W.zret (v := 0) hx hb hr rfl (fun t ht hW => ⟨⟨_, (), rfl, (bI_f (fun z => z c_1)).symm, by rw [ht]; exact hP9, va_K.moved hW.alike hK9, hD9⟩, hS.F ht⟩) hS.2.2 dX4_line_17
  · skip
    refine lv_iconst (v := 1) hx hb dX4_line_12 (by decide) ?_
    refine lv_goto (tgt := 17) hx hb dX4_line_13 (by decide) ?_
    have hP9 : va_P (dC, dI) vwCl [(o, .inr (4, [.int 0, .int sc, .ref qm, .ref qd, .int ch, .int fe, .int sz, .int rd, .int ca, .int sx, .ref qp, .int co, .int gi, .int aw, .int cg, .int bk, .ref qs, .ref ql, .ref qo, .int ax, .long wi]))] H := by exact hP.sub (ws' := [(o, .inr (4, [.int 0, .int sc, .ref qm, .ref qd, .int ch, .int fe, .int sz, .int rd, .int ca, .int sx, .ref qp, .int co, .int gi, .int aw, .int cg, .int bk, .ref qs, .ref ql, .ref qo, .int ax, .long wi]))]) [0] rfl
    have hD9 : va_D A [(o, .inr (4, [.int 0, .int sc, .ref qm, .ref qd, .int ch, .int fe, .int sz, .int rd, .int ca, .int sx, .ref qp, .int co, .int gi, .int aw, .int cg, .int bk, .ref qs, .ref ql, .ref qo, .int ax, .long wi]))] := by exact hD.sub (ws' := [(o, .inr (4, [.int 0, .int sc, .ref qm, .ref qd, .int ch, .int fe, .int sz, .int rd, .int ca, .int sx, .ref qp, .int co, .int gi, .int aw, .int cg, .int bk, .ref qs, .ref ql, .ref qo, .int ax, .long wi]))]) [0] (by decide) rfl
    have hK9 := hK.sub (tys' := []) [] rfl
    exact W.zret (v := 1) hx hb hr rfl (fun t ht hW => ⟨⟨_, (), rfl, (bI_t c_1).symm, by rw [ht]; exact hP9, va_K.moved hW.alike hK9, hD9⟩, hS.F ht⟩) hS.2.2 dX4_line_17
set_option maxHeartbeats 4000000 in
set_option maxRecDepth 100000 in
/-- Model.breakDown -/
theorem m_breakDown (l : Launch) (dC : Nat → ClassId) (dI : Nat → Nat → Nat) (o : Nat) (cd : Int32) (sc : Int32) (qm : Nat) (qd : Nat) (ch : Int32) (fe : Int32) (sz : Int32) (rd : Int32) (ca : Int32) (sx : Int32) (qp : Nat) (co : Int32) (gi : Int32) (aw : Int32) (cg : Int32) (bk : Int32) (qs : Nat) (ql : Nat) (qo : Nat) (ax : Int32) (wi : Int64) (zS : Nat) : Met l yX4_breakDown wsX4_breakDown ({ frames := 0, cells := 0, slots := 0, locals := 0 }) (va_Pc [.ref o] (fun U => U.heap.size = zS ∧ va_P (dC, dI) vwCl [(o, .inr (4, [.int cd, .int sc, .ref qm, .ref qd, .int ch, .int fe, .int sz, .int rd, .int ca, .int sx, .ref qp, .int co, .int gi, .int aw, .int cg, .int bk, .ref qs, .ref ql, .ref qo, .int ax, .long wi]))] U.heap ∧ va_K (dC, dI) vwCl [] U ∧ va_D (fun _ => True) [(o, .inr (4, [.int cd, .int sc, .ref qm, .ref qd, .int ch, .int fe, .int sz, .int rd, .int ca, .int sx, .ref qp, .int co, .int gi, .int aw, .int cg, .int bk, .ref qs, .ref ql, .ref qo, .int ax, .long wi]))] ∧ ZZ (va_A [(o, .inr (4, [.int cd, .int sc, .ref qm, .ref qd, .int ch, .int fe, .int sz, .int rd, .int ca, .int sx, .ref qp, .int co, .int gi, .int aw, .int cg, .int bk, .ref qs, .ref ql, .ref qo, .int ax, .long wi]))] zS) U U.heap)) (va_Qv (fun (u : Int32 × Int32) => match u with | (sx2, ca2) => sx2 = sx ||| 64 ∧ ca2 = ca ||| 2) (fun (u : Int32 × Int32) (t : State) => match u with | (sx2, ca2) => va_P (dC, dI) vwCl [(o, .inr (4, [.int cd, .int sc, .ref qm, .ref qd, .int ch, .int fe, .int sz, .int rd, .int ca2, .int sx2, .ref qp, .int co, .int gi, .int aw, .int cg, .int bk, .ref qs, .ref ql, .ref qo, .int ax, .long wi]))] t.heap ∧ va_K (dC, dI) vwCl [] t ∧ va_D (va_A [(o, .inr (4, [.int cd, .int sc, .ref qm, .ref qd, .int ch, .int fe, .int sz, .int rd, .int ca, .int sx, .ref qp, .int co, .int gi, .int aw, .int cg, .int bk, .ref qs, .ref ql, .ref qo, .int ax, .long wi]))] zS) [(o, .inr (4, [.int cd, .int sc, .ref qm, .ref qd, .int ch, .int fe, .int sz, .int rd, .int ca2, .int sx2, .ref qp, .int co, .int gi, .int aw, .int cg, .int bk, .ref qs, .ref ql, .ref qo, .int ax, .long wi]))]) (va_A [(o, .inr (4, [.int cd, .int sc, .ref qm, .ref qd, .int ch, .int fe, .int sz, .int rd, .int ca, .int sx, .ref qp, .int co, .int gi, .int aw, .int cg, .int bk, .ref qs, .ref ql, .ref qo, .int ax, .long wi]))] zS)) 0 0 (va_A [(o, .inr (4, [.int cd, .int sc, .ref qm, .ref qd, .int ch, .int fe, .int sz, .int rd, .int ca, .int sx, .ref qp, .int co, .int gi, .int aw, .int cg, .int bk, .ref qs, .ref ql, .ref qo, .int ax, .long wi]))] zS) := by
  refine Met.ofW (cc := cX4_breakDown) (maxL := 1) (ret := (none)) (by decide) rfl ?_
  intro p e s m args below meth c s₁ B hml hv
  obtain ⟨rfl, hsz, hP, hK, hD0, hZ⟩ := hv
  have hx := B.exec
  have hb := B.bytes
  have hr := B.returns
  have hts := atoms_spec (ws := wsX4_breakDown) B.pre
  have hw : ∀ w ∈ WW, w.before _ s = true := fun w h => hts w (List.mem_cons_of_mem _ h)
  have hown : s.vm.findClass RX4 = some m.cls := findClass_of_methodNamed B.named
  have hlocks := B.notSynchronized
  subst hsz
  have hD := hD0.self (sz := s.heap.size)
  generalize hAe : va_A [(o, .inr (4, [.int cd, .int sc, .ref qm, .ref qd, .int ch, .int fe, .int sz, .int rd, .int ca, .int sx, .ref qp, .int co, .int gi, .int aw, .int cg, .int bk, .ref qs, .ref ql, .ref qo, .int ax, .long wi]))] s.heap.size = A at hD hZ ⊢
  have hA : ∀ q : Nat, s.heap.size ≤ q → A q := fun q h => by rw [← hAe]; exact Or.inr h
  have hS : va_S A s.heap s.heap [] := va_S.rf
  have hP : va_P (dC, dI) vwCl [(o, .inr (4, [.int cd, .int sc, .ref qm, .ref qd, .int ch, .int fe, .int sz, .int rd, .int ca, .int sx, .ref qp, .int co, .int gi, .int aw, .int cg, .int bk, .ref qs, .ref ql, .ref qo, .int ax, .long wi]))] s.heap := hP
  have hl := lv_entry ([.ref o]) (n := 1) (Nat.le_of_ble_eq_true rfl)
  rw [lg_entry_eq]
  generalize (lg_sl ([.ref o]) ++ List.replicate (1 - (lg_sl ([.ref o])).length) Slot.unset).toArray = ls at hl ⊢
  have hl : lv_has ls 1 [(0, .ref o)] := hl
  refine lv_aload_n hx hb dX4_breakDown_0 rfl (lv_at hl 0 rfl) ?_
  refine lv_aload_n hx hb dX4_breakDown_1 rfl (lv_at hl 0 rfl) ?_
  refine va_get (D := (dC, dI)) (ci := 4) (v := .int sx) (C := RX4) (T := TX4) (N := 21) hx hb hw inX4 hown hK hP 0 rfl rfl 9 (by decide) (hw _ w_9ea0e1bdff) (fun _ h9 => h9) rfl dX4_breakDown_2 ?_
  refine lv_bipush (v := 64) hx hb dX4_breakDown_5 (by decide) ?_
  refine lv_ior hx hb dX4_breakDown_7 ?_
  refine lv_topi (fun x_1 ex_1 => ?_)
  refine va_put (D := (dC, dI)) (ci := 4) (v := .int x_1) (ty := .int) (C := RX4) (T := TX4) (N := 21) hx hb hw inX4 tyX4 tyX4_ok nmX4 hown hK hP hD hS 0 rfl rfl 9 (by decide) (hw _ w_9ea0e1bdff) (fun _ h9 => h9) rfl (by decide +kernel) rfl rfl (Nat.le_of_ble_eq_true rfl) dX4_breakDown_8 (fun H locs hP hD hS => ?_)
  have hP : va_P (dC, dI) vwCl [(o, .inr (4, [.int cd, .int sc, .ref qm, .ref qd, .int ch, .int fe, .int sz, .int rd, .int ca, .int x_1, .ref qp, .int co, .int gi, .int aw, .int cg, .int bk, .ref qs, .ref ql, .ref qo, .int ax, .long wi]))] H := hP
  have hD : va_D A [(o, .inr (4, [.int cd, .int sc, .ref qm, .ref qd, .int ch, .int fe, .int sz, .int rd, .int ca, .int x_1, .ref qp, .int co, .int gi, .int aw, .int cg, .int bk, .ref qs, .ref ql, .ref qo, .int ax, .long wi]))] := hD
  refine lv_aload_n hx hb dX4_breakDown_11 rfl (lv_at hl 0 rfl) ?_
  refine lv_aload_n hx hb dX4_breakDown_12 rfl (lv_at hl 0 rfl) ?_
  refine va_get (D := (dC, dI)) (ci := 4) (v := .int ca) (C := RX4) (T := TX4) (N := 21) hx hb hw inX4 hown hK hP 0 rfl rfl 8 (by decide) (hw _ w_a1dc28fbf8) (fun _ h9 => h9) rfl dX4_breakDown_13 ?_
  refine lv_iconst (v := 2) hx hb dX4_breakDown_16 (by decide) ?_
  refine lv_ior hx hb dX4_breakDown_17 ?_
  refine lv_topi (fun x_2 ex_2 => ?_)
  refine va_put (D := (dC, dI)) (ci := 4) (v := .int x_2) (ty := .int) (C := RX4) (T := TX4) (N := 21) hx hb hw inX4 tyX4 tyX4_ok nmX4 hown hK hP hD hS 0 rfl rfl 8 (by decide) (hw _ w_a1dc28fbf8) (fun _ h9 => h9) rfl (by decide +kernel) rfl rfl (Nat.le_of_ble_eq_true rfl) dX4_breakDown_18 (fun H locs hP hD hS => ?_)
  have hP : va_P (dC, dI) vwCl [(o, .inr (4, [.int cd, .int sc, .ref qm, .ref qd, .int ch, .int fe, .int sz, .int rd, .int x_2, .int x_1, .ref qp, .int co, .int gi, .int aw, .int cg, .int bk, .ref qs, .ref ql, .ref qo, .int ax, .long wi]))] H := hP
  have hD : va_D A [(o, .inr (4, [.int cd, .int sc, .ref qm, .ref qd, .int ch, .int fe, .int sz, .int rd, .int x_2, .int x_1, .ref qp, .int co, .int gi, .int aw, .int cg, .int bk, .ref qs, .ref ql, .ref qo, .int ax, .long wi]))] := hD
  have hP9 : va_P (dC, dI) vwCl [(o, .inr (4, [.int cd, .int sc, .ref qm, .ref qd, .int ch, .int fe, .int sz, .int rd, .int x_2, .int x_1, .ref qp, .int co, .int gi, .int aw, .int cg, .int bk, .ref qs, .ref ql, .ref qo, .int ax, .long wi]))] H := by exact hP.sub (ws' := [(o, .inr (4, [.int cd, .int sc, .ref qm, .ref qd, .int ch, .int fe, .int sz, .int rd, .int x_2, .int x_1, .ref qp, .int co, .int gi, .int aw, .int cg, .int bk, .ref qs, .ref ql, .ref qo, .int ax, .long wi]))]) [0] rfl
  have hD9 : va_D A [(o, .inr (4, [.int cd, .int sc, .ref qm, .ref qd, .int ch, .int fe, .int sz, .int rd, .int x_2, .int x_1, .ref qp, .int co, .int gi, .int aw, .int cg, .int bk, .ref qs, .ref ql, .ref qo, .int ax, .long wi]))] := by exact hD.sub (ws' := [(o, .inr (4, [.int cd, .int sc, .ref qm, .ref qd, .int ch, .int fe, .int sz, .int rd, .int x_2, .int x_1, .ref qp, .int co, .int gi, .int aw, .int cg, .int bk, .ref qs, .ref ql, .ref qo, .int ax, .long wi]))]) [0] (by decide) rfl
  have hK9 := hK.sub (tys' := []) [] rfl
  exact W.vret hx hb hr (fun t ht hW => ⟨⟨(x_1, x_2), rfl, ⟨ex_1, ex_2⟩, by rw [ht]; exact hP9, va_K.moved hW.alike hK9, hD9⟩, hS.F ht⟩) hS.2.2 dX4_breakDown_21
