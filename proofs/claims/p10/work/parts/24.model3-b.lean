set_option maxHeartbeats 4000000 in
set_option maxRecDepth 100000 in
/-- Model.begin -/
theorem m_begin (l : Launch) (dC : Nat → ClassId) (dI : Nat → Nat → Nat) (o : Nat) (cd : Int32) (sc : Int32) (qm : Nat) (qd : Nat) (ch : Int32) (fe : Int32) (sz : Int32) (rd : Int32) (ca : Int32) (sx : Int32) (qp : Nat) (co : Int32) (gi : Int32) (aw : Int32) (cg : Int32) (bk : Int32) (qs : Nat) (ql : Nat) (qo : Nat) (ax : Int32) (wi : Int64) (cJ : ClassId) (bl : Int64) (of : Int64) (an : Int64) (zS : Nat) : Met l yX4_begin wsX4_begin ({ frames := 0, cells := 0, slots := 0, locals := 0 }) (va_Pc [.ref o] (fun U => U.heap.size = zS ∧ va_P (dC, dI) vwCl [(o, .inr (4, [.int cd, .int sc, .ref qm, .ref qd, .int ch, .int fe, .int sz, .int rd, .int ca, .int sx, .ref qp, .int co, .int gi, .int aw, .int cg, .int bk, .ref qs, .ref ql, .ref qo, .int ax, .long wi])), (qp, .inl (cJ, 3, .inr (.inl (pl3 bl of an))))] U.heap ∧ va_K (dC, dI) vwCl [(cJ, .long)] U ∧ va_D (fun _ => True) [(o, .inr (4, [.int cd, .int sc, .ref qm, .ref qd, .int ch, .int fe, .int sz, .int rd, .int ca, .int sx, .ref qp, .int co, .int gi, .int aw, .int cg, .int bk, .ref qs, .ref ql, .ref qo, .int ax, .long wi])), (qp, .inl (cJ, 3, .inr (.inl (pl3 bl of an))))] ∧ ZZ (va_A [(o, .inr (4, [.int cd, .int sc, .ref qm, .ref qd, .int ch, .int fe, .int sz, .int rd, .int ca, .int sx, .ref qp, .int co, .int gi, .int aw, .int cg, .int bk, .ref qs, .ref ql, .ref qo, .int ax, .long wi])), (qp, .inl (cJ, 3, .inr (.inl (pl3 bl of an))))] zS) U U.heap)) (va_Qv (fun (_ : Unit) => True) (fun (_ : Unit) (t : State) => va_P (dC, dI) vwCl [(o, .inr (4, [.int cd, .int sc, .ref qm, .ref qd, .int 0, .int 0, .int 16, .int 0, .int 0, .int 0, .ref qp, .int 0, .int 0, .int aw, .int cg, .int bk, .ref qs, .ref ql, .ref qo, .int ax, .long wi])), (qp, .inl (cJ, 3, .inr (.inl (pl3 0 0 0))))] t.heap ∧ va_K (dC, dI) vwCl [(cJ, .long)] t ∧ va_D (va_A [(o, .inr (4, [.int cd, .int sc, .ref qm, .ref qd, .int ch, .int fe, .int sz, .int rd, .int ca, .int sx, .ref qp, .int co, .int gi, .int aw, .int cg, .int bk, .ref qs, .ref ql, .ref qo, .int ax, .long wi])), (qp, .inl (cJ, 3, .inr (.inl (pl3 bl of an))))] zS) [(o, .inr (4, [.int cd, .int sc, .ref qm, .ref qd, .int 0, .int 0, .int 16, .int 0, .int 0, .int 0, .ref qp, .int 0, .int 0, .int aw, .int cg, .int bk, .ref qs, .ref ql, .ref qo, .int ax, .long wi])), (qp, .inl (cJ, 3, .inr (.inl (pl3 0 0 0))))]) (va_A [(o, .inr (4, [.int cd, .int sc, .ref qm, .ref qd, .int ch, .int fe, .int sz, .int rd, .int ca, .int sx, .ref qp, .int co, .int gi, .int aw, .int cg, .int bk, .ref qs, .ref ql, .ref qo, .int ax, .long wi])), (qp, .inl (cJ, 3, .inr (.inl (pl3 bl of an))))] zS)) 0 0 (va_A [(o, .inr (4, [.int cd, .int sc, .ref qm, .ref qd, .int ch, .int fe, .int sz, .int rd, .int ca, .int sx, .ref qp, .int co, .int gi, .int aw, .int cg, .int bk, .ref qs, .ref ql, .ref qo, .int ax, .long wi])), (qp, .inl (cJ, 3, .inr (.inl (pl3 bl of an))))] zS) := by
  refine Met.ofW (cc := cX4_begin) (maxL := 2) (ret := (none)) (by decide) rfl ?_
  intro p e s m args below meth c s₁ B hml hv
  obtain ⟨rfl, hsz, hP, hK, hD0, hZ⟩ := hv
  have hx := B.exec
  have hb := B.bytes
  have hr := B.returns
  have hts := atoms_spec (ws := wsX4_begin) B.pre
  have hw : ∀ w ∈ WW, w.before _ s = true := fun w h => hts w (List.mem_cons_of_mem _ h)
  have hown : s.vm.findClass RX4 = some m.cls := findClass_of_methodNamed B.named
  have hlocks := B.notSynchronized
  subst hsz
  have hD := hD0.self (sz := s.heap.size)
  generalize hAe : va_A [(o, .inr (4, [.int cd, .int sc, .ref qm, .ref qd, .int ch, .int fe, .int sz, .int rd, .int ca, .int sx, .ref qp, .int co, .int gi, .int aw, .int cg, .int bk, .ref qs, .ref ql, .ref qo, .int ax, .long wi])), (qp, .inl (cJ, 3, .inr (.inl (pl3 bl of an))))] s.heap.size = A at hD hZ ⊢
  have hA : ∀ q : Nat, s.heap.size ≤ q → A q := fun q h => by rw [← hAe]; exact Or.inr h
  have hS : va_S A s.heap s.heap [] := va_S.rf
  have hP : va_P (dC, dI) vwCl [(o, .inr (4, [.int cd, .int sc, .ref qm, .ref qd, .int ch, .int fe, .int sz, .int rd, .int ca, .int sx, .ref qp, .int co, .int gi, .int aw, .int cg, .int bk, .ref qs, .ref ql, .ref qo, .int ax, .long wi])), (qp, .inl (cJ, 3, .inr (.inl (pl3 bl of an))))] s.heap := hP
  have hl := lv_entry ([.ref o]) (n := 2) (Nat.le_of_ble_eq_true rfl)
  rw [lg_entry_eq]
  generalize (lg_sl ([.ref o]) ++ List.replicate (2 - (lg_sl ([.ref o])).length) Slot.unset).toArray = ls at hl ⊢
  have hl : lv_has ls 2 [(0, .ref o)] := hl
  refine lv_aload_n hx hb dX4_begin_0 rfl (lv_at hl 0 rfl) ?_
  refine lv_iconst (v := 0) hx hb dX4_begin_1 (by decide) ?_
  refine va_put (D := (dC, dI)) (ci := 4) (v := .int 0) (ty := .int) (C := RX4) (T := TX4) (N := 21) hx hb hw inX4 tyX4 tyX4_ok nmX4 hown hK hP hD hS 0 rfl rfl 4 (by decide) (hw _ w_2d850835ef) (fun _ h9 => h9) rfl (by decide +kernel) rfl rfl (Nat.le_of_ble_eq_true rfl) dX4_begin_2 (fun H locs hP hD hS => ?_)
  have hP : va_P (dC, dI) vwCl [(o, .inr (4, [.int cd, .int sc, .ref qm, .ref qd, .int 0, .int fe, .int sz, .int rd, .int ca, .int sx, .ref qp, .int co, .int gi, .int aw, .int cg, .int bk, .ref qs, .ref ql, .ref qo, .int ax, .long wi])), (qp, .inl (cJ, 3, .inr (.inl (pl3 bl of an))))] H := hP
  have hD : va_D A [(o, .inr (4, [.int cd, .int sc, .ref qm, .ref qd, .int 0, .int fe, .int sz, .int rd, .int ca, .int sx, .ref qp, .int co, .int gi, .int aw, .int cg, .int bk, .ref qs, .ref ql, .ref qo, .int ax, .long wi])), (qp, .inl (cJ, 3, .inr (.inl (pl3 bl of an))))] := hD
  refine lv_aload_n hx hb dX4_begin_5 rfl (lv_at hl 0 rfl) ?_
  refine lv_iconst (v := 0) hx hb dX4_begin_6 (by decide) ?_
  refine va_put (D := (dC, dI)) (ci := 4) (v := .int 0) (ty := .int) (C := RX4) (T := TX4) (N := 21) hx hb hw inX4 tyX4 tyX4_ok nmX4 hown hK hP hD hS 0 rfl rfl 5 (by decide) (hw _ w_deb3b8cc9d) (fun _ h9 => h9) rfl (by decide +kernel) rfl rfl (Nat.le_of_ble_eq_true rfl) dX4_begin_7 (fun H locs hP hD hS => ?_)
  have hP : va_P (dC, dI) vwCl [(o, .inr (4, [.int cd, .int sc, .ref qm, .ref qd, .int 0, .int 0, .int sz, .int rd, .int ca, .int sx, .ref qp, .int co, .int gi, .int aw, .int cg, .int bk, .ref qs, .ref ql, .ref qo, .int ax, .long wi])), (qp, .inl (cJ, 3, .inr (.inl (pl3 bl of an))))] H := hP
  have hD : va_D A [(o, .inr (4, [.int cd, .int sc, .ref qm, .ref qd, .int 0, .int 0, .int sz, .int rd, .int ca, .int sx, .ref qp, .int co, .int gi, .int aw, .int cg, .int bk, .ref qs, .ref ql, .ref qo, .int ax, .long wi])), (qp, .inl (cJ, 3, .inr (.inl (pl3 bl of an))))] := hD
  refine lv_aload_n hx hb dX4_begin_10 rfl (lv_at hl 0 rfl) ?_
  refine lv_bipush (v := 16) hx hb dX4_begin_11 (by decide) ?_
  refine va_put (D := (dC, dI)) (ci := 4) (v := .int 16) (ty := .int) (C := RX4) (T := TX4) (N := 21) hx hb hw inX4 tyX4 tyX4_ok nmX4 hown hK hP hD hS 0 rfl rfl 6 (by decide) (hw _ w_19a341c1eb) (fun _ h9 => h9) rfl (by decide +kernel) rfl rfl (Nat.le_of_ble_eq_true rfl) dX4_begin_13 (fun H locs hP hD hS => ?_)
  have hP : va_P (dC, dI) vwCl [(o, .inr (4, [.int cd, .int sc, .ref qm, .ref qd, .int 0, .int 0, .int 16, .int rd, .int ca, .int sx, .ref qp, .int co, .int gi, .int aw, .int cg, .int bk, .ref qs, .ref ql, .ref qo, .int ax, .long wi])), (qp, .inl (cJ, 3, .inr (.inl (pl3 bl of an))))] H := hP
  have hD : va_D A [(o, .inr (4, [.int cd, .int sc, .ref qm, .ref qd, .int 0, .int 0, .int 16, .int rd, .int ca, .int sx, .ref qp, .int co, .int gi, .int aw, .int cg, .int bk, .ref qs, .ref ql, .ref qo, .int ax, .long wi])), (qp, .inl (cJ, 3, .inr (.inl (pl3 bl of an))))] := hD
  refine lv_aload_n hx hb dX4_begin_16 rfl (lv_at hl 0 rfl) ?_
  refine lv_iconst (v := 0) hx hb dX4_begin_17 (by decide) ?_
  refine va_put (D := (dC, dI)) (ci := 4) (v := .int 0) (ty := .boolean) (C := RX4) (T := TX4) (N := 21) hx hb hw inX4 tyX4 tyX4_ok nmX4 hown hK hP hD hS 0 rfl rfl 7 (by decide) (hw _ w_c01c73850f) (fun _ h9 => h9) rfl (by decide +kernel) rfl rfl (Nat.le_of_ble_eq_true rfl) dX4_begin_18 (fun H locs hP hD hS => ?_)
  have hP : va_P (dC, dI) vwCl [(o, .inr (4, [.int cd, .int sc, .ref qm, .ref qd, .int 0, .int 0, .int 16, .int 0, .int ca, .int sx, .ref qp, .int co, .int gi, .int aw, .int cg, .int bk, .ref qs, .ref ql, .ref qo, .int ax, .long wi])), (qp, .inl (cJ, 3, .inr (.inl (pl3 bl of an))))] H := hP
  have hD : va_D A [(o, .inr (4, [.int cd, .int sc, .ref qm, .ref qd, .int 0, .int 0, .int 16, .int 0, .int ca, .int sx, .ref qp, .int co, .int gi, .int aw, .int cg, .int bk, .ref qs, .ref ql, .ref qo, .int ax, .long wi])), (qp, .inl (cJ, 3, .inr (.inl (pl3 bl of an))))] := hD
  refine lv_aload_n hx hb dX4_begin_21 rfl (lv_at hl 0 rfl) ?_
  refine lv_iconst (v := 0) hx hb dX4_begin_22 (by decide) ?_
  refine va_put (D := (dC, dI)) (ci := 4) (v := .int 0) (ty := .int) (C := RX4) (T := TX4) (N := 21) hx hb hw inX4 tyX4 tyX4_ok nmX4 hown hK hP hD hS 0 rfl rfl 8 (by decide) (hw _ w_a1dc28fbf8) (fun _ h9 => h9) rfl (by decide +kernel) rfl rfl (Nat.le_of_ble_eq_true rfl) dX4_begin_23 (fun H locs hP hD hS => ?_)
  have hP : va_P (dC, dI) vwCl [(o, .inr (4, [.int cd, .int sc, .ref qm, .ref qd, .int 0, .int 0, .int 16, .int 0, .int 0, .int sx, .ref qp, .int co, .int gi, .int aw, .int cg, .int bk, .ref qs, .ref ql, .ref qo, .int ax, .long wi])), (qp, .inl (cJ, 3, .inr (.inl (pl3 bl of an))))] H := hP
  have hD : va_D A [(o, .inr (4, [.int cd, .int sc, .ref qm, .ref qd, .int 0, .int 0, .int 16, .int 0, .int 0, .int sx, .ref qp, .int co, .int gi, .int aw, .int cg, .int bk, .ref qs, .ref ql, .ref qo, .int ax, .long wi])), (qp, .inl (cJ, 3, .inr (.inl (pl3 bl of an))))] := hD
  refine lv_aload_n hx hb dX4_begin_26 rfl (lv_at hl 0 rfl) ?_
  refine lv_iconst (v := 0) hx hb dX4_begin_27 (by decide) ?_
  refine va_put (D := (dC, dI)) (ci := 4) (v := .int 0) (ty := .int) (C := RX4) (T := TX4) (N := 21) hx hb hw inX4 tyX4 tyX4_ok nmX4 hown hK hP hD hS 0 rfl rfl 9 (by decide) (hw _ w_9ea0e1bdff) (fun _ h9 => h9) rfl (by decide +kernel) rfl rfl (Nat.le_of_ble_eq_true rfl) dX4_begin_28 (fun H locs hP hD hS => ?_)
  have hP : va_P (dC, dI) vwCl [(o, .inr (4, [.int cd, .int sc, .ref qm, .ref qd, .int 0, .int 0, .int 16, .int 0, .int 0, .int 0, .ref qp, .int co, .int gi, .int aw, .int cg, .int bk, .ref qs, .ref ql, .ref qo, .int ax, .long wi])), (qp, .inl (cJ, 3, .inr (.inl (pl3 bl of an))))] H := hP
  have hD : va_D A [(o, .inr (4, [.int cd, .int sc, .ref qm, .ref qd, .int 0, .int 0, .int 16, .int 0, .int 0, .int 0, .ref qp, .int co, .int gi, .int aw, .int cg, .int bk, .ref qs, .ref ql, .ref qo, .int ax, .long wi])), (qp, .inl (cJ, 3, .inr (.inl (pl3 bl of an))))] := hD
  refine lv_iconst (v := 0) hx hb dX4_begin_31 (by decide) ?_
  refine lv_istore_n (lv' := [(1, .int 0), (0, .ref o)]) hx hb dX4_begin_32 rfl hl (by decide) rfl (fun ls hl => ?_)
  refine lv_iload_n hx hb dX4_begin_33 rfl (lv_at hl 0 rfl) ?_
  refine lv_iconst (v := 3) hx hb dX4_begin_34 (by decide) ?_
  refine lv_icmp_ge (tgt := 51) hx hb dX4_begin_35 (by decide) (fun c_1 => ?_) (fun c_1 => ?_)
  · skip
    exact absurd c_1 (by decide)
  · skip
    refine lv_aload_n hx hb dX4_begin_38 rfl (lv_at hl 1 rfl) ?_
    refine va_get (D := (dC, dI)) (ci := 4) (v := .ref qp) (C := RX4) (T := TX4) (N := 21) hx hb hw inX4 hown hK hP 0 rfl rfl 10 (by decide) (hw _ w_bc7cda3a3d) (fun _ h9 => h9) rfl dX4_begin_39 ?_
    refine lv_iload_n hx hb dX4_begin_42 rfl (lv_at hl 0 rfl) ?_
    refine lv_lconst (v := 0) hx hb dX4_begin_43 (by decide) ?_
    refine va_last hx hb hK hP hD hS 1 0 rfl rfl (vp_in_iff.mpr (by decide)) dX4_begin_44 (fun H locs hP hD hS => ?_)
    have hP : va_P (dC, dI) vwCl [(o, .inr (4, [.int cd, .int sc, .ref qm, .ref qd, .int 0, .int 0, .int 16, .int 0, .int 0, .int 0, .ref qp, .int co, .int gi, .int aw, .int cg, .int bk, .ref qs, .ref ql, .ref qo, .int ax, .long wi])), (qp, .inl (cJ, 3, .inr (.inl (vp_updL (pl3 bl of an) (0 : Int32).toNatClampNeg 0))))] H := hP
    have hD : va_D A [(o, .inr (4, [.int cd, .int sc, .ref qm, .ref qd, .int 0, .int 0, .int 16, .int 0, .int 0, .int 0, .ref qp, .int co, .int gi, .int aw, .int cg, .int bk, .ref qs, .ref ql, .ref qo, .int ax, .long wi])), (qp, .inl (cJ, 3, .inr (.inl (vp_updL (pl3 bl of an) (0 : Int32).toNatClampNeg 0))))] := hD
    have ep_2 : vp_updL (pl3 bl of an) (0 : Int32).toNatClampNeg 0 = pl3 0 of an := pl3_0 _ _ _ _
    rw [ep_2] at hP hD
    have hP : va_P (dC, dI) vwCl [(o, .inr (4, [.int cd, .int sc, .ref qm, .ref qd, .int 0, .int 0, .int 16, .int 0, .int 0, .int 0, .ref qp, .int co, .int gi, .int aw, .int cg, .int bk, .ref qs, .ref ql, .ref qo, .int ax, .long wi])), (qp, .inl (cJ, 3, .inr (.inl (pl3 0 of an))))] H := hP
    have hD : va_D A [(o, .inr (4, [.int cd, .int sc, .ref qm, .ref qd, .int 0, .int 0, .int 16, .int 0, .int 0, .int 0, .ref qp, .int co, .int gi, .int aw, .int cg, .int bk, .ref qs, .ref ql, .ref qo, .int ax, .long wi])), (qp, .inl (cJ, 3, .inr (.inl (pl3 0 of an))))] := hD
    refine lv_iinc (v := 1) (lv' := [(1, .int 1), (0, .ref o)]) hx hb dX4_begin_45 hl (k := 0) rfl (by decide) (by decide) rfl (fun ls hl => ?_)
    refine lv_goto (tgt := 33) hx hb dX4_begin_48 (by decide) ?_
    refine lv_iload_n hx hb dX4_begin_33 rfl (lv_at hl 0 rfl) ?_
    refine lv_iconst (v := 3) hx hb dX4_begin_34 (by decide) ?_
    refine lv_icmp_ge (tgt := 51) hx hb dX4_begin_35 (by decide) (fun c_3 => ?_) (fun c_3 => ?_)
    · skip
      exact absurd c_3 (by decide)
    · skip
      refine lv_aload_n hx hb dX4_begin_38 rfl (lv_at hl 1 rfl) ?_
      refine va_get (D := (dC, dI)) (ci := 4) (v := .ref qp) (C := RX4) (T := TX4) (N := 21) hx hb hw inX4 hown hK hP 0 rfl rfl 10 (by decide) (hw _ w_bc7cda3a3d) (fun _ h9 => h9) rfl dX4_begin_39 ?_
      refine lv_iload_n hx hb dX4_begin_42 rfl (lv_at hl 0 rfl) ?_
      refine lv_lconst (v := 0) hx hb dX4_begin_43 (by decide) ?_
      refine va_last hx hb hK hP hD hS 1 0 rfl rfl (vp_in_iff.mpr (by decide)) dX4_begin_44 (fun H locs hP hD hS => ?_)
      have hP : va_P (dC, dI) vwCl [(o, .inr (4, [.int cd, .int sc, .ref qm, .ref qd, .int 0, .int 0, .int 16, .int 0, .int 0, .int 0, .ref qp, .int co, .int gi, .int aw, .int cg, .int bk, .ref qs, .ref ql, .ref qo, .int ax, .long wi])), (qp, .inl (cJ, 3, .inr (.inl (vp_updL (pl3 0 of an) (1 : Int32).toNatClampNeg 0))))] H := hP
      have hD : va_D A [(o, .inr (4, [.int cd, .int sc, .ref qm, .ref qd, .int 0, .int 0, .int 16, .int 0, .int 0, .int 0, .ref qp, .int co, .int gi, .int aw, .int cg, .int bk, .ref qs, .ref ql, .ref qo, .int ax, .long wi])), (qp, .inl (cJ, 3, .inr (.inl (vp_updL (pl3 0 of an) (1 : Int32).toNatClampNeg 0))))] := hD
      have ep_4 : vp_updL (pl3 0 of an) (1 : Int32).toNatClampNeg 0 = pl3 0 0 an := pl3_1 _ _ _ _
      rw [ep_4] at hP hD
      have hP : va_P (dC, dI) vwCl [(o, .inr (4, [.int cd, .int sc, .ref qm, .ref qd, .int 0, .int 0, .int 16, .int 0, .int 0, .int 0, .ref qp, .int co, .int gi, .int aw, .int cg, .int bk, .ref qs, .ref ql, .ref qo, .int ax, .long wi])), (qp, .inl (cJ, 3, .inr (.inl (pl3 0 0 an))))] H := hP
      have hD : va_D A [(o, .inr (4, [.int cd, .int sc, .ref qm, .ref qd, .int 0, .int 0, .int 16, .int 0, .int 0, .int 0, .ref qp, .int co, .int gi, .int aw, .int cg, .int bk, .ref qs, .ref ql, .ref qo, .int ax, .long wi])), (qp, .inl (cJ, 3, .inr (.inl (pl3 0 0 an))))] := hD
      refine lv_iinc (v := 2) (lv' := [(1, .int 2), (0, .ref o)]) hx hb dX4_begin_45 hl (k := 0) rfl (by decide) (by decide) rfl (fun ls hl => ?_)
      refine lv_goto (tgt := 33) hx hb dX4_begin_48 (by decide) ?_
      refine lv_iload_n hx hb dX4_begin_33 rfl (lv_at hl 0 rfl) ?_
      refine lv_iconst (v := 3) hx hb dX4_begin_34 (by decide) ?_
      refine lv_icmp_ge (tgt := 51) hx hb dX4_begin_35 (by decide) (fun c_5 => ?_) (fun c_5 => ?_)
      · skip
        exact absurd c_5 (by decide)
      · skip
        refine lv_aload_n hx hb dX4_begin_38 rfl (lv_at hl 1 rfl) ?_
        refine va_get (D := (dC, dI)) (ci := 4) (v := .ref qp) (C := RX4) (T := TX4) (N := 21) hx hb hw inX4 hown hK hP 0 rfl rfl 10 (by decide) (hw _ w_bc7cda3a3d) (fun _ h9 => h9) rfl dX4_begin_39 ?_
        refine lv_iload_n hx hb dX4_begin_42 rfl (lv_at hl 0 rfl) ?_
        refine lv_lconst (v := 0) hx hb dX4_begin_43 (by decide) ?_
        refine va_last hx hb hK hP hD hS 1 0 rfl rfl (vp_in_iff.mpr (by decide)) dX4_begin_44 (fun H locs hP hD hS => ?_)
        have hP : va_P (dC, dI) vwCl [(o, .inr (4, [.int cd, .int sc, .ref qm, .ref qd, .int 0, .int 0, .int 16, .int 0, .int 0, .int 0, .ref qp, .int co, .int gi, .int aw, .int cg, .int bk, .ref qs, .ref ql, .ref qo, .int ax, .long wi])), (qp, .inl (cJ, 3, .inr (.inl (vp_updL (pl3 0 0 an) (2 : Int32).toNatClampNeg 0))))] H := hP
        have hD : va_D A [(o, .inr (4, [.int cd, .int sc, .ref qm, .ref qd, .int 0, .int 0, .int 16, .int 0, .int 0, .int 0, .ref qp, .int co, .int gi, .int aw, .int cg, .int bk, .ref qs, .ref ql, .ref qo, .int ax, .long wi])), (qp, .inl (cJ, 3, .inr (.inl (vp_updL (pl3 0 0 an) (2 : Int32).toNatClampNeg 0))))] := hD
        have ep_6 : vp_updL (pl3 0 0 an) (2 : Int32).toNatClampNeg 0 = pl3 0 0 0 := pl3_2 _ _ _ _
        rw [ep_6] at hP hD
        have hP : va_P (dC, dI) vwCl [(o, .inr (4, [.int cd, .int sc, .ref qm, .ref qd, .int 0, .int 0, .int 16, .int 0, .int 0, .int 0, .ref qp, .int co, .int gi, .int aw, .int cg, .int bk, .ref qs, .ref ql, .ref qo, .int ax, .long wi])), (qp, .inl (cJ, 3, .inr (.inl (pl3 0 0 0))))] H := hP
        have hD : va_D A [(o, .inr (4, [.int cd, .int sc, .ref qm, .ref qd, .int 0, .int 0, .int 16, .int 0, .int 0, .int 0, .ref qp, .int co, .int gi, .int aw, .int cg, .int bk, .ref qs, .ref ql, .ref qo, .int ax, .long wi])), (qp, .inl (cJ, 3, .inr (.inl (pl3 0 0 0))))] := hD
        refine lv_iinc (v := 3) (lv' := [(1, .int 3), (0, .ref o)]) hx hb dX4_begin_45 hl (k := 0) rfl (by decide) (by decide) rfl (fun ls hl => ?_)
        refine lv_goto (tgt := 33) hx hb dX4_begin_48 (by decide) ?_
        refine lv_iload_n hx hb dX4_begin_33 rfl (lv_at hl 0 rfl) ?_
        refine lv_iconst (v := 3) hx hb dX4_begin_34 (by decide) ?_
        refine lv_icmp_ge (tgt := 51) hx hb dX4_begin_35 (by decide) (fun c_7 => ?_) (fun c_7 => ?_)
        · skip
          refine lv_aload_n hx hb dX4_begin_51 rfl (lv_at hl 1 rfl) ?_
          refine lv_iconst (v := 0) hx hb dX4_begin_52 (by decide) ?_
          refine va_put (D := (dC, dI)) (ci := 4) (v := .int 0) (ty := .int) (C := RX4) (T := TX4) (N := 21) hx hb hw inX4 tyX4 tyX4_ok nmX4 hown hK hP hD hS 0 rfl rfl 11 (by decide) (hw _ w_a76c363659) (fun _ h9 => h9) rfl (by decide +kernel) rfl rfl (Nat.le_of_ble_eq_true rfl) dX4_begin_53 (fun H locs hP hD hS => ?_)
          have hP : va_P (dC, dI) vwCl [(o, .inr (4, [.int cd, .int sc, .ref qm, .ref qd, .int 0, .int 0, .int 16, .int 0, .int 0, .int 0, .ref qp, .int 0, .int gi, .int aw, .int cg, .int bk, .ref qs, .ref ql, .ref qo, .int ax, .long wi])), (qp, .inl (cJ, 3, .inr (.inl (pl3 0 0 0))))] H := hP
          have hD : va_D A [(o, .inr (4, [.int cd, .int sc, .ref qm, .ref qd, .int 0, .int 0, .int 16, .int 0, .int 0, .int 0, .ref qp, .int 0, .int gi, .int aw, .int cg, .int bk, .ref qs, .ref ql, .ref qo, .int ax, .long wi])), (qp, .inl (cJ, 3, .inr (.inl (pl3 0 0 0))))] := hD
          refine lv_aload_n hx hb dX4_begin_56 rfl (lv_at hl 1 rfl) ?_
          refine lv_iconst (v := 0) hx hb dX4_begin_57 (by decide) ?_
          refine va_put (D := (dC, dI)) (ci := 4) (v := .int 0) (ty := .int) (C := RX4) (T := TX4) (N := 21) hx hb hw inX4 tyX4 tyX4_ok nmX4 hown hK hP hD hS 0 rfl rfl 12 (by decide) (hw _ w_cff07fab1a) (fun _ h9 => h9) rfl (by decide +kernel) rfl rfl (Nat.le_of_ble_eq_true rfl) dX4_begin_58 (fun H locs hP hD hS => ?_)
          have hP : va_P (dC, dI) vwCl [(o, .inr (4, [.int cd, .int sc, .ref qm, .ref qd, .int 0, .int 0, .int 16, .int 0, .int 0, .int 0, .ref qp, .int 0, .int 0, .int aw, .int cg, .int bk, .ref qs, .ref ql, .ref qo, .int ax, .long wi])), (qp, .inl (cJ, 3, .inr (.inl (pl3 0 0 0))))] H := hP
          have hD : va_D A [(o, .inr (4, [.int cd, .int sc, .ref qm, .ref qd, .int 0, .int 0, .int 16, .int 0, .int 0, .int 0, .ref qp, .int 0, .int 0, .int aw, .int cg, .int bk, .ref qs, .ref ql, .ref qo, .int ax, .long wi])), (qp, .inl (cJ, 3, .inr (.inl (pl3 0 0 0))))] := hD
          have hP9 : va_P (dC, dI) vwCl [(o, .inr (4, [.int cd, .int sc, .ref qm, .ref qd, .int 0, .int 0, .int 16, .int 0, .int 0, .int 0, .ref qp, .int 0, .int 0, .int aw, .int cg, .int bk, .ref qs, .ref ql, .ref qo, .int ax, .long wi])), (qp, .inl (cJ, 3, .inr (.inl (pl3 0 0 0))))] H := by exact hP.sub (ws' := [(o, .inr (4, [.int cd, .int sc, .ref qm, .ref qd, .int 0, .int 0, .int 16, .int 0, .int 0, .int 0, .ref qp, .int 0, .int 0, .int aw, .int cg, .int bk, .ref qs, .ref ql, .ref qo, .int ax, .long wi])), (qp, .inl (cJ, 3, .inr (.inl (pl3 0 0 0))))]) [0, 1] rfl
          have hD9 : va_D A [(o, .inr (4, [.int cd, .int sc, .ref qm, .ref qd, .int 0, .int 0, .int 16, .int 0, .int 0, .int 0, .ref qp, .int 0, .int 0, .int aw, .int cg, .int bk, .ref qs, .ref ql, .ref qo, .int ax, .long wi])), (qp, .inl (cJ, 3, .inr (.inl (pl3 0 0 0))))] := by exact hD.sub (ws' := [(o, .inr (4, [.int cd, .int sc, .ref qm, .ref qd, .int 0, .int 0, .int 16, .int 0, .int 0, .int 0, .ref qp, .int 0, .int 0, .int aw, .int cg, .int bk, .ref qs, .ref ql, .ref qo, .int ax, .long wi])), (qp, .inl (cJ, 3, .inr (.inl (pl3 0 0 0))))]) [0, 1] (by decide) rfl
          have hK9 := hK.sub (tys' := [(cJ, .long)]) [0] rfl
          exact W.vret hx hb hr (fun t ht hW => ⟨⟨(), rfl, trivial, by rw [ht]; exact hP9, va_K.moved hW.alike hK9, hD9⟩, hS.F ht⟩) hS.2.2 dX4_begin_61
        · skip
          exact absurd c_7 (by decide)
set_option maxHeartbeats 4000000 in
set_option maxRecDepth 100000 in
/-- Model.setQueue -/
theorem m_setQueue (l : Launch) (dC : Nat → ClassId) (dI : Nat → Nat → Nat) (o : Nat) (cd : Int32) (sc : Int32) (qm : Nat) (qd : Nat) (ch : Int32) (fe : Int32) (sz : Int32) (rd : Int32) (ca : Int32) (sx : Int32) (qp : Nat) (co : Int32) (gi : Int32) (aw : Int32) (cg : Int32) (bk : Int32) (qs : Nat) (ql : Nat) (qo : Nat) (ax : Int32) (wi : Int64) (cJ : ClassId) (bl : Int64) (of : Int64) (an : Int64) (x : Int32) (v : Int32) (zS : Nat) (hx8 : x = 56 ∨ x = 68 ∨ x = 128 ∨ x = 132 ∨ x = 144 ∨ x = 148 ∨ x = 160 ∨ x = 164) : Met l yX4_setQueue wsX4_setQueue ({ frames := 0, cells := 0, slots := 0, locals := 0 }) (va_Pc [.ref o, .int x, .int v] (fun U => U.heap.size = zS ∧ va_P (dC, dI) vwCl [(o, .inr (4, [.int cd, .int sc, .ref qm, .ref qd, .int ch, .int fe, .int sz, .int rd, .int ca, .int sx, .ref qp, .int co, .int gi, .int aw, .int cg, .int bk, .ref qs, .ref ql, .ref qo, .int ax, .long wi])), (qp, .inl (cJ, 3, .inr (.inl (pl3 bl of an))))] U.heap ∧ va_K (dC, dI) vwCl [(cJ, .long)] U ∧ va_D (fun _ => True) [(o, .inr (4, [.int cd, .int sc, .ref qm, .ref qd, .int ch, .int fe, .int sz, .int rd, .int ca, .int sx, .ref qp, .int co, .int gi, .int aw, .int cg, .int bk, .ref qs, .ref ql, .ref qo, .int ax, .long wi])), (qp, .inl (cJ, 3, .inr (.inl (pl3 bl of an))))] ∧ ZZ (va_A [(o, .inr (4, [.int cd, .int sc, .ref qm, .ref qd, .int ch, .int fe, .int sz, .int rd, .int ca, .int sx, .ref qp, .int co, .int gi, .int aw, .int cg, .int bk, .ref qs, .ref ql, .ref qo, .int ax, .long wi])), (qp, .inl (cJ, 3, .inr (.inl (pl3 bl of an))))] zS) U U.heap)) (va_Qv (fun (u : Int32 × Int32 × Int64 × Int64 × Int64) => match u with | (sz2, rd2, bl2, of2, an2) => (sz2, rd2, bl2, of2, an2) = qSet x v ch sz rd bl of an) (fun (u : Int32 × Int32 × Int64 × Int64 × Int64) (t : State) => match u with | (sz2, rd2, bl2, of2, an2) => va_P (dC, dI) vwCl [(o, .inr (4, [.int cd, .int sc, .ref qm, .ref qd, .int ch, .int fe, .int sz2, .int rd2, .int ca, .int sx, .ref qp, .int co, .int gi, .int aw, .int cg, .int bk, .ref qs, .ref ql, .ref qo, .int ax, .long wi])), (qp, .inl (cJ, 3, .inr (.inl (pl3 bl2 of2 an2))))] t.heap ∧ va_K (dC, dI) vwCl [(cJ, .long)] t ∧ va_D (va_A [(o, .inr (4, [.int cd, .int sc, .ref qm, .ref qd, .int ch, .int fe, .int sz, .int rd, .int ca, .int sx, .ref qp, .int co, .int gi, .int aw, .int cg, .int bk, .ref qs, .ref ql, .ref qo, .int ax, .long wi])), (qp, .inl (cJ, 3, .inr (.inl (pl3 bl of an))))] zS) [(o, .inr (4, [.int cd, .int sc, .ref qm, .ref qd, .int ch, .int fe, .int sz2, .int rd2, .int ca, .int sx, .ref qp, .int co, .int gi, .int aw, .int cg, .int bk, .ref qs, .ref ql, .ref qo, .int ax, .long wi])), (qp, .inl (cJ, 3, .inr (.inl (pl3 bl2 of2 an2))))]) (va_A [(o, .inr (4, [.int cd, .int sc, .ref qm, .ref qd, .int ch, .int fe, .int sz, .int rd, .int ca, .int sx, .ref qp, .int co, .int gi, .int aw, .int cg, .int bk, .ref qs, .ref ql, .ref qo, .int ax, .long wi])), (qp, .inl (cJ, 3, .inr (.inl (pl3 bl of an))))] zS)) 0 0 (va_A [(o, .inr (4, [.int cd, .int sc, .ref qm, .ref qd, .int ch, .int fe, .int sz, .int rd, .int ca, .int sx, .ref qp, .int co, .int gi, .int aw, .int cg, .int bk, .ref qs, .ref ql, .ref qo, .int ax, .long wi])), (qp, .inl (cJ, 3, .inr (.inl (pl3 bl of an))))] zS) := by
  refine Met.ofW (cc := cX4_setQueue) (maxL := 8) (ret := (none)) (by decide) rfl ?_
  intro p e s m args below meth c s₁ B hml hv
  obtain ⟨rfl, hsz, hP, hK, hD0, hZ⟩ := hv
  have hx := B.exec
  have hb := B.bytes
  have hr := B.returns
  have hts := atoms_spec (ws := wsX4_setQueue) B.pre
  have hw : ∀ w ∈ WW, w.before _ s = true := fun w h => hts w (List.mem_cons_of_mem _ h)
  have hown : s.vm.findClass RX4 = some m.cls := findClass_of_methodNamed B.named
  have hlocks := B.notSynchronized
  subst hsz
  have hD := hD0.self (sz := s.heap.size)
  generalize hAe : va_A [(o, .inr (4, [.int cd, .int sc, .ref qm, .ref qd, .int ch, .int fe, .int sz, .int rd, .int ca, .int sx, .ref qp, .int co, .int gi, .int aw, .int cg, .int bk, .ref qs, .ref ql, .ref qo, .int ax, .long wi])), (qp, .inl (cJ, 3, .inr (.inl (pl3 bl of an))))] s.heap.size = A at hD hZ ⊢
  have hA : ∀ q : Nat, s.heap.size ≤ q → A q := fun q h => by rw [← hAe]; exact Or.inr h
  have hS : va_S A s.heap s.heap [] := va_S.rf
  have hP : va_P (dC, dI) vwCl [(o, .inr (4, [.int cd, .int sc, .ref qm, .ref qd, .int ch, .int fe, .int sz, .int rd, .int ca, .int sx, .ref qp, .int co, .int gi, .int aw, .int cg, .int bk, .ref qs, .ref ql, .ref qo, .int ax, .long wi])), (qp, .inl (cJ, 3, .inr (.inl (pl3 bl of an))))] s.heap := hP
  have hl := lv_entry ([.ref o, .int x, .int v]) (n := 8) (Nat.le_of_ble_eq_true rfl)
  rw [lg_entry_eq]
  generalize (lg_sl ([.ref o, .int x, .int v]) ++ List.replicate (8 - (lg_sl ([.ref o, .int x, .int v])).length) Slot.unset).toArray = ls at hl ⊢
  have hl : lv_has ls 8 [(0, .ref o), (1, .int x), (2, .int v)] := hl
  refine lv_aload_n hx hb dX4_setQueue_0 rfl (lv_at hl 0 rfl) ?_
  refine va_get (D := (dC, dI)) (ci := 4) (v := .int ch) (C := RX4) (T := TX4) (N := 21) hx hb hw inX4 hown hK hP 0 rfl rfl 4 (by decide) (hw _ w_2d850835ef) (fun _ h9 => h9) rfl dX4_setQueue_1 ?_
  refine lv_if_ne (tgt := 20) hx hb dX4_setQueue_4 (by decide) (fun c_1 => ?_) (fun c_1 => ?_)
  · skip
    have hP9 : va_P (dC, dI) vwCl [(o, .inr (4, [.int cd, .int sc, .ref qm, .ref qd, .int ch, .int fe, .int sz, .int rd, .int ca, .int sx, .ref qp, .int co, .int gi, .int aw, .int cg, .int bk, .ref qs, .ref ql, .ref qo, .int ax, .long wi])), (qp, .inl (cJ, 3, .inr (.inl (pl3 bl of an))))] s.heap := by exact hP.sub (ws' := [(o, .inr (4, [.int cd, .int sc, .ref qm, .ref qd, .int ch, .int fe, .int sz, .int rd, .int ca, .int sx, .ref qp, .int co, .int gi, .int aw, .int cg, .int bk, .ref qs, .ref ql, .ref qo, .int ax, .long wi])), (qp, .inl (cJ, 3, .inr (.inl (pl3 bl of an))))]) [0, 1] rfl
    have hD9 : va_D A [(o, .inr (4, [.int cd, .int sc, .ref qm, .ref qd, .int ch, .int fe, .int sz, .int rd, .int ca, .int sx, .ref qp, .int co, .int gi, .int aw, .int cg, .int bk, .ref qs, .ref ql, .ref qo, .int ax, .long wi])), (qp, .inl (cJ, 3, .inr (.inl (pl3 bl of an))))] := by exact hD.sub (ws' := [(o, .inr (4, [.int cd, .int sc, .ref qm, .ref qd, .int ch, .int fe, .int sz, .int rd, .int ca, .int sx, .ref qp, .int co, .int gi, .int aw, .int cg, .int bk, .ref qs, .ref ql, .ref qo, .int ax, .long wi])), (qp, .inl (cJ, 3, .inr (.inl (pl3 bl of an))))]) [0, 1] (by decide) rfl
    have hK9 := hK.sub (tys' := [(cJ, .long)]) [0] rfl
    exact W.vret hx hb hr (fun t ht hW => ⟨⟨(sz, rd, bl, of, an), rfl, (by unfold qSet; rw [if_neg (by intro z; simp_all)]), by rw [ht]; exact hP9, va_K.moved hW.alike hK9, hD9⟩, hS.F ht⟩) hS.2.2 dX4_setQueue_20
  · skip
    refine lv_aload_n hx hb dX4_setQueue_7 rfl (lv_at hl 0 rfl) ?_
    refine va_get (D := (dC, dI)) (ci := 4) (v := .int rd) (C := RX4) (T := TX4) (N := 21) hx hb hw inX4 hown hK hP 0 rfl rfl 7 (by decide) (hw _ w_c01c73850f) (fun _ h9 => h9) rfl dX4_setQueue_8 ?_
    refine lv_if_eq (tgt := 21) hx hb dX4_setQueue_11 (by decide) (fun c_2 => ?_) (fun c_2 => ?_)
    · skip
      refine lv_iload_n hx hb dX4_setQueue_21 rfl (lv_at hl 1 rfl) ?_
      refine lv_bipush (v := 56) hx hb dX4_setQueue_22 (by decide) ?_
      refine lv_icmp_ne (tgt := 69) hx hb dX4_setQueue_24 (by decide) (fun c_3 => ?_) (fun c_3 => ?_)
      · skip
        refine lv_iload_n hx hb dX4_setQueue_69 rfl (lv_at hl 1 rfl) ?_
        refine lv_bipush (v := 68) hx hb dX4_setQueue_70 (by decide) ?_
        refine lv_icmp_ne (tgt := 93) hx hb dX4_setQueue_72 (by decide) (fun c_4 => ?_) (fun c_4 => ?_)
        · skip
          rcases hx8 with rfl | rfl | rfl | rfl | rfl | rfl | rfl | rfl
          · skip
            exact absurd rfl c_3
          · skip
            exact absurd rfl c_4
          · skip
            refine lv_iload_n hx hb dX4_setQueue_93 rfl (lv_at hl 1 rfl) ?_
            refine lv_sipush (v := 128) hx hb dX4_setQueue_94 (by decide) ?_
            refine lv_isub hx hb dX4_setQueue_97 ?_
            refine lv_bipush (v := 16) hx hb dX4_setQueue_98 (by decide) ?_
            refine lv_idiv hx hb dX4_setQueue_100 (by decide) ?_
            refine lv_topi (fun x_5 ex_5 => ?_)
            refine lv_istore_n (lv' := [(3, .int x_5), (0, .ref o), (1, .int 128), (2, .int v)]) hx hb dX4_setQueue_101 rfl hl (by decide) rfl (fun ls hl => ?_)
            refine lv_aload_n hx hb dX4_setQueue_102 rfl (lv_at hl 1 rfl) ?_
            refine va_get (D := (dC, dI)) (ci := 4) (v := .ref qp) (C := RX4) (T := TX4) (N := 21) hx hb hw inX4 hown hK hP 0 rfl rfl 10 (by decide) (hw _ w_bc7cda3a3d) (fun _ h9 => h9) rfl dX4_setQueue_103 ?_
            refine lv_iload_n hx hb dX4_setQueue_106 rfl (lv_at hl 0 rfl) ?_
            refine va_lald hx hb hK hP 1 0 rfl rfl (vp_in_iff.mpr (by rw [ex_5]; decide)) dX4_setQueue_107 ?_
            refine lv_ldc2 (v := 4294967295) hx hb hown (hw _ w_f420a33426) dX4_setQueue_108 ?_
            refine lv_land hx hb dX4_setQueue_111 ?_
            refine lv_topl (fun x_6 ex_6 => ?_)
            refine lv_lstore (lv' := [(4, .long x_6), (3, .int x_5), (0, .ref o), (1, .int 128), (2, .int v)]) hx hb dX4_setQueue_112 hl (by decide) rfl (fun ls hl => ?_)
            refine lv_aload_n hx hb dX4_setQueue_114 rfl (lv_at hl 2 rfl) ?_
            refine va_get (D := (dC, dI)) (ci := 4) (v := .ref qp) (C := RX4) (T := TX4) (N := 21) hx hb hw inX4 hown hK hP 0 rfl rfl 10 (by decide) (hw _ w_bc7cda3a3d) (fun _ h9 => h9) rfl dX4_setQueue_115 ?_
            refine lv_iload_n hx hb dX4_setQueue_118 rfl (lv_at hl 1 rfl) ?_
            refine va_lald hx hb hK hP 1 0 rfl rfl (vp_in_iff.mpr (by rw [ex_5]; decide)) dX4_setQueue_119 ?_
            refine lv_bipush (v := 32) hx hb dX4_setQueue_120 (by decide) ?_
            refine lv_lushr (v := (((pl3 bl of an) x_5.toNatClampNeg).toUInt64 >>> ((32 : Int32).toInt64.toUInt64 &&& Int64.toUInt64 63)).toInt64) hx hb dX4_setQueue_122 rfl ?_
            refine lv_topl (fun x_7 ex_7 => ?_)
            refine lv_lstore (lv' := [(6, .long x_7), (4, .long x_6), (3, .int x_5), (0, .ref o), (1, .int 128), (2, .int v)]) hx hb dX4_setQueue_123 hl (by decide) rfl (fun ls hl => ?_)
            refine lv_aload_n hx hb dX4_setQueue_125 rfl (lv_at hl 3 rfl) ?_
            refine va_get (D := (dC, dI)) (ci := 4) (v := .ref qp) (C := RX4) (T := TX4) (N := 21) hx hb hw inX4 hown hK hP 0 rfl rfl 10 (by decide) (hw _ w_bc7cda3a3d) (fun _ h9 => h9) rfl dX4_setQueue_126 ?_
            refine lv_iload_n hx hb dX4_setQueue_129 rfl (lv_at hl 2 rfl) ?_
            refine lv_iload_n hx hb dX4_setQueue_130 rfl (lv_at hl 4 rfl) ?_
            refine lv_bipush (v := 8) hx hb dX4_setQueue_131 (by decide) ?_
            refine lv_irem hx hb dX4_setQueue_133 (by decide) ?_
            refine lv_if_ne (tgt := 152) hx hb dX4_setQueue_134 (by decide) (fun c_8 => ?_) (fun c_8 => ?_)
            · skip
              exact absurd (by decide) c_8
            · skip
              refine lv_lload hx hb dX4_setQueue_137 (lv_at hl 0 rfl) ?_
              refine lv_bipush (v := 32) hx hb dX4_setQueue_139 (by decide) ?_
              refine lv_lshl (v := x_7 <<< ((32 : Int32).toInt64 &&& 63)) hx hb dX4_setQueue_141 rfl ?_
              refine lv_iload_n hx hb dX4_setQueue_142 rfl (lv_at hl 5 rfl) ?_
              refine lv_i2l (v := v.toInt64) hx hb dX4_setQueue_143 rfl ?_
              refine lv_ldc2 (v := 4294967295) hx hb hown (hw _ w_f420a33426) dX4_setQueue_144 ?_
              refine lv_land hx hb dX4_setQueue_147 ?_
              refine lv_lor hx hb dX4_setQueue_148 ?_
              refine lv_goto (tgt := 160) hx hb dX4_setQueue_149 (by decide) ?_
              refine lv_topl (fun x_9 ex_9 => ?_)
              refine va_last hx hb hK hP hD hS 1 0 rfl rfl (vp_in_iff.mpr (by rw [ex_5]; decide)) dX4_setQueue_160 (fun H locs hP hD hS => ?_)
              have hP : va_P (dC, dI) vwCl [(o, .inr (4, [.int cd, .int sc, .ref qm, .ref qd, .int ch, .int fe, .int sz, .int rd, .int ca, .int sx, .ref qp, .int co, .int gi, .int aw, .int cg, .int bk, .ref qs, .ref ql, .ref qo, .int ax, .long wi])), (qp, .inl (cJ, 3, .inr (.inl (vp_updL (pl3 bl of an) x_5.toNatClampNeg x_9))))] H := hP
              have hD : va_D A [(o, .inr (4, [.int cd, .int sc, .ref qm, .ref qd, .int ch, .int fe, .int sz, .int rd, .int ca, .int sx, .ref qp, .int co, .int gi, .int aw, .int cg, .int bk, .ref qs, .ref ql, .ref qo, .int ax, .long wi])), (qp, .inl (cJ, 3, .inr (.inl (vp_updL (pl3 bl of an) x_5.toNatClampNeg x_9))))] := hD
              have ep_10 : vp_updL (pl3 bl of an) x_5.toNatClampNeg x_9 = pl3 x_9 of an := by rw [ex_5]; exact pl3_0 _ _ _ _
              rw [ep_10] at hP hD
              have hP : va_P (dC, dI) vwCl [(o, .inr (4, [.int cd, .int sc, .ref qm, .ref qd, .int ch, .int fe, .int sz, .int rd, .int ca, .int sx, .ref qp, .int co, .int gi, .int aw, .int cg, .int bk, .ref qs, .ref ql, .ref qo, .int ax, .long wi])), (qp, .inl (cJ, 3, .inr (.inl (pl3 x_9 of an))))] H := hP
              have hD : va_D A [(o, .inr (4, [.int cd, .int sc, .ref qm, .ref qd, .int ch, .int fe, .int sz, .int rd, .int ca, .int sx, .ref qp, .int co, .int gi, .int aw, .int cg, .int bk, .ref qs, .ref ql, .ref qo, .int ax, .long wi])), (qp, .inl (cJ, 3, .inr (.inl (pl3 x_9 of an))))] := hD
              have hP9 : va_P (dC, dI) vwCl [(o, .inr (4, [.int cd, .int sc, .ref qm, .ref qd, .int ch, .int fe, .int sz, .int rd, .int ca, .int sx, .ref qp, .int co, .int gi, .int aw, .int cg, .int bk, .ref qs, .ref ql, .ref qo, .int ax, .long wi])), (qp, .inl (cJ, 3, .inr (.inl (pl3 x_9 of an))))] H := by exact hP.sub (ws' := [(o, .inr (4, [.int cd, .int sc, .ref qm, .ref qd, .int ch, .int fe, .int sz, .int rd, .int ca, .int sx, .ref qp, .int co, .int gi, .int aw, .int cg, .int bk, .ref qs, .ref ql, .ref qo, .int ax, .long wi])), (qp, .inl (cJ, 3, .inr (.inl (pl3 x_9 of an))))]) [0, 1] rfl
              have hD9 : va_D A [(o, .inr (4, [.int cd, .int sc, .ref qm, .ref qd, .int ch, .int fe, .int sz, .int rd, .int ca, .int sx, .ref qp, .int co, .int gi, .int aw, .int cg, .int bk, .ref qs, .ref ql, .ref qo, .int ax, .long wi])), (qp, .inl (cJ, 3, .inr (.inl (pl3 x_9 of an))))] := by exact hD.sub (ws' := [(o, .inr (4, [.int cd, .int sc, .ref qm, .ref qd, .int ch, .int fe, .int sz, .int rd, .int ca, .int sx, .ref qp, .int co, .int gi, .int aw, .int cg, .int bk, .ref qs, .ref ql, .ref qo, .int ax, .long wi])), (qp, .inl (cJ, 3, .inr (.inl (pl3 x_9 of an))))]) [0, 1] (by decide) rfl
              have hK9 := hK.sub (tys' := [(cJ, .long)]) [0] rfl
              exact W.vret hx hb hr (fun t ht hW => ⟨⟨(sz, rd, x_9, of, an), rfl, (by unfold qSet qUp; rw [if_pos (by simp_all), if_neg (by decide), if_neg (by decide), if_pos rfl, ex_9, ex_7, ex_5, show pl3 bl of an (((128 : Int32) - 128) / 16).toNatClampNeg = bl from rfl, wLo_m]), by rw [ht]; exact hP9, va_K.moved hW.alike hK9, hD9⟩, hS.F ht⟩) hS.2.2 dX4_setQueue_161
          · skip
            refine lv_iload_n hx hb dX4_setQueue_93 rfl (lv_at hl 1 rfl) ?_
            refine lv_sipush (v := 128) hx hb dX4_setQueue_94 (by decide) ?_
            refine lv_isub hx hb dX4_setQueue_97 ?_
            refine lv_bipush (v := 16) hx hb dX4_setQueue_98 (by decide) ?_
            refine lv_idiv hx hb dX4_setQueue_100 (by decide) ?_
            refine lv_topi (fun x_11 ex_11 => ?_)
            refine lv_istore_n (lv' := [(3, .int x_11), (0, .ref o), (1, .int 132), (2, .int v)]) hx hb dX4_setQueue_101 rfl hl (by decide) rfl (fun ls hl => ?_)
            refine lv_aload_n hx hb dX4_setQueue_102 rfl (lv_at hl 1 rfl) ?_
            refine va_get (D := (dC, dI)) (ci := 4) (v := .ref qp) (C := RX4) (T := TX4) (N := 21) hx hb hw inX4 hown hK hP 0 rfl rfl 10 (by decide) (hw _ w_bc7cda3a3d) (fun _ h9 => h9) rfl dX4_setQueue_103 ?_
            refine lv_iload_n hx hb dX4_setQueue_106 rfl (lv_at hl 0 rfl) ?_
            refine va_lald hx hb hK hP 1 0 rfl rfl (vp_in_iff.mpr (by rw [ex_11]; decide)) dX4_setQueue_107 ?_
            refine lv_ldc2 (v := 4294967295) hx hb hown (hw _ w_f420a33426) dX4_setQueue_108 ?_
            refine lv_land hx hb dX4_setQueue_111 ?_
            refine lv_topl (fun x_12 ex_12 => ?_)
            refine lv_lstore (lv' := [(4, .long x_12), (3, .int x_11), (0, .ref o), (1, .int 132), (2, .int v)]) hx hb dX4_setQueue_112 hl (by decide) rfl (fun ls hl => ?_)
            refine lv_aload_n hx hb dX4_setQueue_114 rfl (lv_at hl 2 rfl) ?_
            refine va_get (D := (dC, dI)) (ci := 4) (v := .ref qp) (C := RX4) (T := TX4) (N := 21) hx hb hw inX4 hown hK hP 0 rfl rfl 10 (by decide) (hw _ w_bc7cda3a3d) (fun _ h9 => h9) rfl dX4_setQueue_115 ?_
            refine lv_iload_n hx hb dX4_setQueue_118 rfl (lv_at hl 1 rfl) ?_
            refine va_lald hx hb hK hP 1 0 rfl rfl (vp_in_iff.mpr (by rw [ex_11]; decide)) dX4_setQueue_119 ?_
            refine lv_bipush (v := 32) hx hb dX4_setQueue_120 (by decide) ?_
            refine lv_lushr (v := (((pl3 bl of an) x_11.toNatClampNeg).toUInt64 >>> ((32 : Int32).toInt64.toUInt64 &&& Int64.toUInt64 63)).toInt64) hx hb dX4_setQueue_122 rfl ?_
            refine lv_topl (fun x_13 ex_13 => ?_)
            refine lv_lstore (lv' := [(6, .long x_13), (4, .long x_12), (3, .int x_11), (0, .ref o), (1, .int 132), (2, .int v)]) hx hb dX4_setQueue_123 hl (by decide) rfl (fun ls hl => ?_)
            refine lv_aload_n hx hb dX4_setQueue_125 rfl (lv_at hl 3 rfl) ?_
            refine va_get (D := (dC, dI)) (ci := 4) (v := .ref qp) (C := RX4) (T := TX4) (N := 21) hx hb hw inX4 hown hK hP 0 rfl rfl 10 (by decide) (hw _ w_bc7cda3a3d) (fun _ h9 => h9) rfl dX4_setQueue_126 ?_
            refine lv_iload_n hx hb dX4_setQueue_129 rfl (lv_at hl 2 rfl) ?_
            refine lv_iload_n hx hb dX4_setQueue_130 rfl (lv_at hl 4 rfl) ?_
            refine lv_bipush (v := 8) hx hb dX4_setQueue_131 (by decide) ?_
            refine lv_irem hx hb dX4_setQueue_133 (by decide) ?_
            refine lv_if_ne (tgt := 152) hx hb dX4_setQueue_134 (by decide) (fun c_14 => ?_) (fun c_14 => ?_)
            · skip
              refine lv_iload_n hx hb dX4_setQueue_152 rfl (lv_at hl 5 rfl) ?_
              refine lv_i2l (v := v.toInt64) hx hb dX4_setQueue_153 rfl ?_
              refine lv_bipush (v := 32) hx hb dX4_setQueue_154 (by decide) ?_
              refine lv_lshl (v := v.toInt64 <<< ((32 : Int32).toInt64 &&& 63)) hx hb dX4_setQueue_156 rfl ?_
              refine lv_lload hx hb dX4_setQueue_157 (lv_at hl 1 rfl) ?_
              refine lv_lor hx hb dX4_setQueue_159 ?_
              refine lv_topl (fun x_15 ex_15 => ?_)
              refine va_last hx hb hK hP hD hS 1 0 rfl rfl (vp_in_iff.mpr (by rw [ex_11]; decide)) dX4_setQueue_160 (fun H locs hP hD hS => ?_)
              have hP : va_P (dC, dI) vwCl [(o, .inr (4, [.int cd, .int sc, .ref qm, .ref qd, .int ch, .int fe, .int sz, .int rd, .int ca, .int sx, .ref qp, .int co, .int gi, .int aw, .int cg, .int bk, .ref qs, .ref ql, .ref qo, .int ax, .long wi])), (qp, .inl (cJ, 3, .inr (.inl (vp_updL (pl3 bl of an) x_11.toNatClampNeg x_15))))] H := hP
              have hD : va_D A [(o, .inr (4, [.int cd, .int sc, .ref qm, .ref qd, .int ch, .int fe, .int sz, .int rd, .int ca, .int sx, .ref qp, .int co, .int gi, .int aw, .int cg, .int bk, .ref qs, .ref ql, .ref qo, .int ax, .long wi])), (qp, .inl (cJ, 3, .inr (.inl (vp_updL (pl3 bl of an) x_11.toNatClampNeg x_15))))] := hD
              have ep_16 : vp_updL (pl3 bl of an) x_11.toNatClampNeg x_15 = pl3 x_15 of an := by rw [ex_11]; exact pl3_0 _ _ _ _
              rw [ep_16] at hP hD
              have hP : va_P (dC, dI) vwCl [(o, .inr (4, [.int cd, .int sc, .ref qm, .ref qd, .int ch, .int fe, .int sz, .int rd, .int ca, .int sx, .ref qp, .int co, .int gi, .int aw, .int cg, .int bk, .ref qs, .ref ql, .ref qo, .int ax, .long wi])), (qp, .inl (cJ, 3, .inr (.inl (pl3 x_15 of an))))] H := hP
              have hD : va_D A [(o, .inr (4, [.int cd, .int sc, .ref qm, .ref qd, .int ch, .int fe, .int sz, .int rd, .int ca, .int sx, .ref qp, .int co, .int gi, .int aw, .int cg, .int bk, .ref qs, .ref ql, .ref qo, .int ax, .long wi])), (qp, .inl (cJ, 3, .inr (.inl (pl3 x_15 of an))))] := hD
              have hP9 : va_P (dC, dI) vwCl [(o, .inr (4, [.int cd, .int sc, .ref qm, .ref qd, .int ch, .int fe, .int sz, .int rd, .int ca, .int sx, .ref qp, .int co, .int gi, .int aw, .int cg, .int bk, .ref qs, .ref ql, .ref qo, .int ax, .long wi])), (qp, .inl (cJ, 3, .inr (.inl (pl3 x_15 of an))))] H := by exact hP.sub (ws' := [(o, .inr (4, [.int cd, .int sc, .ref qm, .ref qd, .int ch, .int fe, .int sz, .int rd, .int ca, .int sx, .ref qp, .int co, .int gi, .int aw, .int cg, .int bk, .ref qs, .ref ql, .ref qo, .int ax, .long wi])), (qp, .inl (cJ, 3, .inr (.inl (pl3 x_15 of an))))]) [0, 1] rfl
              have hD9 : va_D A [(o, .inr (4, [.int cd, .int sc, .ref qm, .ref qd, .int ch, .int fe, .int sz, .int rd, .int ca, .int sx, .ref qp, .int co, .int gi, .int aw, .int cg, .int bk, .ref qs, .ref ql, .ref qo, .int ax, .long wi])), (qp, .inl (cJ, 3, .inr (.inl (pl3 x_15 of an))))] := by exact hD.sub (ws' := [(o, .inr (4, [.int cd, .int sc, .ref qm, .ref qd, .int ch, .int fe, .int sz, .int rd, .int ca, .int sx, .ref qp, .int co, .int gi, .int aw, .int cg, .int bk, .ref qs, .ref ql, .ref qo, .int ax, .long wi])), (qp, .inl (cJ, 3, .inr (.inl (pl3 x_15 of an))))]) [0, 1] (by decide) rfl
              have hK9 := hK.sub (tys' := [(cJ, .long)]) [0] rfl
              exact W.vret hx hb hr (fun t ht hW => ⟨⟨(sz, rd, x_15, of, an), rfl, (by unfold qSet qUp; rw [if_pos (by simp_all), if_neg (by decide), if_neg (by decide), if_neg (by decide), if_pos rfl, ex_15, ex_12, ex_11, show pl3 bl of an (((132 : Int32) - 128) / 16).toNatClampNeg = bl from rfl]; rfl), by rw [ht]; exact hP9, va_K.moved hW.alike hK9, hD9⟩, hS.F ht⟩) hS.2.2 dX4_setQueue_161
            · skip
              exact absurd c_14 (by decide)
          · skip
            refine lv_iload_n hx hb dX4_setQueue_93 rfl (lv_at hl 1 rfl) ?_
            refine lv_sipush (v := 128) hx hb dX4_setQueue_94 (by decide) ?_
            refine lv_isub hx hb dX4_setQueue_97 ?_
            refine lv_bipush (v := 16) hx hb dX4_setQueue_98 (by decide) ?_
            refine lv_idiv hx hb dX4_setQueue_100 (by decide) ?_
            refine lv_topi (fun x_17 ex_17 => ?_)
            refine lv_istore_n (lv' := [(3, .int x_17), (0, .ref o), (1, .int 144), (2, .int v)]) hx hb dX4_setQueue_101 rfl hl (by decide) rfl (fun ls hl => ?_)
            refine lv_aload_n hx hb dX4_setQueue_102 rfl (lv_at hl 1 rfl) ?_
            refine va_get (D := (dC, dI)) (ci := 4) (v := .ref qp) (C := RX4) (T := TX4) (N := 21) hx hb hw inX4 hown hK hP 0 rfl rfl 10 (by decide) (hw _ w_bc7cda3a3d) (fun _ h9 => h9) rfl dX4_setQueue_103 ?_
            refine lv_iload_n hx hb dX4_setQueue_106 rfl (lv_at hl 0 rfl) ?_
            refine va_lald hx hb hK hP 1 0 rfl rfl (vp_in_iff.mpr (by rw [ex_17]; decide)) dX4_setQueue_107 ?_
            refine lv_ldc2 (v := 4294967295) hx hb hown (hw _ w_f420a33426) dX4_setQueue_108 ?_
            refine lv_land hx hb dX4_setQueue_111 ?_
            refine lv_topl (fun x_18 ex_18 => ?_)
            refine lv_lstore (lv' := [(4, .long x_18), (3, .int x_17), (0, .ref o), (1, .int 144), (2, .int v)]) hx hb dX4_setQueue_112 hl (by decide) rfl (fun ls hl => ?_)
            refine lv_aload_n hx hb dX4_setQueue_114 rfl (lv_at hl 2 rfl) ?_
            refine va_get (D := (dC, dI)) (ci := 4) (v := .ref qp) (C := RX4) (T := TX4) (N := 21) hx hb hw inX4 hown hK hP 0 rfl rfl 10 (by decide) (hw _ w_bc7cda3a3d) (fun _ h9 => h9) rfl dX4_setQueue_115 ?_
            refine lv_iload_n hx hb dX4_setQueue_118 rfl (lv_at hl 1 rfl) ?_
            refine va_lald hx hb hK hP 1 0 rfl rfl (vp_in_iff.mpr (by rw [ex_17]; decide)) dX4_setQueue_119 ?_
            refine lv_bipush (v := 32) hx hb dX4_setQueue_120 (by decide) ?_
            refine lv_lushr (v := (((pl3 bl of an) x_17.toNatClampNeg).toUInt64 >>> ((32 : Int32).toInt64.toUInt64 &&& Int64.toUInt64 63)).toInt64) hx hb dX4_setQueue_122 rfl ?_
            refine lv_topl (fun x_19 ex_19 => ?_)
            refine lv_lstore (lv' := [(6, .long x_19), (4, .long x_18), (3, .int x_17), (0, .ref o), (1, .int 144), (2, .int v)]) hx hb dX4_setQueue_123 hl (by decide) rfl (fun ls hl => ?_)
            refine lv_aload_n hx hb dX4_setQueue_125 rfl (lv_at hl 3 rfl) ?_
            refine va_get (D := (dC, dI)) (ci := 4) (v := .ref qp) (C := RX4) (T := TX4) (N := 21) hx hb hw inX4 hown hK hP 0 rfl rfl 10 (by decide) (hw _ w_bc7cda3a3d) (fun _ h9 => h9) rfl dX4_setQueue_126 ?_
            refine lv_iload_n hx hb dX4_setQueue_129 rfl (lv_at hl 2 rfl) ?_
            refine lv_iload_n hx hb dX4_setQueue_130 rfl (lv_at hl 4 rfl) ?_
            refine lv_bipush (v := 8) hx hb dX4_setQueue_131 (by decide) ?_
            refine lv_irem hx hb dX4_setQueue_133 (by decide) ?_
            refine lv_if_ne (tgt := 152) hx hb dX4_setQueue_134 (by decide) (fun c_20 => ?_) (fun c_20 => ?_)
            · skip
              exact absurd (by decide) c_20
            · skip
              refine lv_lload hx hb dX4_setQueue_137 (lv_at hl 0 rfl) ?_
              refine lv_bipush (v := 32) hx hb dX4_setQueue_139 (by decide) ?_
              refine lv_lshl (v := x_19 <<< ((32 : Int32).toInt64 &&& 63)) hx hb dX4_setQueue_141 rfl ?_
              refine lv_iload_n hx hb dX4_setQueue_142 rfl (lv_at hl 5 rfl) ?_
              refine lv_i2l (v := v.toInt64) hx hb dX4_setQueue_143 rfl ?_
              refine lv_ldc2 (v := 4294967295) hx hb hown (hw _ w_f420a33426) dX4_setQueue_144 ?_
              refine lv_land hx hb dX4_setQueue_147 ?_
              refine lv_lor hx hb dX4_setQueue_148 ?_
              refine lv_goto (tgt := 160) hx hb dX4_setQueue_149 (by decide) ?_
              refine lv_topl (fun x_21 ex_21 => ?_)
              refine va_last hx hb hK hP hD hS 1 0 rfl rfl (vp_in_iff.mpr (by rw [ex_17]; decide)) dX4_setQueue_160 (fun H locs hP hD hS => ?_)
              have hP : va_P (dC, dI) vwCl [(o, .inr (4, [.int cd, .int sc, .ref qm, .ref qd, .int ch, .int fe, .int sz, .int rd, .int ca, .int sx, .ref qp, .int co, .int gi, .int aw, .int cg, .int bk, .ref qs, .ref ql, .ref qo, .int ax, .long wi])), (qp, .inl (cJ, 3, .inr (.inl (vp_updL (pl3 bl of an) x_17.toNatClampNeg x_21))))] H := hP
              have hD : va_D A [(o, .inr (4, [.int cd, .int sc, .ref qm, .ref qd, .int ch, .int fe, .int sz, .int rd, .int ca, .int sx, .ref qp, .int co, .int gi, .int aw, .int cg, .int bk, .ref qs, .ref ql, .ref qo, .int ax, .long wi])), (qp, .inl (cJ, 3, .inr (.inl (vp_updL (pl3 bl of an) x_17.toNatClampNeg x_21))))] := hD
              have ep_22 : vp_updL (pl3 bl of an) x_17.toNatClampNeg x_21 = pl3 bl x_21 an := by rw [ex_17]; exact pl3_1 _ _ _ _
              rw [ep_22] at hP hD
              have hP : va_P (dC, dI) vwCl [(o, .inr (4, [.int cd, .int sc, .ref qm, .ref qd, .int ch, .int fe, .int sz, .int rd, .int ca, .int sx, .ref qp, .int co, .int gi, .int aw, .int cg, .int bk, .ref qs, .ref ql, .ref qo, .int ax, .long wi])), (qp, .inl (cJ, 3, .inr (.inl (pl3 bl x_21 an))))] H := hP
              have hD : va_D A [(o, .inr (4, [.int cd, .int sc, .ref qm, .ref qd, .int ch, .int fe, .int sz, .int rd, .int ca, .int sx, .ref qp, .int co, .int gi, .int aw, .int cg, .int bk, .ref qs, .ref ql, .ref qo, .int ax, .long wi])), (qp, .inl (cJ, 3, .inr (.inl (pl3 bl x_21 an))))] := hD
              have hP9 : va_P (dC, dI) vwCl [(o, .inr (4, [.int cd, .int sc, .ref qm, .ref qd, .int ch, .int fe, .int sz, .int rd, .int ca, .int sx, .ref qp, .int co, .int gi, .int aw, .int cg, .int bk, .ref qs, .ref ql, .ref qo, .int ax, .long wi])), (qp, .inl (cJ, 3, .inr (.inl (pl3 bl x_21 an))))] H := by exact hP.sub (ws' := [(o, .inr (4, [.int cd, .int sc, .ref qm, .ref qd, .int ch, .int fe, .int sz, .int rd, .int ca, .int sx, .ref qp, .int co, .int gi, .int aw, .int cg, .int bk, .ref qs, .ref ql, .ref qo, .int ax, .long wi])), (qp, .inl (cJ, 3, .inr (.inl (pl3 bl x_21 an))))]) [0, 1] rfl
              have hD9 : va_D A [(o, .inr (4, [.int cd, .int sc, .ref qm, .ref qd, .int ch, .int fe, .int sz, .int rd, .int ca, .int sx, .ref qp, .int co, .int gi, .int aw, .int cg, .int bk, .ref qs, .ref ql, .ref qo, .int ax, .long wi])), (qp, .inl (cJ, 3, .inr (.inl (pl3 bl x_21 an))))] := by exact hD.sub (ws' := [(o, .inr (4, [.int cd, .int sc, .ref qm, .ref qd, .int ch, .int fe, .int sz, .int rd, .int ca, .int sx, .ref qp, .int co, .int gi, .int aw, .int cg, .int bk, .ref qs, .ref ql, .ref qo, .int ax, .long wi])), (qp, .inl (cJ, 3, .inr (.inl (pl3 bl x_21 an))))]) [0, 1] (by decide) rfl
              have hK9 := hK.sub (tys' := [(cJ, .long)]) [0] rfl
              exact W.vret hx hb hr (fun t ht hW => ⟨⟨(sz, rd, bl, x_21, an), rfl, (by unfold qSet qUp; rw [if_pos (by simp_all), if_neg (by decide), if_neg (by decide), if_neg (by decide), if_neg (by decide), if_pos rfl, ex_21, ex_19, ex_17, show pl3 bl of an (((144 : Int32) - 128) / 16).toNatClampNeg = of from rfl, wLo_m]), by rw [ht]; exact hP9, va_K.moved hW.alike hK9, hD9⟩, hS.F ht⟩) hS.2.2 dX4_setQueue_161
          · skip
            refine lv_iload_n hx hb dX4_setQueue_93 rfl (lv_at hl 1 rfl) ?_
            refine lv_sipush (v := 128) hx hb dX4_setQueue_94 (by decide) ?_
            refine lv_isub hx hb dX4_setQueue_97 ?_
            refine lv_bipush (v := 16) hx hb dX4_setQueue_98 (by decide) ?_
            refine lv_idiv hx hb dX4_setQueue_100 (by decide) ?_
            refine lv_topi (fun x_23 ex_23 => ?_)
            refine lv_istore_n (lv' := [(3, .int x_23), (0, .ref o), (1, .int 148), (2, .int v)]) hx hb dX4_setQueue_101 rfl hl (by decide) rfl (fun ls hl => ?_)
            refine lv_aload_n hx hb dX4_setQueue_102 rfl (lv_at hl 1 rfl) ?_
            refine va_get (D := (dC, dI)) (ci := 4) (v := .ref qp) (C := RX4) (T := TX4) (N := 21) hx hb hw inX4 hown hK hP 0 rfl rfl 10 (by decide) (hw _ w_bc7cda3a3d) (fun _ h9 => h9) rfl dX4_setQueue_103 ?_
            refine lv_iload_n hx hb dX4_setQueue_106 rfl (lv_at hl 0 rfl) ?_
            refine va_lald hx hb hK hP 1 0 rfl rfl (vp_in_iff.mpr (by rw [ex_23]; decide)) dX4_setQueue_107 ?_
            refine lv_ldc2 (v := 4294967295) hx hb hown (hw _ w_f420a33426) dX4_setQueue_108 ?_
            refine lv_land hx hb dX4_setQueue_111 ?_
            refine lv_topl (fun x_24 ex_24 => ?_)
            refine lv_lstore (lv' := [(4, .long x_24), (3, .int x_23), (0, .ref o), (1, .int 148), (2, .int v)]) hx hb dX4_setQueue_112 hl (by decide) rfl (fun ls hl => ?_)
            refine lv_aload_n hx hb dX4_setQueue_114 rfl (lv_at hl 2 rfl) ?_
            refine va_get (D := (dC, dI)) (ci := 4) (v := .ref qp) (C := RX4) (T := TX4) (N := 21) hx hb hw inX4 hown hK hP 0 rfl rfl 10 (by decide) (hw _ w_bc7cda3a3d) (fun _ h9 => h9) rfl dX4_setQueue_115 ?_
            refine lv_iload_n hx hb dX4_setQueue_118 rfl (lv_at hl 1 rfl) ?_
            refine va_lald hx hb hK hP 1 0 rfl rfl (vp_in_iff.mpr (by rw [ex_23]; decide)) dX4_setQueue_119 ?_
            refine lv_bipush (v := 32) hx hb dX4_setQueue_120 (by decide) ?_
            refine lv_lushr (v := (((pl3 bl of an) x_23.toNatClampNeg).toUInt64 >>> ((32 : Int32).toInt64.toUInt64 &&& Int64.toUInt64 63)).toInt64) hx hb dX4_setQueue_122 rfl ?_
            refine lv_topl (fun x_25 ex_25 => ?_)
            refine lv_lstore (lv' := [(6, .long x_25), (4, .long x_24), (3, .int x_23), (0, .ref o), (1, .int 148), (2, .int v)]) hx hb dX4_setQueue_123 hl (by decide) rfl (fun ls hl => ?_)
            refine lv_aload_n hx hb dX4_setQueue_125 rfl (lv_at hl 3 rfl) ?_
            refine va_get (D := (dC, dI)) (ci := 4) (v := .ref qp) (C := RX4) (T := TX4) (N := 21) hx hb hw inX4 hown hK hP 0 rfl rfl 10 (by decide) (hw _ w_bc7cda3a3d) (fun _ h9 => h9) rfl dX4_setQueue_126 ?_
            refine lv_iload_n hx hb dX4_setQueue_129 rfl (lv_at hl 2 rfl) ?_
            refine lv_iload_n hx hb dX4_setQueue_130 rfl (lv_at hl 4 rfl) ?_
            refine lv_bipush (v := 8) hx hb dX4_setQueue_131 (by decide) ?_
            refine lv_irem hx hb dX4_setQueue_133 (by decide) ?_
            refine lv_if_ne (tgt := 152) hx hb dX4_setQueue_134 (by decide) (fun c_26 => ?_) (fun c_26 => ?_)
            · skip
              refine lv_iload_n hx hb dX4_setQueue_152 rfl (lv_at hl 5 rfl) ?_
              refine lv_i2l (v := v.toInt64) hx hb dX4_setQueue_153 rfl ?_
              refine lv_bipush (v := 32) hx hb dX4_setQueue_154 (by decide) ?_
              refine lv_lshl (v := v.toInt64 <<< ((32 : Int32).toInt64 &&& 63)) hx hb dX4_setQueue_156 rfl ?_
              refine lv_lload hx hb dX4_setQueue_157 (lv_at hl 1 rfl) ?_
              refine lv_lor hx hb dX4_setQueue_159 ?_
              refine lv_topl (fun x_27 ex_27 => ?_)
              refine va_last hx hb hK hP hD hS 1 0 rfl rfl (vp_in_iff.mpr (by rw [ex_23]; decide)) dX4_setQueue_160 (fun H locs hP hD hS => ?_)
              have hP : va_P (dC, dI) vwCl [(o, .inr (4, [.int cd, .int sc, .ref qm, .ref qd, .int ch, .int fe, .int sz, .int rd, .int ca, .int sx, .ref qp, .int co, .int gi, .int aw, .int cg, .int bk, .ref qs, .ref ql, .ref qo, .int ax, .long wi])), (qp, .inl (cJ, 3, .inr (.inl (vp_updL (pl3 bl of an) x_23.toNatClampNeg x_27))))] H := hP
              have hD : va_D A [(o, .inr (4, [.int cd, .int sc, .ref qm, .ref qd, .int ch, .int fe, .int sz, .int rd, .int ca, .int sx, .ref qp, .int co, .int gi, .int aw, .int cg, .int bk, .ref qs, .ref ql, .ref qo, .int ax, .long wi])), (qp, .inl (cJ, 3, .inr (.inl (vp_updL (pl3 bl of an) x_23.toNatClampNeg x_27))))] := hD
              have ep_28 : vp_updL (pl3 bl of an) x_23.toNatClampNeg x_27 = pl3 bl x_27 an := by rw [ex_23]; exact pl3_1 _ _ _ _
              rw [ep_28] at hP hD
              have hP : va_P (dC, dI) vwCl [(o, .inr (4, [.int cd, .int sc, .ref qm, .ref qd, .int ch, .int fe, .int sz, .int rd, .int ca, .int sx, .ref qp, .int co, .int gi, .int aw, .int cg, .int bk, .ref qs, .ref ql, .ref qo, .int ax, .long wi])), (qp, .inl (cJ, 3, .inr (.inl (pl3 bl x_27 an))))] H := hP
              have hD : va_D A [(o, .inr (4, [.int cd, .int sc, .ref qm, .ref qd, .int ch, .int fe, .int sz, .int rd, .int ca, .int sx, .ref qp, .int co, .int gi, .int aw, .int cg, .int bk, .ref qs, .ref ql, .ref qo, .int ax, .long wi])), (qp, .inl (cJ, 3, .inr (.inl (pl3 bl x_27 an))))] := hD
              have hP9 : va_P (dC, dI) vwCl [(o, .inr (4, [.int cd, .int sc, .ref qm, .ref qd, .int ch, .int fe, .int sz, .int rd, .int ca, .int sx, .ref qp, .int co, .int gi, .int aw, .int cg, .int bk, .ref qs, .ref ql, .ref qo, .int ax, .long wi])), (qp, .inl (cJ, 3, .inr (.inl (pl3 bl x_27 an))))] H := by exact hP.sub (ws' := [(o, .inr (4, [.int cd, .int sc, .ref qm, .ref qd, .int ch, .int fe, .int sz, .int rd, .int ca, .int sx, .ref qp, .int co, .int gi, .int aw, .int cg, .int bk, .ref qs, .ref ql, .ref qo, .int ax, .long wi])), (qp, .inl (cJ, 3, .inr (.inl (pl3 bl x_27 an))))]) [0, 1] rfl
              have hD9 : va_D A [(o, .inr (4, [.int cd, .int sc, .ref qm, .ref qd, .int ch, .int fe, .int sz, .int rd, .int ca, .int sx, .ref qp, .int co, .int gi, .int aw, .int cg, .int bk, .ref qs, .ref ql, .ref qo, .int ax, .long wi])), (qp, .inl (cJ, 3, .inr (.inl (pl3 bl x_27 an))))] := by exact hD.sub (ws' := [(o, .inr (4, [.int cd, .int sc, .ref qm, .ref qd, .int ch, .int fe, .int sz, .int rd, .int ca, .int sx, .ref qp, .int co, .int gi, .int aw, .int cg, .int bk, .ref qs, .ref ql, .ref qo, .int ax, .long wi])), (qp, .inl (cJ, 3, .inr (.inl (pl3 bl x_27 an))))]) [0, 1] (by decide) rfl
              have hK9 := hK.sub (tys' := [(cJ, .long)]) [0] rfl
              exact W.vret hx hb hr (fun t ht hW => ⟨⟨(sz, rd, bl, x_27, an), rfl, (by unfold qSet qUp; rw [if_pos (by simp_all), if_neg (by decide), if_neg (by decide), if_neg (by decide), if_neg (by decide), if_neg (by decide), if_pos rfl, ex_27, ex_24, ex_23, show pl3 bl of an (((148 : Int32) - 128) / 16).toNatClampNeg = of from rfl]; rfl), by rw [ht]; exact hP9, va_K.moved hW.alike hK9, hD9⟩, hS.F ht⟩) hS.2.2 dX4_setQueue_161
            · skip
              exact absurd c_26 (by decide)
          · skip
            refine lv_iload_n hx hb dX4_setQueue_93 rfl (lv_at hl 1 rfl) ?_
            refine lv_sipush (v := 128) hx hb dX4_setQueue_94 (by decide) ?_
            refine lv_isub hx hb dX4_setQueue_97 ?_
            refine lv_bipush (v := 16) hx hb dX4_setQueue_98 (by decide) ?_
            refine lv_idiv hx hb dX4_setQueue_100 (by decide) ?_
            refine lv_topi (fun x_29 ex_29 => ?_)
            refine lv_istore_n (lv' := [(3, .int x_29), (0, .ref o), (1, .int 160), (2, .int v)]) hx hb dX4_setQueue_101 rfl hl (by decide) rfl (fun ls hl => ?_)
            refine lv_aload_n hx hb dX4_setQueue_102 rfl (lv_at hl 1 rfl) ?_
            refine va_get (D := (dC, dI)) (ci := 4) (v := .ref qp) (C := RX4) (T := TX4) (N := 21) hx hb hw inX4 hown hK hP 0 rfl rfl 10 (by decide) (hw _ w_bc7cda3a3d) (fun _ h9 => h9) rfl dX4_setQueue_103 ?_
            refine lv_iload_n hx hb dX4_setQueue_106 rfl (lv_at hl 0 rfl) ?_
            refine va_lald hx hb hK hP 1 0 rfl rfl (vp_in_iff.mpr (by rw [ex_29]; decide)) dX4_setQueue_107 ?_
            refine lv_ldc2 (v := 4294967295) hx hb hown (hw _ w_f420a33426) dX4_setQueue_108 ?_
            refine lv_land hx hb dX4_setQueue_111 ?_
            refine lv_topl (fun x_30 ex_30 => ?_)
            refine lv_lstore (lv' := [(4, .long x_30), (3, .int x_29), (0, .ref o), (1, .int 160), (2, .int v)]) hx hb dX4_setQueue_112 hl (by decide) rfl (fun ls hl => ?_)
            refine lv_aload_n hx hb dX4_setQueue_114 rfl (lv_at hl 2 rfl) ?_
            refine va_get (D := (dC, dI)) (ci := 4) (v := .ref qp) (C := RX4) (T := TX4) (N := 21) hx hb hw inX4 hown hK hP 0 rfl rfl 10 (by decide) (hw _ w_bc7cda3a3d) (fun _ h9 => h9) rfl dX4_setQueue_115 ?_
            refine lv_iload_n hx hb dX4_setQueue_118 rfl (lv_at hl 1 rfl) ?_
            refine va_lald hx hb hK hP 1 0 rfl rfl (vp_in_iff.mpr (by rw [ex_29]; decide)) dX4_setQueue_119 ?_
            refine lv_bipush (v := 32) hx hb dX4_setQueue_120 (by decide) ?_
            refine lv_lushr (v := (((pl3 bl of an) x_29.toNatClampNeg).toUInt64 >>> ((32 : Int32).toInt64.toUInt64 &&& Int64.toUInt64 63)).toInt64) hx hb dX4_setQueue_122 rfl ?_
            refine lv_topl (fun x_31 ex_31 => ?_)
            refine lv_lstore (lv' := [(6, .long x_31), (4, .long x_30), (3, .int x_29), (0, .ref o), (1, .int 160), (2, .int v)]) hx hb dX4_setQueue_123 hl (by decide) rfl (fun ls hl => ?_)
            refine lv_aload_n hx hb dX4_setQueue_125 rfl (lv_at hl 3 rfl) ?_
            refine va_get (D := (dC, dI)) (ci := 4) (v := .ref qp) (C := RX4) (T := TX4) (N := 21) hx hb hw inX4 hown hK hP 0 rfl rfl 10 (by decide) (hw _ w_bc7cda3a3d) (fun _ h9 => h9) rfl dX4_setQueue_126 ?_
            refine lv_iload_n hx hb dX4_setQueue_129 rfl (lv_at hl 2 rfl) ?_
            refine lv_iload_n hx hb dX4_setQueue_130 rfl (lv_at hl 4 rfl) ?_
            refine lv_bipush (v := 8) hx hb dX4_setQueue_131 (by decide) ?_
            refine lv_irem hx hb dX4_setQueue_133 (by decide) ?_
            refine lv_if_ne (tgt := 152) hx hb dX4_setQueue_134 (by decide) (fun c_32 => ?_) (fun c_32 => ?_)
            · skip
              exact absurd (by decide) c_32
            · skip
              refine lv_lload hx hb dX4_setQueue_137 (lv_at hl 0 rfl) ?_
              refine lv_bipush (v := 32) hx hb dX4_setQueue_139 (by decide) ?_
              refine lv_lshl (v := x_31 <<< ((32 : Int32).toInt64 &&& 63)) hx hb dX4_setQueue_141 rfl ?_
              refine lv_iload_n hx hb dX4_setQueue_142 rfl (lv_at hl 5 rfl) ?_
              refine lv_i2l (v := v.toInt64) hx hb dX4_setQueue_143 rfl ?_
              refine lv_ldc2 (v := 4294967295) hx hb hown (hw _ w_f420a33426) dX4_setQueue_144 ?_
              refine lv_land hx hb dX4_setQueue_147 ?_
              refine lv_lor hx hb dX4_setQueue_148 ?_
              refine lv_goto (tgt := 160) hx hb dX4_setQueue_149 (by decide) ?_
              refine lv_topl (fun x_33 ex_33 => ?_)
              refine va_last hx hb hK hP hD hS 1 0 rfl rfl (vp_in_iff.mpr (by rw [ex_29]; decide)) dX4_setQueue_160 (fun H locs hP hD hS => ?_)
              have hP : va_P (dC, dI) vwCl [(o, .inr (4, [.int cd, .int sc, .ref qm, .ref qd, .int ch, .int fe, .int sz, .int rd, .int ca, .int sx, .ref qp, .int co, .int gi, .int aw, .int cg, .int bk, .ref qs, .ref ql, .ref qo, .int ax, .long wi])), (qp, .inl (cJ, 3, .inr (.inl (vp_updL (pl3 bl of an) x_29.toNatClampNeg x_33))))] H := hP
              have hD : va_D A [(o, .inr (4, [.int cd, .int sc, .ref qm, .ref qd, .int ch, .int fe, .int sz, .int rd, .int ca, .int sx, .ref qp, .int co, .int gi, .int aw, .int cg, .int bk, .ref qs, .ref ql, .ref qo, .int ax, .long wi])), (qp, .inl (cJ, 3, .inr (.inl (vp_updL (pl3 bl of an) x_29.toNatClampNeg x_33))))] := hD
              have ep_34 : vp_updL (pl3 bl of an) x_29.toNatClampNeg x_33 = pl3 bl of x_33 := by rw [ex_29]; exact pl3_2 _ _ _ _
              rw [ep_34] at hP hD
              have hP : va_P (dC, dI) vwCl [(o, .inr (4, [.int cd, .int sc, .ref qm, .ref qd, .int ch, .int fe, .int sz, .int rd, .int ca, .int sx, .ref qp, .int co, .int gi, .int aw, .int cg, .int bk, .ref qs, .ref ql, .ref qo, .int ax, .long wi])), (qp, .inl (cJ, 3, .inr (.inl (pl3 bl of x_33))))] H := hP
              have hD : va_D A [(o, .inr (4, [.int cd, .int sc, .ref qm, .ref qd, .int ch, .int fe, .int sz, .int rd, .int ca, .int sx, .ref qp, .int co, .int gi, .int aw, .int cg, .int bk, .ref qs, .ref ql, .ref qo, .int ax, .long wi])), (qp, .inl (cJ, 3, .inr (.inl (pl3 bl of x_33))))] := hD
              have hP9 : va_P (dC, dI) vwCl [(o, .inr (4, [.int cd, .int sc, .ref qm, .ref qd, .int ch, .int fe, .int sz, .int rd, .int ca, .int sx, .ref qp, .int co, .int gi, .int aw, .int cg, .int bk, .ref qs, .ref ql, .ref qo, .int ax, .long wi])), (qp, .inl (cJ, 3, .inr (.inl (pl3 bl of x_33))))] H := by exact hP.sub (ws' := [(o, .inr (4, [.int cd, .int sc, .ref qm, .ref qd, .int ch, .int fe, .int sz, .int rd, .int ca, .int sx, .ref qp, .int co, .int gi, .int aw, .int cg, .int bk, .ref qs, .ref ql, .ref qo, .int ax, .long wi])), (qp, .inl (cJ, 3, .inr (.inl (pl3 bl of x_33))))]) [0, 1] rfl
              have hD9 : va_D A [(o, .inr (4, [.int cd, .int sc, .ref qm, .ref qd, .int ch, .int fe, .int sz, .int rd, .int ca, .int sx, .ref qp, .int co, .int gi, .int aw, .int cg, .int bk, .ref qs, .ref ql, .ref qo, .int ax, .long wi])), (qp, .inl (cJ, 3, .inr (.inl (pl3 bl of x_33))))] := by exact hD.sub (ws' := [(o, .inr (4, [.int cd, .int sc, .ref qm, .ref qd, .int ch, .int fe, .int sz, .int rd, .int ca, .int sx, .ref qp, .int co, .int gi, .int aw, .int cg, .int bk, .ref qs, .ref ql, .ref qo, .int ax, .long wi])), (qp, .inl (cJ, 3, .inr (.inl (pl3 bl of x_33))))]) [0, 1] (by decide) rfl
              have hK9 := hK.sub (tys' := [(cJ, .long)]) [0] rfl
              exact W.vret hx hb hr (fun t ht hW => ⟨⟨(sz, rd, bl, of, x_33), rfl, (by unfold qSet qUp; rw [if_pos (by simp_all), if_neg (by decide), if_neg (by decide), if_neg (by decide), if_neg (by decide), if_neg (by decide), if_neg (by decide), if_pos rfl, ex_33, ex_31, ex_29, show pl3 bl of an (((160 : Int32) - 128) / 16).toNatClampNeg = an from rfl, wLo_m]), by rw [ht]; exact hP9, va_K.moved hW.alike hK9, hD9⟩, hS.F ht⟩) hS.2.2 dX4_setQueue_161
          · skip
            refine lv_iload_n hx hb dX4_setQueue_93 rfl (lv_at hl 1 rfl) ?_
            refine lv_sipush (v := 128) hx hb dX4_setQueue_94 (by decide) ?_
            refine lv_isub hx hb dX4_setQueue_97 ?_
            refine lv_bipush (v := 16) hx hb dX4_setQueue_98 (by decide) ?_
            refine lv_idiv hx hb dX4_setQueue_100 (by decide) ?_
            refine lv_topi (fun x_35 ex_35 => ?_)
            refine lv_istore_n (lv' := [(3, .int x_35), (0, .ref o), (1, .int 164), (2, .int v)]) hx hb dX4_setQueue_101 rfl hl (by decide) rfl (fun ls hl => ?_)
            refine lv_aload_n hx hb dX4_setQueue_102 rfl (lv_at hl 1 rfl) ?_
            refine va_get (D := (dC, dI)) (ci := 4) (v := .ref qp) (C := RX4) (T := TX4) (N := 21) hx hb hw inX4 hown hK hP 0 rfl rfl 10 (by decide) (hw _ w_bc7cda3a3d) (fun _ h9 => h9) rfl dX4_setQueue_103 ?_
            refine lv_iload_n hx hb dX4_setQueue_106 rfl (lv_at hl 0 rfl) ?_
            refine va_lald hx hb hK hP 1 0 rfl rfl (vp_in_iff.mpr (by rw [ex_35]; decide)) dX4_setQueue_107 ?_
            refine lv_ldc2 (v := 4294967295) hx hb hown (hw _ w_f420a33426) dX4_setQueue_108 ?_
            refine lv_land hx hb dX4_setQueue_111 ?_
            refine lv_topl (fun x_36 ex_36 => ?_)
            refine lv_lstore (lv' := [(4, .long x_36), (3, .int x_35), (0, .ref o), (1, .int 164), (2, .int v)]) hx hb dX4_setQueue_112 hl (by decide) rfl (fun ls hl => ?_)
            refine lv_aload_n hx hb dX4_setQueue_114 rfl (lv_at hl 2 rfl) ?_
            refine va_get (D := (dC, dI)) (ci := 4) (v := .ref qp) (C := RX4) (T := TX4) (N := 21) hx hb hw inX4 hown hK hP 0 rfl rfl 10 (by decide) (hw _ w_bc7cda3a3d) (fun _ h9 => h9) rfl dX4_setQueue_115 ?_
            refine lv_iload_n hx hb dX4_setQueue_118 rfl (lv_at hl 1 rfl) ?_
            refine va_lald hx hb hK hP 1 0 rfl rfl (vp_in_iff.mpr (by rw [ex_35]; decide)) dX4_setQueue_119 ?_
            refine lv_bipush (v := 32) hx hb dX4_setQueue_120 (by decide) ?_
            refine lv_lushr (v := (((pl3 bl of an) x_35.toNatClampNeg).toUInt64 >>> ((32 : Int32).toInt64.toUInt64 &&& Int64.toUInt64 63)).toInt64) hx hb dX4_setQueue_122 rfl ?_
            refine lv_topl (fun x_37 ex_37 => ?_)
            refine lv_lstore (lv' := [(6, .long x_37), (4, .long x_36), (3, .int x_35), (0, .ref o), (1, .int 164), (2, .int v)]) hx hb dX4_setQueue_123 hl (by decide) rfl (fun ls hl => ?_)
            refine lv_aload_n hx hb dX4_setQueue_125 rfl (lv_at hl 3 rfl) ?_
            refine va_get (D := (dC, dI)) (ci := 4) (v := .ref qp) (C := RX4) (T := TX4) (N := 21) hx hb hw inX4 hown hK hP 0 rfl rfl 10 (by decide) (hw _ w_bc7cda3a3d) (fun _ h9 => h9) rfl dX4_setQueue_126 ?_
            refine lv_iload_n hx hb dX4_setQueue_129 rfl (lv_at hl 2 rfl) ?_
            refine lv_iload_n hx hb dX4_setQueue_130 rfl (lv_at hl 4 rfl) ?_
            refine lv_bipush (v := 8) hx hb dX4_setQueue_131 (by decide) ?_
            refine lv_irem hx hb dX4_setQueue_133 (by decide) ?_
            refine lv_if_ne (tgt := 152) hx hb dX4_setQueue_134 (by decide) (fun c_38 => ?_) (fun c_38 => ?_)
            · skip
              refine lv_iload_n hx hb dX4_setQueue_152 rfl (lv_at hl 5 rfl) ?_
              refine lv_i2l (v := v.toInt64) hx hb dX4_setQueue_153 rfl ?_
              refine lv_bipush (v := 32) hx hb dX4_setQueue_154 (by decide) ?_
              refine lv_lshl (v := v.toInt64 <<< ((32 : Int32).toInt64 &&& 63)) hx hb dX4_setQueue_156 rfl ?_
              refine lv_lload hx hb dX4_setQueue_157 (lv_at hl 1 rfl) ?_
              refine lv_lor hx hb dX4_setQueue_159 ?_
              refine lv_topl (fun x_39 ex_39 => ?_)
              refine va_last hx hb hK hP hD hS 1 0 rfl rfl (vp_in_iff.mpr (by rw [ex_35]; decide)) dX4_setQueue_160 (fun H locs hP hD hS => ?_)
              have hP : va_P (dC, dI) vwCl [(o, .inr (4, [.int cd, .int sc, .ref qm, .ref qd, .int ch, .int fe, .int sz, .int rd, .int ca, .int sx, .ref qp, .int co, .int gi, .int aw, .int cg, .int bk, .ref qs, .ref ql, .ref qo, .int ax, .long wi])), (qp, .inl (cJ, 3, .inr (.inl (vp_updL (pl3 bl of an) x_35.toNatClampNeg x_39))))] H := hP
              have hD : va_D A [(o, .inr (4, [.int cd, .int sc, .ref qm, .ref qd, .int ch, .int fe, .int sz, .int rd, .int ca, .int sx, .ref qp, .int co, .int gi, .int aw, .int cg, .int bk, .ref qs, .ref ql, .ref qo, .int ax, .long wi])), (qp, .inl (cJ, 3, .inr (.inl (vp_updL (pl3 bl of an) x_35.toNatClampNeg x_39))))] := hD
              have ep_40 : vp_updL (pl3 bl of an) x_35.toNatClampNeg x_39 = pl3 bl of x_39 := by rw [ex_35]; exact pl3_2 _ _ _ _
              rw [ep_40] at hP hD
              have hP : va_P (dC, dI) vwCl [(o, .inr (4, [.int cd, .int sc, .ref qm, .ref qd, .int ch, .int fe, .int sz, .int rd, .int ca, .int sx, .ref qp, .int co, .int gi, .int aw, .int cg, .int bk, .ref qs, .ref ql, .ref qo, .int ax, .long wi])), (qp, .inl (cJ, 3, .inr (.inl (pl3 bl of x_39))))] H := hP
              have hD : va_D A [(o, .inr (4, [.int cd, .int sc, .ref qm, .ref qd, .int ch, .int fe, .int sz, .int rd, .int ca, .int sx, .ref qp, .int co, .int gi, .int aw, .int cg, .int bk, .ref qs, .ref ql, .ref qo, .int ax, .long wi])), (qp, .inl (cJ, 3, .inr (.inl (pl3 bl of x_39))))] := hD
              have hP9 : va_P (dC, dI) vwCl [(o, .inr (4, [.int cd, .int sc, .ref qm, .ref qd, .int ch, .int fe, .int sz, .int rd, .int ca, .int sx, .ref qp, .int co, .int gi, .int aw, .int cg, .int bk, .ref qs, .ref ql, .ref qo, .int ax, .long wi])), (qp, .inl (cJ, 3, .inr (.inl (pl3 bl of x_39))))] H := by exact hP.sub (ws' := [(o, .inr (4, [.int cd, .int sc, .ref qm, .ref qd, .int ch, .int fe, .int sz, .int rd, .int ca, .int sx, .ref qp, .int co, .int gi, .int aw, .int cg, .int bk, .ref qs, .ref ql, .ref qo, .int ax, .long wi])), (qp, .inl (cJ, 3, .inr (.inl (pl3 bl of x_39))))]) [0, 1] rfl
              have hD9 : va_D A [(o, .inr (4, [.int cd, .int sc, .ref qm, .ref qd, .int ch, .int fe, .int sz, .int rd, .int ca, .int sx, .ref qp, .int co, .int gi, .int aw, .int cg, .int bk, .ref qs, .ref ql, .ref qo, .int ax, .long wi])), (qp, .inl (cJ, 3, .inr (.inl (pl3 bl of x_39))))] := by exact hD.sub (ws' := [(o, .inr (4, [.int cd, .int sc, .ref qm, .ref qd, .int ch, .int fe, .int sz, .int rd, .int ca, .int sx, .ref qp, .int co, .int gi, .int aw, .int cg, .int bk, .ref qs, .ref ql, .ref qo, .int ax, .long wi])), (qp, .inl (cJ, 3, .inr (.inl (pl3 bl of x_39))))]) [0, 1] (by decide) rfl
              have hK9 := hK.sub (tys' := [(cJ, .long)]) [0] rfl
              exact W.vret hx hb hr (fun t ht hW => ⟨⟨(sz, rd, bl, of, x_39), rfl, (by unfold qSet qUp; rw [if_pos (by simp_all), if_neg (by decide), if_neg (by decide), if_neg (by decide), if_neg (by decide), if_neg (by decide), if_neg (by decide), if_neg (by decide), if_pos rfl, ex_39, ex_36, ex_35, show pl3 bl of an (((164 : Int32) - 128) / 16).toNatClampNeg = an from rfl]; rfl), by rw [ht]; exact hP9, va_K.moved hW.alike hK9, hD9⟩, hS.F ht⟩) hS.2.2 dX4_setQueue_161
            · skip
              exact absurd c_38 (by decide)
        · skip
          refine lv_aload_n hx hb dX4_setQueue_75 rfl (lv_at hl 0 rfl) ?_
          refine lv_iload_n hx hb dX4_setQueue_76 rfl (lv_at hl 2 rfl) ?_
          refine lv_iconst (v := 2) hx hb dX4_setQueue_77 (by decide) ?_
          refine lv_irem hx hb dX4_setQueue_78 (by decide) ?_
          refine lv_if_eq (tgt := 86) hx hb dX4_setQueue_79 (by decide) (fun c_41 => ?_) (fun c_41 => ?_)
          · skip
            refine lv_iconst (v := 0) hx hb dX4_setQueue_86 (by decide) ?_
            refine va_put (D := (dC, dI)) (ci := 4) (v := .int 0) (ty := .boolean) (C := RX4) (T := TX4) (N := 21) hx hb hw inX4 tyX4 tyX4_ok nmX4 hown hK hP hD hS 0 rfl rfl 7 (by decide) (hw _ w_c01c73850f) (fun _ h9 => h9) rfl (by decide +kernel) rfl rfl (Nat.le_of_ble_eq_true rfl) dX4_setQueue_87 (fun H locs hP hD hS => ?_)
            have hP : va_P (dC, dI) vwCl [(o, .inr (4, [.int cd, .int sc, .ref qm, .ref qd, .int ch, .int fe, .int sz, .int 0, .int ca, .int sx, .ref qp, .int co, .int gi, .int aw, .int cg, .int bk, .ref qs, .ref ql, .ref qo, .int ax, .long wi])), (qp, .inl (cJ, 3, .inr (.inl (pl3 bl of an))))] H := hP
            have hD : va_D A [(o, .inr (4, [.int cd, .int sc, .ref qm, .ref qd, .int ch, .int fe, .int sz, .int 0, .int ca, .int sx, .ref qp, .int co, .int gi, .int aw, .int cg, .int bk, .ref qs, .ref ql, .ref qo, .int ax, .long wi])), (qp, .inl (cJ, 3, .inr (.inl (pl3 bl of an))))] := hD
            refine lv_goto (tgt := 161) hx hb dX4_setQueue_90 (by decide) ?_
            have hP9 : va_P (dC, dI) vwCl [(o, .inr (4, [.int cd, .int sc, .ref qm, .ref qd, .int ch, .int fe, .int sz, .int 0, .int ca, .int sx, .ref qp, .int co, .int gi, .int aw, .int cg, .int bk, .ref qs, .ref ql, .ref qo, .int ax, .long wi])), (qp, .inl (cJ, 3, .inr (.inl (pl3 bl of an))))] H := by exact hP.sub (ws' := [(o, .inr (4, [.int cd, .int sc, .ref qm, .ref qd, .int ch, .int fe, .int sz, .int 0, .int ca, .int sx, .ref qp, .int co, .int gi, .int aw, .int cg, .int bk, .ref qs, .ref ql, .ref qo, .int ax, .long wi])), (qp, .inl (cJ, 3, .inr (.inl (pl3 bl of an))))]) [0, 1] rfl
            have hD9 : va_D A [(o, .inr (4, [.int cd, .int sc, .ref qm, .ref qd, .int ch, .int fe, .int sz, .int 0, .int ca, .int sx, .ref qp, .int co, .int gi, .int aw, .int cg, .int bk, .ref qs, .ref ql, .ref qo, .int ax, .long wi])), (qp, .inl (cJ, 3, .inr (.inl (pl3 bl of an))))] := by exact hD.sub (ws' := [(o, .inr (4, [.int cd, .int sc, .ref qm, .ref qd, .int ch, .int fe, .int sz, .int 0, .int ca, .int sx, .ref qp, .int co, .int gi, .int aw, .int cg, .int bk, .ref qs, .ref ql, .ref qo, .int ax, .long wi])), (qp, .inl (cJ, 3, .inr (.inl (pl3 bl of an))))]) [0, 1] (by decide) rfl
            have hK9 := hK.sub (tys' := [(cJ, .long)]) [0] rfl
            exact W.vret hx hb hr (fun t ht hW => ⟨⟨(sz, 0, bl, of, an), rfl, (by unfold qSet qUp; rw [if_pos (by simp_all)]; simp_all [par_m]), by rw [ht]; exact hP9, va_K.moved hW.alike hK9, hD9⟩, hS.F ht⟩) hS.2.2 dX4_setQueue_161
          · skip
            refine lv_iconst (v := 1) hx hb dX4_setQueue_82 (by decide) ?_
            refine lv_goto (tgt := 87) hx hb dX4_setQueue_83 (by decide) ?_
            refine va_put (D := (dC, dI)) (ci := 4) (v := .int 1) (ty := .boolean) (C := RX4) (T := TX4) (N := 21) hx hb hw inX4 tyX4 tyX4_ok nmX4 hown hK hP hD hS 0 rfl rfl 7 (by decide) (hw _ w_c01c73850f) (fun _ h9 => h9) rfl (by decide +kernel) rfl rfl (Nat.le_of_ble_eq_true rfl) dX4_setQueue_87 (fun H locs hP hD hS => ?_)
            have hP : va_P (dC, dI) vwCl [(o, .inr (4, [.int cd, .int sc, .ref qm, .ref qd, .int ch, .int fe, .int sz, .int 1, .int ca, .int sx, .ref qp, .int co, .int gi, .int aw, .int cg, .int bk, .ref qs, .ref ql, .ref qo, .int ax, .long wi])), (qp, .inl (cJ, 3, .inr (.inl (pl3 bl of an))))] H := hP
            have hD : va_D A [(o, .inr (4, [.int cd, .int sc, .ref qm, .ref qd, .int ch, .int fe, .int sz, .int 1, .int ca, .int sx, .ref qp, .int co, .int gi, .int aw, .int cg, .int bk, .ref qs, .ref ql, .ref qo, .int ax, .long wi])), (qp, .inl (cJ, 3, .inr (.inl (pl3 bl of an))))] := hD
            refine lv_goto (tgt := 161) hx hb dX4_setQueue_90 (by decide) ?_
            have hP9 : va_P (dC, dI) vwCl [(o, .inr (4, [.int cd, .int sc, .ref qm, .ref qd, .int ch, .int fe, .int sz, .int 1, .int ca, .int sx, .ref qp, .int co, .int gi, .int aw, .int cg, .int bk, .ref qs, .ref ql, .ref qo, .int ax, .long wi])), (qp, .inl (cJ, 3, .inr (.inl (pl3 bl of an))))] H := by exact hP.sub (ws' := [(o, .inr (4, [.int cd, .int sc, .ref qm, .ref qd, .int ch, .int fe, .int sz, .int 1, .int ca, .int sx, .ref qp, .int co, .int gi, .int aw, .int cg, .int bk, .ref qs, .ref ql, .ref qo, .int ax, .long wi])), (qp, .inl (cJ, 3, .inr (.inl (pl3 bl of an))))]) [0, 1] rfl
            have hD9 : va_D A [(o, .inr (4, [.int cd, .int sc, .ref qm, .ref qd, .int ch, .int fe, .int sz, .int 1, .int ca, .int sx, .ref qp, .int co, .int gi, .int aw, .int cg, .int bk, .ref qs, .ref ql, .ref qo, .int ax, .long wi])), (qp, .inl (cJ, 3, .inr (.inl (pl3 bl of an))))] := by exact hD.sub (ws' := [(o, .inr (4, [.int cd, .int sc, .ref qm, .ref qd, .int ch, .int fe, .int sz, .int 1, .int ca, .int sx, .ref qp, .int co, .int gi, .int aw, .int cg, .int bk, .ref qs, .ref ql, .ref qo, .int ax, .long wi])), (qp, .inl (cJ, 3, .inr (.inl (pl3 bl of an))))]) [0, 1] (by decide) rfl
            have hK9 := hK.sub (tys' := [(cJ, .long)]) [0] rfl
            exact W.vret hx hb hr (fun t ht hW => ⟨⟨(sz, 1, bl, of, an), rfl, (by unfold qSet qUp; rw [if_pos (by simp_all)]; simp_all [par_m]), by rw [ht]; exact hP9, va_K.moved hW.alike hK9, hD9⟩, hS.F ht⟩) hS.2.2 dX4_setQueue_161
      · skip
        refine lv_aload_n hx hb dX4_setQueue_27 rfl (lv_at hl 0 rfl) ?_
        refine lv_iload_n hx hb dX4_setQueue_28 rfl (lv_at hl 2 rfl) ?_
        refine lv_iconst (v := 1) hx hb dX4_setQueue_29 (by decide) ?_
        refine lv_icmp_eq (tgt := 55) hx hb dX4_setQueue_30 (by decide) (fun c_42 => ?_) (fun c_42 => ?_)
        · skip
          refine lv_iload_n hx hb dX4_setQueue_55 rfl (lv_at hl 2 rfl) ?_
          refine lv_goto (tgt := 63) hx hb dX4_setQueue_56 (by decide) ?_
          refine va_put (D := (dC, dI)) (ci := 4) (v := .int v) (ty := .int) (C := RX4) (T := TX4) (N := 21) hx hb hw inX4 tyX4 tyX4_ok nmX4 hown hK hP hD hS 0 rfl rfl 6 (by decide) (hw _ w_19a341c1eb) (fun _ h9 => h9) rfl (by decide +kernel) rfl rfl (Nat.le_of_ble_eq_true rfl) dX4_setQueue_63 (fun H locs hP hD hS => ?_)
          have hP : va_P (dC, dI) vwCl [(o, .inr (4, [.int cd, .int sc, .ref qm, .ref qd, .int ch, .int fe, .int v, .int rd, .int ca, .int sx, .ref qp, .int co, .int gi, .int aw, .int cg, .int bk, .ref qs, .ref ql, .ref qo, .int ax, .long wi])), (qp, .inl (cJ, 3, .inr (.inl (pl3 bl of an))))] H := hP
          have hD : va_D A [(o, .inr (4, [.int cd, .int sc, .ref qm, .ref qd, .int ch, .int fe, .int v, .int rd, .int ca, .int sx, .ref qp, .int co, .int gi, .int aw, .int cg, .int bk, .ref qs, .ref ql, .ref qo, .int ax, .long wi])), (qp, .inl (cJ, 3, .inr (.inl (pl3 bl of an))))] := hD
          refine lv_goto (tgt := 161) hx hb dX4_setQueue_66 (by decide) ?_
          have hP9 : va_P (dC, dI) vwCl [(o, .inr (4, [.int cd, .int sc, .ref qm, .ref qd, .int ch, .int fe, .int v, .int rd, .int ca, .int sx, .ref qp, .int co, .int gi, .int aw, .int cg, .int bk, .ref qs, .ref ql, .ref qo, .int ax, .long wi])), (qp, .inl (cJ, 3, .inr (.inl (pl3 bl of an))))] H := by exact hP.sub (ws' := [(o, .inr (4, [.int cd, .int sc, .ref qm, .ref qd, .int ch, .int fe, .int v, .int rd, .int ca, .int sx, .ref qp, .int co, .int gi, .int aw, .int cg, .int bk, .ref qs, .ref ql, .ref qo, .int ax, .long wi])), (qp, .inl (cJ, 3, .inr (.inl (pl3 bl of an))))]) [0, 1] rfl
          have hD9 : va_D A [(o, .inr (4, [.int cd, .int sc, .ref qm, .ref qd, .int ch, .int fe, .int v, .int rd, .int ca, .int sx, .ref qp, .int co, .int gi, .int aw, .int cg, .int bk, .ref qs, .ref ql, .ref qo, .int ax, .long wi])), (qp, .inl (cJ, 3, .inr (.inl (pl3 bl of an))))] := by exact hD.sub (ws' := [(o, .inr (4, [.int cd, .int sc, .ref qm, .ref qd, .int ch, .int fe, .int v, .int rd, .int ca, .int sx, .ref qp, .int co, .int gi, .int aw, .int cg, .int bk, .ref qs, .ref ql, .ref qo, .int ax, .long wi])), (qp, .inl (cJ, 3, .inr (.inl (pl3 bl of an))))]) [0, 1] (by decide) rfl
          have hK9 := hK.sub (tys' := [(cJ, .long)]) [0] rfl
          exact W.vret hx hb hr (fun t ht hW => ⟨⟨(v, rd, bl, of, an), rfl, (by unfold qSet qUp; rw [if_pos (by simp_all)]; simp_all [par_m]), by rw [ht]; exact hP9, va_K.moved hW.alike hK9, hD9⟩, hS.F ht⟩) hS.2.2 dX4_setQueue_161
        · skip
          refine lv_iload_n hx hb dX4_setQueue_33 rfl (lv_at hl 2 rfl) ?_
          refine lv_iconst (v := 2) hx hb dX4_setQueue_34 (by decide) ?_
          refine lv_icmp_eq (tgt := 55) hx hb dX4_setQueue_35 (by decide) (fun c_43 => ?_) (fun c_43 => ?_)
          · skip
            refine lv_iload_n hx hb dX4_setQueue_55 rfl (lv_at hl 2 rfl) ?_
            refine lv_goto (tgt := 63) hx hb dX4_setQueue_56 (by decide) ?_
            refine va_put (D := (dC, dI)) (ci := 4) (v := .int v) (ty := .int) (C := RX4) (T := TX4) (N := 21) hx hb hw inX4 tyX4 tyX4_ok nmX4 hown hK hP hD hS 0 rfl rfl 6 (by decide) (hw _ w_19a341c1eb) (fun _ h9 => h9) rfl (by decide +kernel) rfl rfl (Nat.le_of_ble_eq_true rfl) dX4_setQueue_63 (fun H locs hP hD hS => ?_)
            have hP : va_P (dC, dI) vwCl [(o, .inr (4, [.int cd, .int sc, .ref qm, .ref qd, .int ch, .int fe, .int v, .int rd, .int ca, .int sx, .ref qp, .int co, .int gi, .int aw, .int cg, .int bk, .ref qs, .ref ql, .ref qo, .int ax, .long wi])), (qp, .inl (cJ, 3, .inr (.inl (pl3 bl of an))))] H := hP
            have hD : va_D A [(o, .inr (4, [.int cd, .int sc, .ref qm, .ref qd, .int ch, .int fe, .int v, .int rd, .int ca, .int sx, .ref qp, .int co, .int gi, .int aw, .int cg, .int bk, .ref qs, .ref ql, .ref qo, .int ax, .long wi])), (qp, .inl (cJ, 3, .inr (.inl (pl3 bl of an))))] := hD
            refine lv_goto (tgt := 161) hx hb dX4_setQueue_66 (by decide) ?_
            have hP9 : va_P (dC, dI) vwCl [(o, .inr (4, [.int cd, .int sc, .ref qm, .ref qd, .int ch, .int fe, .int v, .int rd, .int ca, .int sx, .ref qp, .int co, .int gi, .int aw, .int cg, .int bk, .ref qs, .ref ql, .ref qo, .int ax, .long wi])), (qp, .inl (cJ, 3, .inr (.inl (pl3 bl of an))))] H := by exact hP.sub (ws' := [(o, .inr (4, [.int cd, .int sc, .ref qm, .ref qd, .int ch, .int fe, .int v, .int rd, .int ca, .int sx, .ref qp, .int co, .int gi, .int aw, .int cg, .int bk, .ref qs, .ref ql, .ref qo, .int ax, .long wi])), (qp, .inl (cJ, 3, .inr (.inl (pl3 bl of an))))]) [0, 1] rfl
            have hD9 : va_D A [(o, .inr (4, [.int cd, .int sc, .ref qm, .ref qd, .int ch, .int fe, .int v, .int rd, .int ca, .int sx, .ref qp, .int co, .int gi, .int aw, .int cg, .int bk, .ref qs, .ref ql, .ref qo, .int ax, .long wi])), (qp, .inl (cJ, 3, .inr (.inl (pl3 bl of an))))] := by exact hD.sub (ws' := [(o, .inr (4, [.int cd, .int sc, .ref qm, .ref qd, .int ch, .int fe, .int v, .int rd, .int ca, .int sx, .ref qp, .int co, .int gi, .int aw, .int cg, .int bk, .ref qs, .ref ql, .ref qo, .int ax, .long wi])), (qp, .inl (cJ, 3, .inr (.inl (pl3 bl of an))))]) [0, 1] (by decide) rfl
            have hK9 := hK.sub (tys' := [(cJ, .long)]) [0] rfl
            exact W.vret hx hb hr (fun t ht hW => ⟨⟨(v, rd, bl, of, an), rfl, (by unfold qSet qUp; rw [if_pos (by simp_all)]; simp_all [par_m]), by rw [ht]; exact hP9, va_K.moved hW.alike hK9, hD9⟩, hS.F ht⟩) hS.2.2 dX4_setQueue_161
          · skip
            refine lv_iload_n hx hb dX4_setQueue_38 rfl (lv_at hl 2 rfl) ?_
            refine lv_iconst (v := 4) hx hb dX4_setQueue_39 (by decide) ?_
            refine lv_icmp_eq (tgt := 55) hx hb dX4_setQueue_40 (by decide) (fun c_44 => ?_) (fun c_44 => ?_)
            · skip
              refine lv_iload_n hx hb dX4_setQueue_55 rfl (lv_at hl 2 rfl) ?_
              refine lv_goto (tgt := 63) hx hb dX4_setQueue_56 (by decide) ?_
              refine va_put (D := (dC, dI)) (ci := 4) (v := .int v) (ty := .int) (C := RX4) (T := TX4) (N := 21) hx hb hw inX4 tyX4 tyX4_ok nmX4 hown hK hP hD hS 0 rfl rfl 6 (by decide) (hw _ w_19a341c1eb) (fun _ h9 => h9) rfl (by decide +kernel) rfl rfl (Nat.le_of_ble_eq_true rfl) dX4_setQueue_63 (fun H locs hP hD hS => ?_)
              have hP : va_P (dC, dI) vwCl [(o, .inr (4, [.int cd, .int sc, .ref qm, .ref qd, .int ch, .int fe, .int v, .int rd, .int ca, .int sx, .ref qp, .int co, .int gi, .int aw, .int cg, .int bk, .ref qs, .ref ql, .ref qo, .int ax, .long wi])), (qp, .inl (cJ, 3, .inr (.inl (pl3 bl of an))))] H := hP
              have hD : va_D A [(o, .inr (4, [.int cd, .int sc, .ref qm, .ref qd, .int ch, .int fe, .int v, .int rd, .int ca, .int sx, .ref qp, .int co, .int gi, .int aw, .int cg, .int bk, .ref qs, .ref ql, .ref qo, .int ax, .long wi])), (qp, .inl (cJ, 3, .inr (.inl (pl3 bl of an))))] := hD
              refine lv_goto (tgt := 161) hx hb dX4_setQueue_66 (by decide) ?_
              have hP9 : va_P (dC, dI) vwCl [(o, .inr (4, [.int cd, .int sc, .ref qm, .ref qd, .int ch, .int fe, .int v, .int rd, .int ca, .int sx, .ref qp, .int co, .int gi, .int aw, .int cg, .int bk, .ref qs, .ref ql, .ref qo, .int ax, .long wi])), (qp, .inl (cJ, 3, .inr (.inl (pl3 bl of an))))] H := by exact hP.sub (ws' := [(o, .inr (4, [.int cd, .int sc, .ref qm, .ref qd, .int ch, .int fe, .int v, .int rd, .int ca, .int sx, .ref qp, .int co, .int gi, .int aw, .int cg, .int bk, .ref qs, .ref ql, .ref qo, .int ax, .long wi])), (qp, .inl (cJ, 3, .inr (.inl (pl3 bl of an))))]) [0, 1] rfl
              have hD9 : va_D A [(o, .inr (4, [.int cd, .int sc, .ref qm, .ref qd, .int ch, .int fe, .int v, .int rd, .int ca, .int sx, .ref qp, .int co, .int gi, .int aw, .int cg, .int bk, .ref qs, .ref ql, .ref qo, .int ax, .long wi])), (qp, .inl (cJ, 3, .inr (.inl (pl3 bl of an))))] := by exact hD.sub (ws' := [(o, .inr (4, [.int cd, .int sc, .ref qm, .ref qd, .int ch, .int fe, .int v, .int rd, .int ca, .int sx, .ref qp, .int co, .int gi, .int aw, .int cg, .int bk, .ref qs, .ref ql, .ref qo, .int ax, .long wi])), (qp, .inl (cJ, 3, .inr (.inl (pl3 bl of an))))]) [0, 1] (by decide) rfl
              have hK9 := hK.sub (tys' := [(cJ, .long)]) [0] rfl
              exact W.vret hx hb hr (fun t ht hW => ⟨⟨(v, rd, bl, of, an), rfl, (by unfold qSet qUp; rw [if_pos (by simp_all)]; simp_all [par_m]), by rw [ht]; exact hP9, va_K.moved hW.alike hK9, hD9⟩, hS.F ht⟩) hS.2.2 dX4_setQueue_161
            · skip
              refine lv_iload_n hx hb dX4_setQueue_43 rfl (lv_at hl 2 rfl) ?_
              refine lv_bipush (v := 8) hx hb dX4_setQueue_44 (by decide) ?_
              refine lv_icmp_eq (tgt := 55) hx hb dX4_setQueue_46 (by decide) (fun c_45 => ?_) (fun c_45 => ?_)
              · skip
                refine lv_iload_n hx hb dX4_setQueue_55 rfl (lv_at hl 2 rfl) ?_
                refine lv_goto (tgt := 63) hx hb dX4_setQueue_56 (by decide) ?_
                refine va_put (D := (dC, dI)) (ci := 4) (v := .int v) (ty := .int) (C := RX4) (T := TX4) (N := 21) hx hb hw inX4 tyX4 tyX4_ok nmX4 hown hK hP hD hS 0 rfl rfl 6 (by decide) (hw _ w_19a341c1eb) (fun _ h9 => h9) rfl (by decide +kernel) rfl rfl (Nat.le_of_ble_eq_true rfl) dX4_setQueue_63 (fun H locs hP hD hS => ?_)
                have hP : va_P (dC, dI) vwCl [(o, .inr (4, [.int cd, .int sc, .ref qm, .ref qd, .int ch, .int fe, .int v, .int rd, .int ca, .int sx, .ref qp, .int co, .int gi, .int aw, .int cg, .int bk, .ref qs, .ref ql, .ref qo, .int ax, .long wi])), (qp, .inl (cJ, 3, .inr (.inl (pl3 bl of an))))] H := hP
                have hD : va_D A [(o, .inr (4, [.int cd, .int sc, .ref qm, .ref qd, .int ch, .int fe, .int v, .int rd, .int ca, .int sx, .ref qp, .int co, .int gi, .int aw, .int cg, .int bk, .ref qs, .ref ql, .ref qo, .int ax, .long wi])), (qp, .inl (cJ, 3, .inr (.inl (pl3 bl of an))))] := hD
                refine lv_goto (tgt := 161) hx hb dX4_setQueue_66 (by decide) ?_
                have hP9 : va_P (dC, dI) vwCl [(o, .inr (4, [.int cd, .int sc, .ref qm, .ref qd, .int ch, .int fe, .int v, .int rd, .int ca, .int sx, .ref qp, .int co, .int gi, .int aw, .int cg, .int bk, .ref qs, .ref ql, .ref qo, .int ax, .long wi])), (qp, .inl (cJ, 3, .inr (.inl (pl3 bl of an))))] H := by exact hP.sub (ws' := [(o, .inr (4, [.int cd, .int sc, .ref qm, .ref qd, .int ch, .int fe, .int v, .int rd, .int ca, .int sx, .ref qp, .int co, .int gi, .int aw, .int cg, .int bk, .ref qs, .ref ql, .ref qo, .int ax, .long wi])), (qp, .inl (cJ, 3, .inr (.inl (pl3 bl of an))))]) [0, 1] rfl
                have hD9 : va_D A [(o, .inr (4, [.int cd, .int sc, .ref qm, .ref qd, .int ch, .int fe, .int v, .int rd, .int ca, .int sx, .ref qp, .int co, .int gi, .int aw, .int cg, .int bk, .ref qs, .ref ql, .ref qo, .int ax, .long wi])), (qp, .inl (cJ, 3, .inr (.inl (pl3 bl of an))))] := by exact hD.sub (ws' := [(o, .inr (4, [.int cd, .int sc, .ref qm, .ref qd, .int ch, .int fe, .int v, .int rd, .int ca, .int sx, .ref qp, .int co, .int gi, .int aw, .int cg, .int bk, .ref qs, .ref ql, .ref qo, .int ax, .long wi])), (qp, .inl (cJ, 3, .inr (.inl (pl3 bl of an))))]) [0, 1] (by decide) rfl
                have hK9 := hK.sub (tys' := [(cJ, .long)]) [0] rfl
                exact W.vret hx hb hr (fun t ht hW => ⟨⟨(v, rd, bl, of, an), rfl, (by unfold qSet qUp; rw [if_pos (by simp_all)]; simp_all [par_m]), by rw [ht]; exact hP9, va_K.moved hW.alike hK9, hD9⟩, hS.F ht⟩) hS.2.2 dX4_setQueue_161
              · skip
                refine lv_iload_n hx hb dX4_setQueue_49 rfl (lv_at hl 2 rfl) ?_
                refine lv_bipush (v := 16) hx hb dX4_setQueue_50 (by decide) ?_
                refine lv_icmp_ne (tgt := 59) hx hb dX4_setQueue_52 (by decide) (fun c_46 => ?_) (fun c_46 => ?_)
                · skip
                  refine lv_aload_n hx hb dX4_setQueue_59 rfl (lv_at hl 0 rfl) ?_
                  refine va_get (D := (dC, dI)) (ci := 4) (v := .int sz) (C := RX4) (T := TX4) (N := 21) hx hb hw inX4 hown hK hP 0 rfl rfl 6 (by decide) (hw _ w_19a341c1eb) (fun _ h9 => h9) rfl dX4_setQueue_60 ?_
                  refine va_put (D := (dC, dI)) (ci := 4) (v := .int sz) (ty := .int) (C := RX4) (T := TX4) (N := 21) hx hb hw inX4 tyX4 tyX4_ok nmX4 hown hK hP hD hS 0 rfl rfl 6 (by decide) (hw _ w_19a341c1eb) (fun _ h9 => h9) rfl (by decide +kernel) rfl rfl (Nat.le_of_ble_eq_true rfl) dX4_setQueue_63 (fun H locs hP hD hS => ?_)
                  have hP : va_P (dC, dI) vwCl [(o, .inr (4, [.int cd, .int sc, .ref qm, .ref qd, .int ch, .int fe, .int sz, .int rd, .int ca, .int sx, .ref qp, .int co, .int gi, .int aw, .int cg, .int bk, .ref qs, .ref ql, .ref qo, .int ax, .long wi])), (qp, .inl (cJ, 3, .inr (.inl (pl3 bl of an))))] H := hP
                  have hD : va_D A [(o, .inr (4, [.int cd, .int sc, .ref qm, .ref qd, .int ch, .int fe, .int sz, .int rd, .int ca, .int sx, .ref qp, .int co, .int gi, .int aw, .int cg, .int bk, .ref qs, .ref ql, .ref qo, .int ax, .long wi])), (qp, .inl (cJ, 3, .inr (.inl (pl3 bl of an))))] := hD
                  refine lv_goto (tgt := 161) hx hb dX4_setQueue_66 (by decide) ?_
                  have hP9 : va_P (dC, dI) vwCl [(o, .inr (4, [.int cd, .int sc, .ref qm, .ref qd, .int ch, .int fe, .int sz, .int rd, .int ca, .int sx, .ref qp, .int co, .int gi, .int aw, .int cg, .int bk, .ref qs, .ref ql, .ref qo, .int ax, .long wi])), (qp, .inl (cJ, 3, .inr (.inl (pl3 bl of an))))] H := by exact hP.sub (ws' := [(o, .inr (4, [.int cd, .int sc, .ref qm, .ref qd, .int ch, .int fe, .int sz, .int rd, .int ca, .int sx, .ref qp, .int co, .int gi, .int aw, .int cg, .int bk, .ref qs, .ref ql, .ref qo, .int ax, .long wi])), (qp, .inl (cJ, 3, .inr (.inl (pl3 bl of an))))]) [0, 1] rfl
                  have hD9 : va_D A [(o, .inr (4, [.int cd, .int sc, .ref qm, .ref qd, .int ch, .int fe, .int sz, .int rd, .int ca, .int sx, .ref qp, .int co, .int gi, .int aw, .int cg, .int bk, .ref qs, .ref ql, .ref qo, .int ax, .long wi])), (qp, .inl (cJ, 3, .inr (.inl (pl3 bl of an))))] := by exact hD.sub (ws' := [(o, .inr (4, [.int cd, .int sc, .ref qm, .ref qd, .int ch, .int fe, .int sz, .int rd, .int ca, .int sx, .ref qp, .int co, .int gi, .int aw, .int cg, .int bk, .ref qs, .ref ql, .ref qo, .int ax, .long wi])), (qp, .inl (cJ, 3, .inr (.inl (pl3 bl of an))))]) [0, 1] (by decide) rfl
                  have hK9 := hK.sub (tys' := [(cJ, .long)]) [0] rfl
                  exact W.vret hx hb hr (fun t ht hW => ⟨⟨(sz, rd, bl, of, an), rfl, (by unfold qSet qUp; rw [if_pos (by simp_all)]; simp_all [par_m]), by rw [ht]; exact hP9, va_K.moved hW.alike hK9, hD9⟩, hS.F ht⟩) hS.2.2 dX4_setQueue_161
                · skip
                  refine lv_iload_n hx hb dX4_setQueue_55 rfl (lv_at hl 2 rfl) ?_
                  refine lv_goto (tgt := 63) hx hb dX4_setQueue_56 (by decide) ?_
                  refine va_put (D := (dC, dI)) (ci := 4) (v := .int v) (ty := .int) (C := RX4) (T := TX4) (N := 21) hx hb hw inX4 tyX4 tyX4_ok nmX4 hown hK hP hD hS 0 rfl rfl 6 (by decide) (hw _ w_19a341c1eb) (fun _ h9 => h9) rfl (by decide +kernel) rfl rfl (Nat.le_of_ble_eq_true rfl) dX4_setQueue_63 (fun H locs hP hD hS => ?_)
                  have hP : va_P (dC, dI) vwCl [(o, .inr (4, [.int cd, .int sc, .ref qm, .ref qd, .int ch, .int fe, .int v, .int rd, .int ca, .int sx, .ref qp, .int co, .int gi, .int aw, .int cg, .int bk, .ref qs, .ref ql, .ref qo, .int ax, .long wi])), (qp, .inl (cJ, 3, .inr (.inl (pl3 bl of an))))] H := hP
                  have hD : va_D A [(o, .inr (4, [.int cd, .int sc, .ref qm, .ref qd, .int ch, .int fe, .int v, .int rd, .int ca, .int sx, .ref qp, .int co, .int gi, .int aw, .int cg, .int bk, .ref qs, .ref ql, .ref qo, .int ax, .long wi])), (qp, .inl (cJ, 3, .inr (.inl (pl3 bl of an))))] := hD
                  refine lv_goto (tgt := 161) hx hb dX4_setQueue_66 (by decide) ?_
                  have hP9 : va_P (dC, dI) vwCl [(o, .inr (4, [.int cd, .int sc, .ref qm, .ref qd, .int ch, .int fe, .int v, .int rd, .int ca, .int sx, .ref qp, .int co, .int gi, .int aw, .int cg, .int bk, .ref qs, .ref ql, .ref qo, .int ax, .long wi])), (qp, .inl (cJ, 3, .inr (.inl (pl3 bl of an))))] H := by exact hP.sub (ws' := [(o, .inr (4, [.int cd, .int sc, .ref qm, .ref qd, .int ch, .int fe, .int v, .int rd, .int ca, .int sx, .ref qp, .int co, .int gi, .int aw, .int cg, .int bk, .ref qs, .ref ql, .ref qo, .int ax, .long wi])), (qp, .inl (cJ, 3, .inr (.inl (pl3 bl of an))))]) [0, 1] rfl
                  have hD9 : va_D A [(o, .inr (4, [.int cd, .int sc, .ref qm, .ref qd, .int ch, .int fe, .int v, .int rd, .int ca, .int sx, .ref qp, .int co, .int gi, .int aw, .int cg, .int bk, .ref qs, .ref ql, .ref qo, .int ax, .long wi])), (qp, .inl (cJ, 3, .inr (.inl (pl3 bl of an))))] := by exact hD.sub (ws' := [(o, .inr (4, [.int cd, .int sc, .ref qm, .ref qd, .int ch, .int fe, .int v, .int rd, .int ca, .int sx, .ref qp, .int co, .int gi, .int aw, .int cg, .int bk, .ref qs, .ref ql, .ref qo, .int ax, .long wi])), (qp, .inl (cJ, 3, .inr (.inl (pl3 bl of an))))]) [0, 1] (by decide) rfl
                  have hK9 := hK.sub (tys' := [(cJ, .long)]) [0] rfl
                  exact W.vret hx hb hr (fun t ht hW => ⟨⟨(v, rd, bl, of, an), rfl, (by unfold qSet qUp; rw [if_pos (by simp_all)]; simp_all [par_m]), by rw [ht]; exact hP9, va_K.moved hW.alike hK9, hD9⟩, hS.F ht⟩) hS.2.2 dX4_setQueue_161
    · skip
      refine lv_iload_n hx hb dX4_setQueue_14 rfl (lv_at hl 1 rfl) ?_
      refine lv_bipush (v := 68) hx hb dX4_setQueue_15 (by decide) ?_
      refine lv_icmp_eq (tgt := 21) hx hb dX4_setQueue_17 (by decide) (fun c_47 => ?_) (fun c_47 => ?_)
      · skip
        refine lv_iload_n hx hb dX4_setQueue_21 rfl (lv_at hl 1 rfl) ?_
        refine lv_bipush (v := 56) hx hb dX4_setQueue_22 (by decide) ?_
        refine lv_icmp_ne (tgt := 69) hx hb dX4_setQueue_24 (by decide) (fun c_48 => ?_) (fun c_48 => ?_)
        · skip
          refine lv_iload_n hx hb dX4_setQueue_69 rfl (lv_at hl 1 rfl) ?_
          refine lv_bipush (v := 68) hx hb dX4_setQueue_70 (by decide) ?_
          refine lv_icmp_ne (tgt := 93) hx hb dX4_setQueue_72 (by decide) (fun c_49 => ?_) (fun c_49 => ?_)
          · skip
            rcases hx8 with rfl | rfl | rfl | rfl | rfl | rfl | rfl | rfl
            · skip
              exact absurd rfl c_48
            · skip
              exact absurd rfl c_49
            · skip
              refine lv_iload_n hx hb dX4_setQueue_93 rfl (lv_at hl 1 rfl) ?_
              refine lv_sipush (v := 128) hx hb dX4_setQueue_94 (by decide) ?_
              refine lv_isub hx hb dX4_setQueue_97 ?_
              refine lv_bipush (v := 16) hx hb dX4_setQueue_98 (by decide) ?_
              refine lv_idiv hx hb dX4_setQueue_100 (by decide) ?_
              refine lv_topi (fun x_50 ex_50 => ?_)
              refine lv_istore_n (lv' := [(3, .int x_50), (0, .ref o), (1, .int 128), (2, .int v)]) hx hb dX4_setQueue_101 rfl hl (by decide) rfl (fun ls hl => ?_)
              refine lv_aload_n hx hb dX4_setQueue_102 rfl (lv_at hl 1 rfl) ?_
              refine va_get (D := (dC, dI)) (ci := 4) (v := .ref qp) (C := RX4) (T := TX4) (N := 21) hx hb hw inX4 hown hK hP 0 rfl rfl 10 (by decide) (hw _ w_bc7cda3a3d) (fun _ h9 => h9) rfl dX4_setQueue_103 ?_
              refine lv_iload_n hx hb dX4_setQueue_106 rfl (lv_at hl 0 rfl) ?_
              refine va_lald hx hb hK hP 1 0 rfl rfl (vp_in_iff.mpr (by rw [ex_50]; decide)) dX4_setQueue_107 ?_
              refine lv_ldc2 (v := 4294967295) hx hb hown (hw _ w_f420a33426) dX4_setQueue_108 ?_
              refine lv_land hx hb dX4_setQueue_111 ?_
              refine lv_topl (fun x_51 ex_51 => ?_)
              refine lv_lstore (lv' := [(4, .long x_51), (3, .int x_50), (0, .ref o), (1, .int 128), (2, .int v)]) hx hb dX4_setQueue_112 hl (by decide) rfl (fun ls hl => ?_)
              refine lv_aload_n hx hb dX4_setQueue_114 rfl (lv_at hl 2 rfl) ?_
              refine va_get (D := (dC, dI)) (ci := 4) (v := .ref qp) (C := RX4) (T := TX4) (N := 21) hx hb hw inX4 hown hK hP 0 rfl rfl 10 (by decide) (hw _ w_bc7cda3a3d) (fun _ h9 => h9) rfl dX4_setQueue_115 ?_
              refine lv_iload_n hx hb dX4_setQueue_118 rfl (lv_at hl 1 rfl) ?_
              refine va_lald hx hb hK hP 1 0 rfl rfl (vp_in_iff.mpr (by rw [ex_50]; decide)) dX4_setQueue_119 ?_
              refine lv_bipush (v := 32) hx hb dX4_setQueue_120 (by decide) ?_
              refine lv_lushr (v := (((pl3 bl of an) x_50.toNatClampNeg).toUInt64 >>> ((32 : Int32).toInt64.toUInt64 &&& Int64.toUInt64 63)).toInt64) hx hb dX4_setQueue_122 rfl ?_
              refine lv_topl (fun x_52 ex_52 => ?_)
              refine lv_lstore (lv' := [(6, .long x_52), (4, .long x_51), (3, .int x_50), (0, .ref o), (1, .int 128), (2, .int v)]) hx hb dX4_setQueue_123 hl (by decide) rfl (fun ls hl => ?_)
              refine lv_aload_n hx hb dX4_setQueue_125 rfl (lv_at hl 3 rfl) ?_
              refine va_get (D := (dC, dI)) (ci := 4) (v := .ref qp) (C := RX4) (T := TX4) (N := 21) hx hb hw inX4 hown hK hP 0 rfl rfl 10 (by decide) (hw _ w_bc7cda3a3d) (fun _ h9 => h9) rfl dX4_setQueue_126 ?_
              refine lv_iload_n hx hb dX4_setQueue_129 rfl (lv_at hl 2 rfl) ?_
              refine lv_iload_n hx hb dX4_setQueue_130 rfl (lv_at hl 4 rfl) ?_
              refine lv_bipush (v := 8) hx hb dX4_setQueue_131 (by decide) ?_
              refine lv_irem hx hb dX4_setQueue_133 (by decide) ?_
              refine lv_if_ne (tgt := 152) hx hb dX4_setQueue_134 (by decide) (fun c_53 => ?_) (fun c_53 => ?_)
              · skip
                exact absurd (by decide) c_53
              · skip
                refine lv_lload hx hb dX4_setQueue_137 (lv_at hl 0 rfl) ?_
                refine lv_bipush (v := 32) hx hb dX4_setQueue_139 (by decide) ?_
                refine lv_lshl (v := x_52 <<< ((32 : Int32).toInt64 &&& 63)) hx hb dX4_setQueue_141 rfl ?_
                refine lv_iload_n hx hb dX4_setQueue_142 rfl (lv_at hl 5 rfl) ?_
                refine lv_i2l (v := v.toInt64) hx hb dX4_setQueue_143 rfl ?_
                refine lv_ldc2 (v := 4294967295) hx hb hown (hw _ w_f420a33426) dX4_setQueue_144 ?_
                refine lv_land hx hb dX4_setQueue_147 ?_
                refine lv_lor hx hb dX4_setQueue_148 ?_
                refine lv_goto (tgt := 160) hx hb dX4_setQueue_149 (by decide) ?_
                refine lv_topl (fun x_54 ex_54 => ?_)
                refine va_last hx hb hK hP hD hS 1 0 rfl rfl (vp_in_iff.mpr (by rw [ex_50]; decide)) dX4_setQueue_160 (fun H locs hP hD hS => ?_)
                have hP : va_P (dC, dI) vwCl [(o, .inr (4, [.int cd, .int sc, .ref qm, .ref qd, .int ch, .int fe, .int sz, .int rd, .int ca, .int sx, .ref qp, .int co, .int gi, .int aw, .int cg, .int bk, .ref qs, .ref ql, .ref qo, .int ax, .long wi])), (qp, .inl (cJ, 3, .inr (.inl (vp_updL (pl3 bl of an) x_50.toNatClampNeg x_54))))] H := hP
                have hD : va_D A [(o, .inr (4, [.int cd, .int sc, .ref qm, .ref qd, .int ch, .int fe, .int sz, .int rd, .int ca, .int sx, .ref qp, .int co, .int gi, .int aw, .int cg, .int bk, .ref qs, .ref ql, .ref qo, .int ax, .long wi])), (qp, .inl (cJ, 3, .inr (.inl (vp_updL (pl3 bl of an) x_50.toNatClampNeg x_54))))] := hD
                have ep_55 : vp_updL (pl3 bl of an) x_50.toNatClampNeg x_54 = pl3 x_54 of an := by rw [ex_50]; exact pl3_0 _ _ _ _
                rw [ep_55] at hP hD
                have hP : va_P (dC, dI) vwCl [(o, .inr (4, [.int cd, .int sc, .ref qm, .ref qd, .int ch, .int fe, .int sz, .int rd, .int ca, .int sx, .ref qp, .int co, .int gi, .int aw, .int cg, .int bk, .ref qs, .ref ql, .ref qo, .int ax, .long wi])), (qp, .inl (cJ, 3, .inr (.inl (pl3 x_54 of an))))] H := hP
                have hD : va_D A [(o, .inr (4, [.int cd, .int sc, .ref qm, .ref qd, .int ch, .int fe, .int sz, .int rd, .int ca, .int sx, .ref qp, .int co, .int gi, .int aw, .int cg, .int bk, .ref qs, .ref ql, .ref qo, .int ax, .long wi])), (qp, .inl (cJ, 3, .inr (.inl (pl3 x_54 of an))))] := hD
                have hP9 : va_P (dC, dI) vwCl [(o, .inr (4, [.int cd, .int sc, .ref qm, .ref qd, .int ch, .int fe, .int sz, .int rd, .int ca, .int sx, .ref qp, .int co, .int gi, .int aw, .int cg, .int bk, .ref qs, .ref ql, .ref qo, .int ax, .long wi])), (qp, .inl (cJ, 3, .inr (.inl (pl3 x_54 of an))))] H := by exact hP.sub (ws' := [(o, .inr (4, [.int cd, .int sc, .ref qm, .ref qd, .int ch, .int fe, .int sz, .int rd, .int ca, .int sx, .ref qp, .int co, .int gi, .int aw, .int cg, .int bk, .ref qs, .ref ql, .ref qo, .int ax, .long wi])), (qp, .inl (cJ, 3, .inr (.inl (pl3 x_54 of an))))]) [0, 1] rfl
                have hD9 : va_D A [(o, .inr (4, [.int cd, .int sc, .ref qm, .ref qd, .int ch, .int fe, .int sz, .int rd, .int ca, .int sx, .ref qp, .int co, .int gi, .int aw, .int cg, .int bk, .ref qs, .ref ql, .ref qo, .int ax, .long wi])), (qp, .inl (cJ, 3, .inr (.inl (pl3 x_54 of an))))] := by exact hD.sub (ws' := [(o, .inr (4, [.int cd, .int sc, .ref qm, .ref qd, .int ch, .int fe, .int sz, .int rd, .int ca, .int sx, .ref qp, .int co, .int gi, .int aw, .int cg, .int bk, .ref qs, .ref ql, .ref qo, .int ax, .long wi])), (qp, .inl (cJ, 3, .inr (.inl (pl3 x_54 of an))))]) [0, 1] (by decide) rfl
                have hK9 := hK.sub (tys' := [(cJ, .long)]) [0] rfl
                exact W.vret hx hb hr (fun t ht hW => ⟨⟨(sz, rd, x_54, of, an), rfl, (by unfold qSet qUp; rw [if_pos (by simp_all), if_neg (by decide), if_neg (by decide), if_pos rfl, ex_54, ex_52, ex_50, show pl3 bl of an (((128 : Int32) - 128) / 16).toNatClampNeg = bl from rfl, wLo_m]), by rw [ht]; exact hP9, va_K.moved hW.alike hK9, hD9⟩, hS.F ht⟩) hS.2.2 dX4_setQueue_161
            · skip
              refine lv_iload_n hx hb dX4_setQueue_93 rfl (lv_at hl 1 rfl) ?_
              refine lv_sipush (v := 128) hx hb dX4_setQueue_94 (by decide) ?_
              refine lv_isub hx hb dX4_setQueue_97 ?_
              refine lv_bipush (v := 16) hx hb dX4_setQueue_98 (by decide) ?_
              refine lv_idiv hx hb dX4_setQueue_100 (by decide) ?_
              refine lv_topi (fun x_56 ex_56 => ?_)
              refine lv_istore_n (lv' := [(3, .int x_56), (0, .ref o), (1, .int 132), (2, .int v)]) hx hb dX4_setQueue_101 rfl hl (by decide) rfl (fun ls hl => ?_)
              refine lv_aload_n hx hb dX4_setQueue_102 rfl (lv_at hl 1 rfl) ?_
              refine va_get (D := (dC, dI)) (ci := 4) (v := .ref qp) (C := RX4) (T := TX4) (N := 21) hx hb hw inX4 hown hK hP 0 rfl rfl 10 (by decide) (hw _ w_bc7cda3a3d) (fun _ h9 => h9) rfl dX4_setQueue_103 ?_
              refine lv_iload_n hx hb dX4_setQueue_106 rfl (lv_at hl 0 rfl) ?_
              refine va_lald hx hb hK hP 1 0 rfl rfl (vp_in_iff.mpr (by rw [ex_56]; decide)) dX4_setQueue_107 ?_
              refine lv_ldc2 (v := 4294967295) hx hb hown (hw _ w_f420a33426) dX4_setQueue_108 ?_
              refine lv_land hx hb dX4_setQueue_111 ?_
              refine lv_topl (fun x_57 ex_57 => ?_)
              refine lv_lstore (lv' := [(4, .long x_57), (3, .int x_56), (0, .ref o), (1, .int 132), (2, .int v)]) hx hb dX4_setQueue_112 hl (by decide) rfl (fun ls hl => ?_)
              refine lv_aload_n hx hb dX4_setQueue_114 rfl (lv_at hl 2 rfl) ?_
              refine va_get (D := (dC, dI)) (ci := 4) (v := .ref qp) (C := RX4) (T := TX4) (N := 21) hx hb hw inX4 hown hK hP 0 rfl rfl 10 (by decide) (hw _ w_bc7cda3a3d) (fun _ h9 => h9) rfl dX4_setQueue_115 ?_
              refine lv_iload_n hx hb dX4_setQueue_118 rfl (lv_at hl 1 rfl) ?_
              refine va_lald hx hb hK hP 1 0 rfl rfl (vp_in_iff.mpr (by rw [ex_56]; decide)) dX4_setQueue_119 ?_
              refine lv_bipush (v := 32) hx hb dX4_setQueue_120 (by decide) ?_
              refine lv_lushr (v := (((pl3 bl of an) x_56.toNatClampNeg).toUInt64 >>> ((32 : Int32).toInt64.toUInt64 &&& Int64.toUInt64 63)).toInt64) hx hb dX4_setQueue_122 rfl ?_
              refine lv_topl (fun x_58 ex_58 => ?_)
              refine lv_lstore (lv' := [(6, .long x_58), (4, .long x_57), (3, .int x_56), (0, .ref o), (1, .int 132), (2, .int v)]) hx hb dX4_setQueue_123 hl (by decide) rfl (fun ls hl => ?_)
              refine lv_aload_n hx hb dX4_setQueue_125 rfl (lv_at hl 3 rfl) ?_
              refine va_get (D := (dC, dI)) (ci := 4) (v := .ref qp) (C := RX4) (T := TX4) (N := 21) hx hb hw inX4 hown hK hP 0 rfl rfl 10 (by decide) (hw _ w_bc7cda3a3d) (fun _ h9 => h9) rfl dX4_setQueue_126 ?_
              refine lv_iload_n hx hb dX4_setQueue_129 rfl (lv_at hl 2 rfl) ?_
              refine lv_iload_n hx hb dX4_setQueue_130 rfl (lv_at hl 4 rfl) ?_
              refine lv_bipush (v := 8) hx hb dX4_setQueue_131 (by decide) ?_
              refine lv_irem hx hb dX4_setQueue_133 (by decide) ?_
              refine lv_if_ne (tgt := 152) hx hb dX4_setQueue_134 (by decide) (fun c_59 => ?_) (fun c_59 => ?_)
              · skip
                refine lv_iload_n hx hb dX4_setQueue_152 rfl (lv_at hl 5 rfl) ?_
                refine lv_i2l (v := v.toInt64) hx hb dX4_setQueue_153 rfl ?_
                refine lv_bipush (v := 32) hx hb dX4_setQueue_154 (by decide) ?_
                refine lv_lshl (v := v.toInt64 <<< ((32 : Int32).toInt64 &&& 63)) hx hb dX4_setQueue_156 rfl ?_
                refine lv_lload hx hb dX4_setQueue_157 (lv_at hl 1 rfl) ?_
                refine lv_lor hx hb dX4_setQueue_159 ?_
                refine lv_topl (fun x_60 ex_60 => ?_)
                refine va_last hx hb hK hP hD hS 1 0 rfl rfl (vp_in_iff.mpr (by rw [ex_56]; decide)) dX4_setQueue_160 (fun H locs hP hD hS => ?_)
                have hP : va_P (dC, dI) vwCl [(o, .inr (4, [.int cd, .int sc, .ref qm, .ref qd, .int ch, .int fe, .int sz, .int rd, .int ca, .int sx, .ref qp, .int co, .int gi, .int aw, .int cg, .int bk, .ref qs, .ref ql, .ref qo, .int ax, .long wi])), (qp, .inl (cJ, 3, .inr (.inl (vp_updL (pl3 bl of an) x_56.toNatClampNeg x_60))))] H := hP
                have hD : va_D A [(o, .inr (4, [.int cd, .int sc, .ref qm, .ref qd, .int ch, .int fe, .int sz, .int rd, .int ca, .int sx, .ref qp, .int co, .int gi, .int aw, .int cg, .int bk, .ref qs, .ref ql, .ref qo, .int ax, .long wi])), (qp, .inl (cJ, 3, .inr (.inl (vp_updL (pl3 bl of an) x_56.toNatClampNeg x_60))))] := hD
                have ep_61 : vp_updL (pl3 bl of an) x_56.toNatClampNeg x_60 = pl3 x_60 of an := by rw [ex_56]; exact pl3_0 _ _ _ _
                rw [ep_61] at hP hD
                have hP : va_P (dC, dI) vwCl [(o, .inr (4, [.int cd, .int sc, .ref qm, .ref qd, .int ch, .int fe, .int sz, .int rd, .int ca, .int sx, .ref qp, .int co, .int gi, .int aw, .int cg, .int bk, .ref qs, .ref ql, .ref qo, .int ax, .long wi])), (qp, .inl (cJ, 3, .inr (.inl (pl3 x_60 of an))))] H := hP
                have hD : va_D A [(o, .inr (4, [.int cd, .int sc, .ref qm, .ref qd, .int ch, .int fe, .int sz, .int rd, .int ca, .int sx, .ref qp, .int co, .int gi, .int aw, .int cg, .int bk, .ref qs, .ref ql, .ref qo, .int ax, .long wi])), (qp, .inl (cJ, 3, .inr (.inl (pl3 x_60 of an))))] := hD
                have hP9 : va_P (dC, dI) vwCl [(o, .inr (4, [.int cd, .int sc, .ref qm, .ref qd, .int ch, .int fe, .int sz, .int rd, .int ca, .int sx, .ref qp, .int co, .int gi, .int aw, .int cg, .int bk, .ref qs, .ref ql, .ref qo, .int ax, .long wi])), (qp, .inl (cJ, 3, .inr (.inl (pl3 x_60 of an))))] H := by exact hP.sub (ws' := [(o, .inr (4, [.int cd, .int sc, .ref qm, .ref qd, .int ch, .int fe, .int sz, .int rd, .int ca, .int sx, .ref qp, .int co, .int gi, .int aw, .int cg, .int bk, .ref qs, .ref ql, .ref qo, .int ax, .long wi])), (qp, .inl (cJ, 3, .inr (.inl (pl3 x_60 of an))))]) [0, 1] rfl
                have hD9 : va_D A [(o, .inr (4, [.int cd, .int sc, .ref qm, .ref qd, .int ch, .int fe, .int sz, .int rd, .int ca, .int sx, .ref qp, .int co, .int gi, .int aw, .int cg, .int bk, .ref qs, .ref ql, .ref qo, .int ax, .long wi])), (qp, .inl (cJ, 3, .inr (.inl (pl3 x_60 of an))))] := by exact hD.sub (ws' := [(o, .inr (4, [.int cd, .int sc, .ref qm, .ref qd, .int ch, .int fe, .int sz, .int rd, .int ca, .int sx, .ref qp, .int co, .int gi, .int aw, .int cg, .int bk, .ref qs, .ref ql, .ref qo, .int ax, .long wi])), (qp, .inl (cJ, 3, .inr (.inl (pl3 x_60 of an))))]) [0, 1] (by decide) rfl
                have hK9 := hK.sub (tys' := [(cJ, .long)]) [0] rfl
                exact W.vret hx hb hr (fun t ht hW => ⟨⟨(sz, rd, x_60, of, an), rfl, (by unfold qSet qUp; rw [if_pos (by simp_all), if_neg (by decide), if_neg (by decide), if_neg (by decide), if_pos rfl, ex_60, ex_57, ex_56, show pl3 bl of an (((132 : Int32) - 128) / 16).toNatClampNeg = bl from rfl]; rfl), by rw [ht]; exact hP9, va_K.moved hW.alike hK9, hD9⟩, hS.F ht⟩) hS.2.2 dX4_setQueue_161
              · skip
                exact absurd c_59 (by decide)
            · skip
              refine lv_iload_n hx hb dX4_setQueue_93 rfl (lv_at hl 1 rfl) ?_
              refine lv_sipush (v := 128) hx hb dX4_setQueue_94 (by decide) ?_
              refine lv_isub hx hb dX4_setQueue_97 ?_
              refine lv_bipush (v := 16) hx hb dX4_setQueue_98 (by decide) ?_
              refine lv_idiv hx hb dX4_setQueue_100 (by decide) ?_
              refine lv_topi (fun x_62 ex_62 => ?_)
              refine lv_istore_n (lv' := [(3, .int x_62), (0, .ref o), (1, .int 144), (2, .int v)]) hx hb dX4_setQueue_101 rfl hl (by decide) rfl (fun ls hl => ?_)
              refine lv_aload_n hx hb dX4_setQueue_102 rfl (lv_at hl 1 rfl) ?_
              refine va_get (D := (dC, dI)) (ci := 4) (v := .ref qp) (C := RX4) (T := TX4) (N := 21) hx hb hw inX4 hown hK hP 0 rfl rfl 10 (by decide) (hw _ w_bc7cda3a3d) (fun _ h9 => h9) rfl dX4_setQueue_103 ?_
              refine lv_iload_n hx hb dX4_setQueue_106 rfl (lv_at hl 0 rfl) ?_
              refine va_lald hx hb hK hP 1 0 rfl rfl (vp_in_iff.mpr (by rw [ex_62]; decide)) dX4_setQueue_107 ?_
              refine lv_ldc2 (v := 4294967295) hx hb hown (hw _ w_f420a33426) dX4_setQueue_108 ?_
              refine lv_land hx hb dX4_setQueue_111 ?_
              refine lv_topl (fun x_63 ex_63 => ?_)
              refine lv_lstore (lv' := [(4, .long x_63), (3, .int x_62), (0, .ref o), (1, .int 144), (2, .int v)]) hx hb dX4_setQueue_112 hl (by decide) rfl (fun ls hl => ?_)
              refine lv_aload_n hx hb dX4_setQueue_114 rfl (lv_at hl 2 rfl) ?_
              refine va_get (D := (dC, dI)) (ci := 4) (v := .ref qp) (C := RX4) (T := TX4) (N := 21) hx hb hw inX4 hown hK hP 0 rfl rfl 10 (by decide) (hw _ w_bc7cda3a3d) (fun _ h9 => h9) rfl dX4_setQueue_115 ?_
              refine lv_iload_n hx hb dX4_setQueue_118 rfl (lv_at hl 1 rfl) ?_
              refine va_lald hx hb hK hP 1 0 rfl rfl (vp_in_iff.mpr (by rw [ex_62]; decide)) dX4_setQueue_119 ?_
              refine lv_bipush (v := 32) hx hb dX4_setQueue_120 (by decide) ?_
              refine lv_lushr (v := (((pl3 bl of an) x_62.toNatClampNeg).toUInt64 >>> ((32 : Int32).toInt64.toUInt64 &&& Int64.toUInt64 63)).toInt64) hx hb dX4_setQueue_122 rfl ?_
              refine lv_topl (fun x_64 ex_64 => ?_)
              refine lv_lstore (lv' := [(6, .long x_64), (4, .long x_63), (3, .int x_62), (0, .ref o), (1, .int 144), (2, .int v)]) hx hb dX4_setQueue_123 hl (by decide) rfl (fun ls hl => ?_)
              refine lv_aload_n hx hb dX4_setQueue_125 rfl (lv_at hl 3 rfl) ?_
              refine va_get (D := (dC, dI)) (ci := 4) (v := .ref qp) (C := RX4) (T := TX4) (N := 21) hx hb hw inX4 hown hK hP 0 rfl rfl 10 (by decide) (hw _ w_bc7cda3a3d) (fun _ h9 => h9) rfl dX4_setQueue_126 ?_
              refine lv_iload_n hx hb dX4_setQueue_129 rfl (lv_at hl 2 rfl) ?_
              refine lv_iload_n hx hb dX4_setQueue_130 rfl (lv_at hl 4 rfl) ?_
              refine lv_bipush (v := 8) hx hb dX4_setQueue_131 (by decide) ?_
              refine lv_irem hx hb dX4_setQueue_133 (by decide) ?_
              refine lv_if_ne (tgt := 152) hx hb dX4_setQueue_134 (by decide) (fun c_65 => ?_) (fun c_65 => ?_)
              · skip
                exact absurd (by decide) c_65
              · skip
                refine lv_lload hx hb dX4_setQueue_137 (lv_at hl 0 rfl) ?_
                refine lv_bipush (v := 32) hx hb dX4_setQueue_139 (by decide) ?_
                refine lv_lshl (v := x_64 <<< ((32 : Int32).toInt64 &&& 63)) hx hb dX4_setQueue_141 rfl ?_
                refine lv_iload_n hx hb dX4_setQueue_142 rfl (lv_at hl 5 rfl) ?_
                refine lv_i2l (v := v.toInt64) hx hb dX4_setQueue_143 rfl ?_
                refine lv_ldc2 (v := 4294967295) hx hb hown (hw _ w_f420a33426) dX4_setQueue_144 ?_
                refine lv_land hx hb dX4_setQueue_147 ?_
                refine lv_lor hx hb dX4_setQueue_148 ?_
                refine lv_goto (tgt := 160) hx hb dX4_setQueue_149 (by decide) ?_
                refine lv_topl (fun x_66 ex_66 => ?_)
                refine va_last hx hb hK hP hD hS 1 0 rfl rfl (vp_in_iff.mpr (by rw [ex_62]; decide)) dX4_setQueue_160 (fun H locs hP hD hS => ?_)
                have hP : va_P (dC, dI) vwCl [(o, .inr (4, [.int cd, .int sc, .ref qm, .ref qd, .int ch, .int fe, .int sz, .int rd, .int ca, .int sx, .ref qp, .int co, .int gi, .int aw, .int cg, .int bk, .ref qs, .ref ql, .ref qo, .int ax, .long wi])), (qp, .inl (cJ, 3, .inr (.inl (vp_updL (pl3 bl of an) x_62.toNatClampNeg x_66))))] H := hP
                have hD : va_D A [(o, .inr (4, [.int cd, .int sc, .ref qm, .ref qd, .int ch, .int fe, .int sz, .int rd, .int ca, .int sx, .ref qp, .int co, .int gi, .int aw, .int cg, .int bk, .ref qs, .ref ql, .ref qo, .int ax, .long wi])), (qp, .inl (cJ, 3, .inr (.inl (vp_updL (pl3 bl of an) x_62.toNatClampNeg x_66))))] := hD
                have ep_67 : vp_updL (pl3 bl of an) x_62.toNatClampNeg x_66 = pl3 bl x_66 an := by rw [ex_62]; exact pl3_1 _ _ _ _
                rw [ep_67] at hP hD
                have hP : va_P (dC, dI) vwCl [(o, .inr (4, [.int cd, .int sc, .ref qm, .ref qd, .int ch, .int fe, .int sz, .int rd, .int ca, .int sx, .ref qp, .int co, .int gi, .int aw, .int cg, .int bk, .ref qs, .ref ql, .ref qo, .int ax, .long wi])), (qp, .inl (cJ, 3, .inr (.inl (pl3 bl x_66 an))))] H := hP
                have hD : va_D A [(o, .inr (4, [.int cd, .int sc, .ref qm, .ref qd, .int ch, .int fe, .int sz, .int rd, .int ca, .int sx, .ref qp, .int co, .int gi, .int aw, .int cg, .int bk, .ref qs, .ref ql, .ref qo, .int ax, .long wi])), (qp, .inl (cJ, 3, .inr (.inl (pl3 bl x_66 an))))] := hD
                have hP9 : va_P (dC, dI) vwCl [(o, .inr (4, [.int cd, .int sc, .ref qm, .ref qd, .int ch, .int fe, .int sz, .int rd, .int ca, .int sx, .ref qp, .int co, .int gi, .int aw, .int cg, .int bk, .ref qs, .ref ql, .ref qo, .int ax, .long wi])), (qp, .inl (cJ, 3, .inr (.inl (pl3 bl x_66 an))))] H := by exact hP.sub (ws' := [(o, .inr (4, [.int cd, .int sc, .ref qm, .ref qd, .int ch, .int fe, .int sz, .int rd, .int ca, .int sx, .ref qp, .int co, .int gi, .int aw, .int cg, .int bk, .ref qs, .ref ql, .ref qo, .int ax, .long wi])), (qp, .inl (cJ, 3, .inr (.inl (pl3 bl x_66 an))))]) [0, 1] rfl
                have hD9 : va_D A [(o, .inr (4, [.int cd, .int sc, .ref qm, .ref qd, .int ch, .int fe, .int sz, .int rd, .int ca, .int sx, .ref qp, .int co, .int gi, .int aw, .int cg, .int bk, .ref qs, .ref ql, .ref qo, .int ax, .long wi])), (qp, .inl (cJ, 3, .inr (.inl (pl3 bl x_66 an))))] := by exact hD.sub (ws' := [(o, .inr (4, [.int cd, .int sc, .ref qm, .ref qd, .int ch, .int fe, .int sz, .int rd, .int ca, .int sx, .ref qp, .int co, .int gi, .int aw, .int cg, .int bk, .ref qs, .ref ql, .ref qo, .int ax, .long wi])), (qp, .inl (cJ, 3, .inr (.inl (pl3 bl x_66 an))))]) [0, 1] (by decide) rfl
                have hK9 := hK.sub (tys' := [(cJ, .long)]) [0] rfl
                exact W.vret hx hb hr (fun t ht hW => ⟨⟨(sz, rd, bl, x_66, an), rfl, (by unfold qSet qUp; rw [if_pos (by simp_all), if_neg (by decide), if_neg (by decide), if_neg (by decide), if_neg (by decide), if_pos rfl, ex_66, ex_64, ex_62, show pl3 bl of an (((144 : Int32) - 128) / 16).toNatClampNeg = of from rfl, wLo_m]), by rw [ht]; exact hP9, va_K.moved hW.alike hK9, hD9⟩, hS.F ht⟩) hS.2.2 dX4_setQueue_161
            · skip
              refine lv_iload_n hx hb dX4_setQueue_93 rfl (lv_at hl 1 rfl) ?_
              refine lv_sipush (v := 128) hx hb dX4_setQueue_94 (by decide) ?_
              refine lv_isub hx hb dX4_setQueue_97 ?_
              refine lv_bipush (v := 16) hx hb dX4_setQueue_98 (by decide) ?_
              refine lv_idiv hx hb dX4_setQueue_100 (by decide) ?_
              refine lv_topi (fun x_68 ex_68 => ?_)
              refine lv_istore_n (lv' := [(3, .int x_68), (0, .ref o), (1, .int 148), (2, .int v)]) hx hb dX4_setQueue_101 rfl hl (by decide) rfl (fun ls hl => ?_)
              refine lv_aload_n hx hb dX4_setQueue_102 rfl (lv_at hl 1 rfl) ?_
              refine va_get (D := (dC, dI)) (ci := 4) (v := .ref qp) (C := RX4) (T := TX4) (N := 21) hx hb hw inX4 hown hK hP 0 rfl rfl 10 (by decide) (hw _ w_bc7cda3a3d) (fun _ h9 => h9) rfl dX4_setQueue_103 ?_
              refine lv_iload_n hx hb dX4_setQueue_106 rfl (lv_at hl 0 rfl) ?_
              refine va_lald hx hb hK hP 1 0 rfl rfl (vp_in_iff.mpr (by rw [ex_68]; decide)) dX4_setQueue_107 ?_
              refine lv_ldc2 (v := 4294967295) hx hb hown (hw _ w_f420a33426) dX4_setQueue_108 ?_
              refine lv_land hx hb dX4_setQueue_111 ?_
              refine lv_topl (fun x_69 ex_69 => ?_)
              refine lv_lstore (lv' := [(4, .long x_69), (3, .int x_68), (0, .ref o), (1, .int 148), (2, .int v)]) hx hb dX4_setQueue_112 hl (by decide) rfl (fun ls hl => ?_)
              refine lv_aload_n hx hb dX4_setQueue_114 rfl (lv_at hl 2 rfl) ?_
              refine va_get (D := (dC, dI)) (ci := 4) (v := .ref qp) (C := RX4) (T := TX4) (N := 21) hx hb hw inX4 hown hK hP 0 rfl rfl 10 (by decide) (hw _ w_bc7cda3a3d) (fun _ h9 => h9) rfl dX4_setQueue_115 ?_
              refine lv_iload_n hx hb dX4_setQueue_118 rfl (lv_at hl 1 rfl) ?_
              refine va_lald hx hb hK hP 1 0 rfl rfl (vp_in_iff.mpr (by rw [ex_68]; decide)) dX4_setQueue_119 ?_
              refine lv_bipush (v := 32) hx hb dX4_setQueue_120 (by decide) ?_
              refine lv_lushr (v := (((pl3 bl of an) x_68.toNatClampNeg).toUInt64 >>> ((32 : Int32).toInt64.toUInt64 &&& Int64.toUInt64 63)).toInt64) hx hb dX4_setQueue_122 rfl ?_
              refine lv_topl (fun x_70 ex_70 => ?_)
              refine lv_lstore (lv' := [(6, .long x_70), (4, .long x_69), (3, .int x_68), (0, .ref o), (1, .int 148), (2, .int v)]) hx hb dX4_setQueue_123 hl (by decide) rfl (fun ls hl => ?_)
              refine lv_aload_n hx hb dX4_setQueue_125 rfl (lv_at hl 3 rfl) ?_
              refine va_get (D := (dC, dI)) (ci := 4) (v := .ref qp) (C := RX4) (T := TX4) (N := 21) hx hb hw inX4 hown hK hP 0 rfl rfl 10 (by decide) (hw _ w_bc7cda3a3d) (fun _ h9 => h9) rfl dX4_setQueue_126 ?_
              refine lv_iload_n hx hb dX4_setQueue_129 rfl (lv_at hl 2 rfl) ?_
              refine lv_iload_n hx hb dX4_setQueue_130 rfl (lv_at hl 4 rfl) ?_
              refine lv_bipush (v := 8) hx hb dX4_setQueue_131 (by decide) ?_
              refine lv_irem hx hb dX4_setQueue_133 (by decide) ?_
              refine lv_if_ne (tgt := 152) hx hb dX4_setQueue_134 (by decide) (fun c_71 => ?_) (fun c_71 => ?_)
              · skip
                refine lv_iload_n hx hb dX4_setQueue_152 rfl (lv_at hl 5 rfl) ?_
                refine lv_i2l (v := v.toInt64) hx hb dX4_setQueue_153 rfl ?_
                refine lv_bipush (v := 32) hx hb dX4_setQueue_154 (by decide) ?_
                refine lv_lshl (v := v.toInt64 <<< ((32 : Int32).toInt64 &&& 63)) hx hb dX4_setQueue_156 rfl ?_
                refine lv_lload hx hb dX4_setQueue_157 (lv_at hl 1 rfl) ?_
                refine lv_lor hx hb dX4_setQueue_159 ?_
                refine lv_topl (fun x_72 ex_72 => ?_)
                refine va_last hx hb hK hP hD hS 1 0 rfl rfl (vp_in_iff.mpr (by rw [ex_68]; decide)) dX4_setQueue_160 (fun H locs hP hD hS => ?_)
                have hP : va_P (dC, dI) vwCl [(o, .inr (4, [.int cd, .int sc, .ref qm, .ref qd, .int ch, .int fe, .int sz, .int rd, .int ca, .int sx, .ref qp, .int co, .int gi, .int aw, .int cg, .int bk, .ref qs, .ref ql, .ref qo, .int ax, .long wi])), (qp, .inl (cJ, 3, .inr (.inl (vp_updL (pl3 bl of an) x_68.toNatClampNeg x_72))))] H := hP
                have hD : va_D A [(o, .inr (4, [.int cd, .int sc, .ref qm, .ref qd, .int ch, .int fe, .int sz, .int rd, .int ca, .int sx, .ref qp, .int co, .int gi, .int aw, .int cg, .int bk, .ref qs, .ref ql, .ref qo, .int ax, .long wi])), (qp, .inl (cJ, 3, .inr (.inl (vp_updL (pl3 bl of an) x_68.toNatClampNeg x_72))))] := hD
                have ep_73 : vp_updL (pl3 bl of an) x_68.toNatClampNeg x_72 = pl3 bl x_72 an := by rw [ex_68]; exact pl3_1 _ _ _ _
                rw [ep_73] at hP hD
                have hP : va_P (dC, dI) vwCl [(o, .inr (4, [.int cd, .int sc, .ref qm, .ref qd, .int ch, .int fe, .int sz, .int rd, .int ca, .int sx, .ref qp, .int co, .int gi, .int aw, .int cg, .int bk, .ref qs, .ref ql, .ref qo, .int ax, .long wi])), (qp, .inl (cJ, 3, .inr (.inl (pl3 bl x_72 an))))] H := hP
                have hD : va_D A [(o, .inr (4, [.int cd, .int sc, .ref qm, .ref qd, .int ch, .int fe, .int sz, .int rd, .int ca, .int sx, .ref qp, .int co, .int gi, .int aw, .int cg, .int bk, .ref qs, .ref ql, .ref qo, .int ax, .long wi])), (qp, .inl (cJ, 3, .inr (.inl (pl3 bl x_72 an))))] := hD
                have hP9 : va_P (dC, dI) vwCl [(o, .inr (4, [.int cd, .int sc, .ref qm, .ref qd, .int ch, .int fe, .int sz, .int rd, .int ca, .int sx, .ref qp, .int co, .int gi, .int aw, .int cg, .int bk, .ref qs, .ref ql, .ref qo, .int ax, .long wi])), (qp, .inl (cJ, 3, .inr (.inl (pl3 bl x_72 an))))] H := by exact hP.sub (ws' := [(o, .inr (4, [.int cd, .int sc, .ref qm, .ref qd, .int ch, .int fe, .int sz, .int rd, .int ca, .int sx, .ref qp, .int co, .int gi, .int aw, .int cg, .int bk, .ref qs, .ref ql, .ref qo, .int ax, .long wi])), (qp, .inl (cJ, 3, .inr (.inl (pl3 bl x_72 an))))]) [0, 1] rfl
                have hD9 : va_D A [(o, .inr (4, [.int cd, .int sc, .ref qm, .ref qd, .int ch, .int fe, .int sz, .int rd, .int ca, .int sx, .ref qp, .int co, .int gi, .int aw, .int cg, .int bk, .ref qs, .ref ql, .ref qo, .int ax, .long wi])), (qp, .inl (cJ, 3, .inr (.inl (pl3 bl x_72 an))))] := by exact hD.sub (ws' := [(o, .inr (4, [.int cd, .int sc, .ref qm, .ref qd, .int ch, .int fe, .int sz, .int rd, .int ca, .int sx, .ref qp, .int co, .int gi, .int aw, .int cg, .int bk, .ref qs, .ref ql, .ref qo, .int ax, .long wi])), (qp, .inl (cJ, 3, .inr (.inl (pl3 bl x_72 an))))]) [0, 1] (by decide) rfl
                have hK9 := hK.sub (tys' := [(cJ, .long)]) [0] rfl
                exact W.vret hx hb hr (fun t ht hW => ⟨⟨(sz, rd, bl, x_72, an), rfl, (by unfold qSet qUp; rw [if_pos (by simp_all), if_neg (by decide), if_neg (by decide), if_neg (by decide), if_neg (by decide), if_neg (by decide), if_pos rfl, ex_72, ex_69, ex_68, show pl3 bl of an (((148 : Int32) - 128) / 16).toNatClampNeg = of from rfl]; rfl), by rw [ht]; exact hP9, va_K.moved hW.alike hK9, hD9⟩, hS.F ht⟩) hS.2.2 dX4_setQueue_161
              · skip
                exact absurd c_71 (by decide)
            · skip
              refine lv_iload_n hx hb dX4_setQueue_93 rfl (lv_at hl 1 rfl) ?_
              refine lv_sipush (v := 128) hx hb dX4_setQueue_94 (by decide) ?_
              refine lv_isub hx hb dX4_setQueue_97 ?_
              refine lv_bipush (v := 16) hx hb dX4_setQueue_98 (by decide) ?_
              refine lv_idiv hx hb dX4_setQueue_100 (by decide) ?_
              refine lv_topi (fun x_74 ex_74 => ?_)
              refine lv_istore_n (lv' := [(3, .int x_74), (0, .ref o), (1, .int 160), (2, .int v)]) hx hb dX4_setQueue_101 rfl hl (by decide) rfl (fun ls hl => ?_)
              refine lv_aload_n hx hb dX4_setQueue_102 rfl (lv_at hl 1 rfl) ?_
              refine va_get (D := (dC, dI)) (ci := 4) (v := .ref qp) (C := RX4) (T := TX4) (N := 21) hx hb hw inX4 hown hK hP 0 rfl rfl 10 (by decide) (hw _ w_bc7cda3a3d) (fun _ h9 => h9) rfl dX4_setQueue_103 ?_
              refine lv_iload_n hx hb dX4_setQueue_106 rfl (lv_at hl 0 rfl) ?_
              refine va_lald hx hb hK hP 1 0 rfl rfl (vp_in_iff.mpr (by rw [ex_74]; decide)) dX4_setQueue_107 ?_
              refine lv_ldc2 (v := 4294967295) hx hb hown (hw _ w_f420a33426) dX4_setQueue_108 ?_
              refine lv_land hx hb dX4_setQueue_111 ?_
              refine lv_topl (fun x_75 ex_75 => ?_)
              refine lv_lstore (lv' := [(4, .long x_75), (3, .int x_74), (0, .ref o), (1, .int 160), (2, .int v)]) hx hb dX4_setQueue_112 hl (by decide) rfl (fun ls hl => ?_)
              refine lv_aload_n hx hb dX4_setQueue_114 rfl (lv_at hl 2 rfl) ?_
              refine va_get (D := (dC, dI)) (ci := 4) (v := .ref qp) (C := RX4) (T := TX4) (N := 21) hx hb hw inX4 hown hK hP 0 rfl rfl 10 (by decide) (hw _ w_bc7cda3a3d) (fun _ h9 => h9) rfl dX4_setQueue_115 ?_
              refine lv_iload_n hx hb dX4_setQueue_118 rfl (lv_at hl 1 rfl) ?_
              refine va_lald hx hb hK hP 1 0 rfl rfl (vp_in_iff.mpr (by rw [ex_74]; decide)) dX4_setQueue_119 ?_
              refine lv_bipush (v := 32) hx hb dX4_setQueue_120 (by decide) ?_
              refine lv_lushr (v := (((pl3 bl of an) x_74.toNatClampNeg).toUInt64 >>> ((32 : Int32).toInt64.toUInt64 &&& Int64.toUInt64 63)).toInt64) hx hb dX4_setQueue_122 rfl ?_
              refine lv_topl (fun x_76 ex_76 => ?_)
              refine lv_lstore (lv' := [(6, .long x_76), (4, .long x_75), (3, .int x_74), (0, .ref o), (1, .int 160), (2, .int v)]) hx hb dX4_setQueue_123 hl (by decide) rfl (fun ls hl => ?_)
              refine lv_aload_n hx hb dX4_setQueue_125 rfl (lv_at hl 3 rfl) ?_
              refine va_get (D := (dC, dI)) (ci := 4) (v := .ref qp) (C := RX4) (T := TX4) (N := 21) hx hb hw inX4 hown hK hP 0 rfl rfl 10 (by decide) (hw _ w_bc7cda3a3d) (fun _ h9 => h9) rfl dX4_setQueue_126 ?_
              refine lv_iload_n hx hb dX4_setQueue_129 rfl (lv_at hl 2 rfl) ?_
              refine lv_iload_n hx hb dX4_setQueue_130 rfl (lv_at hl 4 rfl) ?_
              refine lv_bipush (v := 8) hx hb dX4_setQueue_131 (by decide) ?_
              refine lv_irem hx hb dX4_setQueue_133 (by decide) ?_
              refine lv_if_ne (tgt := 152) hx hb dX4_setQueue_134 (by decide) (fun c_77 => ?_) (fun c_77 => ?_)
              · skip
                exact absurd (by decide) c_77
              · skip
                refine lv_lload hx hb dX4_setQueue_137 (lv_at hl 0 rfl) ?_
                refine lv_bipush (v := 32) hx hb dX4_setQueue_139 (by decide) ?_
                refine lv_lshl (v := x_76 <<< ((32 : Int32).toInt64 &&& 63)) hx hb dX4_setQueue_141 rfl ?_
                refine lv_iload_n hx hb dX4_setQueue_142 rfl (lv_at hl 5 rfl) ?_
                refine lv_i2l (v := v.toInt64) hx hb dX4_setQueue_143 rfl ?_
                refine lv_ldc2 (v := 4294967295) hx hb hown (hw _ w_f420a33426) dX4_setQueue_144 ?_
                refine lv_land hx hb dX4_setQueue_147 ?_
                refine lv_lor hx hb dX4_setQueue_148 ?_
                refine lv_goto (tgt := 160) hx hb dX4_setQueue_149 (by decide) ?_
                refine lv_topl (fun x_78 ex_78 => ?_)
                refine va_last hx hb hK hP hD hS 1 0 rfl rfl (vp_in_iff.mpr (by rw [ex_74]; decide)) dX4_setQueue_160 (fun H locs hP hD hS => ?_)
                have hP : va_P (dC, dI) vwCl [(o, .inr (4, [.int cd, .int sc, .ref qm, .ref qd, .int ch, .int fe, .int sz, .int rd, .int ca, .int sx, .ref qp, .int co, .int gi, .int aw, .int cg, .int bk, .ref qs, .ref ql, .ref qo, .int ax, .long wi])), (qp, .inl (cJ, 3, .inr (.inl (vp_updL (pl3 bl of an) x_74.toNatClampNeg x_78))))] H := hP
                have hD : va_D A [(o, .inr (4, [.int cd, .int sc, .ref qm, .ref qd, .int ch, .int fe, .int sz, .int rd, .int ca, .int sx, .ref qp, .int co, .int gi, .int aw, .int cg, .int bk, .ref qs, .ref ql, .ref qo, .int ax, .long wi])), (qp, .inl (cJ, 3, .inr (.inl (vp_updL (pl3 bl of an) x_74.toNatClampNeg x_78))))] := hD
                have ep_79 : vp_updL (pl3 bl of an) x_74.toNatClampNeg x_78 = pl3 bl of x_78 := by rw [ex_74]; exact pl3_2 _ _ _ _
                rw [ep_79] at hP hD
                have hP : va_P (dC, dI) vwCl [(o, .inr (4, [.int cd, .int sc, .ref qm, .ref qd, .int ch, .int fe, .int sz, .int rd, .int ca, .int sx, .ref qp, .int co, .int gi, .int aw, .int cg, .int bk, .ref qs, .ref ql, .ref qo, .int ax, .long wi])), (qp, .inl (cJ, 3, .inr (.inl (pl3 bl of x_78))))] H := hP
                have hD : va_D A [(o, .inr (4, [.int cd, .int sc, .ref qm, .ref qd, .int ch, .int fe, .int sz, .int rd, .int ca, .int sx, .ref qp, .int co, .int gi, .int aw, .int cg, .int bk, .ref qs, .ref ql, .ref qo, .int ax, .long wi])), (qp, .inl (cJ, 3, .inr (.inl (pl3 bl of x_78))))] := hD
                have hP9 : va_P (dC, dI) vwCl [(o, .inr (4, [.int cd, .int sc, .ref qm, .ref qd, .int ch, .int fe, .int sz, .int rd, .int ca, .int sx, .ref qp, .int co, .int gi, .int aw, .int cg, .int bk, .ref qs, .ref ql, .ref qo, .int ax, .long wi])), (qp, .inl (cJ, 3, .inr (.inl (pl3 bl of x_78))))] H := by exact hP.sub (ws' := [(o, .inr (4, [.int cd, .int sc, .ref qm, .ref qd, .int ch, .int fe, .int sz, .int rd, .int ca, .int sx, .ref qp, .int co, .int gi, .int aw, .int cg, .int bk, .ref qs, .ref ql, .ref qo, .int ax, .long wi])), (qp, .inl (cJ, 3, .inr (.inl (pl3 bl of x_78))))]) [0, 1] rfl
                have hD9 : va_D A [(o, .inr (4, [.int cd, .int sc, .ref qm, .ref qd, .int ch, .int fe, .int sz, .int rd, .int ca, .int sx, .ref qp, .int co, .int gi, .int aw, .int cg, .int bk, .ref qs, .ref ql, .ref qo, .int ax, .long wi])), (qp, .inl (cJ, 3, .inr (.inl (pl3 bl of x_78))))] := by exact hD.sub (ws' := [(o, .inr (4, [.int cd, .int sc, .ref qm, .ref qd, .int ch, .int fe, .int sz, .int rd, .int ca, .int sx, .ref qp, .int co, .int gi, .int aw, .int cg, .int bk, .ref qs, .ref ql, .ref qo, .int ax, .long wi])), (qp, .inl (cJ, 3, .inr (.inl (pl3 bl of x_78))))]) [0, 1] (by decide) rfl
                have hK9 := hK.sub (tys' := [(cJ, .long)]) [0] rfl
                exact W.vret hx hb hr (fun t ht hW => ⟨⟨(sz, rd, bl, of, x_78), rfl, (by unfold qSet qUp; rw [if_pos (by simp_all), if_neg (by decide), if_neg (by decide), if_neg (by decide), if_neg (by decide), if_neg (by decide), if_neg (by decide), if_pos rfl, ex_78, ex_76, ex_74, show pl3 bl of an (((160 : Int32) - 128) / 16).toNatClampNeg = an from rfl, wLo_m]), by rw [ht]; exact hP9, va_K.moved hW.alike hK9, hD9⟩, hS.F ht⟩) hS.2.2 dX4_setQueue_161
            · skip
              refine lv_iload_n hx hb dX4_setQueue_93 rfl (lv_at hl 1 rfl) ?_
              refine lv_sipush (v := 128) hx hb dX4_setQueue_94 (by decide) ?_
              refine lv_isub hx hb dX4_setQueue_97 ?_
              refine lv_bipush (v := 16) hx hb dX4_setQueue_98 (by decide) ?_
              refine lv_idiv hx hb dX4_setQueue_100 (by decide) ?_
              refine lv_topi (fun x_80 ex_80 => ?_)
              refine lv_istore_n (lv' := [(3, .int x_80), (0, .ref o), (1, .int 164), (2, .int v)]) hx hb dX4_setQueue_101 rfl hl (by decide) rfl (fun ls hl => ?_)
              refine lv_aload_n hx hb dX4_setQueue_102 rfl (lv_at hl 1 rfl) ?_
              refine va_get (D := (dC, dI)) (ci := 4) (v := .ref qp) (C := RX4) (T := TX4) (N := 21) hx hb hw inX4 hown hK hP 0 rfl rfl 10 (by decide) (hw _ w_bc7cda3a3d) (fun _ h9 => h9) rfl dX4_setQueue_103 ?_
              refine lv_iload_n hx hb dX4_setQueue_106 rfl (lv_at hl 0 rfl) ?_
              refine va_lald hx hb hK hP 1 0 rfl rfl (vp_in_iff.mpr (by rw [ex_80]; decide)) dX4_setQueue_107 ?_
              refine lv_ldc2 (v := 4294967295) hx hb hown (hw _ w_f420a33426) dX4_setQueue_108 ?_
              refine lv_land hx hb dX4_setQueue_111 ?_
              refine lv_topl (fun x_81 ex_81 => ?_)
              refine lv_lstore (lv' := [(4, .long x_81), (3, .int x_80), (0, .ref o), (1, .int 164), (2, .int v)]) hx hb dX4_setQueue_112 hl (by decide) rfl (fun ls hl => ?_)
              refine lv_aload_n hx hb dX4_setQueue_114 rfl (lv_at hl 2 rfl) ?_
              refine va_get (D := (dC, dI)) (ci := 4) (v := .ref qp) (C := RX4) (T := TX4) (N := 21) hx hb hw inX4 hown hK hP 0 rfl rfl 10 (by decide) (hw _ w_bc7cda3a3d) (fun _ h9 => h9) rfl dX4_setQueue_115 ?_
              refine lv_iload_n hx hb dX4_setQueue_118 rfl (lv_at hl 1 rfl) ?_
              refine va_lald hx hb hK hP 1 0 rfl rfl (vp_in_iff.mpr (by rw [ex_80]; decide)) dX4_setQueue_119 ?_
              refine lv_bipush (v := 32) hx hb dX4_setQueue_120 (by decide) ?_
              refine lv_lushr (v := (((pl3 bl of an) x_80.toNatClampNeg).toUInt64 >>> ((32 : Int32).toInt64.toUInt64 &&& Int64.toUInt64 63)).toInt64) hx hb dX4_setQueue_122 rfl ?_
              refine lv_topl (fun x_82 ex_82 => ?_)
              refine lv_lstore (lv' := [(6, .long x_82), (4, .long x_81), (3, .int x_80), (0, .ref o), (1, .int 164), (2, .int v)]) hx hb dX4_setQueue_123 hl (by decide) rfl (fun ls hl => ?_)
              refine lv_aload_n hx hb dX4_setQueue_125 rfl (lv_at hl 3 rfl) ?_
              refine va_get (D := (dC, dI)) (ci := 4) (v := .ref qp) (C := RX4) (T := TX4) (N := 21) hx hb hw inX4 hown hK hP 0 rfl rfl 10 (by decide) (hw _ w_bc7cda3a3d) (fun _ h9 => h9) rfl dX4_setQueue_126 ?_
              refine lv_iload_n hx hb dX4_setQueue_129 rfl (lv_at hl 2 rfl) ?_
              refine lv_iload_n hx hb dX4_setQueue_130 rfl (lv_at hl 4 rfl) ?_
              refine lv_bipush (v := 8) hx hb dX4_setQueue_131 (by decide) ?_
              refine lv_irem hx hb dX4_setQueue_133 (by decide) ?_
              refine lv_if_ne (tgt := 152) hx hb dX4_setQueue_134 (by decide) (fun c_83 => ?_) (fun c_83 => ?_)
              · skip
                refine lv_iload_n hx hb dX4_setQueue_152 rfl (lv_at hl 5 rfl) ?_
                refine lv_i2l (v := v.toInt64) hx hb dX4_setQueue_153 rfl ?_
                refine lv_bipush (v := 32) hx hb dX4_setQueue_154 (by decide) ?_
                refine lv_lshl (v := v.toInt64 <<< ((32 : Int32).toInt64 &&& 63)) hx hb dX4_setQueue_156 rfl ?_
                refine lv_lload hx hb dX4_setQueue_157 (lv_at hl 1 rfl) ?_
                refine lv_lor hx hb dX4_setQueue_159 ?_
                refine lv_topl (fun x_84 ex_84 => ?_)
                refine va_last hx hb hK hP hD hS 1 0 rfl rfl (vp_in_iff.mpr (by rw [ex_80]; decide)) dX4_setQueue_160 (fun H locs hP hD hS => ?_)
                have hP : va_P (dC, dI) vwCl [(o, .inr (4, [.int cd, .int sc, .ref qm, .ref qd, .int ch, .int fe, .int sz, .int rd, .int ca, .int sx, .ref qp, .int co, .int gi, .int aw, .int cg, .int bk, .ref qs, .ref ql, .ref qo, .int ax, .long wi])), (qp, .inl (cJ, 3, .inr (.inl (vp_updL (pl3 bl of an) x_80.toNatClampNeg x_84))))] H := hP
                have hD : va_D A [(o, .inr (4, [.int cd, .int sc, .ref qm, .ref qd, .int ch, .int fe, .int sz, .int rd, .int ca, .int sx, .ref qp, .int co, .int gi, .int aw, .int cg, .int bk, .ref qs, .ref ql, .ref qo, .int ax, .long wi])), (qp, .inl (cJ, 3, .inr (.inl (vp_updL (pl3 bl of an) x_80.toNatClampNeg x_84))))] := hD
                have ep_85 : vp_updL (pl3 bl of an) x_80.toNatClampNeg x_84 = pl3 bl of x_84 := by rw [ex_80]; exact pl3_2 _ _ _ _
                rw [ep_85] at hP hD
                have hP : va_P (dC, dI) vwCl [(o, .inr (4, [.int cd, .int sc, .ref qm, .ref qd, .int ch, .int fe, .int sz, .int rd, .int ca, .int sx, .ref qp, .int co, .int gi, .int aw, .int cg, .int bk, .ref qs, .ref ql, .ref qo, .int ax, .long wi])), (qp, .inl (cJ, 3, .inr (.inl (pl3 bl of x_84))))] H := hP
                have hD : va_D A [(o, .inr (4, [.int cd, .int sc, .ref qm, .ref qd, .int ch, .int fe, .int sz, .int rd, .int ca, .int sx, .ref qp, .int co, .int gi, .int aw, .int cg, .int bk, .ref qs, .ref ql, .ref qo, .int ax, .long wi])), (qp, .inl (cJ, 3, .inr (.inl (pl3 bl of x_84))))] := hD
                have hP9 : va_P (dC, dI) vwCl [(o, .inr (4, [.int cd, .int sc, .ref qm, .ref qd, .int ch, .int fe, .int sz, .int rd, .int ca, .int sx, .ref qp, .int co, .int gi, .int aw, .int cg, .int bk, .ref qs, .ref ql, .ref qo, .int ax, .long wi])), (qp, .inl (cJ, 3, .inr (.inl (pl3 bl of x_84))))] H := by exact hP.sub (ws' := [(o, .inr (4, [.int cd, .int sc, .ref qm, .ref qd, .int ch, .int fe, .int sz, .int rd, .int ca, .int sx, .ref qp, .int co, .int gi, .int aw, .int cg, .int bk, .ref qs, .ref ql, .ref qo, .int ax, .long wi])), (qp, .inl (cJ, 3, .inr (.inl (pl3 bl of x_84))))]) [0, 1] rfl
                have hD9 : va_D A [(o, .inr (4, [.int cd, .int sc, .ref qm, .ref qd, .int ch, .int fe, .int sz, .int rd, .int ca, .int sx, .ref qp, .int co, .int gi, .int aw, .int cg, .int bk, .ref qs, .ref ql, .ref qo, .int ax, .long wi])), (qp, .inl (cJ, 3, .inr (.inl (pl3 bl of x_84))))] := by exact hD.sub (ws' := [(o, .inr (4, [.int cd, .int sc, .ref qm, .ref qd, .int ch, .int fe, .int sz, .int rd, .int ca, .int sx, .ref qp, .int co, .int gi, .int aw, .int cg, .int bk, .ref qs, .ref ql, .ref qo, .int ax, .long wi])), (qp, .inl (cJ, 3, .inr (.inl (pl3 bl of x_84))))]) [0, 1] (by decide) rfl
                have hK9 := hK.sub (tys' := [(cJ, .long)]) [0] rfl
                exact W.vret hx hb hr (fun t ht hW => ⟨⟨(sz, rd, bl, of, x_84), rfl, (by unfold qSet qUp; rw [if_pos (by simp_all), if_neg (by decide), if_neg (by decide), if_neg (by decide), if_neg (by decide), if_neg (by decide), if_neg (by decide), if_neg (by decide), if_pos rfl, ex_84, ex_81, ex_80, show pl3 bl of an (((164 : Int32) - 128) / 16).toNatClampNeg = an from rfl]; rfl), by rw [ht]; exact hP9, va_K.moved hW.alike hK9, hD9⟩, hS.F ht⟩) hS.2.2 dX4_setQueue_161
              · skip
                exact absurd c_83 (by decide)
          · skip
            refine lv_aload_n hx hb dX4_setQueue_75 rfl (lv_at hl 0 rfl) ?_
            refine lv_iload_n hx hb dX4_setQueue_76 rfl (lv_at hl 2 rfl) ?_
            refine lv_iconst (v := 2) hx hb dX4_setQueue_77 (by decide) ?_
            refine lv_irem hx hb dX4_setQueue_78 (by decide) ?_
            refine lv_if_eq (tgt := 86) hx hb dX4_setQueue_79 (by decide) (fun c_86 => ?_) (fun c_86 => ?_)
            · skip
              refine lv_iconst (v := 0) hx hb dX4_setQueue_86 (by decide) ?_
              refine va_put (D := (dC, dI)) (ci := 4) (v := .int 0) (ty := .boolean) (C := RX4) (T := TX4) (N := 21) hx hb hw inX4 tyX4 tyX4_ok nmX4 hown hK hP hD hS 0 rfl rfl 7 (by decide) (hw _ w_c01c73850f) (fun _ h9 => h9) rfl (by decide +kernel) rfl rfl (Nat.le_of_ble_eq_true rfl) dX4_setQueue_87 (fun H locs hP hD hS => ?_)
              have hP : va_P (dC, dI) vwCl [(o, .inr (4, [.int cd, .int sc, .ref qm, .ref qd, .int ch, .int fe, .int sz, .int 0, .int ca, .int sx, .ref qp, .int co, .int gi, .int aw, .int cg, .int bk, .ref qs, .ref ql, .ref qo, .int ax, .long wi])), (qp, .inl (cJ, 3, .inr (.inl (pl3 bl of an))))] H := hP
              have hD : va_D A [(o, .inr (4, [.int cd, .int sc, .ref qm, .ref qd, .int ch, .int fe, .int sz, .int 0, .int ca, .int sx, .ref qp, .int co, .int gi, .int aw, .int cg, .int bk, .ref qs, .ref ql, .ref qo, .int ax, .long wi])), (qp, .inl (cJ, 3, .inr (.inl (pl3 bl of an))))] := hD
              refine lv_goto (tgt := 161) hx hb dX4_setQueue_90 (by decide) ?_
              have hP9 : va_P (dC, dI) vwCl [(o, .inr (4, [.int cd, .int sc, .ref qm, .ref qd, .int ch, .int fe, .int sz, .int 0, .int ca, .int sx, .ref qp, .int co, .int gi, .int aw, .int cg, .int bk, .ref qs, .ref ql, .ref qo, .int ax, .long wi])), (qp, .inl (cJ, 3, .inr (.inl (pl3 bl of an))))] H := by exact hP.sub (ws' := [(o, .inr (4, [.int cd, .int sc, .ref qm, .ref qd, .int ch, .int fe, .int sz, .int 0, .int ca, .int sx, .ref qp, .int co, .int gi, .int aw, .int cg, .int bk, .ref qs, .ref ql, .ref qo, .int ax, .long wi])), (qp, .inl (cJ, 3, .inr (.inl (pl3 bl of an))))]) [0, 1] rfl
              have hD9 : va_D A [(o, .inr (4, [.int cd, .int sc, .ref qm, .ref qd, .int ch, .int fe, .int sz, .int 0, .int ca, .int sx, .ref qp, .int co, .int gi, .int aw, .int cg, .int bk, .ref qs, .ref ql, .ref qo, .int ax, .long wi])), (qp, .inl (cJ, 3, .inr (.inl (pl3 bl of an))))] := by exact hD.sub (ws' := [(o, .inr (4, [.int cd, .int sc, .ref qm, .ref qd, .int ch, .int fe, .int sz, .int 0, .int ca, .int sx, .ref qp, .int co, .int gi, .int aw, .int cg, .int bk, .ref qs, .ref ql, .ref qo, .int ax, .long wi])), (qp, .inl (cJ, 3, .inr (.inl (pl3 bl of an))))]) [0, 1] (by decide) rfl
              have hK9 := hK.sub (tys' := [(cJ, .long)]) [0] rfl
              exact W.vret hx hb hr (fun t ht hW => ⟨⟨(sz, 0, bl, of, an), rfl, (by unfold qSet qUp; rw [if_pos (by simp_all)]; simp_all [par_m]), by rw [ht]; exact hP9, va_K.moved hW.alike hK9, hD9⟩, hS.F ht⟩) hS.2.2 dX4_setQueue_161
            · skip
              refine lv_iconst (v := 1) hx hb dX4_setQueue_82 (by decide) ?_
              refine lv_goto (tgt := 87) hx hb dX4_setQueue_83 (by decide) ?_
              refine va_put (D := (dC, dI)) (ci := 4) (v := .int 1) (ty := .boolean) (C := RX4) (T := TX4) (N := 21) hx hb hw inX4 tyX4 tyX4_ok nmX4 hown hK hP hD hS 0 rfl rfl 7 (by decide) (hw _ w_c01c73850f) (fun _ h9 => h9) rfl (by decide +kernel) rfl rfl (Nat.le_of_ble_eq_true rfl) dX4_setQueue_87 (fun H locs hP hD hS => ?_)
              have hP : va_P (dC, dI) vwCl [(o, .inr (4, [.int cd, .int sc, .ref qm, .ref qd, .int ch, .int fe, .int sz, .int 1, .int ca, .int sx, .ref qp, .int co, .int gi, .int aw, .int cg, .int bk, .ref qs, .ref ql, .ref qo, .int ax, .long wi])), (qp, .inl (cJ, 3, .inr (.inl (pl3 bl of an))))] H := hP
              have hD : va_D A [(o, .inr (4, [.int cd, .int sc, .ref qm, .ref qd, .int ch, .int fe, .int sz, .int 1, .int ca, .int sx, .ref qp, .int co, .int gi, .int aw, .int cg, .int bk, .ref qs, .ref ql, .ref qo, .int ax, .long wi])), (qp, .inl (cJ, 3, .inr (.inl (pl3 bl of an))))] := hD
              refine lv_goto (tgt := 161) hx hb dX4_setQueue_90 (by decide) ?_
              have hP9 : va_P (dC, dI) vwCl [(o, .inr (4, [.int cd, .int sc, .ref qm, .ref qd, .int ch, .int fe, .int sz, .int 1, .int ca, .int sx, .ref qp, .int co, .int gi, .int aw, .int cg, .int bk, .ref qs, .ref ql, .ref qo, .int ax, .long wi])), (qp, .inl (cJ, 3, .inr (.inl (pl3 bl of an))))] H := by exact hP.sub (ws' := [(o, .inr (4, [.int cd, .int sc, .ref qm, .ref qd, .int ch, .int fe, .int sz, .int 1, .int ca, .int sx, .ref qp, .int co, .int gi, .int aw, .int cg, .int bk, .ref qs, .ref ql, .ref qo, .int ax, .long wi])), (qp, .inl (cJ, 3, .inr (.inl (pl3 bl of an))))]) [0, 1] rfl
              have hD9 : va_D A [(o, .inr (4, [.int cd, .int sc, .ref qm, .ref qd, .int ch, .int fe, .int sz, .int 1, .int ca, .int sx, .ref qp, .int co, .int gi, .int aw, .int cg, .int bk, .ref qs, .ref ql, .ref qo, .int ax, .long wi])), (qp, .inl (cJ, 3, .inr (.inl (pl3 bl of an))))] := by exact hD.sub (ws' := [(o, .inr (4, [.int cd, .int sc, .ref qm, .ref qd, .int ch, .int fe, .int sz, .int 1, .int ca, .int sx, .ref qp, .int co, .int gi, .int aw, .int cg, .int bk, .ref qs, .ref ql, .ref qo, .int ax, .long wi])), (qp, .inl (cJ, 3, .inr (.inl (pl3 bl of an))))]) [0, 1] (by decide) rfl
              have hK9 := hK.sub (tys' := [(cJ, .long)]) [0] rfl
              exact W.vret hx hb hr (fun t ht hW => ⟨⟨(sz, 1, bl, of, an), rfl, (by unfold qSet qUp; rw [if_pos (by simp_all)]; simp_all [par_m]), by rw [ht]; exact hP9, va_K.moved hW.alike hK9, hD9⟩, hS.F ht⟩) hS.2.2 dX4_setQueue_161
        · skip
          refine lv_aload_n hx hb dX4_setQueue_27 rfl (lv_at hl 0 rfl) ?_
          refine lv_iload_n hx hb dX4_setQueue_28 rfl (lv_at hl 2 rfl) ?_
          refine lv_iconst (v := 1) hx hb dX4_setQueue_29 (by decide) ?_
          refine lv_icmp_eq (tgt := 55) hx hb dX4_setQueue_30 (by decide) (fun c_87 => ?_) (fun c_87 => ?_)
          · skip
            refine lv_iload_n hx hb dX4_setQueue_55 rfl (lv_at hl 2 rfl) ?_
            refine lv_goto (tgt := 63) hx hb dX4_setQueue_56 (by decide) ?_
            refine va_put (D := (dC, dI)) (ci := 4) (v := .int v) (ty := .int) (C := RX4) (T := TX4) (N := 21) hx hb hw inX4 tyX4 tyX4_ok nmX4 hown hK hP hD hS 0 rfl rfl 6 (by decide) (hw _ w_19a341c1eb) (fun _ h9 => h9) rfl (by decide +kernel) rfl rfl (Nat.le_of_ble_eq_true rfl) dX4_setQueue_63 (fun H locs hP hD hS => ?_)
            have hP : va_P (dC, dI) vwCl [(o, .inr (4, [.int cd, .int sc, .ref qm, .ref qd, .int ch, .int fe, .int v, .int rd, .int ca, .int sx, .ref qp, .int co, .int gi, .int aw, .int cg, .int bk, .ref qs, .ref ql, .ref qo, .int ax, .long wi])), (qp, .inl (cJ, 3, .inr (.inl (pl3 bl of an))))] H := hP
            have hD : va_D A [(o, .inr (4, [.int cd, .int sc, .ref qm, .ref qd, .int ch, .int fe, .int v, .int rd, .int ca, .int sx, .ref qp, .int co, .int gi, .int aw, .int cg, .int bk, .ref qs, .ref ql, .ref qo, .int ax, .long wi])), (qp, .inl (cJ, 3, .inr (.inl (pl3 bl of an))))] := hD
            refine lv_goto (tgt := 161) hx hb dX4_setQueue_66 (by decide) ?_
            have hP9 : va_P (dC, dI) vwCl [(o, .inr (4, [.int cd, .int sc, .ref qm, .ref qd, .int ch, .int fe, .int v, .int rd, .int ca, .int sx, .ref qp, .int co, .int gi, .int aw, .int cg, .int bk, .ref qs, .ref ql, .ref qo, .int ax, .long wi])), (qp, .inl (cJ, 3, .inr (.inl (pl3 bl of an))))] H := by exact hP.sub (ws' := [(o, .inr (4, [.int cd, .int sc, .ref qm, .ref qd, .int ch, .int fe, .int v, .int rd, .int ca, .int sx, .ref qp, .int co, .int gi, .int aw, .int cg, .int bk, .ref qs, .ref ql, .ref qo, .int ax, .long wi])), (qp, .inl (cJ, 3, .inr (.inl (pl3 bl of an))))]) [0, 1] rfl
            have hD9 : va_D A [(o, .inr (4, [.int cd, .int sc, .ref qm, .ref qd, .int ch, .int fe, .int v, .int rd, .int ca, .int sx, .ref qp, .int co, .int gi, .int aw, .int cg, .int bk, .ref qs, .ref ql, .ref qo, .int ax, .long wi])), (qp, .inl (cJ, 3, .inr (.inl (pl3 bl of an))))] := by exact hD.sub (ws' := [(o, .inr (4, [.int cd, .int sc, .ref qm, .ref qd, .int ch, .int fe, .int v, .int rd, .int ca, .int sx, .ref qp, .int co, .int gi, .int aw, .int cg, .int bk, .ref qs, .ref ql, .ref qo, .int ax, .long wi])), (qp, .inl (cJ, 3, .inr (.inl (pl3 bl of an))))]) [0, 1] (by decide) rfl
            have hK9 := hK.sub (tys' := [(cJ, .long)]) [0] rfl
            exact W.vret hx hb hr (fun t ht hW => ⟨⟨(v, rd, bl, of, an), rfl, (by unfold qSet qUp; rw [if_pos (by simp_all)]; simp_all [par_m]), by rw [ht]; exact hP9, va_K.moved hW.alike hK9, hD9⟩, hS.F ht⟩) hS.2.2 dX4_setQueue_161
          · skip
            refine lv_iload_n hx hb dX4_setQueue_33 rfl (lv_at hl 2 rfl) ?_
            refine lv_iconst (v := 2) hx hb dX4_setQueue_34 (by decide) ?_
            refine lv_icmp_eq (tgt := 55) hx hb dX4_setQueue_35 (by decide) (fun c_88 => ?_) (fun c_88 => ?_)
            · skip
              refine lv_iload_n hx hb dX4_setQueue_55 rfl (lv_at hl 2 rfl) ?_
              refine lv_goto (tgt := 63) hx hb dX4_setQueue_56 (by decide) ?_
              refine va_put (D := (dC, dI)) (ci := 4) (v := .int v) (ty := .int) (C := RX4) (T := TX4) (N := 21) hx hb hw inX4 tyX4 tyX4_ok nmX4 hown hK hP hD hS 0 rfl rfl 6 (by decide) (hw _ w_19a341c1eb) (fun _ h9 => h9) rfl (by decide +kernel) rfl rfl (Nat.le_of_ble_eq_true rfl) dX4_setQueue_63 (fun H locs hP hD hS => ?_)
              have hP : va_P (dC, dI) vwCl [(o, .inr (4, [.int cd, .int sc, .ref qm, .ref qd, .int ch, .int fe, .int v, .int rd, .int ca, .int sx, .ref qp, .int co, .int gi, .int aw, .int cg, .int bk, .ref qs, .ref ql, .ref qo, .int ax, .long wi])), (qp, .inl (cJ, 3, .inr (.inl (pl3 bl of an))))] H := hP
              have hD : va_D A [(o, .inr (4, [.int cd, .int sc, .ref qm, .ref qd, .int ch, .int fe, .int v, .int rd, .int ca, .int sx, .ref qp, .int co, .int gi, .int aw, .int cg, .int bk, .ref qs, .ref ql, .ref qo, .int ax, .long wi])), (qp, .inl (cJ, 3, .inr (.inl (pl3 bl of an))))] := hD
              refine lv_goto (tgt := 161) hx hb dX4_setQueue_66 (by decide) ?_
              have hP9 : va_P (dC, dI) vwCl [(o, .inr (4, [.int cd, .int sc, .ref qm, .ref qd, .int ch, .int fe, .int v, .int rd, .int ca, .int sx, .ref qp, .int co, .int gi, .int aw, .int cg, .int bk, .ref qs, .ref ql, .ref qo, .int ax, .long wi])), (qp, .inl (cJ, 3, .inr (.inl (pl3 bl of an))))] H := by exact hP.sub (ws' := [(o, .inr (4, [.int cd, .int sc, .ref qm, .ref qd, .int ch, .int fe, .int v, .int rd, .int ca, .int sx, .ref qp, .int co, .int gi, .int aw, .int cg, .int bk, .ref qs, .ref ql, .ref qo, .int ax, .long wi])), (qp, .inl (cJ, 3, .inr (.inl (pl3 bl of an))))]) [0, 1] rfl
              have hD9 : va_D A [(o, .inr (4, [.int cd, .int sc, .ref qm, .ref qd, .int ch, .int fe, .int v, .int rd, .int ca, .int sx, .ref qp, .int co, .int gi, .int aw, .int cg, .int bk, .ref qs, .ref ql, .ref qo, .int ax, .long wi])), (qp, .inl (cJ, 3, .inr (.inl (pl3 bl of an))))] := by exact hD.sub (ws' := [(o, .inr (4, [.int cd, .int sc, .ref qm, .ref qd, .int ch, .int fe, .int v, .int rd, .int ca, .int sx, .ref qp, .int co, .int gi, .int aw, .int cg, .int bk, .ref qs, .ref ql, .ref qo, .int ax, .long wi])), (qp, .inl (cJ, 3, .inr (.inl (pl3 bl of an))))]) [0, 1] (by decide) rfl
              have hK9 := hK.sub (tys' := [(cJ, .long)]) [0] rfl
              exact W.vret hx hb hr (fun t ht hW => ⟨⟨(v, rd, bl, of, an), rfl, (by unfold qSet qUp; rw [if_pos (by simp_all)]; simp_all [par_m]), by rw [ht]; exact hP9, va_K.moved hW.alike hK9, hD9⟩, hS.F ht⟩) hS.2.2 dX4_setQueue_161
            · skip
              refine lv_iload_n hx hb dX4_setQueue_38 rfl (lv_at hl 2 rfl) ?_
              refine lv_iconst (v := 4) hx hb dX4_setQueue_39 (by decide) ?_
              refine lv_icmp_eq (tgt := 55) hx hb dX4_setQueue_40 (by decide) (fun c_89 => ?_) (fun c_89 => ?_)
              · skip
                refine lv_iload_n hx hb dX4_setQueue_55 rfl (lv_at hl 2 rfl) ?_
                refine lv_goto (tgt := 63) hx hb dX4_setQueue_56 (by decide) ?_
                refine va_put (D := (dC, dI)) (ci := 4) (v := .int v) (ty := .int) (C := RX4) (T := TX4) (N := 21) hx hb hw inX4 tyX4 tyX4_ok nmX4 hown hK hP hD hS 0 rfl rfl 6 (by decide) (hw _ w_19a341c1eb) (fun _ h9 => h9) rfl (by decide +kernel) rfl rfl (Nat.le_of_ble_eq_true rfl) dX4_setQueue_63 (fun H locs hP hD hS => ?_)
                have hP : va_P (dC, dI) vwCl [(o, .inr (4, [.int cd, .int sc, .ref qm, .ref qd, .int ch, .int fe, .int v, .int rd, .int ca, .int sx, .ref qp, .int co, .int gi, .int aw, .int cg, .int bk, .ref qs, .ref ql, .ref qo, .int ax, .long wi])), (qp, .inl (cJ, 3, .inr (.inl (pl3 bl of an))))] H := hP
                have hD : va_D A [(o, .inr (4, [.int cd, .int sc, .ref qm, .ref qd, .int ch, .int fe, .int v, .int rd, .int ca, .int sx, .ref qp, .int co, .int gi, .int aw, .int cg, .int bk, .ref qs, .ref ql, .ref qo, .int ax, .long wi])), (qp, .inl (cJ, 3, .inr (.inl (pl3 bl of an))))] := hD
                refine lv_goto (tgt := 161) hx hb dX4_setQueue_66 (by decide) ?_
                have hP9 : va_P (dC, dI) vwCl [(o, .inr (4, [.int cd, .int sc, .ref qm, .ref qd, .int ch, .int fe, .int v, .int rd, .int ca, .int sx, .ref qp, .int co, .int gi, .int aw, .int cg, .int bk, .ref qs, .ref ql, .ref qo, .int ax, .long wi])), (qp, .inl (cJ, 3, .inr (.inl (pl3 bl of an))))] H := by exact hP.sub (ws' := [(o, .inr (4, [.int cd, .int sc, .ref qm, .ref qd, .int ch, .int fe, .int v, .int rd, .int ca, .int sx, .ref qp, .int co, .int gi, .int aw, .int cg, .int bk, .ref qs, .ref ql, .ref qo, .int ax, .long wi])), (qp, .inl (cJ, 3, .inr (.inl (pl3 bl of an))))]) [0, 1] rfl
                have hD9 : va_D A [(o, .inr (4, [.int cd, .int sc, .ref qm, .ref qd, .int ch, .int fe, .int v, .int rd, .int ca, .int sx, .ref qp, .int co, .int gi, .int aw, .int cg, .int bk, .ref qs, .ref ql, .ref qo, .int ax, .long wi])), (qp, .inl (cJ, 3, .inr (.inl (pl3 bl of an))))] := by exact hD.sub (ws' := [(o, .inr (4, [.int cd, .int sc, .ref qm, .ref qd, .int ch, .int fe, .int v, .int rd, .int ca, .int sx, .ref qp, .int co, .int gi, .int aw, .int cg, .int bk, .ref qs, .ref ql, .ref qo, .int ax, .long wi])), (qp, .inl (cJ, 3, .inr (.inl (pl3 bl of an))))]) [0, 1] (by decide) rfl
                have hK9 := hK.sub (tys' := [(cJ, .long)]) [0] rfl
                exact W.vret hx hb hr (fun t ht hW => ⟨⟨(v, rd, bl, of, an), rfl, (by unfold qSet qUp; rw [if_pos (by simp_all)]; simp_all [par_m]), by rw [ht]; exact hP9, va_K.moved hW.alike hK9, hD9⟩, hS.F ht⟩) hS.2.2 dX4_setQueue_161
              · skip
                refine lv_iload_n hx hb dX4_setQueue_43 rfl (lv_at hl 2 rfl) ?_
                refine lv_bipush (v := 8) hx hb dX4_setQueue_44 (by decide) ?_
                refine lv_icmp_eq (tgt := 55) hx hb dX4_setQueue_46 (by decide) (fun c_90 => ?_) (fun c_90 => ?_)
                · skip
                  refine lv_iload_n hx hb dX4_setQueue_55 rfl (lv_at hl 2 rfl) ?_
                  refine lv_goto (tgt := 63) hx hb dX4_setQueue_56 (by decide) ?_
                  refine va_put (D := (dC, dI)) (ci := 4) (v := .int v) (ty := .int) (C := RX4) (T := TX4) (N := 21) hx hb hw inX4 tyX4 tyX4_ok nmX4 hown hK hP hD hS 0 rfl rfl 6 (by decide) (hw _ w_19a341c1eb) (fun _ h9 => h9) rfl (by decide +kernel) rfl rfl (Nat.le_of_ble_eq_true rfl) dX4_setQueue_63 (fun H locs hP hD hS => ?_)
                  have hP : va_P (dC, dI) vwCl [(o, .inr (4, [.int cd, .int sc, .ref qm, .ref qd, .int ch, .int fe, .int v, .int rd, .int ca, .int sx, .ref qp, .int co, .int gi, .int aw, .int cg, .int bk, .ref qs, .ref ql, .ref qo, .int ax, .long wi])), (qp, .inl (cJ, 3, .inr (.inl (pl3 bl of an))))] H := hP
                  have hD : va_D A [(o, .inr (4, [.int cd, .int sc, .ref qm, .ref qd, .int ch, .int fe, .int v, .int rd, .int ca, .int sx, .ref qp, .int co, .int gi, .int aw, .int cg, .int bk, .ref qs, .ref ql, .ref qo, .int ax, .long wi])), (qp, .inl (cJ, 3, .inr (.inl (pl3 bl of an))))] := hD
                  refine lv_goto (tgt := 161) hx hb dX4_setQueue_66 (by decide) ?_
                  have hP9 : va_P (dC, dI) vwCl [(o, .inr (4, [.int cd, .int sc, .ref qm, .ref qd, .int ch, .int fe, .int v, .int rd, .int ca, .int sx, .ref qp, .int co, .int gi, .int aw, .int cg, .int bk, .ref qs, .ref ql, .ref qo, .int ax, .long wi])), (qp, .inl (cJ, 3, .inr (.inl (pl3 bl of an))))] H := by exact hP.sub (ws' := [(o, .inr (4, [.int cd, .int sc, .ref qm, .ref qd, .int ch, .int fe, .int v, .int rd, .int ca, .int sx, .ref qp, .int co, .int gi, .int aw, .int cg, .int bk, .ref qs, .ref ql, .ref qo, .int ax, .long wi])), (qp, .inl (cJ, 3, .inr (.inl (pl3 bl of an))))]) [0, 1] rfl
                  have hD9 : va_D A [(o, .inr (4, [.int cd, .int sc, .ref qm, .ref qd, .int ch, .int fe, .int v, .int rd, .int ca, .int sx, .ref qp, .int co, .int gi, .int aw, .int cg, .int bk, .ref qs, .ref ql, .ref qo, .int ax, .long wi])), (qp, .inl (cJ, 3, .inr (.inl (pl3 bl of an))))] := by exact hD.sub (ws' := [(o, .inr (4, [.int cd, .int sc, .ref qm, .ref qd, .int ch, .int fe, .int v, .int rd, .int ca, .int sx, .ref qp, .int co, .int gi, .int aw, .int cg, .int bk, .ref qs, .ref ql, .ref qo, .int ax, .long wi])), (qp, .inl (cJ, 3, .inr (.inl (pl3 bl of an))))]) [0, 1] (by decide) rfl
                  have hK9 := hK.sub (tys' := [(cJ, .long)]) [0] rfl
                  exact W.vret hx hb hr (fun t ht hW => ⟨⟨(v, rd, bl, of, an), rfl, (by unfold qSet qUp; rw [if_pos (by simp_all)]; simp_all [par_m]), by rw [ht]; exact hP9, va_K.moved hW.alike hK9, hD9⟩, hS.F ht⟩) hS.2.2 dX4_setQueue_161
                · skip
                  refine lv_iload_n hx hb dX4_setQueue_49 rfl (lv_at hl 2 rfl) ?_
                  refine lv_bipush (v := 16) hx hb dX4_setQueue_50 (by decide) ?_
                  refine lv_icmp_ne (tgt := 59) hx hb dX4_setQueue_52 (by decide) (fun c_91 => ?_) (fun c_91 => ?_)
                  · skip
                    refine lv_aload_n hx hb dX4_setQueue_59 rfl (lv_at hl 0 rfl) ?_
                    refine va_get (D := (dC, dI)) (ci := 4) (v := .int sz) (C := RX4) (T := TX4) (N := 21) hx hb hw inX4 hown hK hP 0 rfl rfl 6 (by decide) (hw _ w_19a341c1eb) (fun _ h9 => h9) rfl dX4_setQueue_60 ?_
                    refine va_put (D := (dC, dI)) (ci := 4) (v := .int sz) (ty := .int) (C := RX4) (T := TX4) (N := 21) hx hb hw inX4 tyX4 tyX4_ok nmX4 hown hK hP hD hS 0 rfl rfl 6 (by decide) (hw _ w_19a341c1eb) (fun _ h9 => h9) rfl (by decide +kernel) rfl rfl (Nat.le_of_ble_eq_true rfl) dX4_setQueue_63 (fun H locs hP hD hS => ?_)
                    have hP : va_P (dC, dI) vwCl [(o, .inr (4, [.int cd, .int sc, .ref qm, .ref qd, .int ch, .int fe, .int sz, .int rd, .int ca, .int sx, .ref qp, .int co, .int gi, .int aw, .int cg, .int bk, .ref qs, .ref ql, .ref qo, .int ax, .long wi])), (qp, .inl (cJ, 3, .inr (.inl (pl3 bl of an))))] H := hP
                    have hD : va_D A [(o, .inr (4, [.int cd, .int sc, .ref qm, .ref qd, .int ch, .int fe, .int sz, .int rd, .int ca, .int sx, .ref qp, .int co, .int gi, .int aw, .int cg, .int bk, .ref qs, .ref ql, .ref qo, .int ax, .long wi])), (qp, .inl (cJ, 3, .inr (.inl (pl3 bl of an))))] := hD
                    refine lv_goto (tgt := 161) hx hb dX4_setQueue_66 (by decide) ?_
                    have hP9 : va_P (dC, dI) vwCl [(o, .inr (4, [.int cd, .int sc, .ref qm, .ref qd, .int ch, .int fe, .int sz, .int rd, .int ca, .int sx, .ref qp, .int co, .int gi, .int aw, .int cg, .int bk, .ref qs, .ref ql, .ref qo, .int ax, .long wi])), (qp, .inl (cJ, 3, .inr (.inl (pl3 bl of an))))] H := by exact hP.sub (ws' := [(o, .inr (4, [.int cd, .int sc, .ref qm, .ref qd, .int ch, .int fe, .int sz, .int rd, .int ca, .int sx, .ref qp, .int co, .int gi, .int aw, .int cg, .int bk, .ref qs, .ref ql, .ref qo, .int ax, .long wi])), (qp, .inl (cJ, 3, .inr (.inl (pl3 bl of an))))]) [0, 1] rfl
                    have hD9 : va_D A [(o, .inr (4, [.int cd, .int sc, .ref qm, .ref qd, .int ch, .int fe, .int sz, .int rd, .int ca, .int sx, .ref qp, .int co, .int gi, .int aw, .int cg, .int bk, .ref qs, .ref ql, .ref qo, .int ax, .long wi])), (qp, .inl (cJ, 3, .inr (.inl (pl3 bl of an))))] := by exact hD.sub (ws' := [(o, .inr (4, [.int cd, .int sc, .ref qm, .ref qd, .int ch, .int fe, .int sz, .int rd, .int ca, .int sx, .ref qp, .int co, .int gi, .int aw, .int cg, .int bk, .ref qs, .ref ql, .ref qo, .int ax, .long wi])), (qp, .inl (cJ, 3, .inr (.inl (pl3 bl of an))))]) [0, 1] (by decide) rfl
                    have hK9 := hK.sub (tys' := [(cJ, .long)]) [0] rfl
                    exact W.vret hx hb hr (fun t ht hW => ⟨⟨(sz, rd, bl, of, an), rfl, (by unfold qSet qUp; rw [if_pos (by simp_all)]; simp_all [par_m]), by rw [ht]; exact hP9, va_K.moved hW.alike hK9, hD9⟩, hS.F ht⟩) hS.2.2 dX4_setQueue_161
                  · skip
                    refine lv_iload_n hx hb dX4_setQueue_55 rfl (lv_at hl 2 rfl) ?_
                    refine lv_goto (tgt := 63) hx hb dX4_setQueue_56 (by decide) ?_
                    refine va_put (D := (dC, dI)) (ci := 4) (v := .int v) (ty := .int) (C := RX4) (T := TX4) (N := 21) hx hb hw inX4 tyX4 tyX4_ok nmX4 hown hK hP hD hS 0 rfl rfl 6 (by decide) (hw _ w_19a341c1eb) (fun _ h9 => h9) rfl (by decide +kernel) rfl rfl (Nat.le_of_ble_eq_true rfl) dX4_setQueue_63 (fun H locs hP hD hS => ?_)
                    have hP : va_P (dC, dI) vwCl [(o, .inr (4, [.int cd, .int sc, .ref qm, .ref qd, .int ch, .int fe, .int v, .int rd, .int ca, .int sx, .ref qp, .int co, .int gi, .int aw, .int cg, .int bk, .ref qs, .ref ql, .ref qo, .int ax, .long wi])), (qp, .inl (cJ, 3, .inr (.inl (pl3 bl of an))))] H := hP
                    have hD : va_D A [(o, .inr (4, [.int cd, .int sc, .ref qm, .ref qd, .int ch, .int fe, .int v, .int rd, .int ca, .int sx, .ref qp, .int co, .int gi, .int aw, .int cg, .int bk, .ref qs, .ref ql, .ref qo, .int ax, .long wi])), (qp, .inl (cJ, 3, .inr (.inl (pl3 bl of an))))] := hD
                    refine lv_goto (tgt := 161) hx hb dX4_setQueue_66 (by decide) ?_
                    have hP9 : va_P (dC, dI) vwCl [(o, .inr (4, [.int cd, .int sc, .ref qm, .ref qd, .int ch, .int fe, .int v, .int rd, .int ca, .int sx, .ref qp, .int co, .int gi, .int aw, .int cg, .int bk, .ref qs, .ref ql, .ref qo, .int ax, .long wi])), (qp, .inl (cJ, 3, .inr (.inl (pl3 bl of an))))] H := by exact hP.sub (ws' := [(o, .inr (4, [.int cd, .int sc, .ref qm, .ref qd, .int ch, .int fe, .int v, .int rd, .int ca, .int sx, .ref qp, .int co, .int gi, .int aw, .int cg, .int bk, .ref qs, .ref ql, .ref qo, .int ax, .long wi])), (qp, .inl (cJ, 3, .inr (.inl (pl3 bl of an))))]) [0, 1] rfl
                    have hD9 : va_D A [(o, .inr (4, [.int cd, .int sc, .ref qm, .ref qd, .int ch, .int fe, .int v, .int rd, .int ca, .int sx, .ref qp, .int co, .int gi, .int aw, .int cg, .int bk, .ref qs, .ref ql, .ref qo, .int ax, .long wi])), (qp, .inl (cJ, 3, .inr (.inl (pl3 bl of an))))] := by exact hD.sub (ws' := [(o, .inr (4, [.int cd, .int sc, .ref qm, .ref qd, .int ch, .int fe, .int v, .int rd, .int ca, .int sx, .ref qp, .int co, .int gi, .int aw, .int cg, .int bk, .ref qs, .ref ql, .ref qo, .int ax, .long wi])), (qp, .inl (cJ, 3, .inr (.inl (pl3 bl of an))))]) [0, 1] (by decide) rfl
                    have hK9 := hK.sub (tys' := [(cJ, .long)]) [0] rfl
                    exact W.vret hx hb hr (fun t ht hW => ⟨⟨(v, rd, bl, of, an), rfl, (by unfold qSet qUp; rw [if_pos (by simp_all)]; simp_all [par_m]), by rw [ht]; exact hP9, va_K.moved hW.alike hK9, hD9⟩, hS.F ht⟩) hS.2.2 dX4_setQueue_161
      · skip
        have hP9 : va_P (dC, dI) vwCl [(o, .inr (4, [.int cd, .int sc, .ref qm, .ref qd, .int ch, .int fe, .int sz, .int rd, .int ca, .int sx, .ref qp, .int co, .int gi, .int aw, .int cg, .int bk, .ref qs, .ref ql, .ref qo, .int ax, .long wi])), (qp, .inl (cJ, 3, .inr (.inl (pl3 bl of an))))] s.heap := by exact hP.sub (ws' := [(o, .inr (4, [.int cd, .int sc, .ref qm, .ref qd, .int ch, .int fe, .int sz, .int rd, .int ca, .int sx, .ref qp, .int co, .int gi, .int aw, .int cg, .int bk, .ref qs, .ref ql, .ref qo, .int ax, .long wi])), (qp, .inl (cJ, 3, .inr (.inl (pl3 bl of an))))]) [0, 1] rfl
        have hD9 : va_D A [(o, .inr (4, [.int cd, .int sc, .ref qm, .ref qd, .int ch, .int fe, .int sz, .int rd, .int ca, .int sx, .ref qp, .int co, .int gi, .int aw, .int cg, .int bk, .ref qs, .ref ql, .ref qo, .int ax, .long wi])), (qp, .inl (cJ, 3, .inr (.inl (pl3 bl of an))))] := by exact hD.sub (ws' := [(o, .inr (4, [.int cd, .int sc, .ref qm, .ref qd, .int ch, .int fe, .int sz, .int rd, .int ca, .int sx, .ref qp, .int co, .int gi, .int aw, .int cg, .int bk, .ref qs, .ref ql, .ref qo, .int ax, .long wi])), (qp, .inl (cJ, 3, .inr (.inl (pl3 bl of an))))]) [0, 1] (by decide) rfl
        have hK9 := hK.sub (tys' := [(cJ, .long)]) [0] rfl
        exact W.vret hx hb hr (fun t ht hW => ⟨⟨(sz, rd, bl, of, an), rfl, (by unfold qSet; rw [if_neg (by intro z; simp_all)]), by rw [ht]; exact hP9, va_K.moved hW.alike hK9, hD9⟩, hS.F ht⟩) hS.2.2 dX4_setQueue_20
