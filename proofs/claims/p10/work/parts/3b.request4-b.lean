set_option maxHeartbeats 4000000 in
set_option maxRecDepth 100000 in
/-- Request.nameByte -/
theorem r_nameByte (l : Launch) (dC : Nat → ClassId) (dI : Nat → Nat → Nat) (x : Int32) (k : Nat) (hxk : x = nI k) (hk : k < 2 ^ 31) : Met l yX2_nameByte wsX2_nameByte ({ frames := 0, cells := 0, slots := 0, locals := 0 }) (va_Pc [.int x] (fun U => va_P (dC, dI) vwCl [] U.heap ∧ va_K (dC, dI) vwCl [] U ∧ ZZ (fun _ => False) U U.heap)) (vp_Si (fun r => r = nI (nmB k))) 0 0 (fun _ => False) := by
  refine Met.ofW (cc := cX2_nameByte) (maxL := 1) (ret := (some .int)) (by decide) rfl ?_
  intro p e s m args below meth c s₁ B hml hv
  obtain ⟨rfl, hP, hK, hZ⟩ := hv
  have hx := B.exec
  have hb := B.bytes
  have hr := B.returns
  have hts := atoms_spec (ws := wsX2_nameByte) B.pre
  have hw : ∀ w ∈ WW, w.before _ s = true := fun w h => hts w (List.mem_cons_of_mem _ h)
  have hown : s.vm.findClass RX2 = some m.cls := findClass_of_methodNamed B.named
  have hlocks := B.notSynchronized
  have hl := lv_entry ([.int x]) (n := 1) (Nat.le_of_ble_eq_true rfl)
  rw [lg_entry_eq]
  generalize (lg_sl ([.int x]) ++ List.replicate (1 - (lg_sl ([.int x])).length) Slot.unset).toArray = ls at hl ⊢
  have hl : lv_has ls 1 [(0, .int x)] := hl
  refine lv_iload_n hx hb dX2_nameByte_0 rfl (lv_at hl 0 rfl) ?_
  refine lv_if_lt (tgt := 20) hx hb dX2_nameByte_1 (by decide) (fun c_1 => ?_) (fun c_1 => ?_)
  · skip
    exact absurd (by rw [← hxk]; exact c_1) (nI_pos hk)
  · skip
    refine lv_iload_n hx hb dX2_nameByte_4 rfl (lv_at hl 0 rfl) ?_
    obtain ⟨-, -, -, -, -, -, -, -, tt, hZn, hTn⟩ := hZ
    refine va_gets (C := "QueueDisk$Request") (v := .ref tt) hx hb hZn va_S.rf hown (hw _ w_7a6043ef27) (fun _ h9 => h9) dX2_nameByte_5 ?_
    refine va_tlen hx hb hTn va_S.rf (v := nI 5) rfl dX2_nameByte_8 ?_
    refine lv_icmp_ge (tgt := 20) hx hb dX2_nameByte_9 (by decide) (fun c_2 => ?_) (fun c_2 => ?_)
    · skip
      have hk5 : 5 ≤ k := by rw [hxk, nI_leI (by decide) hk] at c_2; exact c_2
      refine lv_iconst (v := 0) hx hb dX2_nameByte_20 (by decide) ?_
      exact W.iret (v := 0) hx hb hr (fun t ht hW => ⟨_, rfl, (by rw [nmB_0 hk5]; rfl), ht⟩) t_nil dX2_nameByte_21
    · skip
      have hk5 : k < 5 := by rw [hxk, nI_leI (by decide) hk] at c_2; omega
      refine va_gets (C := "QueueDisk$Request") (v := .ref tt) hx hb hZn va_S.rf hown (hw _ w_7a6043ef27) (fun _ h9 => h9) dX2_nameByte_12 ?_
      refine lv_iload_n hx hb dX2_nameByte_15 rfl (lv_at hl 0 rfl) ?_
      refine va_ti hx hb hTn va_S.rf (by rw [hxk]; exact vp_in_nI hk5 (by decide)) (v := .int (nmT k)) (by show Value.int (nmT x.toNatClampNeg) = _; rw [hxk, nI_clamp hk]) dX2_nameByte_16 ?_
      refine lv_goto (tgt := 21) hx hb dX2_nameByte_17 (by decide) ?_
      exact W.iret (v := nmT k) hx hb hr (fun t ht hW => ⟨_, rfl, (nmT_ok k hk5), ht⟩) t_nil dX2_nameByte_21
set_option maxHeartbeats 4000000 in
set_option maxRecDepth 100000 in
/-- Request.putName -/
theorem r_putName (l : Launch) (dC : Nat → ClassId) (dI : Nat → Nat → Nat) (rq : Nat) (rp : Nat) (rl : Nat) (ct_ : Int32) (cl_ : Int32) (wt : Int32) (cJ : ClassId) (cI : ClassId) (ps : Nat → Int64) (lg : Nat → Int32) (b : Nat) (q : Nat) (cB_ : ClassId) (M : Nat → Nat) (C : List Blk) (O : List Blk) (zS : Nat) (hrep : repC (C ++ O) ps lg) (hrq : rqOK C O) (hcl : cl_ = nI C.length) (hct : ct_ = nI (C ++ O).length) (hwt : wt = nI 0) : Met l yX2_putName wsX2_putName ({ frames := 2, cells := 0, slots := 0, locals := 80 }) (va_Pc [.ref rq, .ref b] (fun U => U.heap.size = zS ∧ va_P (dC, dI) vwCl [(rq, .inr (2, [.ref rp, .ref rl, .int ct_, .int cl_, .int wt])), (rp, .inl (cJ, 16, .inr (.inl ps))), (rl, .inl (cI, 16, .inl lg)), (b, .inr (0, [.ref q])), (q, .inl (cB_, 65536, .inl (cB M)))] U.heap ∧ va_K (dC, dI) vwCl [(cJ, .long), (cI, .int), (cB_, .byte)] U ∧ va_D (fun _ => True) [(rq, .inr (2, [.ref rp, .ref rl, .int ct_, .int cl_, .int wt])), (rp, .inl (cJ, 16, .inr (.inl ps))), (rl, .inl (cI, 16, .inl lg)), (b, .inr (0, [.ref q])), (q, .inl (cB_, 65536, .inl (cB M)))] ∧ ZZ (va_A [(rq, .inr (2, [.ref rp, .ref rl, .int ct_, .int cl_, .int wt])), (rp, .inl (cJ, 16, .inr (.inl ps))), (rl, .inl (cI, 16, .inl lg)), (b, .inr (0, [.ref q])), (q, .inl (cB_, 65536, .inl (cB M)))] zS) U U.heap)) (va_Qv (fun (u : Int32 × (Nat → Int32)) => match u with | (wt2, g) => wt2 = nI (min (tot (mS O) - 1) 20) ∧ g = cB (wrs M (nth (mS O)) nmB (min (tot (mS O) - 1) 20))) (fun (u : Int32 × (Nat → Int32)) (t : State) => match u with | (wt2, g) => va_P (dC, dI) vwCl [(rq, .inr (2, [.ref rp, .ref rl, .int ct_, .int cl_, .int wt2])), (rp, .inl (cJ, 16, .inr (.inl ps))), (rl, .inl (cI, 16, .inl lg)), (b, .inr (0, [.ref q])), (q, .inl (cB_, 65536, .inl g))] t.heap ∧ va_K (dC, dI) vwCl [(cJ, .long), (cI, .int), (cB_, .byte)] t ∧ va_D (va_A [(rq, .inr (2, [.ref rp, .ref rl, .int ct_, .int cl_, .int wt])), (rp, .inl (cJ, 16, .inr (.inl ps))), (rl, .inl (cI, 16, .inl lg)), (b, .inr (0, [.ref q])), (q, .inl (cB_, 65536, .inl (cB M)))] zS) [(rq, .inr (2, [.ref rp, .ref rl, .int ct_, .int cl_, .int wt2])), (rp, .inl (cJ, 16, .inr (.inl ps))), (rl, .inl (cI, 16, .inl lg)), (b, .inr (0, [.ref q])), (q, .inl (cB_, 65536, .inl g))]) (va_A [(rq, .inr (2, [.ref rp, .ref rl, .int ct_, .int cl_, .int wt])), (rp, .inl (cJ, 16, .inr (.inl ps))), (rl, .inl (cI, 16, .inl lg)), (b, .inr (0, [.ref q])), (q, .inl (cB_, 65536, .inl (cB M)))] zS)) 0 0 (va_A [(rq, .inr (2, [.ref rp, .ref rl, .int ct_, .int cl_, .int wt])), (rp, .inl (cJ, 16, .inr (.inl ps))), (rl, .inl (cI, 16, .inl lg)), (b, .inr (0, [.ref q])), (q, .inl (cB_, 65536, .inl (cB M)))] zS) := by
  refine Met.ofW (cc := cX2_putName) (maxL := 5) (ret := (none)) (by decide) rfl ?_
  intro p e s m args below meth c s₁ B hml hv
  obtain ⟨rfl, hsz, hP, hK, hD0, hZ⟩ := hv
  have hx := B.exec
  have hb := B.bytes
  have hr := B.returns
  have hts := atoms_spec (ws := wsX2_putName) B.pre
  have hw : ∀ w ∈ WW, w.before _ s = true := fun w h => hts w (List.mem_cons_of_mem _ h)
  have hown : s.vm.findClass RX2 = some m.cls := findClass_of_methodNamed B.named
  have hlocks := B.notSynchronized
  subst hsz
  have hD := hD0.self (sz := s.heap.size)
  generalize hAe : va_A [(rq, .inr (2, [.ref rp, .ref rl, .int ct_, .int cl_, .int wt])), (rp, .inl (cJ, 16, .inr (.inl ps))), (rl, .inl (cI, 16, .inl lg)), (b, .inr (0, [.ref q])), (q, .inl (cB_, 65536, .inl (cB M)))] s.heap.size = A at hD hZ ⊢
  have hA : ∀ q : Nat, s.heap.size ≤ q → A q := fun q h => by rw [← hAe]; exact Or.inr h
  have hS : va_S A s.heap s.heap [] := va_S.rf
  have hP : va_P (dC, dI) vwCl [(rq, .inr (2, [.ref rp, .ref rl, .int ct_, .int cl_, .int wt])), (rp, .inl (cJ, 16, .inr (.inl ps))), (rl, .inl (cI, 16, .inl lg)), (b, .inr (0, [.ref q])), (q, .inl (cB_, 65536, .inl (cB M)))] s.heap := hP
  have hl := lv_entry ([.ref rq, .ref b]) (n := 5) (Nat.le_of_ble_eq_true rfl)
  rw [lg_entry_eq]
  generalize (lg_sl ([.ref rq, .ref b]) ++ List.replicate (5 - (lg_sl ([.ref rq, .ref b])).length) Slot.unset).toArray = ls at hl ⊢
  have hl : lv_has ls 5 [(0, .ref rq), (1, .ref b)] := hl
  have hlen := rqC_len hrq
  refine lv_aload_n hx hb dX2_putName_0 rfl (lv_at hl 0 rfl) ?_
  refine va_get (D := (dC, dI)) (ci := 2) (v := .int cl_) (C := RX2) (T := TX2) (N := 5) hx hb hw inX2 hown hK hP 0 rfl rfl 3 (by decide) (hw _ w_c0451c0cf4) (fun _ h9 => h9) rfl dX2_putName_1 ?_
  refine lv_istore_n (lv' := [(2, .int cl_), (0, .ref rq), (1, .ref b)]) hx hb dX2_putName_4 rfl hl (by decide) rfl (fun ls hl => ?_)
  have loop : ∀ (N : Nat) (a : Nat) (j : Nat) (yy : Int32) (w3 : Int32) (g3 : Nat → Int32) (hN : O.length - j < N) (ek : yy = nI (C.length + j)) (hj : j ≤ O.length) (hs : opA O j a) (hw3 : w3 = nI (min a 20)) (hg3 : g3 = cB (wrs M (nth (mS O)) nmB (min a 20))) (H : Heap) (locs : List Loc) (hP : va_P (dC, dI) vwCl [(rq, .inr (2, [.ref rp, .ref rl, .int ct_, .int cl_, .int w3])), (rp, .inl (cJ, 16, .inr (.inl ps))), (rl, .inl (cI, 16, .inl lg)), (b, .inr (0, [.ref q])), (q, .inl (cB_, 65536, .inl g3))] H) (hD : va_D A [(rq, .inr (2, [.ref rp, .ref rl, .int ct_, .int cl_, .int w3])), (rp, .inl (cJ, 16, .inr (.inl ps))), (rl, .inl (cI, 16, .inl lg)), (b, .inr (0, [.ref q])), (q, .inl (cB_, 65536, .inl g3))]) (hS : va_S A s.heap H locs) (ls : Array Slot) (hl : lv_has ls 5 [(2, .int yy), (0, .ref rq), (1, .ref b)]), W p l e (headSpec wsX2_putName ({ frames := 2, cells := 0, slots := 0, locals := 80 })).room s m [.ref rq, .ref b].toArray below meth c H locs 0 0 (MQ below (va_Qv (fun (u : Int32 × (Nat → Int32)) => match u with | (wt2, g) => wt2 = nI (min (tot (mS O) - 1) 20) ∧ g = cB (wrs M (nth (mS O)) nmB (min (tot (mS O) - 1) 20))) (fun (u : Int32 × (Nat → Int32)) (t : State) => match u with | (wt2, g) => va_P (dC, dI) vwCl [(rq, .inr (2, [.ref rp, .ref rl, .int ct_, .int cl_, .int wt2])), (rp, .inl (cJ, 16, .inr (.inl ps))), (rl, .inl (cI, 16, .inl lg)), (b, .inr (0, [.ref q])), (q, .inl (cB_, 65536, .inl g))] t.heap ∧ va_K (dC, dI) vwCl [(cJ, .long), (cI, .int), (cB_, .byte)] t ∧ va_D A [(rq, .inr (2, [.ref rp, .ref rl, .int ct_, .int cl_, .int wt2])), (rp, .inl (cJ, 16, .inr (.inl ps))), (rl, .inl (cI, 16, .inl lg)), (b, .inr (0, [.ref q])), (q, .inl (cB_, 65536, .inl g))]) A) [.ref rq, .ref b].toArray s 0 0 A) (F0 m 5 ls []) := by
    intro N
    induction N with
    | zero => intro a j yy w3 g3 hN ek hj hs hw3 hg3 H locs hP hD hS ls hl; exact absurd hN (Nat.not_lt_zero _)
    | succ N ih =>
      intro a j yy w3 g3 hN ek hj hs hw3 hg3 H locs hP hD hS ls hl
      refine lv_iload_n hx hb dX2_putName_5 rfl (lv_at hl 0 rfl) ?_
      refine lv_aload_n hx hb dX2_putName_6 rfl (lv_at hl 1 rfl) ?_
      refine va_get (D := (dC, dI)) (ci := 2) (v := .int ct_) (C := RX2) (T := TX2) (N := 5) hx hb hw inX2 hown hK hP 0 rfl rfl 2 (by decide) (hw _ w_17cac06a59) (fun _ h9 => h9) rfl dX2_putName_7 ?_
      refine lv_icmp_ge (tgt := 80) hx hb dX2_putName_10 (by decide) (fun c_1 => ?_) (fun c_1 => ?_)
      · skip
        have hjj : j = O.length := by rw [hct, ek, hlen.2.2.2, nI_leI (by omega) (by omega)] at c_1; omega
        have hP9 : va_P (dC, dI) vwCl [(rq, .inr (2, [.ref rp, .ref rl, .int ct_, .int cl_, .int w3])), (rp, .inl (cJ, 16, .inr (.inl ps))), (rl, .inl (cI, 16, .inl lg)), (b, .inr (0, [.ref q])), (q, .inl (cB_, 65536, .inl g3))] H := by exact hP.sub (ws' := [(rq, .inr (2, [.ref rp, .ref rl, .int ct_, .int cl_, .int w3])), (rp, .inl (cJ, 16, .inr (.inl ps))), (rl, .inl (cI, 16, .inl lg)), (b, .inr (0, [.ref q])), (q, .inl (cB_, 65536, .inl g3))]) [0, 1, 2, 3, 4] rfl
        have hD9 : va_D A [(rq, .inr (2, [.ref rp, .ref rl, .int ct_, .int cl_, .int w3])), (rp, .inl (cJ, 16, .inr (.inl ps))), (rl, .inl (cI, 16, .inl lg)), (b, .inr (0, [.ref q])), (q, .inl (cB_, 65536, .inl g3))] := by exact hD.sub (ws' := [(rq, .inr (2, [.ref rp, .ref rl, .int ct_, .int cl_, .int w3])), (rp, .inl (cJ, 16, .inr (.inl ps))), (rl, .inl (cI, 16, .inl lg)), (b, .inr (0, [.ref q])), (q, .inl (cB_, 65536, .inl g3))]) [0, 1, 2, 3, 4] (by decide) rfl
        have hK9 := hK.sub (tys' := [(cJ, .long), (cI, .int), (cB_, .byte)]) [0, 1, 2] rfl
        exact W.vret hx hb hr (fun t ht hW => ⟨⟨(w3, g3), rfl, (by have e := (hs.resolve_left (fun z => by omega)).2; rw [← e]; exact ⟨hw3, hg3⟩), by rw [ht]; exact hP9, va_K.moved hW.alike hK9, hD9⟩, hS.F ht⟩) hS.2.2 dX2_putName_80
      · skip
        have hjj : j < O.length := by rw [hct, ek, hlen.2.2.2, nI_leI (by omega) (by omega)] at c_1; omega
        obtain ⟨bb, hbj, hdr, hol, hps, hth, h65, hlp, hob⟩ := rqC_op hrq hrep hjj
        refine lv_aload_n hx hb dX2_putName_13 rfl (lv_at hl 1 rfl) ?_
        refine lv_iload_n hx hb dX2_putName_14 rfl (lv_at hl 0 rfl) ?_
        have hPc := hP.sub (ws' := [(rq, .inr (2, [.ref rp, .ref rl, .int ct_, .int cl_, .int w3])), (rp, .inl (cJ, 16, .inr (.inl ps))), (rl, .inl (cI, 16, .inl lg))]) [0, 1, 2] rfl
        have hKc := hK.sub (tys' := [(cJ, .long), (cI, .int)]) [0, 1] rfl
        have hZc := (hZ.kept hS.2.1).narrow (B := fun _ => False) (fun _ h => h.elim)
        refine vp_callSi (va_runV (As := [.int yy]) (rest := []) ⟨hx, hb, hml, hown, hw⟩ (r_openLengthOf l dC dI rq rp rl ct_ cl_ w3 cJ cI ps lg yy (C.length + j) ((C ++ O).length) ek (by omega) hct (by omega) (by omega)) (cwV 1 hw (gV w_fcc05594e2 w_31defdd873 w_fa6fe686b1 w_d27e9d3e51 w_4628035946) rfl rfl rfl (by decide +kernel) ⟨Nat.le_of_ble_eq_true rfl, Nat.le_of_ble_eq_true rfl⟩) ⟨fun a U g mk q => by obtain ⟨q0, qP, qK, qZ⟩ := q; exact ⟨q0, qP, va_K.moved (u := U) (U := U.calling g mk a) (Vm.Alike.refl U.vm) qK, ZZ.same (u := U) (U := U.calling g mk a) rfl qZ⟩, va_recv hKc hPc (ci := 2) (q0 := 0) rfl rfl, fun U hU hW => ⟨rfl, by rw [hU]; exact hPc, va_K.moved hW.alike hKc, by rw [hU]; exact ZZ.warm hW hZc⟩⟩ rfl rfl hl.1 rfl (lv_room (Nat.le_of_ble_eq_true rfl)) dX2_putName_15 ⟨Nat.zero_le _, Nat.zero_le _⟩).run (fun r_2 hr_2 => ?_)
        have hr_2 : r_2 = if (C.length + j) + 1 = ((C ++ O).length) then lg (C.length + j) - 1 else lg (C.length + j) := hr_2
        refine lv_bipush (v := 20) hx hb dX2_putName_18 (by decide) ?_
        refine lv_aload_n hx hb dX2_putName_20 rfl (lv_at hl 1 rfl) ?_
        refine va_get (D := (dC, dI)) (ci := 2) (v := .int w3) (C := RX2) (T := TX2) (N := 5) hx hb hw inX2 hown hK hP 0 rfl rfl 4 (by decide) (hw _ w_448b866679) (fun _ h9 => h9) rfl dX2_putName_21 ?_
        refine lv_isub hx hb dX2_putName_24 ?_
        refine va_mmin hx hb (by rw [hml]; exact hl.1.symm) hown (hw _ w_e29e190729) (hw _ w_6443835c00) (hw _ w_544deca7c6) (hw _ w_4cca852340) (Nat.le_of_ble_eq_true rfl) (Nat.le_of_ble_eq_true rfl) (Nat.zero_le _) (Nat.zero_le _) dX2_putName_25 ?_
        refine lv_topi (fun x_3 ex_3 => ?_)
        refine lv_istore_n (lv' := [(3, .int x_3), (2, .int yy), (0, .ref rq), (1, .ref b)]) hx hb dX2_putName_28 rfl hl (by decide) rfl (fun ls hl => ?_)
        have eln : x_3 = nI (min (oln O j bb) (20 - min a 20)) := by rw [ex_3, hr_2, hol, hw3, sub20 (by omega)]; exact min_C (by omega) (by omega)
        refine lv_iconst (v := 0) hx hb dX2_putName_29 (by decide) ?_
        refine lv_istore (lv' := [(4, .int 0), (3, .int x_3), (2, .int yy), (0, .ref rq), (1, .ref b)]) hx hb dX2_putName_30 hl (by decide) rfl (fun ls hl => ?_)
        have inner : ∀ (N2 : Nat) (i : Nat) (z4 : Int32) (l3 : Int32) (w4 : Int32) (g4 : Nat → Int32) (hN2 : min (oln O j bb) (20 - min a 20) - i < N2) (ei : z4 = nI i) (hi : i ≤ min (oln O j bb) (20 - min a 20)) (el3 : l3 = nI (min (oln O j bb) (20 - min a 20))) (hw4 : w4 = nI (min a 20 + i)) (hg4 : g4 = cB (wrs M (nth (mS O)) nmB (min a 20 + i))) (H : Heap) (locs : List Loc) (hP : va_P (dC, dI) vwCl [(rq, .inr (2, [.ref rp, .ref rl, .int ct_, .int cl_, .int w4])), (rp, .inl (cJ, 16, .inr (.inl ps))), (rl, .inl (cI, 16, .inl lg)), (b, .inr (0, [.ref q])), (q, .inl (cB_, 65536, .inl g4))] H) (hD : va_D A [(rq, .inr (2, [.ref rp, .ref rl, .int ct_, .int cl_, .int w4])), (rp, .inl (cJ, 16, .inr (.inl ps))), (rl, .inl (cI, 16, .inl lg)), (b, .inr (0, [.ref q])), (q, .inl (cB_, 65536, .inl g4))]) (hS : va_S A s.heap H locs) (ls : Array Slot) (hl : lv_has ls 5 [(4, .int z4), (3, .int l3), (2, .int yy), (0, .ref rq), (1, .ref b)]), W p l e (headSpec wsX2_putName ({ frames := 2, cells := 0, slots := 0, locals := 80 })).room s m [.ref rq, .ref b].toArray below meth c H locs 0 0 (MQ below (va_Qv (fun (u : Int32 × (Nat → Int32)) => match u with | (wt2, g) => wt2 = nI (min (tot (mS O) - 1) 20) ∧ g = cB (wrs M (nth (mS O)) nmB (min (tot (mS O) - 1) 20))) (fun (u : Int32 × (Nat → Int32)) (t : State) => match u with | (wt2, g) => va_P (dC, dI) vwCl [(rq, .inr (2, [.ref rp, .ref rl, .int ct_, .int cl_, .int wt2])), (rp, .inl (cJ, 16, .inr (.inl ps))), (rl, .inl (cI, 16, .inl lg)), (b, .inr (0, [.ref q])), (q, .inl (cB_, 65536, .inl g))] t.heap ∧ va_K (dC, dI) vwCl [(cJ, .long), (cI, .int), (cB_, .byte)] t ∧ va_D A [(rq, .inr (2, [.ref rp, .ref rl, .int ct_, .int cl_, .int wt2])), (rp, .inl (cJ, 16, .inr (.inl ps))), (rl, .inl (cI, 16, .inl lg)), (b, .inr (0, [.ref q])), (q, .inl (cB_, 65536, .inl g))]) A) [.ref rq, .ref b].toArray s 0 0 A) (F0 m 32 ls []) := by
          intro N2
          induction N2 with
          | zero => intro i z4 l3 w4 g4 hN2 ei hi el3 hw4 hg4 H locs hP hD hS ls hl; exact absurd hN2 (Nat.not_lt_zero _)
          | succ N2 ih2 =>
            intro i z4 l3 w4 g4 hN2 ei hi el3 hw4 hg4 H locs hP hD hS ls hl
            refine lv_iload hx hb dX2_putName_32 (lv_at hl 0 rfl) ?_
            refine lv_iload_n hx hb dX2_putName_34 rfl (lv_at hl 1 rfl) ?_
            refine lv_icmp_ge (tgt := 74) hx hb dX2_putName_35 (by decide) (fun c_4 => ?_) (fun c_4 => ?_)
            · skip
              have hil : i = min (oln O j bb) (20 - min a 20) := by rw [el3, ei, nI_leI (by omega) (by omega)] at c_4; omega
              obtain ⟨x_5, ex_5⟩ : ∃ y : Int32, y = yy + 1 := ⟨_, rfl⟩
              refine lv_iinc (v := x_5) (lv' := [(2, .int x_5), (4, .int z4), (3, .int l3), (0, .ref rq), (1, .ref b)]) hx hb dX2_putName_74 hl (k := 2) rfl (by rw [ex_5]; rfl) (by decide) rfl (fun ls hl => ?_)
              refine lv_goto (tgt := 5) hx hb dX2_putName_77 (by decide) ?_
              exact ih (a + oln O j bb) (j + 1) x_5 w4 g4 (by omega) (by rw [ex_5, ek]; exact nI_1 _) (by omega) (opA_1 hjj hdr hlp hs) (by rw [hw4, hil]; congr 1; omega) (by rw [hg4, hil, show min a 20 + min (oln O j bb) (20 - min a 20) = min (a + oln O j bb) 20 by omega]) _ _ (hP.sub [0, 1, 2, 3, 4] rfl) (hD.sub [0, 1, 2, 3, 4] (by decide) rfl) hS ls (lv_sub hl [0, 3, 4] rfl)
            · skip
              have hil : i < min (oln O j bb) (20 - min a 20) := by rw [el3, ei, nI_leI (by omega) (by omega)] at c_4; omega
              refine lv_aload_n hx hb dX2_putName_38 rfl (lv_at hl 4 rfl) ?_
              refine lv_aload_n hx hb dX2_putName_39 rfl (lv_at hl 3 rfl) ?_
              refine lv_iload_n hx hb dX2_putName_40 rfl (lv_at hl 2 rfl) ?_
              have hPc := hP.sub (ws' := [(rq, .inr (2, [.ref rp, .ref rl, .int ct_, .int cl_, .int w4])), (rp, .inl (cJ, 16, .inr (.inl ps))), (rl, .inl (cI, 16, .inl lg))]) [0, 1, 2] rfl
              have hKc := hK.sub (tys' := [(cJ, .long), (cI, .int)]) [0, 1] rfl
              have hZc := (hZ.kept hS.2.1).narrow (B := fun _ => False) (fun _ h => h.elim)
              refine vp_callSl (va_runV (As := [.int yy]) (rest := [.ref b]) ⟨hx, hb, hml, hown, hw⟩ (r_placeOf l dC dI rq rp rl ct_ cl_ w4 cJ cI ps lg yy (C.length + j) ek (by omega)) (cwV 1 hw (gV w_d160ddf157 w_1bc15c9d4e w_7601c55bff w_d27e9d3e51 w_577239e1dd) rfl rfl rfl (by decide +kernel) ⟨Nat.le_of_ble_eq_true rfl, Nat.le_of_ble_eq_true rfl⟩) ⟨fun a U g mk q => by obtain ⟨q0, qP, qK, qZ⟩ := q; exact ⟨q0, qP, va_K.moved (u := U) (U := U.calling g mk a) (Vm.Alike.refl U.vm) qK, ZZ.same (u := U) (U := U.calling g mk a) rfl qZ⟩, va_recv hKc hPc (ci := 2) (q0 := 0) rfl rfl, fun U hU hW => ⟨rfl, by rw [hU]; exact hPc, va_K.moved hW.alike hKc, by rw [hU]; exact ZZ.warm hW hZc⟩⟩ rfl rfl hl.1 rfl (lv_room (Nat.le_of_ble_eq_true rfl)) dX2_putName_41 ⟨Nat.zero_le _, Nat.zero_le _⟩).run (fun r_6 hr_6 => ?_)
              have hr_6 : r_6 = ps (C.length + j) := hr_6
              refine lv_iload hx hb dX2_putName_44 (lv_at hl 0 rfl) ?_
              refine lv_i2l (v := z4.toInt64) hx hb dX2_putName_46 rfl ?_
              refine lv_ladd hx hb dX2_putName_47 ?_
              refine lv_aload_n hx hb dX2_putName_48 rfl (lv_at hl 3 rfl) ?_
              refine va_get (D := (dC, dI)) (ci := 2) (v := .int w4) (C := RX2) (T := TX2) (N := 5) hx hb hw inX2 hown hK hP 0 rfl rfl 4 (by decide) (hw _ w_448b866679) (fun _ h9 => h9) rfl dX2_putName_49 ?_
              have hPc := hP.sub (ws' := []) [] rfl
              have hKc := hK.sub (tys' := []) [] rfl
              have hZc := (hZ.kept hS.2.1).narrow (B := fun _ => False) (fun _ h => h.elim)
              refine vp_callSi (va_runS (As := [.int w4]) (rest := [.long (r_6 + z4.toInt64), .ref b]) ⟨hx, hb, hml, hown, hw⟩ (r_nameByte l dC dI w4 (min a 20 + i) hw4 (by omega)) (va_cwS 1 hw (gS w_fb6f7a5da9 w_a3d2d35ab8 w_d27e9d3e51 w_e7b0ccde04) rfl rfl rfl (by decide +kernel) ⟨Nat.le_of_ble_eq_true rfl, Nat.le_of_ble_eq_true rfl⟩) ⟨fun a U g mk q => by obtain ⟨q0, qP, qK, qZ⟩ := q; exact ⟨q0, qP, va_K.moved (u := U) (U := U.calling g mk a) (Vm.Alike.refl U.vm) qK, ZZ.same (u := U) (U := U.calling g mk a) rfl qZ⟩, fun U hU hW => ⟨rfl, by rw [hU]; exact hPc, va_K.moved hW.alike hKc, by rw [hU]; exact ZZ.warm hW hZc⟩⟩ rfl rfl hl.1 rfl (lv_room (Nat.le_of_ble_eq_true rfl)) dX2_putName_52 ⟨Nat.zero_le _, Nat.zero_le _⟩).run (fun r_7 hr_7 => ?_)
              have hr_7 : r_7 = nI (nmB (min a 20 + i)) := hr_7
              have hPc := hP.sub (ws' := [(b, .inr (0, [.ref q])), (q, .inl (cB_, 65536, .inl g4))]) [3, 4] rfl
              have hKc := hK.sub (tys' := [(cB_, .byte)]) [2] rfl
              have hDc := hD.sub (ws' := [(b, .inr (0, [.ref q])), (q, .inl (cB_, 65536, .inl g4))]) [3, 4] (by decide) rfl
              have hFc := va_free (wc := [(b, .inr (0, [.ref q])), (q, .inl (cB_, 65536, .inl g4))]) hD hS hA [3, 4] rfl
              have hZc : ZZ (va_A [(b, .inr (0, [.ref q])), (q, .inl (cB_, 65536, .inl g4))] H.size) s H := (hZ.kept hS.2.1).narrow hFc
              refine va_callv (va_runV (As := [.long (r_6 + z4.toInt64), .int r_7]) (rest := []) ⟨hx, hb, hml, hown, hw⟩ (c_put l dC dI b q cB_ 65536 g4 (r_6 + z4.toInt64) r_7 H.size (by decide)) (cwV 2 hw (gV w_8be485b431 w_a98a2cb77c w_35af0b375c w_82b0ef516c w_9c05d6145f) rfl rfl rfl (by decide +kernel) ⟨Nat.le_of_ble_eq_true rfl, Nat.le_of_ble_eq_true rfl⟩) ⟨fun a U g mk q => by obtain ⟨q0, q1, qP, qK, qD, qZ⟩ := q; exact ⟨q0, q1, qP, va_K.moved (u := U) (U := U.calling g mk a) (Vm.Alike.refl U.vm) qK, qD, ZZ.same (u := U) (U := U.calling g mk a) rfl qZ⟩, va_recv hKc hPc (ci := 0) (q0 := 0) rfl rfl, fun U hU hW => ⟨rfl, by rw [hU], by rw [hU]; exact hPc, va_K.moved hW.alike hKc, hDc.weaken (fun _ _ _ _ => trivial), by rw [hU]; exact ZZ.warm hW hZc⟩⟩ rfl rfl hl.1 rfl (lv_room (Nat.le_of_ble_eq_true rfl)) dX2_putName_55 ⟨Nat.zero_le _, Nat.zero_le _⟩) hS (fun q _ h => hFc q h) hFc (fun u t H1 locs ht hvm hw2 hB hz1 hk1 hS => ?_)
              obtain ⟨g_8, rfl⟩ : ∃ z, z = u := ⟨_, rfl⟩
              obtain ⟨hP1, hK1, hD1⟩ := hB
              rw [ht] at hP1
              have hK1 := va_K.moved hvm.symm hK1
              try dsimp only at hw2
              obtain ⟨hP, hD⟩ := va_join (wr := [(rq, .inr (2, [.ref rp, .ref rl, .int ct_, .int cl_, .int w4])), (rp, .inl (cJ, 16, .inr (.inl ps))), (rl, .inl (cI, 16, .inl lg))]) (w1 := [(b, .inr (0, [.ref q])), (q, .inl (cB_, 65536, .inl g_8))]) hP hD [3, 4] [0, 1, 2] rfl rfl (by decide) (by decide) hk1 hFc hP1 hD1
              generalize H1 = H at hP hS hk1 ⊢
              have hP : va_P (dC, dI) vwCl [(rq, .inr (2, [.ref rp, .ref rl, .int ct_, .int cl_, .int w4])), (rp, .inl (cJ, 16, .inr (.inl ps))), (rl, .inl (cI, 16, .inl lg)), (b, .inr (0, [.ref q])), (q, .inl (cB_, 65536, .inl g_8))] H := hP
              have hD : va_D A [(rq, .inr (2, [.ref rp, .ref rl, .int ct_, .int cl_, .int w4])), (rp, .inl (cJ, 16, .inr (.inl ps))), (rl, .inl (cI, 16, .inl lg)), (b, .inr (0, [.ref q])), (q, .inl (cB_, 65536, .inl g_8))] := hD
              have hw_9 : g_8 = putS 65536 g4 (r_6 + z4.toInt64) r_7 := hw2
              refine lv_aload_n hx hb dX2_putName_58 rfl (lv_at hl 3 rfl) ?_
              refine lv_dup hx hb dX2_putName_59 rfl ?_
              refine va_get (D := (dC, dI)) (ci := 2) (v := .int w4) (C := RX2) (T := TX2) (N := 5) hx hb hw inX2 hown hK hP 0 rfl rfl 4 (by decide) (hw _ w_448b866679) (fun _ h9 => h9) rfl dX2_putName_60 ?_
              refine lv_iconst (v := 1) hx hb dX2_putName_63 (by decide) ?_
              refine lv_iadd hx hb dX2_putName_64 ?_
              refine lv_topi (fun x_10 ex_10 => ?_)
              refine va_put (D := (dC, dI)) (ci := 2) (v := .int x_10) (ty := .int) (C := RX2) (T := TX2) (N := 5) hx hb hw inX2 tyX2 tyX2_ok nmX2 hown hK hP hD hS 0 rfl rfl 4 (by decide) (hw _ w_448b866679) (fun _ h9 => h9) rfl (by decide +kernel) rfl rfl (Nat.le_of_ble_eq_true rfl) dX2_putName_65 (fun H locs hP hD hS => ?_)
              have hP : va_P (dC, dI) vwCl [(rq, .inr (2, [.ref rp, .ref rl, .int ct_, .int cl_, .int x_10])), (rp, .inl (cJ, 16, .inr (.inl ps))), (rl, .inl (cI, 16, .inl lg)), (b, .inr (0, [.ref q])), (q, .inl (cB_, 65536, .inl g_8))] H := hP
              have hD : va_D A [(rq, .inr (2, [.ref rp, .ref rl, .int ct_, .int cl_, .int x_10])), (rp, .inl (cJ, 16, .inr (.inl ps))), (rl, .inl (cI, 16, .inl lg)), (b, .inr (0, [.ref q])), (q, .inl (cB_, 65536, .inl g_8))] := hD
              obtain ⟨x_11, ex_11⟩ : ∃ y : Int32, y = z4 + 1 := ⟨_, rfl⟩
              refine lv_iinc (v := x_11) (lv' := [(4, .int x_11), (3, .int l3), (2, .int yy), (0, .ref rq), (1, .ref b)]) hx hb dX2_putName_68 hl (k := 0) rfl (by rw [ex_11]; rfl) (by decide) rfl (fun ls hl => ?_)
              refine lv_goto (tgt := 32) hx hb dX2_putName_71 (by decide) ?_
              exact ih2 (i + 1) x_11 l3 x_10 g_8 (by omega) (by rw [ex_11, ei]; exact nI_1 i) (by omega) (el3) (by rw [ex_10, hw4]; exact nI_1 _) (by rw [hw_9, hg4, hr_6, hps, ei, hr_7]; exact nm_step hjj hdr hs hth h65 hob hil) _ _ (hP.sub [0, 1, 2, 3, 4] rfl) (hD.sub [0, 1, 2, 3, 4] (by decide) rfl) hS ls (lv_sub hl [0, 1, 2, 3, 4] rfl)
        exact inner (min (oln O j bb) (20 - min a 20) + 1) 0 0 x_3 w3 g3 (by omega) (rfl) (Nat.zero_le _) (eln) (hw3) (hg3) _ _ (hP.sub [0, 1, 2, 3, 4] rfl) (hD.sub [0, 1, 2, 3, 4] (by decide) rfl) hS ls (lv_sub hl [0, 1, 2, 3, 4] rfl)
  exact loop (O.length + 1) 0 0 cl_ wt (cB M) (by omega) (by rw [hcl, Nat.add_zero]) (by omega) (opA_0 hlen.2.1) (hwt) (rfl) _ _ (hP.sub [0, 1, 2, 3, 4] rfl) (hD.sub [0, 1, 2, 3, 4] (by decide) rfl) hS ls (lv_sub hl [0, 1, 2] rfl)
set_option maxHeartbeats 4000000 in
set_option maxRecDepth 100000 in
/-- Request.init -/
theorem r_init (l : Launch) (dC : Nat → ClassId) (dI : Nat → Nat → Nat) (rq : Nat) (zS : Nat) : Met l yX2_init wsX2_init ({ frames := 1, cells := 2, slots := 32, locals := 20 }) (va_Pc [.ref rq] (fun U => U.heap.size = zS ∧ va_P (dC, dI) vwCl [(rq, .inr (2, [.null, .null, .int 0, .int 0, .int 0]))] U.heap ∧ va_K (dC, dI) vwCl [] U ∧ va_D (fun _ => True) [(rq, .inr (2, [.null, .null, .int 0, .int 0, .int 0]))] ∧ ZZ (va_A [(rq, .inr (2, [.null, .null, .int 0, .int 0, .int 0]))] zS) U U.heap)) (va_Qv (fun (_ : Unit) => True) (fun (_ : Unit) (t : State) => ∃ rp : Nat, ∃ rl : Nat, ∃ cJ : ClassId, ∃ cI : ClassId, va_P (dC, dI) vwCl [(rq, .inr (2, [.ref rp, .ref rl, .int 0, .int 0, .int 0])), (rp, .inl (cJ, 16, .inr (.inl (fun _ => 0)))), (rl, .inl (cI, 16, .inl (fun _ => 0)))] t.heap ∧ va_K (dC, dI) vwCl [(cJ, .long), (cI, .int)] t ∧ va_D (va_A [(rq, .inr (2, [.null, .null, .int 0, .int 0, .int 0]))] zS) [(rq, .inr (2, [.ref rp, .ref rl, .int 0, .int 0, .int 0])), (rp, .inl (cJ, 16, .inr (.inl (fun _ => 0)))), (rl, .inl (cI, 16, .inl (fun _ => 0)))]) (va_A [(rq, .inr (2, [.null, .null, .int 0, .int 0, .int 0]))] zS)) 2 32 (va_A [(rq, .inr (2, [.null, .null, .int 0, .int 0, .int 0]))] zS) := by
  refine Met.ofW (cc := cX2_init) (maxL := 1) (ret := (none)) (by decide) rfl ?_
  intro p e s m args below meth c s₁ B hml hv
  obtain ⟨rfl, hsz, hP, hK, hD0, hZ⟩ := hv
  have hx := B.exec
  have hb := B.bytes
  have hr := B.returns
  have hts := atoms_spec (ws := wsX2_init) B.pre
  have hw : ∀ w ∈ WW, w.before _ s = true := fun w h => hts w (List.mem_cons_of_mem _ h)
  have hown : s.vm.findClass RX2 = some m.cls := findClass_of_methodNamed B.named
  have hlocks := B.notSynchronized
  have hin : meth.name = "<init>" := (name_of_methodNamed B.named B.method).1
  subst hsz
  have hD := hD0.self (sz := s.heap.size)
  generalize hAe : va_A [(rq, .inr (2, [.null, .null, .int 0, .int 0, .int 0]))] s.heap.size = A at hD hZ ⊢
  have hA : ∀ q : Nat, s.heap.size ≤ q → A q := fun q h => by rw [← hAe]; exact Or.inr h
  have hS : va_S A s.heap s.heap [] := va_S.rf
  have hP : va_P (dC, dI) vwCl [(rq, .inr (2, [.null, .null, .int 0, .int 0, .int 0]))] s.heap := hP
  have hl := lv_entry ([.ref rq]) (n := 1) (Nat.le_of_ble_eq_true rfl)
  rw [lg_entry_eq]
  generalize (lg_sl ([.ref rq]) ++ List.replicate (1 - (lg_sl ([.ref rq])).length) Slot.unset).toArray = ls at hl ⊢
  have hl : lv_has ls 1 [(0, .ref rq)] := hl
  refine lv_aload_n hx hb dX2_init_0 rfl (lv_at hl 0 rfl) ?_
  refine W.objInit hx hb hown (hw _ w_93433e0511) (hw _ w_e68b0fb77c) (hw _ w_f29cc5b5a1) rfl (by rw [hml]; exact hl.1) rfl dX2_init_1 (Nat.le_of_ble_eq_true rfl) (Nat.le_of_ble_eq_true rfl) ?_
  refine W.eq (g2 := F0 m 4 ls []) rfl ?_
  refine lv_aload_n hx hb dX2_init_4 rfl (lv_at hl 0 rfl) ?_
  refine lv_bipush (v := 16) hx hb dX2_init_5 (by decide) ?_
  refine va_newa (atype := .long) (ty := .long) (N' := 16) (a0 := (16, .inr (.inl (fun _ => 0)))) hx hb (hw _ w_18c1a5862b) rfl hK hP hD hS hA (fun _ => rfl) (by decide +kernel) (by decide +kernel) (by decide +kernel) (Nat.le_of_ble_eq_true rfl) (Nat.le_of_ble_eq_true rfl) dX2_init_7 (fun qa_1 cA_2 H hK hP hD hS => ?_)
  refine W.cs (cells' := 1) (slots' := 16) (by omega) (by omega) ?_
  have hP : va_P (dC, dI) vwCl [(rq, .inr (2, [.null, .null, .int 0, .int 0, .int 0])), (qa_1, .inl (cA_2, 16, .inr (.inl (fun _ => 0))))] H := hP
  have hD : va_D A [(rq, .inr (2, [.null, .null, .int 0, .int 0, .int 0])), (qa_1, .inl (cA_2, 16, .inr (.inl (fun _ => 0))))] := hD
  have hK : va_K (dC, dI) vwCl [(cA_2, .long)] s := hK
  refine va_putF (D := (dC, dI)) (ci := 2) (v := .ref qa_1) (ty := (.array .long)) (C := RX2) (T := TX2) (N := 5) hx hb hw inX2 tyX2 tyX2_ok nmX2 hown hK hP hD hS 0 rfl rfl 0 (by decide) (hw _ w_41e730de16) (fun _ h9 => h9) rfl hin rfl (by decide +kernel) rfl rfl (Nat.le_of_ble_eq_true rfl) dX2_init_9 (fun H locs hP hD hS => ?_)
  have hP : va_P (dC, dI) vwCl [(rq, .inr (2, [.ref qa_1, .null, .int 0, .int 0, .int 0])), (qa_1, .inl (cA_2, 16, .inr (.inl (fun _ => 0))))] H := hP
  have hD : va_D A [(rq, .inr (2, [.ref qa_1, .null, .int 0, .int 0, .int 0])), (qa_1, .inl (cA_2, 16, .inr (.inl (fun _ => 0))))] := hD
  refine lv_aload_n hx hb dX2_init_12 rfl (lv_at hl 0 rfl) ?_
  refine lv_bipush (v := 16) hx hb dX2_init_13 (by decide) ?_
  refine va_newa (atype := .int) (ty := .int) (N' := 16) (a0 := (16, .inl (fun _ => 0))) hx hb (hw _ w_0460111aad) rfl hK hP hD hS hA (fun _ => rfl) (by decide +kernel) (by decide +kernel) (by decide +kernel) (Nat.le_of_ble_eq_true rfl) (Nat.le_of_ble_eq_true rfl) dX2_init_15 (fun qa_3 cA_4 H hK hP hD hS => ?_)
  refine W.cs (cells' := 2) (slots' := 32) (by omega) (by omega) ?_
  have hP : va_P (dC, dI) vwCl [(rq, .inr (2, [.ref qa_1, .null, .int 0, .int 0, .int 0])), (qa_1, .inl (cA_2, 16, .inr (.inl (fun _ => 0)))), (qa_3, .inl (cA_4, 16, .inl (fun _ => 0)))] H := hP
  have hD : va_D A [(rq, .inr (2, [.ref qa_1, .null, .int 0, .int 0, .int 0])), (qa_1, .inl (cA_2, 16, .inr (.inl (fun _ => 0)))), (qa_3, .inl (cA_4, 16, .inl (fun _ => 0)))] := hD
  have hK : va_K (dC, dI) vwCl [(cA_2, .long), (cA_4, .int)] s := hK
  refine va_putF (D := (dC, dI)) (ci := 2) (v := .ref qa_3) (ty := (.array .int)) (C := RX2) (T := TX2) (N := 5) hx hb hw inX2 tyX2 tyX2_ok nmX2 hown hK hP hD hS 0 rfl rfl 1 (by decide) (hw _ w_d805126c5c) (fun _ h9 => h9) rfl hin rfl (by decide +kernel) rfl rfl (Nat.le_of_ble_eq_true rfl) dX2_init_17 (fun H locs hP hD hS => ?_)
  have hP : va_P (dC, dI) vwCl [(rq, .inr (2, [.ref qa_1, .ref qa_3, .int 0, .int 0, .int 0])), (qa_1, .inl (cA_2, 16, .inr (.inl (fun _ => 0)))), (qa_3, .inl (cA_4, 16, .inl (fun _ => 0)))] H := hP
  have hD : va_D A [(rq, .inr (2, [.ref qa_1, .ref qa_3, .int 0, .int 0, .int 0])), (qa_1, .inl (cA_2, 16, .inr (.inl (fun _ => 0)))), (qa_3, .inl (cA_4, 16, .inl (fun _ => 0)))] := hD
  have hP9 : va_P (dC, dI) vwCl [(rq, .inr (2, [.ref qa_1, .ref qa_3, .int 0, .int 0, .int 0])), (qa_1, .inl (cA_2, 16, .inr (.inl (fun _ => 0)))), (qa_3, .inl (cA_4, 16, .inl (fun _ => 0)))] H := by exact hP.sub (ws' := [(rq, .inr (2, [.ref qa_1, .ref qa_3, .int 0, .int 0, .int 0])), (qa_1, .inl (cA_2, 16, .inr (.inl (fun _ => 0)))), (qa_3, .inl (cA_4, 16, .inl (fun _ => 0)))]) [0, 1, 2] rfl
  have hD9 : va_D A [(rq, .inr (2, [.ref qa_1, .ref qa_3, .int 0, .int 0, .int 0])), (qa_1, .inl (cA_2, 16, .inr (.inl (fun _ => 0)))), (qa_3, .inl (cA_4, 16, .inl (fun _ => 0)))] := by exact hD.sub (ws' := [(rq, .inr (2, [.ref qa_1, .ref qa_3, .int 0, .int 0, .int 0])), (qa_1, .inl (cA_2, 16, .inr (.inl (fun _ => 0)))), (qa_3, .inl (cA_4, 16, .inl (fun _ => 0)))]) [0, 1, 2] (by decide) rfl
  have hK9 := hK.sub (tys' := [(cA_2, .long), (cA_4, .int)]) [0, 1] rfl
  refine W.widen (k := 2) (n := 32) (by omega) (by omega) ?_
  exact W.vret hx hb hr (fun t ht hW => ⟨⟨(), rfl, trivial, qa_1, qa_3, cA_2, cA_4, by rw [ht]; exact hP9, va_K.moved hW.alike hK9, hD9⟩, hS.F ht⟩) hS.2.2 dX2_init_20
