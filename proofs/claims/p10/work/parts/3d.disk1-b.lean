set_option maxHeartbeats 4000000 in
set_option maxRecDepth 100000 in
/-- QueueDisk.onDisk -/
theorem d_onDisk (l : Launch) (dC : Nat → ClassId) (dI : Nat → Nat → Nat) (o : Nat) (sc : Int32) (b : Nat) (b2 : Nat) (uq : Nat) (rq : Nat) (fc : Int32) (qc : Int32) (cu : Int32) (sa : Int32) (aw : Int32) (cg : Int32) (nn : Nat) (sec : Int64) (x : Int32) (d : Nat) (hsc : sc = nI nn) (hnn : nn ≤ 2048) (hxd : x = nI d) (hd : d < 2 ^ 31) : Met l yX3_onDisk wsX3_onDisk ({ frames := 0, cells := 0, slots := 0, locals := 0 }) (va_Pc [.ref o, .long sec, .int x] (fun U => va_P (dC, dI) vwCl [(o, .inr (3, [.int sc, .ref b, .ref b2, .ref uq, .ref rq, .int fc, .int qc, .int cu, .int sa, .int aw, .int cg]))] U.heap ∧ va_K (dC, dI) vwCl [] U ∧ ZZ (fun _ => False) U U.heap)) (vp_Si (fun r => r = bI (spC sec nn d = true))) 0 0 (fun _ => False) := by
  refine Met.ofW (cc := cX3_onDisk) (maxL := 5) (ret := (some .boolean)) (by decide) rfl ?_
  intro p e s m args below meth c s₁ B hml hv
  obtain ⟨rfl, hP, hK, hZ⟩ := hv
  have hx := B.exec
  have hb := B.bytes
  have hr := B.returns
  have hts := atoms_spec (ws := wsX3_onDisk) B.pre
  have hw : ∀ w ∈ WW, w.before _ s = true := fun w h => hts w (List.mem_cons_of_mem _ h)
  have hown : s.vm.findClass RX3 = some m.cls := findClass_of_methodNamed B.named
  have hlocks := B.notSynchronized
  have hl := lv_entry ([.ref o, .long sec, .int x]) (n := 5) (Nat.le_of_ble_eq_true rfl)
  rw [lg_entry_eq]
  generalize (lg_sl ([.ref o, .long sec, .int x]) ++ List.replicate (5 - (lg_sl ([.ref o, .long sec, .int x])).length) Slot.unset).toArray = ls at hl ⊢
  have hl : lv_has ls 5 [(0, .ref o), (1, .long sec), (3, .int x)] := hl
  refine lv_iload_n hx hb dX3_onDisk_0 rfl (lv_at hl 2 rfl) ?_
  refine lv_sipush (v := 512) hx hb dX3_onDisk_1 (by decide) ?_
  refine lv_idiv hx hb dX3_onDisk_4 (by decide) ?_
  refine lv_topi (fun x_1 ex_1 => ?_)
  refine lv_istore (lv' := [(4, .int x_1), (0, .ref o), (1, .long sec), (3, .int x)]) hx hb dX3_onDisk_5 hl (by decide) rfl (fun ls hl => ?_)
  have ewd : x_1 = nI (d / 512) := by rw [ex_1, hxd, nI_div512 hd]
  refine lv_iload_n hx hb dX3_onDisk_7 rfl (lv_at hl 3 rfl) ?_
  refine lv_sipush (v := 512) hx hb dX3_onDisk_8 (by decide) ?_
  refine lv_irem hx hb dX3_onDisk_11 (by decide) ?_
  refine lv_if_ne (tgt := 22) hx hb dX3_onDisk_12 (by decide) (fun c_2 => ?_) (fun c_2 => ?_)
  · skip
    have hm : ¬ d % 512 = 0 := fun z => c_2 (by rw [hxd, nI_mod512 hd, z]; rfl)
    refine lv_iconst (v := 0) hx hb dX3_onDisk_22 (by decide) ?_
    exact W.zret (v := 0) hx hb hr rfl (fun t ht hW => ⟨_, rfl, (bI_f (fun z => by have z := spC_iff.mp z; omega)).symm, ht⟩) t_nil dX3_onDisk_23
  · skip
    have hm : d % 512 = 0 := by have z := c_2; rw [hxd, nI_mod512 hd, ← nI_0, nI_eq (by omega) (by omega)] at z; exact z
    refine lv_iload hx hb dX3_onDisk_15 (lv_at hl 0 rfl) ?_
    refine lv_bipush (v := 64) hx hb dX3_onDisk_17 (by decide) ?_
    refine lv_icmp_le (tgt := 24) hx hb dX3_onDisk_19 (by decide) (fun c_3 => ?_) (fun c_3 => ?_)
    · skip
      have hw6 : d / 512 ≤ 64 := by have z := c_3; rw [ewd, show (64 : Int32) = nI 64 from rfl, nI_leI (by omega) (by omega)] at z; exact z
      refine lv_iload hx hb dX3_onDisk_24 (lv_at hl 0 rfl) ?_
      refine lv_if_eq (tgt := 48) hx hb dX3_onDisk_26 (by decide) (fun c_4 => ?_) (fun c_4 => ?_)
      · skip
        have hz : d / 512 = 0 := by have z := c_4; rw [ewd, ← nI_0, nI_eq (by omega) (by omega)] at z; exact z
        refine lv_iconst (v := 1) hx hb dX3_onDisk_48 (by decide) ?_
        refine lv_goto (tgt := 53) hx hb dX3_onDisk_49 (by decide) ?_
        exact W.zret (v := 1) hx hb hr rfl (fun t ht hW => ⟨_, rfl, (bI_t (spC_iff.mpr ⟨hm, hw6, by omega⟩)).symm, ht⟩) t_nil dX3_onDisk_53
      · skip
        have hz : ¬ d / 512 = 0 := fun z => c_4 (by rw [ewd, z]; rfl)
        refine lv_lload_n hx hb dX3_onDisk_29 rfl (lv_at hl 2 rfl) ?_
        refine lv_lconst (v := 0) hx hb dX3_onDisk_30 (by decide) ?_
        refine W.lcmp hx hb dX3_onDisk_31 ?_
        refine lv_if_lt (tgt := 52) hx hb dX3_onDisk_32 (by decide) (fun c_5 => ?_) (fun c_5 => ?_)
        · skip
          have hs : sec.toInt < 0 := by have z := c_5; rw [lcl, l0] at z; exact z
          refine lv_iconst (v := 0) hx hb dX3_onDisk_52 (by decide) ?_
          exact W.zret (v := 0) hx hb hr rfl (fun t ht hW => ⟨_, rfl, (bI_f (fun z => by have z := spC_iff.mp z; omega)).symm, ht⟩) t_nil dX3_onDisk_53
        · skip
          have hs : ¬ sec.toInt < 0 := by have z := c_5; rw [lcl, l0] at z; exact z
          refine lv_lload_n hx hb dX3_onDisk_35 rfl (lv_at hl 2 rfl) ?_
          refine lv_aload_n hx hb dX3_onDisk_36 rfl (lv_at hl 1 rfl) ?_
          refine va_get (D := (dC, dI)) (ci := 3) (v := .int sc) (C := RX3) (T := TX3) (N := 11) hx hb hw inX3 hown hK hP 0 rfl rfl 0 (by decide) (hw _ w_0715ce2be7) (fun _ h9 => h9) rfl dX3_onDisk_37 ?_
          refine lv_iload hx hb dX3_onDisk_40 (lv_at hl 0 rfl) ?_
          refine lv_isub hx hb dX3_onDisk_42 ?_
          refine lv_i2l (v := (sc - x_1).toInt64) hx hb dX3_onDisk_43 rfl ?_
          refine W.lcmp hx hb dX3_onDisk_44 ?_
          refine lv_if_gt (tgt := 52) hx hb dX3_onDisk_45 (by decide) (fun c_6 => ?_) (fun c_6 => ?_)
          · skip
            have hg : (nn : Int) - ((d / 512 : Nat) : Int) < sec.toInt := by have z := c_6; rw [lcg, hsc, ewd, sub_toInt64 (by omega) (by omega)] at z; exact z
            refine lv_iconst (v := 0) hx hb dX3_onDisk_52 (by decide) ?_
            exact W.zret (v := 0) hx hb hr rfl (fun t ht hW => ⟨_, rfl, (bI_f (fun z => by have z := spC_iff.mp z; omega)).symm, ht⟩) t_nil dX3_onDisk_53
          · skip
            have hg : ¬ (nn : Int) - ((d / 512 : Nat) : Int) < sec.toInt := by have z := c_6; rw [lcg, hsc, ewd, sub_toInt64 (by omega) (by omega)] at z; exact z
            refine lv_iconst (v := 1) hx hb dX3_onDisk_48 (by decide) ?_
            refine lv_goto (tgt := 53) hx hb dX3_onDisk_49 (by decide) ?_
            exact W.zret (v := 1) hx hb hr rfl (fun t ht hW => ⟨_, rfl, (bI_t (spC_iff.mpr ⟨hm, hw6, by omega⟩)).symm, ht⟩) t_nil dX3_onDisk_53
    · skip
      have hw6 : ¬ d / 512 ≤ 64 := fun z => c_3 (by rw [ewd, show (64 : Int32) = nI 64 from rfl, nI_leI (by omega) (by omega)]; exact z)
      refine lv_iconst (v := 0) hx hb dX3_onDisk_22 (by decide) ?_
      exact W.zret (v := 0) hx hb hr rfl (fun t ht hW => ⟨_, rfl, (bI_f (fun z => by have z := spC_iff.mp z; omega)).symm, ht⟩) t_nil dX3_onDisk_23
set_option maxHeartbeats 4000000 in
set_option maxRecDepth 100000 in
/-- QueueDisk.readSectors -/
theorem d_readSectors (l : Launch) (dC : Nat → ClassId) (dI : Nat → Nat → Nat) (o : Nat) (sc : Int32) (b : Nat) (b2 : Nat) (uq : Nat) (rq : Nat) (fc : Int32) (qc : Int32) (cu : Int32) (sa : Int32) (aw : Int32) (cg : Int32) (rp : Nat) (rl : Nat) (ct_ : Int32) (cl_ : Int32) (wt : Int32) (cJ : ClassId) (cI : ClassId) (ps : Nat → Int64) (lg : Nat → Int32) (q : Nat) (cB_ : ClassId) (M : Nat → Nat) (q2 : Nat) (cB2 : ClassId) (nn : Nat) (Dk : Nat → Nat) (C : List Blk) (O : List Blk) (sec : Int64) (zS : Nat) (hsc : sc = nI nn) (hnn : nn ≤ 2048) (hrep : repC (C ++ O) ps lg) (hrq : rqOK C O) (hcl : cl_ = nI C.length) (hct : ct_ = nI (C ++ O).length) (hwt : wt = nI 0) : Met l yX3_readSectors wsX3_readSectors ({ frames := 3, cells := 0, slots := 0, locals := 120 }) (va_Pc [.ref o, .long sec] (fun U => U.heap.size = zS ∧ va_P (dC, dI) vwCl [(o, .inr (3, [.int sc, .ref b, .ref b2, .ref uq, .ref rq, .int fc, .int qc, .int cu, .int sa, .int aw, .int cg])), (rq, .inr (2, [.ref rp, .ref rl, .int ct_, .int cl_, .int wt])), (rp, .inl (cJ, 16, .inr (.inl ps))), (rl, .inl (cI, 16, .inl lg)), (b, .inr (0, [.ref q])), (q, .inl (cB_, 65536, .inl (cB M))), (b2, .inr (0, [.ref q2])), (q2, .inl (cB2, 512 * nn, .inl (cB Dk)))] U.heap ∧ va_K (dC, dI) vwCl [(cJ, .long), (cI, .int), (cB_, .byte), (cB2, .byte)] U ∧ va_D (fun _ => True) [(o, .inr (3, [.int sc, .ref b, .ref b2, .ref uq, .ref rq, .int fc, .int qc, .int cu, .int sa, .int aw, .int cg])), (rq, .inr (2, [.ref rp, .ref rl, .int ct_, .int cl_, .int wt])), (rp, .inl (cJ, 16, .inr (.inl ps))), (rl, .inl (cI, 16, .inl lg)), (b, .inr (0, [.ref q])), (q, .inl (cB_, 65536, .inl (cB M))), (b2, .inr (0, [.ref q2])), (q2, .inl (cB2, 512 * nn, .inl (cB Dk)))] ∧ ZZ (va_A [(o, .inr (3, [.int sc, .ref b, .ref b2, .ref uq, .ref rq, .int fc, .int qc, .int cu, .int sa, .int aw, .int cg])), (rq, .inr (2, [.ref rp, .ref rl, .int ct_, .int cl_, .int wt])), (rp, .inl (cJ, 16, .inr (.inl ps))), (rl, .inl (cI, 16, .inl lg)), (b, .inr (0, [.ref q])), (q, .inl (cB_, 65536, .inl (cB M))), (b2, .inr (0, [.ref q2])), (q2, .inl (cB2, 512 * nn, .inl (cB Dk)))] zS) U U.heap)) (va_Qi (fun (r : Int32) (u : Int32 × (Nat → Int32)) => match u with | (wt2, g) => (spC sec nn (tot (mS O) - 1) = true → r = 0 ∧ wt2 = nI (tot (mS O) - 1) ∧ g = cB (wrs M (nth (mS O)) (fun k => Dk (512 * sec.toInt.toNat + k)) (tot (mS O) - 1))) ∧ (¬ spC sec nn (tot (mS O) - 1) = true → r = 1 ∧ wt2 = wt ∧ g = cB M)) (fun (u : Int32 × (Nat → Int32)) (t : State) => match u with | (wt2, g) => va_P (dC, dI) vwCl [(o, .inr (3, [.int sc, .ref b, .ref b2, .ref uq, .ref rq, .int fc, .int qc, .int cu, .int sa, .int aw, .int cg])), (rq, .inr (2, [.ref rp, .ref rl, .int ct_, .int cl_, .int wt2])), (rp, .inl (cJ, 16, .inr (.inl ps))), (rl, .inl (cI, 16, .inl lg)), (b, .inr (0, [.ref q])), (q, .inl (cB_, 65536, .inl g)), (b2, .inr (0, [.ref q2])), (q2, .inl (cB2, 512 * nn, .inl (cB Dk)))] t.heap ∧ va_K (dC, dI) vwCl [(cJ, .long), (cI, .int), (cB_, .byte), (cB2, .byte)] t ∧ va_D (va_A [(o, .inr (3, [.int sc, .ref b, .ref b2, .ref uq, .ref rq, .int fc, .int qc, .int cu, .int sa, .int aw, .int cg])), (rq, .inr (2, [.ref rp, .ref rl, .int ct_, .int cl_, .int wt])), (rp, .inl (cJ, 16, .inr (.inl ps))), (rl, .inl (cI, 16, .inl lg)), (b, .inr (0, [.ref q])), (q, .inl (cB_, 65536, .inl (cB M))), (b2, .inr (0, [.ref q2])), (q2, .inl (cB2, 512 * nn, .inl (cB Dk)))] zS) [(o, .inr (3, [.int sc, .ref b, .ref b2, .ref uq, .ref rq, .int fc, .int qc, .int cu, .int sa, .int aw, .int cg])), (rq, .inr (2, [.ref rp, .ref rl, .int ct_, .int cl_, .int wt2])), (rp, .inl (cJ, 16, .inr (.inl ps))), (rl, .inl (cI, 16, .inl lg)), (b, .inr (0, [.ref q])), (q, .inl (cB_, 65536, .inl g)), (b2, .inr (0, [.ref q2])), (q2, .inl (cB2, 512 * nn, .inl (cB Dk)))]) (va_A [(o, .inr (3, [.int sc, .ref b, .ref b2, .ref uq, .ref rq, .int fc, .int qc, .int cu, .int sa, .int aw, .int cg])), (rq, .inr (2, [.ref rp, .ref rl, .int ct_, .int cl_, .int wt])), (rp, .inl (cJ, 16, .inr (.inl ps))), (rl, .inl (cI, 16, .inl lg)), (b, .inr (0, [.ref q])), (q, .inl (cB_, 65536, .inl (cB M))), (b2, .inr (0, [.ref q2])), (q2, .inl (cB2, 512 * nn, .inl (cB Dk)))] zS)) 0 0 (va_A [(o, .inr (3, [.int sc, .ref b, .ref b2, .ref uq, .ref rq, .int fc, .int qc, .int cu, .int sa, .int aw, .int cg])), (rq, .inr (2, [.ref rp, .ref rl, .int ct_, .int cl_, .int wt])), (rp, .inl (cJ, 16, .inr (.inl ps))), (rl, .inl (cI, 16, .inl lg)), (b, .inr (0, [.ref q])), (q, .inl (cB_, 65536, .inl (cB M))), (b2, .inr (0, [.ref q2])), (q2, .inl (cB2, 512 * nn, .inl (cB Dk)))] zS) := by
  refine Met.ofW (cc := cX3_readSectors) (maxL := 7) (ret := (some .int)) (by decide) rfl ?_
  intro p e s m args below meth c s₁ B hml hv
  obtain ⟨rfl, hsz, hP, hK, hD0, hZ⟩ := hv
  have hx := B.exec
  have hb := B.bytes
  have hr := B.returns
  have hts := atoms_spec (ws := wsX3_readSectors) B.pre
  have hw : ∀ w ∈ WW, w.before _ s = true := fun w h => hts w (List.mem_cons_of_mem _ h)
  have hown : s.vm.findClass RX3 = some m.cls := findClass_of_methodNamed B.named
  have hlocks := B.notSynchronized
  subst hsz
  have hD := hD0.self (sz := s.heap.size)
  generalize hAe : va_A [(o, .inr (3, [.int sc, .ref b, .ref b2, .ref uq, .ref rq, .int fc, .int qc, .int cu, .int sa, .int aw, .int cg])), (rq, .inr (2, [.ref rp, .ref rl, .int ct_, .int cl_, .int wt])), (rp, .inl (cJ, 16, .inr (.inl ps))), (rl, .inl (cI, 16, .inl lg)), (b, .inr (0, [.ref q])), (q, .inl (cB_, 65536, .inl (cB M))), (b2, .inr (0, [.ref q2])), (q2, .inl (cB2, 512 * nn, .inl (cB Dk)))] s.heap.size = A at hD hZ ⊢
  have hA : ∀ q : Nat, s.heap.size ≤ q → A q := fun q h => by rw [← hAe]; exact Or.inr h
  have hS : va_S A s.heap s.heap [] := va_S.rf
  have hP : va_P (dC, dI) vwCl [(o, .inr (3, [.int sc, .ref b, .ref b2, .ref uq, .ref rq, .int fc, .int qc, .int cu, .int sa, .int aw, .int cg])), (rq, .inr (2, [.ref rp, .ref rl, .int ct_, .int cl_, .int wt])), (rp, .inl (cJ, 16, .inr (.inl ps))), (rl, .inl (cI, 16, .inl lg)), (b, .inr (0, [.ref q])), (q, .inl (cB_, 65536, .inl (cB M))), (b2, .inr (0, [.ref q2])), (q2, .inl (cB2, 512 * nn, .inl (cB Dk)))] s.heap := hP
  have hl := lv_entry ([.ref o, .long sec]) (n := 7) (Nat.le_of_ble_eq_true rfl)
  rw [lg_entry_eq]
  generalize (lg_sl ([.ref o, .long sec]) ++ List.replicate (7 - (lg_sl ([.ref o, .long sec])).length) Slot.unset).toArray = ls at hl ⊢
  have hl : lv_has ls 7 [(0, .ref o), (1, .long sec)] := hl
  have hlen := rqC_len hrq
  have htt := rq_tot hrq
  refine lv_aload_n hx hb dX3_readSectors_0 rfl (lv_at hl 0 rfl) ?_
  refine lv_lload_n hx hb dX3_readSectors_1 rfl (lv_at hl 1 rfl) ?_
  refine lv_aload_n hx hb dX3_readSectors_2 rfl (lv_at hl 0 rfl) ?_
  refine va_get (D := (dC, dI)) (ci := 3) (v := .ref rq) (C := RX3) (T := TX3) (N := 11) hx hb hw inX3 hown hK hP 0 rfl rfl 4 (by decide) (hw _ w_b5b52a4b14) (fun _ h9 => h9) rfl dX3_readSectors_3 ?_
  have hPc := hP.sub (ws' := [(rq, .inr (2, [.ref rp, .ref rl, .int ct_, .int cl_, .int wt])), (rp, .inl (cJ, 16, .inr (.inl ps))), (rl, .inl (cI, 16, .inl lg))]) [1, 2, 3] rfl
  have hKc := hK.sub (tys' := [(cJ, .long), (cI, .int)]) [0, 1] rfl
  have hZc := (hZ.kept hS.2.1).narrow (B := fun _ => False) (fun _ h => h.elim)
  refine vp_callSi (va_runV (As := []) (rest := [.long sec, .ref o]) ⟨hx, hb, hml, hown, hw⟩ (r_openData l dC dI rq rp rl ct_ cl_ wt cJ cI ps lg C O hrep hrq hcl hct) (cwV 0 hw (gV w_31ccb5d60c w_78d87f0393 w_365b01e6a6 w_d27e9d3e51 w_7ff51f22e2) rfl rfl rfl (by decide +kernel) ⟨Nat.le_of_ble_eq_true rfl, Nat.le_of_ble_eq_true rfl⟩) ⟨fun a U g mk q => by obtain ⟨q0, qP, qK, qZ⟩ := q; exact ⟨q0, qP, va_K.moved (u := U) (U := U.calling g mk a) (Vm.Alike.refl U.vm) qK, ZZ.same (u := U) (U := U.calling g mk a) rfl qZ⟩, va_recv hKc hPc (ci := 2) (q0 := 0) rfl rfl, fun U hU hW => ⟨rfl, by rw [hU]; exact hPc, va_K.moved hW.alike hKc, by rw [hU]; exact ZZ.warm hW hZc⟩⟩ rfl rfl hl.1 rfl (lv_room (Nat.le_of_ble_eq_true rfl)) dX3_readSectors_6 ⟨Nat.zero_le _, Nat.zero_le _⟩).run (fun r_1 hr_1 => ?_)
  have hr_1 : r_1 = nI (tot (mS O) - 1) := hr_1
  have hPc := hP.sub (ws' := [(o, .inr (3, [.int sc, .ref b, .ref b2, .ref uq, .ref rq, .int fc, .int qc, .int cu, .int sa, .int aw, .int cg]))]) [0] rfl
  have hKc := hK.sub (tys' := []) [] rfl
  have hZc := (hZ.kept hS.2.1).narrow (B := fun _ => False) (fun _ h => h.elim)
  refine vp_callSi (va_runV (As := [.long sec, .int r_1]) (rest := []) ⟨hx, hb, hml, hown, hw⟩ (d_onDisk l dC dI o sc b b2 uq rq fc qc cu sa aw cg nn sec r_1 (tot (mS O) - 1) hsc hnn hr_1 (by omega)) (cwV 2 hw (gV w_334b6d0a2e w_326ad8785b w_b619320d2b w_106b72596f w_8ce6bd6ed9) rfl rfl rfl (by decide +kernel) ⟨Nat.le_of_ble_eq_true rfl, Nat.le_of_ble_eq_true rfl⟩) ⟨fun a U g mk q => by obtain ⟨q0, qP, qK, qZ⟩ := q; exact ⟨q0, qP, va_K.moved (u := U) (U := U.calling g mk a) (Vm.Alike.refl U.vm) qK, ZZ.same (u := U) (U := U.calling g mk a) rfl qZ⟩, va_recv hKc hPc (ci := 3) (q0 := 0) rfl rfl, fun U hU hW => ⟨rfl, by rw [hU]; exact hPc, va_K.moved hW.alike hKc, by rw [hU]; exact ZZ.warm hW hZc⟩⟩ rfl rfl hl.1 rfl (lv_room (Nat.le_of_ble_eq_true rfl)) dX3_readSectors_9 ⟨Nat.zero_le _, Nat.zero_le _⟩).run (fun r_2 hr_2 => ?_)
  have hr_2 : r_2 = bI (spC sec nn (tot (mS O) - 1) = true) := hr_2
  refine lv_if_ne (tgt := 17) hx hb dX3_readSectors_12 (by decide) (fun c_3 => ?_) (fun c_3 => ?_)
  · skip
    have b_4 : (spC sec nn (tot (mS O) - 1) = true) := bI_1 (by rw [← hr_2]; exact c_3)
    have hsp := b_4
    refine lv_lload_n hx hb dX3_readSectors_17 rfl (lv_at hl 1 rfl) ?_
    refine lv_ldc2 (v := 512) hx hb hown (hw _ w_3144b246ec) dX3_readSectors_18 ?_
    refine lv_lmul hx hb dX3_readSectors_21 ?_
    refine lv_topl (fun x_5 ex_5 => ?_)
    refine lv_lstore_n (lv' := [(3, .long x_5), (0, .ref o), (1, .long sec)]) hx hb dX3_readSectors_22 rfl hl (by decide) rfl (fun ls hl => ?_)
    refine lv_aload_n hx hb dX3_readSectors_23 rfl (lv_at hl 1 rfl) ?_
    refine va_get (D := (dC, dI)) (ci := 3) (v := .ref rq) (C := RX3) (T := TX3) (N := 11) hx hb hw inX3 hown hK hP 0 rfl rfl 4 (by decide) (hw _ w_b5b52a4b14) (fun _ h9 => h9) rfl dX3_readSectors_24 ?_
    refine va_getN (D := (dC, dI)) (ci := 2) (v := .int cl_) (C := RX2) (T := TX2) (N := 5) hx hb hw inX2 hown hK hP 1 rfl rfl 3 (by decide) ((hZ.1 _ (List.mem_of_getElem? (i := 7) rfl)).use rfl) (fun _ h9 => h9) rfl dX3_readSectors_27 ?_
    refine lv_istore (lv' := [(5, .int cl_), (3, .long x_5), (0, .ref o), (1, .long sec)]) hx hb dX3_readSectors_30 hl (by decide) rfl (fun ls hl => ?_)
    have loop : ∀ (N : Nat) (a : Nat) (j : Nat) (yy : Int32) (w3 : Int32) (s3 : Int64) (g3 : Nat → Int32) (hN : O.length - j < N) (ek : yy = nI (C.length + j)) (hj : j ≤ O.length) (hs : opA O j a) (hw3 : w3 = nI a) (hs3 : s3 = sec * 512) (hg3 : g3 = cB (wrs M (nth (mS O)) (fun k => Dk (512 * sec.toInt.toNat + k)) (a))) (H : Heap) (locs : List Loc) (hP : va_P (dC, dI) vwCl [(o, .inr (3, [.int sc, .ref b, .ref b2, .ref uq, .ref rq, .int fc, .int qc, .int cu, .int sa, .int aw, .int cg])), (rq, .inr (2, [.ref rp, .ref rl, .int ct_, .int cl_, .int w3])), (rp, .inl (cJ, 16, .inr (.inl ps))), (rl, .inl (cI, 16, .inl lg)), (b, .inr (0, [.ref q])), (q, .inl (cB_, 65536, .inl g3)), (b2, .inr (0, [.ref q2])), (q2, .inl (cB2, 512 * nn, .inl (cB Dk)))] H) (hD : va_D A [(o, .inr (3, [.int sc, .ref b, .ref b2, .ref uq, .ref rq, .int fc, .int qc, .int cu, .int sa, .int aw, .int cg])), (rq, .inr (2, [.ref rp, .ref rl, .int ct_, .int cl_, .int w3])), (rp, .inl (cJ, 16, .inr (.inl ps))), (rl, .inl (cI, 16, .inl lg)), (b, .inr (0, [.ref q])), (q, .inl (cB_, 65536, .inl g3)), (b2, .inr (0, [.ref q2])), (q2, .inl (cB2, 512 * nn, .inl (cB Dk)))]) (hS : va_S A s.heap H locs) (ls : Array Slot) (hl : lv_has ls 7 [(5, .int yy), (3, .long s3), (0, .ref o), (1, .long sec)]), W p l e (headSpec wsX3_readSectors ({ frames := 3, cells := 0, slots := 0, locals := 120 })).room s m [.ref o, .long sec].toArray below meth c H locs 0 0 (MQ below (va_Qi (fun (r : Int32) (u : Int32 × (Nat → Int32)) => match u with | (wt2, g) => (spC sec nn (tot (mS O) - 1) = true → r = 0 ∧ wt2 = nI (tot (mS O) - 1) ∧ g = cB (wrs M (nth (mS O)) (fun k => Dk (512 * sec.toInt.toNat + k)) (tot (mS O) - 1))) ∧ (¬ spC sec nn (tot (mS O) - 1) = true → r = 1 ∧ wt2 = wt ∧ g = cB M)) (fun (u : Int32 × (Nat → Int32)) (t : State) => match u with | (wt2, g) => va_P (dC, dI) vwCl [(o, .inr (3, [.int sc, .ref b, .ref b2, .ref uq, .ref rq, .int fc, .int qc, .int cu, .int sa, .int aw, .int cg])), (rq, .inr (2, [.ref rp, .ref rl, .int ct_, .int cl_, .int wt2])), (rp, .inl (cJ, 16, .inr (.inl ps))), (rl, .inl (cI, 16, .inl lg)), (b, .inr (0, [.ref q])), (q, .inl (cB_, 65536, .inl g)), (b2, .inr (0, [.ref q2])), (q2, .inl (cB2, 512 * nn, .inl (cB Dk)))] t.heap ∧ va_K (dC, dI) vwCl [(cJ, .long), (cI, .int), (cB_, .byte), (cB2, .byte)] t ∧ va_D A [(o, .inr (3, [.int sc, .ref b, .ref b2, .ref uq, .ref rq, .int fc, .int qc, .int cu, .int sa, .int aw, .int cg])), (rq, .inr (2, [.ref rp, .ref rl, .int ct_, .int cl_, .int wt2])), (rp, .inl (cJ, 16, .inr (.inl ps))), (rl, .inl (cI, 16, .inl lg)), (b, .inr (0, [.ref q])), (q, .inl (cB_, 65536, .inl g)), (b2, .inr (0, [.ref q2])), (q2, .inl (cB2, 512 * nn, .inl (cB Dk)))]) A) [.ref o, .long sec].toArray s 0 0 A) (F0 m 32 ls []) := by
      intro N
      induction N with
      | zero => intro a j yy w3 s3 g3 hN ek hj hs hw3 hs3 hg3 H locs hP hD hS ls hl; exact absurd hN (Nat.not_lt_zero _)
      | succ N ih =>
        intro a j yy w3 s3 g3 hN ek hj hs hw3 hs3 hg3 H locs hP hD hS ls hl
        refine lv_iload hx hb dX3_readSectors_32 (lv_at hl 0 rfl) ?_
        refine lv_aload_n hx hb dX3_readSectors_34 rfl (lv_at hl 2 rfl) ?_
        refine va_get (D := (dC, dI)) (ci := 3) (v := .ref rq) (C := RX3) (T := TX3) (N := 11) hx hb hw inX3 hown hK hP 0 rfl rfl 4 (by decide) (hw _ w_b5b52a4b14) (fun _ h9 => h9) rfl dX3_readSectors_35 ?_
        refine va_getN (D := (dC, dI)) (ci := 2) (v := .int ct_) (C := RX2) (T := TX2) (N := 5) hx hb hw inX2 hown hK hP 1 rfl rfl 2 (by decide) ((hZ.1 _ (List.mem_of_getElem? (i := 6) rfl)).use rfl) (fun _ h9 => h9) rfl dX3_readSectors_38 ?_
        refine lv_icmp_ge (tgt := 107) hx hb dX3_readSectors_41 (by decide) (fun c_6 => ?_) (fun c_6 => ?_)
        · skip
          have hjj : j = O.length := by rw [hct, ek, hlen.2.2.2, nI_leI (by omega) (by omega)] at c_6; omega
          refine lv_iconst (v := 0) hx hb dX3_readSectors_107 (by decide) ?_
          have hP9 : va_P (dC, dI) vwCl [(o, .inr (3, [.int sc, .ref b, .ref b2, .ref uq, .ref rq, .int fc, .int qc, .int cu, .int sa, .int aw, .int cg])), (rq, .inr (2, [.ref rp, .ref rl, .int ct_, .int cl_, .int w3])), (rp, .inl (cJ, 16, .inr (.inl ps))), (rl, .inl (cI, 16, .inl lg)), (b, .inr (0, [.ref q])), (q, .inl (cB_, 65536, .inl g3)), (b2, .inr (0, [.ref q2])), (q2, .inl (cB2, 512 * nn, .inl (cB Dk)))] H := by exact hP.sub (ws' := [(o, .inr (3, [.int sc, .ref b, .ref b2, .ref uq, .ref rq, .int fc, .int qc, .int cu, .int sa, .int aw, .int cg])), (rq, .inr (2, [.ref rp, .ref rl, .int ct_, .int cl_, .int w3])), (rp, .inl (cJ, 16, .inr (.inl ps))), (rl, .inl (cI, 16, .inl lg)), (b, .inr (0, [.ref q])), (q, .inl (cB_, 65536, .inl g3)), (b2, .inr (0, [.ref q2])), (q2, .inl (cB2, 512 * nn, .inl (cB Dk)))]) [0, 1, 2, 3, 4, 5, 6, 7] rfl
          have hD9 : va_D A [(o, .inr (3, [.int sc, .ref b, .ref b2, .ref uq, .ref rq, .int fc, .int qc, .int cu, .int sa, .int aw, .int cg])), (rq, .inr (2, [.ref rp, .ref rl, .int ct_, .int cl_, .int w3])), (rp, .inl (cJ, 16, .inr (.inl ps))), (rl, .inl (cI, 16, .inl lg)), (b, .inr (0, [.ref q])), (q, .inl (cB_, 65536, .inl g3)), (b2, .inr (0, [.ref q2])), (q2, .inl (cB2, 512 * nn, .inl (cB Dk)))] := by exact hD.sub (ws' := [(o, .inr (3, [.int sc, .ref b, .ref b2, .ref uq, .ref rq, .int fc, .int qc, .int cu, .int sa, .int aw, .int cg])), (rq, .inr (2, [.ref rp, .ref rl, .int ct_, .int cl_, .int w3])), (rp, .inl (cJ, 16, .inr (.inl ps))), (rl, .inl (cI, 16, .inl lg)), (b, .inr (0, [.ref q])), (q, .inl (cB_, 65536, .inl g3)), (b2, .inr (0, [.ref q2])), (q2, .inl (cB2, 512 * nn, .inl (cB Dk)))]) [0, 1, 2, 3, 4, 5, 6, 7] (by decide) rfl
          have hK9 := hK.sub (tys' := [(cJ, .long), (cI, .int), (cB_, .byte), (cB2, .byte)]) [0, 1, 2, 3] rfl
          exact W.iret (v := 0) hx hb hr (fun t ht hW => ⟨⟨_, (w3, g3), rfl, (by have e := (hs.resolve_left (fun z => by omega)).2; rw [← e]; exact ⟨fun _ => ⟨rfl, hw3, hg3⟩, fun z => absurd (by rw [e]; exact hsp) z⟩), by rw [ht]; exact hP9, va_K.moved hW.alike hK9, hD9⟩, hS.F ht⟩) hS.2.2 dX3_readSectors_108
        · skip
          have hjj : j < O.length := by rw [hct, ek, hlen.2.2.2, nI_leI (by omega) (by omega)] at c_6; omega
          obtain ⟨bb, hbj, hdr, hol, hps, hth, h65, hlp, hob⟩ := rqC_op hrq hrep hjj
          subst hg3
          refine lv_aload_n hx hb dX3_readSectors_44 rfl (lv_at hl 2 rfl) ?_
          refine va_get (D := (dC, dI)) (ci := 3) (v := .ref rq) (C := RX3) (T := TX3) (N := 11) hx hb hw inX3 hown hK hP 0 rfl rfl 4 (by decide) (hw _ w_b5b52a4b14) (fun _ h9 => h9) rfl dX3_readSectors_45 ?_
          refine lv_iload hx hb dX3_readSectors_48 (lv_at hl 0 rfl) ?_
          have hPc := hP.sub (ws' := [(rq, .inr (2, [.ref rp, .ref rl, .int ct_, .int cl_, .int w3])), (rp, .inl (cJ, 16, .inr (.inl ps))), (rl, .inl (cI, 16, .inl lg))]) [1, 2, 3] rfl
          have hKc := hK.sub (tys' := [(cJ, .long), (cI, .int)]) [0, 1] rfl
          have hZc := (hZ.kept hS.2.1).narrow (B := fun _ => False) (fun _ h => h.elim)
          refine vp_callSi (va_runVN (As := [.int yy]) (rest := []) ⟨hx, hb, hml, hown, hw⟩ (r_openLengthOf l dC dI rq rp rl ct_ cl_ w3 cJ cI ps lg yy (C.length + j) ((C ++ O).length) ek (by omega) hct (by omega) (by omega)) ⟨va_cnB 1 hw (gW w_4628035946) rfl rfl rfl (hZ.1 _ (List.mem_of_getElem? (i := 9) rfl)) (hw _ w_d27e9d3e51) (by decide +kernel) ⟨Nat.le_of_ble_eq_true rfl, Nat.le_of_ble_eq_true rfl⟩, hw _ w_31defdd873, hw _ w_fa6fe686b1⟩ ⟨fun a U g mk q => by obtain ⟨q0, qP, qK, qZ⟩ := q; exact ⟨q0, qP, va_K.moved (u := U) (U := U.calling g mk a) (Vm.Alike.refl U.vm) qK, ZZ.same (u := U) (U := U.calling g mk a) rfl qZ⟩, va_recv hKc hPc (ci := 2) (q0 := 0) rfl rfl, fun U hU hW => ⟨rfl, by rw [hU]; exact hPc, va_K.moved hW.alike hKc, by rw [hU]; exact ZZ.warm hW hZc⟩⟩ rfl rfl hl.1 rfl (lv_room (Nat.le_of_ble_eq_true rfl)) dX3_readSectors_50 ⟨Nat.zero_le _, Nat.zero_le _⟩).run (fun r_7 hr_7 => ?_)
          have hr_7 : r_7 = if (C.length + j) + 1 = ((C ++ O).length) then lg (C.length + j) - 1 else lg (C.length + j) := hr_7
          refine lv_istore (lv' := [(6, .int r_7), (5, .int yy), (3, .long s3), (0, .ref o), (1, .long sec)]) hx hb dX3_readSectors_53 hl (by decide) rfl (fun ls hl => ?_)
          refine lv_aload_n hx hb dX3_readSectors_55 rfl (lv_at hl 3 rfl) ?_
          refine va_get (D := (dC, dI)) (ci := 3) (v := .ref b2) (C := RX3) (T := TX3) (N := 11) hx hb hw inX3 hown hK hP 0 rfl rfl 2 (by decide) (hw _ w_f4937b3b24) (fun _ h9 => h9) rfl dX3_readSectors_56 ?_
          refine lv_lload_n hx hb dX3_readSectors_59 rfl (lv_at hl 2 rfl) ?_
          refine lv_aload_n hx hb dX3_readSectors_60 rfl (lv_at hl 3 rfl) ?_
          refine va_get (D := (dC, dI)) (ci := 3) (v := .ref rq) (C := RX3) (T := TX3) (N := 11) hx hb hw inX3 hown hK hP 0 rfl rfl 4 (by decide) (hw _ w_b5b52a4b14) (fun _ h9 => h9) rfl dX3_readSectors_61 ?_
          refine va_getN (D := (dC, dI)) (ci := 2) (v := .int w3) (C := RX2) (T := TX2) (N := 5) hx hb hw inX2 hown hK hP 1 rfl rfl 4 (by decide) ((hZ.1 _ (List.mem_of_getElem? (i := 8) rfl)).use rfl) (fun _ h9 => h9) rfl dX3_readSectors_64 ?_
          refine lv_i2l (v := w3.toInt64) hx hb dX3_readSectors_67 rfl ?_
          refine lv_ladd hx hb dX3_readSectors_68 ?_
          refine lv_aload_n hx hb dX3_readSectors_69 rfl (lv_at hl 3 rfl) ?_
          refine va_get (D := (dC, dI)) (ci := 3) (v := .ref b) (C := RX3) (T := TX3) (N := 11) hx hb hw inX3 hown hK hP 0 rfl rfl 1 (by decide) (hw _ w_a82c1ee35f) (fun _ h9 => h9) rfl dX3_readSectors_70 ?_
          refine lv_aload_n hx hb dX3_readSectors_73 rfl (lv_at hl 3 rfl) ?_
          refine va_get (D := (dC, dI)) (ci := 3) (v := .ref rq) (C := RX3) (T := TX3) (N := 11) hx hb hw inX3 hown hK hP 0 rfl rfl 4 (by decide) (hw _ w_b5b52a4b14) (fun _ h9 => h9) rfl dX3_readSectors_74 ?_
          refine lv_iload hx hb dX3_readSectors_77 (lv_at hl 1 rfl) ?_
          have hPc := hP.sub (ws' := [(rq, .inr (2, [.ref rp, .ref rl, .int ct_, .int cl_, .int w3])), (rp, .inl (cJ, 16, .inr (.inl ps))), (rl, .inl (cI, 16, .inl lg))]) [1, 2, 3] rfl
          have hKc := hK.sub (tys' := [(cJ, .long), (cI, .int)]) [0, 1] rfl
          have hZc := (hZ.kept hS.2.1).narrow (B := fun _ => False) (fun _ h => h.elim)
          refine vp_callSl (va_runVN (As := [.int yy]) (rest := [.ref b, .long (s3 + w3.toInt64), .ref b2]) ⟨hx, hb, hml, hown, hw⟩ (r_placeOf l dC dI rq rp rl ct_ cl_ w3 cJ cI ps lg yy (C.length + j) ek (by omega)) ⟨va_cnB 1 hw (gW w_577239e1dd) rfl rfl rfl (hZ.1 _ (List.mem_of_getElem? (i := 10) rfl)) (hw _ w_d27e9d3e51) (by decide +kernel) ⟨Nat.le_of_ble_eq_true rfl, Nat.le_of_ble_eq_true rfl⟩, hw _ w_1bc15c9d4e, hw _ w_7601c55bff⟩ ⟨fun a U g mk q => by obtain ⟨q0, qP, qK, qZ⟩ := q; exact ⟨q0, qP, va_K.moved (u := U) (U := U.calling g mk a) (Vm.Alike.refl U.vm) qK, ZZ.same (u := U) (U := U.calling g mk a) rfl qZ⟩, va_recv hKc hPc (ci := 2) (q0 := 0) rfl rfl, fun U hU hW => ⟨rfl, by rw [hU]; exact hPc, va_K.moved hW.alike hKc, by rw [hU]; exact ZZ.warm hW hZc⟩⟩ rfl rfl hl.1 rfl (lv_room (Nat.le_of_ble_eq_true rfl)) dX3_readSectors_79 ⟨Nat.zero_le _, Nat.zero_le _⟩).run (fun r_8 hr_8 => ?_)
          have hr_8 : r_8 = ps (C.length + j) := hr_8
          refine lv_iload hx hb dX3_readSectors_82 (lv_at hl 0 rfl) ?_
          have hPc := hP.sub (ws' := [(b2, .inr (0, [.ref q2])), (q2, .inl (cB2, 512 * nn, .inl (cB Dk))), (b, .inr (0, [.ref q])), (q, .inl (cB_, 65536, .inl (cB (wrs M (nth (mS O)) (fun k => Dk (512 * sec.toInt.toNat + k)) (a)))))]) [6, 7, 4, 5] rfl
          have hKc := hK.sub (tys' := [(cB2, .byte), (cB_, .byte)]) [3, 2] rfl
          have hDc := hD.sub (ws' := [(b2, .inr (0, [.ref q2])), (q2, .inl (cB2, 512 * nn, .inl (cB Dk))), (b, .inr (0, [.ref q])), (q, .inl (cB_, 65536, .inl (cB (wrs M (nth (mS O)) (fun k => Dk (512 * sec.toInt.toNat + k)) (a)))))]) [6, 7, 4, 5] (by decide) rfl
          have hFc := va_free (wc := [(b2, .inr (0, [.ref q2])), (q2, .inl (cB2, 512 * nn, .inl (cB Dk))), (b, .inr (0, [.ref q])), (q, .inl (cB_, 65536, .inl (cB (wrs M (nth (mS O)) (fun k => Dk (512 * sec.toInt.toNat + k)) (a)))))]) hD hS hA [6, 7, 4, 5] rfl
          have hZc : ZZ (va_A [(b2, .inr (0, [.ref q2])), (q2, .inl (cB2, 512 * nn, .inl (cB Dk))), (b, .inr (0, [.ref q])), (q, .inl (cB_, 65536, .inl (cB (wrs M (nth (mS O)) (fun k => Dk (512 * sec.toInt.toNat + k)) (a)))))] H.size) s H := (hZ.kept hS.2.1).narrow hFc
          refine va_callv (va_runV (As := [.long (s3 + w3.toInt64), .ref b, .long r_8, .int r_7]) (rest := []) ⟨hx, hb, hml, hown, hw⟩ (c_copyTo l dC dI b2 q2 cB2 (512 * nn) Dk b q cB_ 65536 (wrs M (nth (mS O)) (fun k => Dk (512 * sec.toInt.toNat + k)) (a)) (s3 + w3.toInt64) r_8 r_7 H.size (by omega) (by decide)) (cwV 4 hw (gV w_46d9e21578 w_87f9183140 w_0afabca32d w_82b0ef516c w_7fa5877d66) rfl rfl rfl (by decide +kernel) ⟨Nat.le_of_ble_eq_true rfl, Nat.le_of_ble_eq_true rfl⟩) ⟨fun a U g mk q => by obtain ⟨q0, q1, qP, qK, qD, qZ⟩ := q; exact ⟨q0, q1, qP, va_K.moved (u := U) (U := U.calling g mk a) (Vm.Alike.refl U.vm) qK, qD, ZZ.same (u := U) (U := U.calling g mk a) rfl qZ⟩, va_recv hKc hPc (ci := 0) (q0 := 0) rfl rfl, fun U hU hW => ⟨rfl, by rw [hU], by rw [hU]; exact hPc, va_K.moved hW.alike hKc, hDc.weaken (fun _ _ _ _ => trivial), by rw [hU]; exact ZZ.warm hW hZc⟩⟩ rfl rfl hl.1 rfl (lv_room (Nat.le_of_ble_eq_true rfl)) dX3_readSectors_84 ⟨Nat.zero_le _, Nat.zero_le _⟩) hS (fun q _ h => hFc q h) hFc (fun u t H1 locs ht hvm hw2 hB hz1 hk1 hS => ?_)
          obtain ⟨g_9, rfl⟩ : ∃ z, z = u := ⟨_, rfl⟩
          obtain ⟨hP1, hK1, hD1⟩ := hB
          rw [ht] at hP1
          have hK1 := va_K.moved hvm.symm hK1
          try dsimp only at hw2
          obtain ⟨hP, hD⟩ := va_join (wr := [(o, .inr (3, [.int sc, .ref b, .ref b2, .ref uq, .ref rq, .int fc, .int qc, .int cu, .int sa, .int aw, .int cg])), (rq, .inr (2, [.ref rp, .ref rl, .int ct_, .int cl_, .int w3])), (rp, .inl (cJ, 16, .inr (.inl ps))), (rl, .inl (cI, 16, .inl lg))]) (w1 := [(b2, .inr (0, [.ref q2])), (q2, .inl (cB2, (512 * nn), .inl (cB Dk))), (b, .inr (0, [.ref q])), (q, .inl (cB_, 65536, .inl g_9))]) hP hD [6, 7, 4, 5] [0, 1, 2, 3] rfl rfl (by decide) (by decide) hk1 hFc hP1 hD1
          generalize H1 = H at hP hS hk1 ⊢
          have hP : va_P (dC, dI) vwCl [(o, .inr (3, [.int sc, .ref b, .ref b2, .ref uq, .ref rq, .int fc, .int qc, .int cu, .int sa, .int aw, .int cg])), (rq, .inr (2, [.ref rp, .ref rl, .int ct_, .int cl_, .int w3])), (rp, .inl (cJ, 16, .inr (.inl ps))), (rl, .inl (cI, 16, .inl lg)), (b2, .inr (0, [.ref q2])), (q2, .inl (cB2, (512 * nn), .inl (cB Dk))), (b, .inr (0, [.ref q])), (q, .inl (cB_, 65536, .inl g_9))] H := hP
          have hD : va_D A [(o, .inr (3, [.int sc, .ref b, .ref b2, .ref uq, .ref rq, .int fc, .int qc, .int cu, .int sa, .int aw, .int cg])), (rq, .inr (2, [.ref rp, .ref rl, .int ct_, .int cl_, .int w3])), (rp, .inl (cJ, 16, .inr (.inl ps))), (rl, .inl (cI, 16, .inl lg)), (b2, .inr (0, [.ref q2])), (q2, .inl (cB2, (512 * nn), .inl (cB Dk))), (b, .inr (0, [.ref q])), (q, .inl (cB_, 65536, .inl g_9))] := hD
          have hw_10 : g_9 = cB (cpB (512 * nn) 65536 Dk (wrs M (nth (mS O)) (fun k => Dk (512 * sec.toInt.toNat + k)) (a)) (s3 + w3.toInt64) r_8 r_7) := hw2
          refine lv_aload_n hx hb dX3_readSectors_87 rfl (lv_at hl 3 rfl) ?_
          refine va_get (D := (dC, dI)) (ci := 3) (v := .ref rq) (C := RX3) (T := TX3) (N := 11) hx hb hw inX3 hown hK hP 0 rfl rfl 4 (by decide) (hw _ w_b5b52a4b14) (fun _ h9 => h9) rfl dX3_readSectors_88 ?_
          refine lv_dup hx hb dX3_readSectors_91 rfl ?_
          refine va_getN (D := (dC, dI)) (ci := 2) (v := .int w3) (C := RX2) (T := TX2) (N := 5) hx hb hw inX2 hown hK hP 1 rfl rfl 4 (by decide) ((hZ.1 _ (List.mem_of_getElem? (i := 8) rfl)).use rfl) (fun _ h9 => h9) rfl dX3_readSectors_92 ?_
          refine lv_iload hx hb dX3_readSectors_95 (lv_at hl 0 rfl) ?_
          refine lv_iadd hx hb dX3_readSectors_97 ?_
          refine lv_topi (fun x_11 ex_11 => ?_)
          refine va_putN (D := (dC, dI)) (ci := 2) (v := .int x_11) (ty := .int) (C := RX2) (T := TX2) (N := 5) hx hb hw inX2 tyX2 tyX2_ok nmX2 hown hK hP hD hS 1 rfl rfl 4 (by decide) ((hZ.1 _ (List.mem_of_getElem? (i := 8) rfl)).use rfl) (fun _ h9 => h9) rfl (by decide +kernel) rfl rfl (Nat.le_of_ble_eq_true rfl) dX3_readSectors_98 (fun H locs hP hD hS => ?_)
          have hP : va_P (dC, dI) vwCl [(o, .inr (3, [.int sc, .ref b, .ref b2, .ref uq, .ref rq, .int fc, .int qc, .int cu, .int sa, .int aw, .int cg])), (rq, .inr (2, [.ref rp, .ref rl, .int ct_, .int cl_, .int x_11])), (rp, .inl (cJ, 16, .inr (.inl ps))), (rl, .inl (cI, 16, .inl lg)), (b2, .inr (0, [.ref q2])), (q2, .inl (cB2, (512 * nn), .inl (cB Dk))), (b, .inr (0, [.ref q])), (q, .inl (cB_, 65536, .inl g_9))] H := hP
          have hD : va_D A [(o, .inr (3, [.int sc, .ref b, .ref b2, .ref uq, .ref rq, .int fc, .int qc, .int cu, .int sa, .int aw, .int cg])), (rq, .inr (2, [.ref rp, .ref rl, .int ct_, .int cl_, .int x_11])), (rp, .inl (cJ, 16, .inr (.inl ps))), (rl, .inl (cI, 16, .inl lg)), (b2, .inr (0, [.ref q2])), (q2, .inl (cB2, (512 * nn), .inl (cB Dk))), (b, .inr (0, [.ref q])), (q, .inl (cB_, 65536, .inl g_9))] := hD
          obtain ⟨x_12, ex_12⟩ : ∃ y : Int32, y = yy + 1 := ⟨_, rfl⟩
          refine lv_iinc (v := x_12) (lv' := [(5, .int x_12), (6, .int r_7), (3, .long s3), (0, .ref o), (1, .long sec)]) hx hb dX3_readSectors_101 hl (k := 1) rfl (by rw [ex_12]; rfl) (by decide) rfl (fun ls hl => ?_)
          refine lv_goto (tgt := 32) hx hb dX3_readSectors_104 (by decide) ?_
          exact ih (a + oln O j bb) (j + 1) x_12 x_11 s3 g_9 (by omega) (by rw [ex_12, ek]; exact nI_1 _) (by omega) (opA_1 hjj hdr hlp hs) (by rw [ex_11, hw3, hr_7, hol]; exact nI_add _ _) (hs3) (by rw [hw_10, hs3, hw3, hr_8, hps, hr_7, hol]; exact congrArg cB (rd_step hrq hjj hdr hlp hs hth h65 hob hnn hsp)) _ _ (hP.sub [0, 1, 2, 3, 6, 7, 4, 5] rfl) (hD.sub [0, 1, 2, 3, 6, 7, 4, 5] (by decide) rfl) hS ls (lv_sub hl [0, 2, 3, 4] rfl)
    exact loop (O.length + 1) 0 0 cl_ wt x_5 (cB M) (by omega) (by rw [hcl, Nat.add_zero]) (by omega) (opA_0 hlen.2.1) (hwt) (ex_5) (rfl) _ _ (hP.sub [0, 1, 2, 3, 4, 5, 6, 7] rfl) (hD.sub [0, 1, 2, 3, 4, 5, 6, 7] (by decide) rfl) hS ls (lv_sub hl [0, 1, 2, 3] rfl)
  · skip
    have b_13 : ¬ (spC sec nn (tot (mS O) - 1) = true) := bI_0 (by rw [← hr_2]; exact c_3)
    have hnsp := b_13
    refine lv_iconst (v := 1) hx hb dX3_readSectors_15 (by decide) ?_
    have hP9 : va_P (dC, dI) vwCl [(o, .inr (3, [.int sc, .ref b, .ref b2, .ref uq, .ref rq, .int fc, .int qc, .int cu, .int sa, .int aw, .int cg])), (rq, .inr (2, [.ref rp, .ref rl, .int ct_, .int cl_, .int wt])), (rp, .inl (cJ, 16, .inr (.inl ps))), (rl, .inl (cI, 16, .inl lg)), (b, .inr (0, [.ref q])), (q, .inl (cB_, 65536, .inl (cB M))), (b2, .inr (0, [.ref q2])), (q2, .inl (cB2, 512 * nn, .inl (cB Dk)))] s.heap := by exact hP.sub (ws' := [(o, .inr (3, [.int sc, .ref b, .ref b2, .ref uq, .ref rq, .int fc, .int qc, .int cu, .int sa, .int aw, .int cg])), (rq, .inr (2, [.ref rp, .ref rl, .int ct_, .int cl_, .int wt])), (rp, .inl (cJ, 16, .inr (.inl ps))), (rl, .inl (cI, 16, .inl lg)), (b, .inr (0, [.ref q])), (q, .inl (cB_, 65536, .inl (cB M))), (b2, .inr (0, [.ref q2])), (q2, .inl (cB2, 512 * nn, .inl (cB Dk)))]) [0, 1, 2, 3, 4, 5, 6, 7] rfl
    have hD9 : va_D A [(o, .inr (3, [.int sc, .ref b, .ref b2, .ref uq, .ref rq, .int fc, .int qc, .int cu, .int sa, .int aw, .int cg])), (rq, .inr (2, [.ref rp, .ref rl, .int ct_, .int cl_, .int wt])), (rp, .inl (cJ, 16, .inr (.inl ps))), (rl, .inl (cI, 16, .inl lg)), (b, .inr (0, [.ref q])), (q, .inl (cB_, 65536, .inl (cB M))), (b2, .inr (0, [.ref q2])), (q2, .inl (cB2, 512 * nn, .inl (cB Dk)))] := by exact hD.sub (ws' := [(o, .inr (3, [.int sc, .ref b, .ref b2, .ref uq, .ref rq, .int fc, .int qc, .int cu, .int sa, .int aw, .int cg])), (rq, .inr (2, [.ref rp, .ref rl, .int ct_, .int cl_, .int wt])), (rp, .inl (cJ, 16, .inr (.inl ps))), (rl, .inl (cI, 16, .inl lg)), (b, .inr (0, [.ref q])), (q, .inl (cB_, 65536, .inl (cB M))), (b2, .inr (0, [.ref q2])), (q2, .inl (cB2, 512 * nn, .inl (cB Dk)))]) [0, 1, 2, 3, 4, 5, 6, 7] (by decide) rfl
    have hK9 := hK.sub (tys' := [(cJ, .long), (cI, .int), (cB_, .byte), (cB2, .byte)]) [0, 1, 2, 3] rfl
    exact W.iret (v := 1) hx hb hr (fun t ht hW => ⟨⟨_, (wt, cB M), rfl, ⟨fun z => absurd z hnsp, fun _ => ⟨rfl, rfl, rfl⟩⟩, by rw [ht]; exact hP9, va_K.moved hW.alike hK9, hD9⟩, hS.F ht⟩) hS.2.2 dX3_readSectors_16
set_option maxHeartbeats 4000000 in
set_option maxRecDepth 100000 in
/-- QueueDisk.writeSectors -/
theorem d_writeSectors (l : Launch) (dC : Nat → ClassId) (dI : Nat → Nat → Nat) (o : Nat) (sc : Int32) (b : Nat) (b2 : Nat) (uq : Nat) (rq : Nat) (fc : Int32) (qc : Int32) (cu : Int32) (sa : Int32) (aw : Int32) (cg : Int32) (rp : Nat) (rl : Nat) (ct_ : Int32) (cl_ : Int32) (wt : Int32) (cJ : ClassId) (cI : ClassId) (ps : Nat → Int64) (lg : Nat → Int32) (q : Nat) (cB_ : ClassId) (M : Nat → Nat) (q2 : Nat) (cB2 : ClassId) (nn : Nat) (Dk : Nat → Nat) (C : List Blk) (O : List Blk) (sec : Int64) (zS : Nat) (hsc : sc = nI nn) (hnn : nn ≤ 2048) (hrep : repC (C ++ O) ps lg) (hrq : rqOK C O) (hcl : cl_ = nI C.length) (hct : ct_ = nI (C ++ O).length) : Met l yX3_writeSectors wsX3_writeSectors ({ frames := 2, cells := 0, slots := 0, locals := 80 }) (va_Pc [.ref o, .long sec] (fun U => U.heap.size = zS ∧ va_P (dC, dI) vwCl [(o, .inr (3, [.int sc, .ref b, .ref b2, .ref uq, .ref rq, .int fc, .int qc, .int cu, .int sa, .int aw, .int cg])), (rq, .inr (2, [.ref rp, .ref rl, .int ct_, .int cl_, .int wt])), (rp, .inl (cJ, 16, .inr (.inl ps))), (rl, .inl (cI, 16, .inl lg)), (b, .inr (0, [.ref q])), (q, .inl (cB_, 65536, .inl (cB M))), (b2, .inr (0, [.ref q2])), (q2, .inl (cB2, 512 * nn, .inl (cB Dk)))] U.heap ∧ va_K (dC, dI) vwCl [(cJ, .long), (cI, .int), (cB_, .byte), (cB2, .byte)] U ∧ va_D (fun _ => True) [(o, .inr (3, [.int sc, .ref b, .ref b2, .ref uq, .ref rq, .int fc, .int qc, .int cu, .int sa, .int aw, .int cg])), (rq, .inr (2, [.ref rp, .ref rl, .int ct_, .int cl_, .int wt])), (rp, .inl (cJ, 16, .inr (.inl ps))), (rl, .inl (cI, 16, .inl lg)), (b, .inr (0, [.ref q])), (q, .inl (cB_, 65536, .inl (cB M))), (b2, .inr (0, [.ref q2])), (q2, .inl (cB2, 512 * nn, .inl (cB Dk)))] ∧ ZZ (va_A [(o, .inr (3, [.int sc, .ref b, .ref b2, .ref uq, .ref rq, .int fc, .int qc, .int cu, .int sa, .int aw, .int cg])), (rq, .inr (2, [.ref rp, .ref rl, .int ct_, .int cl_, .int wt])), (rp, .inl (cJ, 16, .inr (.inl ps))), (rl, .inl (cI, 16, .inl lg)), (b, .inr (0, [.ref q])), (q, .inl (cB_, 65536, .inl (cB M))), (b2, .inr (0, [.ref q2])), (q2, .inl (cB2, 512 * nn, .inl (cB Dk)))] zS) U U.heap)) (va_Qi (fun (r : Int32) (u : Int32 × (Nat → Int32)) => match u with | (cg2, g) => (spC sec nn (tot (mS C.tail)) = true → r = 0 ∧ cg2 = cg + nI (tot (mS C.tail) / 512) ∧ g = cB (wrs Dk (fun k => 512 * sec.toInt.toNat + k) (fun k => M (nth (mS C.tail) k)) (tot (mS C.tail)))) ∧ (¬ spC sec nn (tot (mS C.tail)) = true → r = 1 ∧ cg2 = cg ∧ g = cB Dk)) (fun (u : Int32 × (Nat → Int32)) (t : State) => match u with | (cg2, g) => va_P (dC, dI) vwCl [(o, .inr (3, [.int sc, .ref b, .ref b2, .ref uq, .ref rq, .int fc, .int qc, .int cu, .int sa, .int aw, .int cg2])), (rq, .inr (2, [.ref rp, .ref rl, .int ct_, .int cl_, .int wt])), (rp, .inl (cJ, 16, .inr (.inl ps))), (rl, .inl (cI, 16, .inl lg)), (b, .inr (0, [.ref q])), (q, .inl (cB_, 65536, .inl (cB M))), (b2, .inr (0, [.ref q2])), (q2, .inl (cB2, 512 * nn, .inl g))] t.heap ∧ va_K (dC, dI) vwCl [(cJ, .long), (cI, .int), (cB_, .byte), (cB2, .byte)] t ∧ va_D (va_A [(o, .inr (3, [.int sc, .ref b, .ref b2, .ref uq, .ref rq, .int fc, .int qc, .int cu, .int sa, .int aw, .int cg])), (rq, .inr (2, [.ref rp, .ref rl, .int ct_, .int cl_, .int wt])), (rp, .inl (cJ, 16, .inr (.inl ps))), (rl, .inl (cI, 16, .inl lg)), (b, .inr (0, [.ref q])), (q, .inl (cB_, 65536, .inl (cB M))), (b2, .inr (0, [.ref q2])), (q2, .inl (cB2, 512 * nn, .inl (cB Dk)))] zS) [(o, .inr (3, [.int sc, .ref b, .ref b2, .ref uq, .ref rq, .int fc, .int qc, .int cu, .int sa, .int aw, .int cg2])), (rq, .inr (2, [.ref rp, .ref rl, .int ct_, .int cl_, .int wt])), (rp, .inl (cJ, 16, .inr (.inl ps))), (rl, .inl (cI, 16, .inl lg)), (b, .inr (0, [.ref q])), (q, .inl (cB_, 65536, .inl (cB M))), (b2, .inr (0, [.ref q2])), (q2, .inl (cB2, 512 * nn, .inl g))]) (va_A [(o, .inr (3, [.int sc, .ref b, .ref b2, .ref uq, .ref rq, .int fc, .int qc, .int cu, .int sa, .int aw, .int cg])), (rq, .inr (2, [.ref rp, .ref rl, .int ct_, .int cl_, .int wt])), (rp, .inl (cJ, 16, .inr (.inl ps))), (rl, .inl (cI, 16, .inl lg)), (b, .inr (0, [.ref q])), (q, .inl (cB_, 65536, .inl (cB M))), (b2, .inr (0, [.ref q2])), (q2, .inl (cB2, 512 * nn, .inl (cB Dk)))] zS)) 0 0 (va_A [(o, .inr (3, [.int sc, .ref b, .ref b2, .ref uq, .ref rq, .int fc, .int qc, .int cu, .int sa, .int aw, .int cg])), (rq, .inr (2, [.ref rp, .ref rl, .int ct_, .int cl_, .int wt])), (rp, .inl (cJ, 16, .inr (.inl ps))), (rl, .inl (cI, 16, .inl lg)), (b, .inr (0, [.ref q])), (q, .inl (cB_, 65536, .inl (cB M))), (b2, .inr (0, [.ref q2])), (q2, .inl (cB2, 512 * nn, .inl (cB Dk)))] zS) := by
  refine Met.ofW (cc := cX3_writeSectors) (maxL := 8) (ret := (some .int)) (by decide) rfl ?_
  intro p e s m args below meth c s₁ B hml hv
  obtain ⟨rfl, hsz, hP, hK, hD0, hZ⟩ := hv
  have hx := B.exec
  have hb := B.bytes
  have hr := B.returns
  have hts := atoms_spec (ws := wsX3_writeSectors) B.pre
  have hw : ∀ w ∈ WW, w.before _ s = true := fun w h => hts w (List.mem_cons_of_mem _ h)
  have hown : s.vm.findClass RX3 = some m.cls := findClass_of_methodNamed B.named
  have hlocks := B.notSynchronized
  subst hsz
  have hD := hD0.self (sz := s.heap.size)
  generalize hAe : va_A [(o, .inr (3, [.int sc, .ref b, .ref b2, .ref uq, .ref rq, .int fc, .int qc, .int cu, .int sa, .int aw, .int cg])), (rq, .inr (2, [.ref rp, .ref rl, .int ct_, .int cl_, .int wt])), (rp, .inl (cJ, 16, .inr (.inl ps))), (rl, .inl (cI, 16, .inl lg)), (b, .inr (0, [.ref q])), (q, .inl (cB_, 65536, .inl (cB M))), (b2, .inr (0, [.ref q2])), (q2, .inl (cB2, 512 * nn, .inl (cB Dk)))] s.heap.size = A at hD hZ ⊢
  have hA : ∀ q : Nat, s.heap.size ≤ q → A q := fun q h => by rw [← hAe]; exact Or.inr h
  have hS : va_S A s.heap s.heap [] := va_S.rf
  have hP : va_P (dC, dI) vwCl [(o, .inr (3, [.int sc, .ref b, .ref b2, .ref uq, .ref rq, .int fc, .int qc, .int cu, .int sa, .int aw, .int cg])), (rq, .inr (2, [.ref rp, .ref rl, .int ct_, .int cl_, .int wt])), (rp, .inl (cJ, 16, .inr (.inl ps))), (rl, .inl (cI, 16, .inl lg)), (b, .inr (0, [.ref q])), (q, .inl (cB_, 65536, .inl (cB M))), (b2, .inr (0, [.ref q2])), (q2, .inl (cB2, 512 * nn, .inl (cB Dk)))] s.heap := hP
  have hl := lv_entry ([.ref o, .long sec]) (n := 8) (Nat.le_of_ble_eq_true rfl)
  rw [lg_entry_eq]
  generalize (lg_sl ([.ref o, .long sec]) ++ List.replicate (8 - (lg_sl ([.ref o, .long sec])).length) Slot.unset).toArray = ls at hl ⊢
  have hl : lv_has ls 8 [(0, .ref o), (1, .long sec)] := hl
  have hlen := rqC_len hrq
  have htt := rq_tot hrq
  refine lv_aload_n hx hb dX3_writeSectors_0 rfl (lv_at hl 0 rfl) ?_
  refine va_get (D := (dC, dI)) (ci := 3) (v := .ref rq) (C := RX3) (T := TX3) (N := 11) hx hb hw inX3 hown hK hP 0 rfl rfl 4 (by decide) (hw _ w_b5b52a4b14) (fun _ h9 => h9) rfl dX3_writeSectors_1 ?_
  have hPc := hP.sub (ws' := [(rq, .inr (2, [.ref rp, .ref rl, .int ct_, .int cl_, .int wt])), (rp, .inl (cJ, 16, .inr (.inl ps))), (rl, .inl (cI, 16, .inl lg))]) [1, 2, 3] rfl
  have hKc := hK.sub (tys' := [(cJ, .long), (cI, .int)]) [0, 1] rfl
  have hZc := (hZ.kept hS.2.1).narrow (B := fun _ => False) (fun _ h => h.elim)
  refine vp_callSi (va_runV (As := []) (rest := []) ⟨hx, hb, hml, hown, hw⟩ (r_closedData l dC dI rq rp rl ct_ cl_ wt cJ cI ps lg C O hrep hrq hcl) (cwV 0 hw (gV w_fef05aec8a w_bc869e3b75 w_60ad145108 w_d27e9d3e51 w_4c10018975) rfl rfl rfl (by decide +kernel) ⟨Nat.le_of_ble_eq_true rfl, Nat.le_of_ble_eq_true rfl⟩) ⟨fun a U g mk q => by obtain ⟨q0, qP, qK, qZ⟩ := q; exact ⟨q0, qP, va_K.moved (u := U) (U := U.calling g mk a) (Vm.Alike.refl U.vm) qK, ZZ.same (u := U) (U := U.calling g mk a) rfl qZ⟩, va_recv hKc hPc (ci := 2) (q0 := 0) rfl rfl, fun U hU hW => ⟨rfl, by rw [hU]; exact hPc, va_K.moved hW.alike hKc, by rw [hU]; exact ZZ.warm hW hZc⟩⟩ rfl rfl hl.1 rfl (lv_room (Nat.le_of_ble_eq_true rfl)) dX3_writeSectors_4 ⟨Nat.zero_le _, Nat.zero_le _⟩).run (fun r_1 hr_1 => ?_)
  have hr_1 : r_1 = nI (tot (mS C.tail)) := hr_1
  refine lv_istore_n (lv' := [(3, .int r_1), (0, .ref o), (1, .long sec)]) hx hb dX3_writeSectors_7 rfl hl (by decide) rfl (fun ls hl => ?_)
  refine lv_aload_n hx hb dX3_writeSectors_8 rfl (lv_at hl 1 rfl) ?_
  refine lv_lload_n hx hb dX3_writeSectors_9 rfl (lv_at hl 2 rfl) ?_
  refine lv_iload_n hx hb dX3_writeSectors_10 rfl (lv_at hl 0 rfl) ?_
  have hPc := hP.sub (ws' := [(o, .inr (3, [.int sc, .ref b, .ref b2, .ref uq, .ref rq, .int fc, .int qc, .int cu, .int sa, .int aw, .int cg]))]) [0] rfl
  have hKc := hK.sub (tys' := []) [] rfl
  have hZc := (hZ.kept hS.2.1).narrow (B := fun _ => False) (fun _ h => h.elim)
  refine vp_callSi (va_runV (As := [.long sec, .int r_1]) (rest := []) ⟨hx, hb, hml, hown, hw⟩ (d_onDisk l dC dI o sc b b2 uq rq fc qc cu sa aw cg nn sec r_1 (tot (mS C.tail)) hsc hnn hr_1 (by omega)) (cwV 2 hw (gV w_334b6d0a2e w_326ad8785b w_b619320d2b w_106b72596f w_8ce6bd6ed9) rfl rfl rfl (by decide +kernel) ⟨Nat.le_of_ble_eq_true rfl, Nat.le_of_ble_eq_true rfl⟩) ⟨fun a U g mk q => by obtain ⟨q0, qP, qK, qZ⟩ := q; exact ⟨q0, qP, va_K.moved (u := U) (U := U.calling g mk a) (Vm.Alike.refl U.vm) qK, ZZ.same (u := U) (U := U.calling g mk a) rfl qZ⟩, va_recv hKc hPc (ci := 3) (q0 := 0) rfl rfl, fun U hU hW => ⟨rfl, by rw [hU]; exact hPc, va_K.moved hW.alike hKc, by rw [hU]; exact ZZ.warm hW hZc⟩⟩ rfl rfl hl.1 rfl (lv_room (Nat.le_of_ble_eq_true rfl)) dX3_writeSectors_11 ⟨Nat.zero_le _, Nat.zero_le _⟩).run (fun r_2 hr_2 => ?_)
  have hr_2 : r_2 = bI (spC sec nn (tot (mS C.tail)) = true) := hr_2
  refine lv_if_ne (tgt := 19) hx hb dX3_writeSectors_14 (by decide) (fun c_3 => ?_) (fun c_3 => ?_)
  · skip
    have b_4 : (spC sec nn (tot (mS C.tail)) = true) := bI_1 (by rw [← hr_2]; exact c_3)
    have hsp := b_4
    refine lv_lload_n hx hb dX3_writeSectors_19 rfl (lv_at hl 2 rfl) ?_
    refine lv_ldc2 (v := 512) hx hb hown (hw _ w_3144b246ec) dX3_writeSectors_20 ?_
    refine lv_lmul hx hb dX3_writeSectors_23 ?_
    refine lv_topl (fun x_5 ex_5 => ?_)
    refine lv_lstore (lv' := [(4, .long x_5), (3, .int r_1), (0, .ref o), (1, .long sec)]) hx hb dX3_writeSectors_24 hl (by decide) rfl (fun ls hl => ?_)
    refine lv_iconst (v := 1) hx hb dX3_writeSectors_26 (by decide) ?_
    refine lv_istore (lv' := [(6, .int 1), (4, .long x_5), (3, .int r_1), (0, .ref o), (1, .long sec)]) hx hb dX3_writeSectors_27 hl (by decide) rfl (fun ls hl => ?_)
    have loop : ∀ (N : Nat) (a : Nat) (k : Nat) (yy : Int32) (s3 : Int64) (d3 : Int32) (g3 : Nat → Int32) (hN : C.length - k < N) (ek : yy = nI k) (hk : k ≤ C.length) (hkp : 1 ≤ k) (hs : a + tot (mS (C.drop k)) = tot (mS C.tail)) (hs3 : s3 = sec * 512 + lN a) (hd3 : d3 = nI (tot (mS C.tail))) (hg3 : g3 = cB (wrs Dk (fun k => 512 * sec.toInt.toNat + k) (fun k => M (nth (mS C.tail) k)) (a))) (H : Heap) (locs : List Loc) (hP : va_P (dC, dI) vwCl [(o, .inr (3, [.int sc, .ref b, .ref b2, .ref uq, .ref rq, .int fc, .int qc, .int cu, .int sa, .int aw, .int cg])), (rq, .inr (2, [.ref rp, .ref rl, .int ct_, .int cl_, .int wt])), (rp, .inl (cJ, 16, .inr (.inl ps))), (rl, .inl (cI, 16, .inl lg)), (b, .inr (0, [.ref q])), (q, .inl (cB_, 65536, .inl (cB M))), (b2, .inr (0, [.ref q2])), (q2, .inl (cB2, 512 * nn, .inl g3))] H) (hD : va_D A [(o, .inr (3, [.int sc, .ref b, .ref b2, .ref uq, .ref rq, .int fc, .int qc, .int cu, .int sa, .int aw, .int cg])), (rq, .inr (2, [.ref rp, .ref rl, .int ct_, .int cl_, .int wt])), (rp, .inl (cJ, 16, .inr (.inl ps))), (rl, .inl (cI, 16, .inl lg)), (b, .inr (0, [.ref q])), (q, .inl (cB_, 65536, .inl (cB M))), (b2, .inr (0, [.ref q2])), (q2, .inl (cB2, 512 * nn, .inl g3))]) (hS : va_S A s.heap H locs) (ls : Array Slot) (hl : lv_has ls 8 [(6, .int yy), (4, .long s3), (3, .int d3), (0, .ref o), (1, .long sec)]), W p l e (headSpec wsX3_writeSectors ({ frames := 2, cells := 0, slots := 0, locals := 80 })).room s m [.ref o, .long sec].toArray below meth c H locs 0 0 (MQ below (va_Qi (fun (r : Int32) (u : Int32 × (Nat → Int32)) => match u with | (cg2, g) => (spC sec nn (tot (mS C.tail)) = true → r = 0 ∧ cg2 = cg + nI (tot (mS C.tail) / 512) ∧ g = cB (wrs Dk (fun k => 512 * sec.toInt.toNat + k) (fun k => M (nth (mS C.tail) k)) (tot (mS C.tail)))) ∧ (¬ spC sec nn (tot (mS C.tail)) = true → r = 1 ∧ cg2 = cg ∧ g = cB Dk)) (fun (u : Int32 × (Nat → Int32)) (t : State) => match u with | (cg2, g) => va_P (dC, dI) vwCl [(o, .inr (3, [.int sc, .ref b, .ref b2, .ref uq, .ref rq, .int fc, .int qc, .int cu, .int sa, .int aw, .int cg2])), (rq, .inr (2, [.ref rp, .ref rl, .int ct_, .int cl_, .int wt])), (rp, .inl (cJ, 16, .inr (.inl ps))), (rl, .inl (cI, 16, .inl lg)), (b, .inr (0, [.ref q])), (q, .inl (cB_, 65536, .inl (cB M))), (b2, .inr (0, [.ref q2])), (q2, .inl (cB2, 512 * nn, .inl g))] t.heap ∧ va_K (dC, dI) vwCl [(cJ, .long), (cI, .int), (cB_, .byte), (cB2, .byte)] t ∧ va_D A [(o, .inr (3, [.int sc, .ref b, .ref b2, .ref uq, .ref rq, .int fc, .int qc, .int cu, .int sa, .int aw, .int cg2])), (rq, .inr (2, [.ref rp, .ref rl, .int ct_, .int cl_, .int wt])), (rp, .inl (cJ, 16, .inr (.inl ps))), (rl, .inl (cI, 16, .inl lg)), (b, .inr (0, [.ref q])), (q, .inl (cB_, 65536, .inl (cB M))), (b2, .inr (0, [.ref q2])), (q2, .inl (cB2, 512 * nn, .inl g))]) A) [.ref o, .long sec].toArray s 0 0 A) (F0 m 29 ls []) := by
      intro N
      induction N with
      | zero => intro a k yy s3 d3 g3 hN ek hk hkp hs hs3 hd3 hg3 H locs hP hD hS ls hl; exact absurd hN (Nat.not_lt_zero _)
      | succ N ih =>
        intro a k yy s3 d3 g3 hN ek hk hkp hs hs3 hd3 hg3 H locs hP hD hS ls hl
        refine lv_iload hx hb dX3_writeSectors_29 (lv_at hl 0 rfl) ?_
        refine lv_aload_n hx hb dX3_writeSectors_31 rfl (lv_at hl 3 rfl) ?_
        refine va_get (D := (dC, dI)) (ci := 3) (v := .ref rq) (C := RX3) (T := TX3) (N := 11) hx hb hw inX3 hown hK hP 0 rfl rfl 4 (by decide) (hw _ w_b5b52a4b14) (fun _ h9 => h9) rfl dX3_writeSectors_32 ?_
        refine va_getN (D := (dC, dI)) (ci := 2) (v := .int cl_) (C := RX2) (T := TX2) (N := 5) hx hb hw inX2 hown hK hP 1 rfl rfl 3 (by decide) ((hZ.1 _ (List.mem_of_getElem? (i := 7) rfl)).use rfl) (fun _ h9 => h9) rfl dX3_writeSectors_35 ?_
        refine lv_icmp_ge (tgt := 90) hx hb dX3_writeSectors_38 (by decide) (fun c_6 => ?_) (fun c_6 => ?_)
        · skip
          have hkk : k = C.length := by rw [hcl, ek, nI_leI (by omega) (by omega)] at c_6; omega
          refine lv_aload_n hx hb dX3_writeSectors_90 rfl (lv_at hl 3 rfl) ?_
          refine lv_dup hx hb dX3_writeSectors_91 rfl ?_
          refine va_get (D := (dC, dI)) (ci := 3) (v := .int cg) (C := RX3) (T := TX3) (N := 11) hx hb hw inX3 hown hK hP 0 rfl rfl 10 (by decide) (hw _ w_7c03c59aed) (fun _ h9 => h9) rfl dX3_writeSectors_92 ?_
          refine lv_iload_n hx hb dX3_writeSectors_95 rfl (lv_at hl 2 rfl) ?_
          refine lv_sipush (v := 512) hx hb dX3_writeSectors_96 (by decide) ?_
          refine lv_idiv hx hb dX3_writeSectors_99 (by decide) ?_
          refine lv_iadd hx hb dX3_writeSectors_100 ?_
          refine lv_topi (fun x_7 ex_7 => ?_)
          refine va_put (D := (dC, dI)) (ci := 3) (v := .int x_7) (ty := .int) (C := RX3) (T := TX3) (N := 11) hx hb hw inX3 tyX3 tyX3_ok nmX3 hown hK hP hD hS 0 rfl rfl 10 (by decide) (hw _ w_7c03c59aed) (fun _ h9 => h9) rfl (by decide +kernel) rfl rfl (Nat.le_of_ble_eq_true rfl) dX3_writeSectors_101 (fun H locs hP hD hS => ?_)
          have hP : va_P (dC, dI) vwCl [(o, .inr (3, [.int sc, .ref b, .ref b2, .ref uq, .ref rq, .int fc, .int qc, .int cu, .int sa, .int aw, .int x_7])), (rq, .inr (2, [.ref rp, .ref rl, .int ct_, .int cl_, .int wt])), (rp, .inl (cJ, 16, .inr (.inl ps))), (rl, .inl (cI, 16, .inl lg)), (b, .inr (0, [.ref q])), (q, .inl (cB_, 65536, .inl (cB M))), (b2, .inr (0, [.ref q2])), (q2, .inl (cB2, 512 * nn, .inl g3))] H := hP
          have hD : va_D A [(o, .inr (3, [.int sc, .ref b, .ref b2, .ref uq, .ref rq, .int fc, .int qc, .int cu, .int sa, .int aw, .int x_7])), (rq, .inr (2, [.ref rp, .ref rl, .int ct_, .int cl_, .int wt])), (rp, .inl (cJ, 16, .inr (.inl ps))), (rl, .inl (cI, 16, .inl lg)), (b, .inr (0, [.ref q])), (q, .inl (cB_, 65536, .inl (cB M))), (b2, .inr (0, [.ref q2])), (q2, .inl (cB2, 512 * nn, .inl g3))] := hD
          refine lv_iconst (v := 0) hx hb dX3_writeSectors_104 (by decide) ?_
          have hP9 : va_P (dC, dI) vwCl [(o, .inr (3, [.int sc, .ref b, .ref b2, .ref uq, .ref rq, .int fc, .int qc, .int cu, .int sa, .int aw, .int x_7])), (rq, .inr (2, [.ref rp, .ref rl, .int ct_, .int cl_, .int wt])), (rp, .inl (cJ, 16, .inr (.inl ps))), (rl, .inl (cI, 16, .inl lg)), (b, .inr (0, [.ref q])), (q, .inl (cB_, 65536, .inl (cB M))), (b2, .inr (0, [.ref q2])), (q2, .inl (cB2, 512 * nn, .inl g3))] H := by exact hP.sub (ws' := [(o, .inr (3, [.int sc, .ref b, .ref b2, .ref uq, .ref rq, .int fc, .int qc, .int cu, .int sa, .int aw, .int x_7])), (rq, .inr (2, [.ref rp, .ref rl, .int ct_, .int cl_, .int wt])), (rp, .inl (cJ, 16, .inr (.inl ps))), (rl, .inl (cI, 16, .inl lg)), (b, .inr (0, [.ref q])), (q, .inl (cB_, 65536, .inl (cB M))), (b2, .inr (0, [.ref q2])), (q2, .inl (cB2, 512 * nn, .inl g3))]) [0, 1, 2, 3, 4, 5, 6, 7] rfl
          have hD9 : va_D A [(o, .inr (3, [.int sc, .ref b, .ref b2, .ref uq, .ref rq, .int fc, .int qc, .int cu, .int sa, .int aw, .int x_7])), (rq, .inr (2, [.ref rp, .ref rl, .int ct_, .int cl_, .int wt])), (rp, .inl (cJ, 16, .inr (.inl ps))), (rl, .inl (cI, 16, .inl lg)), (b, .inr (0, [.ref q])), (q, .inl (cB_, 65536, .inl (cB M))), (b2, .inr (0, [.ref q2])), (q2, .inl (cB2, 512 * nn, .inl g3))] := by exact hD.sub (ws' := [(o, .inr (3, [.int sc, .ref b, .ref b2, .ref uq, .ref rq, .int fc, .int qc, .int cu, .int sa, .int aw, .int x_7])), (rq, .inr (2, [.ref rp, .ref rl, .int ct_, .int cl_, .int wt])), (rp, .inl (cJ, 16, .inr (.inl ps))), (rl, .inl (cI, 16, .inl lg)), (b, .inr (0, [.ref q])), (q, .inl (cB_, 65536, .inl (cB M))), (b2, .inr (0, [.ref q2])), (q2, .inl (cB2, 512 * nn, .inl g3))]) [0, 1, 2, 3, 4, 5, 6, 7] (by decide) rfl
          have hK9 := hK.sub (tys' := [(cJ, .long), (cI, .int), (cB_, .byte), (cB2, .byte)]) [0, 1, 2, 3] rfl
          exact W.iret (v := 0) hx hb hr (fun t ht hW => ⟨⟨_, (x_7, g3), rfl, (by rw [hkk, List.drop_length] at hs; exact ⟨fun _ => ⟨rfl, by rw [ex_7, hd3, nI_div512 (by omega)], by rw [← hs]; exact hg3⟩, fun z => absurd hsp z⟩), by rw [ht]; exact hP9, va_K.moved hW.alike hK9, hD9⟩, hS.F ht⟩) hS.2.2 dX3_writeSectors_105
        · skip
          have hkk : k < C.length := by rw [hcl, ek, nI_leI (by omega) (by omega)] at c_6; omega
          obtain ⟨bb, -, hdr, hlg, hps, hth, h65⟩ := rqC_cl hrq hrep hkk
          subst hg3
          refine lv_aload_n hx hb dX3_writeSectors_41 rfl (lv_at hl 3 rfl) ?_
          refine va_get (D := (dC, dI)) (ci := 3) (v := .ref rq) (C := RX3) (T := TX3) (N := 11) hx hb hw inX3 hown hK hP 0 rfl rfl 4 (by decide) (hw _ w_b5b52a4b14) (fun _ h9 => h9) rfl dX3_writeSectors_42 ?_
          refine lv_iload hx hb dX3_writeSectors_45 (lv_at hl 0 rfl) ?_
          have hPc := hP.sub (ws' := [(rq, .inr (2, [.ref rp, .ref rl, .int ct_, .int cl_, .int wt])), (rp, .inl (cJ, 16, .inr (.inl ps))), (rl, .inl (cI, 16, .inl lg))]) [1, 2, 3] rfl
          have hKc := hK.sub (tys' := [(cJ, .long), (cI, .int)]) [0, 1] rfl
          have hZc := (hZ.kept hS.2.1).narrow (B := fun _ => False) (fun _ h => h.elim)
          refine vp_callSi (va_runVN (As := [.int yy]) (rest := []) ⟨hx, hb, hml, hown, hw⟩ (r_lengthOf l dC dI rq rp rl ct_ cl_ wt cJ cI ps lg yy k ek (by omega)) ⟨va_cnB 1 hw (gW w_c8d11bcee7) rfl rfl rfl (hZ.1 _ (List.mem_of_getElem? (i := 11) rfl)) (hw _ w_d27e9d3e51) (by decide +kernel) ⟨Nat.le_of_ble_eq_true rfl, Nat.le_of_ble_eq_true rfl⟩, hw _ w_cb6da4ecc0, hw _ w_cf853dc132⟩ ⟨fun a U g mk q => by obtain ⟨q0, qP, qK, qZ⟩ := q; exact ⟨q0, qP, va_K.moved (u := U) (U := U.calling g mk a) (Vm.Alike.refl U.vm) qK, ZZ.same (u := U) (U := U.calling g mk a) rfl qZ⟩, va_recv hKc hPc (ci := 2) (q0 := 0) rfl rfl, fun U hU hW => ⟨rfl, by rw [hU]; exact hPc, va_K.moved hW.alike hKc, by rw [hU]; exact ZZ.warm hW hZc⟩⟩ rfl rfl hl.1 rfl (lv_room (Nat.le_of_ble_eq_true rfl)) dX3_writeSectors_47 ⟨Nat.zero_le _, Nat.zero_le _⟩).run (fun r_8 hr_8 => ?_)
          have hr_8 : r_8 = lg k := hr_8
          refine lv_istore (lv' := [(7, .int r_8), (6, .int yy), (4, .long s3), (3, .int d3), (0, .ref o), (1, .long sec)]) hx hb dX3_writeSectors_50 hl (by decide) rfl (fun ls hl => ?_)
          refine lv_aload_n hx hb dX3_writeSectors_52 rfl (lv_at hl 4 rfl) ?_
          refine va_get (D := (dC, dI)) (ci := 3) (v := .ref b) (C := RX3) (T := TX3) (N := 11) hx hb hw inX3 hown hK hP 0 rfl rfl 1 (by decide) (hw _ w_a82c1ee35f) (fun _ h9 => h9) rfl dX3_writeSectors_53 ?_
          refine lv_aload_n hx hb dX3_writeSectors_56 rfl (lv_at hl 4 rfl) ?_
          refine va_get (D := (dC, dI)) (ci := 3) (v := .ref rq) (C := RX3) (T := TX3) (N := 11) hx hb hw inX3 hown hK hP 0 rfl rfl 4 (by decide) (hw _ w_b5b52a4b14) (fun _ h9 => h9) rfl dX3_writeSectors_57 ?_
          refine lv_iload hx hb dX3_writeSectors_60 (lv_at hl 1 rfl) ?_
          have hPc := hP.sub (ws' := [(rq, .inr (2, [.ref rp, .ref rl, .int ct_, .int cl_, .int wt])), (rp, .inl (cJ, 16, .inr (.inl ps))), (rl, .inl (cI, 16, .inl lg))]) [1, 2, 3] rfl
          have hKc := hK.sub (tys' := [(cJ, .long), (cI, .int)]) [0, 1] rfl
          have hZc := (hZ.kept hS.2.1).narrow (B := fun _ => False) (fun _ h => h.elim)
          refine vp_callSl (va_runVN (As := [.int yy]) (rest := [.ref b]) ⟨hx, hb, hml, hown, hw⟩ (r_placeOf l dC dI rq rp rl ct_ cl_ wt cJ cI ps lg yy k ek (by omega)) ⟨va_cnB 1 hw (gW w_577239e1dd) rfl rfl rfl (hZ.1 _ (List.mem_of_getElem? (i := 10) rfl)) (hw _ w_d27e9d3e51) (by decide +kernel) ⟨Nat.le_of_ble_eq_true rfl, Nat.le_of_ble_eq_true rfl⟩, hw _ w_1bc15c9d4e, hw _ w_7601c55bff⟩ ⟨fun a U g mk q => by obtain ⟨q0, qP, qK, qZ⟩ := q; exact ⟨q0, qP, va_K.moved (u := U) (U := U.calling g mk a) (Vm.Alike.refl U.vm) qK, ZZ.same (u := U) (U := U.calling g mk a) rfl qZ⟩, va_recv hKc hPc (ci := 2) (q0 := 0) rfl rfl, fun U hU hW => ⟨rfl, by rw [hU]; exact hPc, va_K.moved hW.alike hKc, by rw [hU]; exact ZZ.warm hW hZc⟩⟩ rfl rfl hl.1 rfl (lv_room (Nat.le_of_ble_eq_true rfl)) dX3_writeSectors_62 ⟨Nat.zero_le _, Nat.zero_le _⟩).run (fun r_9 hr_9 => ?_)
          have hr_9 : r_9 = ps k := hr_9
          refine lv_aload_n hx hb dX3_writeSectors_65 rfl (lv_at hl 4 rfl) ?_
          refine va_get (D := (dC, dI)) (ci := 3) (v := .ref b2) (C := RX3) (T := TX3) (N := 11) hx hb hw inX3 hown hK hP 0 rfl rfl 2 (by decide) (hw _ w_f4937b3b24) (fun _ h9 => h9) rfl dX3_writeSectors_66 ?_
          refine lv_lload hx hb dX3_writeSectors_69 (lv_at hl 2 rfl) ?_
          refine lv_iload hx hb dX3_writeSectors_71 (lv_at hl 0 rfl) ?_
          have hPc := hP.sub (ws' := [(b, .inr (0, [.ref q])), (q, .inl (cB_, 65536, .inl (cB M))), (b2, .inr (0, [.ref q2])), (q2, .inl (cB2, 512 * nn, .inl (cB (wrs Dk (fun k => 512 * sec.toInt.toNat + k) (fun k => M (nth (mS C.tail) k)) (a)))))]) [4, 5, 6, 7] rfl
          have hKc := hK.sub (tys' := [(cB_, .byte), (cB2, .byte)]) [2, 3] rfl
          have hDc := hD.sub (ws' := [(b, .inr (0, [.ref q])), (q, .inl (cB_, 65536, .inl (cB M))), (b2, .inr (0, [.ref q2])), (q2, .inl (cB2, 512 * nn, .inl (cB (wrs Dk (fun k => 512 * sec.toInt.toNat + k) (fun k => M (nth (mS C.tail) k)) (a)))))]) [4, 5, 6, 7] (by decide) rfl
          have hFc := va_free (wc := [(b, .inr (0, [.ref q])), (q, .inl (cB_, 65536, .inl (cB M))), (b2, .inr (0, [.ref q2])), (q2, .inl (cB2, 512 * nn, .inl (cB (wrs Dk (fun k => 512 * sec.toInt.toNat + k) (fun k => M (nth (mS C.tail) k)) (a)))))]) hD hS hA [4, 5, 6, 7] rfl
          have hZc : ZZ (va_A [(b, .inr (0, [.ref q])), (q, .inl (cB_, 65536, .inl (cB M))), (b2, .inr (0, [.ref q2])), (q2, .inl (cB2, 512 * nn, .inl (cB (wrs Dk (fun k => 512 * sec.toInt.toNat + k) (fun k => M (nth (mS C.tail) k)) (a)))))] H.size) s H := (hZ.kept hS.2.1).narrow hFc
          refine va_callv (va_runV (As := [.long r_9, .ref b2, .long s3, .int r_8]) (rest := []) ⟨hx, hb, hml, hown, hw⟩ (c_copyTo l dC dI b q cB_ 65536 M b2 q2 cB2 (512 * nn) (wrs Dk (fun k => 512 * sec.toInt.toNat + k) (fun k => M (nth (mS C.tail) k)) (a)) r_9 s3 r_8 H.size (by decide) (by omega)) (cwV 4 hw (gV w_46d9e21578 w_87f9183140 w_0afabca32d w_82b0ef516c w_7fa5877d66) rfl rfl rfl (by decide +kernel) ⟨Nat.le_of_ble_eq_true rfl, Nat.le_of_ble_eq_true rfl⟩) ⟨fun a U g mk q => by obtain ⟨q0, q1, qP, qK, qD, qZ⟩ := q; exact ⟨q0, q1, qP, va_K.moved (u := U) (U := U.calling g mk a) (Vm.Alike.refl U.vm) qK, qD, ZZ.same (u := U) (U := U.calling g mk a) rfl qZ⟩, va_recv hKc hPc (ci := 0) (q0 := 0) rfl rfl, fun U hU hW => ⟨rfl, by rw [hU], by rw [hU]; exact hPc, va_K.moved hW.alike hKc, hDc.weaken (fun _ _ _ _ => trivial), by rw [hU]; exact ZZ.warm hW hZc⟩⟩ rfl rfl hl.1 rfl (lv_room (Nat.le_of_ble_eq_true rfl)) dX3_writeSectors_73 ⟨Nat.zero_le _, Nat.zero_le _⟩) hS (fun q _ h => hFc q h) hFc (fun u t H1 locs ht hvm hw2 hB hz1 hk1 hS => ?_)
          obtain ⟨g_10, rfl⟩ : ∃ z, z = u := ⟨_, rfl⟩
          obtain ⟨hP1, hK1, hD1⟩ := hB
          rw [ht] at hP1
          have hK1 := va_K.moved hvm.symm hK1
          try dsimp only at hw2
          obtain ⟨hP, hD⟩ := va_join (wr := [(o, .inr (3, [.int sc, .ref b, .ref b2, .ref uq, .ref rq, .int fc, .int qc, .int cu, .int sa, .int aw, .int cg])), (rq, .inr (2, [.ref rp, .ref rl, .int ct_, .int cl_, .int wt])), (rp, .inl (cJ, 16, .inr (.inl ps))), (rl, .inl (cI, 16, .inl lg))]) (w1 := [(b, .inr (0, [.ref q])), (q, .inl (cB_, 65536, .inl (cB M))), (b2, .inr (0, [.ref q2])), (q2, .inl (cB2, (512 * nn), .inl g_10))]) hP hD [4, 5, 6, 7] [0, 1, 2, 3] rfl rfl (by decide) (by decide) hk1 hFc hP1 hD1
          generalize H1 = H at hP hS hk1 ⊢
          have hP : va_P (dC, dI) vwCl [(o, .inr (3, [.int sc, .ref b, .ref b2, .ref uq, .ref rq, .int fc, .int qc, .int cu, .int sa, .int aw, .int cg])), (rq, .inr (2, [.ref rp, .ref rl, .int ct_, .int cl_, .int wt])), (rp, .inl (cJ, 16, .inr (.inl ps))), (rl, .inl (cI, 16, .inl lg)), (b, .inr (0, [.ref q])), (q, .inl (cB_, 65536, .inl (cB M))), (b2, .inr (0, [.ref q2])), (q2, .inl (cB2, (512 * nn), .inl g_10))] H := hP
          have hD : va_D A [(o, .inr (3, [.int sc, .ref b, .ref b2, .ref uq, .ref rq, .int fc, .int qc, .int cu, .int sa, .int aw, .int cg])), (rq, .inr (2, [.ref rp, .ref rl, .int ct_, .int cl_, .int wt])), (rp, .inl (cJ, 16, .inr (.inl ps))), (rl, .inl (cI, 16, .inl lg)), (b, .inr (0, [.ref q])), (q, .inl (cB_, 65536, .inl (cB M))), (b2, .inr (0, [.ref q2])), (q2, .inl (cB2, (512 * nn), .inl g_10))] := hD
          have hw_11 : g_10 = cB (cpB 65536 (512 * nn) M (wrs Dk (fun k => 512 * sec.toInt.toNat + k) (fun k => M (nth (mS C.tail) k)) (a)) r_9 s3 r_8) := hw2
          refine lv_lload hx hb dX3_writeSectors_76 (lv_at hl 2 rfl) ?_
          refine lv_iload hx hb dX3_writeSectors_78 (lv_at hl 0 rfl) ?_
          refine lv_i2l (v := r_8.toInt64) hx hb dX3_writeSectors_80 rfl ?_
          refine lv_ladd hx hb dX3_writeSectors_81 ?_
          refine lv_topl (fun x_12 ex_12 => ?_)
          refine lv_lstore (lv' := [(4, .long x_12), (7, .int r_8), (6, .int yy), (3, .int d3), (0, .ref o), (1, .long sec)]) hx hb dX3_writeSectors_82 hl (by decide) rfl (fun ls hl => ?_)
          obtain ⟨x_13, ex_13⟩ : ∃ y : Int32, y = yy + 1 := ⟨_, rfl⟩
          refine lv_iinc (v := x_13) (lv' := [(6, .int x_13), (4, .long x_12), (7, .int r_8), (3, .int d3), (0, .ref o), (1, .long sec)]) hx hb dX3_writeSectors_84 hl (k := 2) rfl (by rw [ex_13]; rfl) (by decide) rfl (fun ls hl => ?_)
          refine lv_goto (tgt := 29) hx hb dX3_writeSectors_87 (by decide) ?_
          exact ih (a + bb.2.1) (k + 1) x_13 x_12 d3 g_10 (by omega) (by rw [ex_13, ek]; exact nI_1 _) (by omega) (by omega) (by rw [← hs, hdr, tot_c]; omega) (by rw [ex_12, hs3, hr_8, hlg, nI_l (by omega), Int64.add_assoc, lN_add]) (hd3) (by rw [hw_11, hs3, hr_9, hps, hr_8, hlg]; exact congrArg cB (wd_step hkp hdr hs hth h65 hnn hsp)) _ _ (hP.sub [0, 1, 2, 3, 4, 5, 6, 7] rfl) (hD.sub [0, 1, 2, 3, 4, 5, 6, 7] (by decide) rfl) hS ls (lv_sub hl [0, 1, 3, 4, 5] rfl)
    exact loop (C.length + 1) 0 1 1 x_5 r_1 (cB Dk) (by omega) (rfl) (hlen.1) (Nat.le_refl 1) (by rw [Nat.zero_add, List.drop_one]) (by rw [ex_5]; exact (Int64.add_zero _).symm) (hr_1) (rfl) _ _ (hP.sub [0, 1, 2, 3, 4, 5, 6, 7] rfl) (hD.sub [0, 1, 2, 3, 4, 5, 6, 7] (by decide) rfl) hS ls (lv_sub hl [0, 1, 2, 3, 4] rfl)
  · skip
    have b_14 : ¬ (spC sec nn (tot (mS C.tail)) = true) := bI_0 (by rw [← hr_2]; exact c_3)
    have hnsp := b_14
    refine lv_iconst (v := 1) hx hb dX3_writeSectors_17 (by decide) ?_
    have hP9 : va_P (dC, dI) vwCl [(o, .inr (3, [.int sc, .ref b, .ref b2, .ref uq, .ref rq, .int fc, .int qc, .int cu, .int sa, .int aw, .int cg])), (rq, .inr (2, [.ref rp, .ref rl, .int ct_, .int cl_, .int wt])), (rp, .inl (cJ, 16, .inr (.inl ps))), (rl, .inl (cI, 16, .inl lg)), (b, .inr (0, [.ref q])), (q, .inl (cB_, 65536, .inl (cB M))), (b2, .inr (0, [.ref q2])), (q2, .inl (cB2, 512 * nn, .inl (cB Dk)))] s.heap := by exact hP.sub (ws' := [(o, .inr (3, [.int sc, .ref b, .ref b2, .ref uq, .ref rq, .int fc, .int qc, .int cu, .int sa, .int aw, .int cg])), (rq, .inr (2, [.ref rp, .ref rl, .int ct_, .int cl_, .int wt])), (rp, .inl (cJ, 16, .inr (.inl ps))), (rl, .inl (cI, 16, .inl lg)), (b, .inr (0, [.ref q])), (q, .inl (cB_, 65536, .inl (cB M))), (b2, .inr (0, [.ref q2])), (q2, .inl (cB2, 512 * nn, .inl (cB Dk)))]) [0, 1, 2, 3, 4, 5, 6, 7] rfl
    have hD9 : va_D A [(o, .inr (3, [.int sc, .ref b, .ref b2, .ref uq, .ref rq, .int fc, .int qc, .int cu, .int sa, .int aw, .int cg])), (rq, .inr (2, [.ref rp, .ref rl, .int ct_, .int cl_, .int wt])), (rp, .inl (cJ, 16, .inr (.inl ps))), (rl, .inl (cI, 16, .inl lg)), (b, .inr (0, [.ref q])), (q, .inl (cB_, 65536, .inl (cB M))), (b2, .inr (0, [.ref q2])), (q2, .inl (cB2, 512 * nn, .inl (cB Dk)))] := by exact hD.sub (ws' := [(o, .inr (3, [.int sc, .ref b, .ref b2, .ref uq, .ref rq, .int fc, .int qc, .int cu, .int sa, .int aw, .int cg])), (rq, .inr (2, [.ref rp, .ref rl, .int ct_, .int cl_, .int wt])), (rp, .inl (cJ, 16, .inr (.inl ps))), (rl, .inl (cI, 16, .inl lg)), (b, .inr (0, [.ref q])), (q, .inl (cB_, 65536, .inl (cB M))), (b2, .inr (0, [.ref q2])), (q2, .inl (cB2, 512 * nn, .inl (cB Dk)))]) [0, 1, 2, 3, 4, 5, 6, 7] (by decide) rfl
    have hK9 := hK.sub (tys' := [(cJ, .long), (cI, .int), (cB_, .byte), (cB2, .byte)]) [0, 1, 2, 3] rfl
    exact W.iret (v := 1) hx hb hr (fun t ht hW => ⟨⟨_, (cg, cB Dk), rfl, ⟨fun z => absurd z hnsp, fun _ => ⟨rfl, rfl, rfl⟩⟩, by rw [ht]; exact hP9, va_K.moved hW.alike hK9, hD9⟩, hS.F ht⟩) hS.2.2 dX3_writeSectors_18
