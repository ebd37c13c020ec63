set_option maxHeartbeats 4000000 in
set_option maxRecDepth 100000 in
/-- Request.endsFit -/
theorem r_endsFit (l : Launch) (dC : Nat → ClassId) (dI : Nat → Nat → Nat) (rq : Nat) (rp : Nat) (rl : Nat) (ct_ : Int32) (cl_ : Int32) (wt : Int32) (cJ : ClassId) (cI : ClassId) (ps : Nat → Int64) (lg : Nat → Int32) (L : List Blk) (hrep : repC L ps lg) (hct : ct_ = nI L.length) (hcl : cl_ = nI (cOf L).length) (hsp : L = cOf L ++ oOf L) (hle : ∀ b ∈ L, b.2.1 ≤ 65536) (hl6 : L.length ≤ 16) (hne : L ≠ []) : Met l yX2_endsFit wsX2_endsFit ({ frames := 1, cells := 0, slots := 0, locals := 40 }) (va_Pc [.ref rq] (fun U => va_P (dC, dI) vwCl [(rq, .inr (2, [.ref rp, .ref rl, .int ct_, .int cl_, .int wt])), (rp, .inl (cJ, 16, .inr (.inl ps))), (rl, .inl (cI, 16, .inl lg))] U.heap ∧ va_K (dC, dI) vwCl [(cJ, .long), (cI, .int)] U ∧ ZZ (fun _ => False) U U.heap)) (vp_Si (fun r => r = bI (endsB L = true))) 0 0 (fun _ => False) := by
  refine Met.ofW (cc := cX2_endsFit) (maxL := 1) (ret := (some .boolean)) (by decide) rfl ?_
  intro p e s m args below meth c s₁ B hml hv
  obtain ⟨rfl, hP, hK, hZ⟩ := hv
  have hx := B.exec
  have hb := B.bytes
  have hr := B.returns
  have hts := atoms_spec (ws := wsX2_endsFit) B.pre
  have hw : ∀ w ∈ WW, w.before _ s = true := fun w h => hts w (List.mem_cons_of_mem _ h)
  have hown : s.vm.findClass RX2 = some m.cls := findClass_of_methodNamed B.named
  have hlocks := B.notSynchronized
  have hl := lv_entry ([.ref rq]) (n := 1) (Nat.le_of_ble_eq_true rfl)
  rw [lg_entry_eq]
  generalize (lg_sl ([.ref rq]) ++ List.replicate (1 - (lg_sl ([.ref rq])).length) Slot.unset).toArray = ls at hl ⊢
  have hl : lv_has ls 1 [(0, .ref rq)] := hl
  have hl0 : L.length ≠ 0 := fun z => hne (List.length_eq_zero_iff.mp z)
  obtain ⟨hB, hh⟩ : ∃ b, L[0]? = some b := ⟨_, List.getElem?_eq_getElem (by omega)⟩
  obtain ⟨tB, ht9⟩ : ∃ b, L[L.length - 1]? = some b := ⟨_, List.getElem?_eq_getElem (by omega)⟩
  have hen := endsC hsp hh ht9
  have q0 := (hrep 0 hB hh).2
  have q9 := (hrep _ tB ht9).2
  have hhl := hle hB (List.mem_of_getElem? hh)
  have htl := hle tB (List.mem_of_getElem? ht9)
  have hcL := cOf_le L
  refine lv_aload_n hx hb dX2_endsFit_0 rfl (lv_at hl 0 rfl) ?_
  refine va_get (D := (dC, dI)) (ci := 2) (v := .int cl_) (C := RX2) (T := TX2) (N := 5) hx hb hw inX2 hown hK hP 0 rfl rfl 3 (by decide) (hw _ w_c0451c0cf4) (fun _ h9 => h9) rfl dX2_endsFit_1 ?_
  refine lv_if_le (tgt := 45) hx hb dX2_endsFit_4 (by decide) (fun c_1 => ?_) (fun c_1 => ?_)
  · skip
    refine lv_iconst (v := 0) hx hb dX2_endsFit_45 (by decide) ?_
    exact W.zret (v := 0) hx hb hr rfl (fun t ht hW => ⟨_, rfl, (bI_f (fun y => by have y := hen.mp y; have z := c_1; rw [hcl, le0C (by omega)] at z; omega)).symm, ht⟩) t_nil dX2_endsFit_46
  · skip
    refine lv_aload_n hx hb dX2_endsFit_7 rfl (lv_at hl 0 rfl) ?_
    refine lv_iconst (v := 0) hx hb dX2_endsFit_8 (by decide) ?_
    have hPc := hP.sub (ws' := [(rq, .inr (2, [.ref rp, .ref rl, .int ct_, .int cl_, .int wt])), (rp, .inl (cJ, 16, .inr (.inl ps))), (rl, .inl (cI, 16, .inl lg))]) [0, 1, 2] rfl
    have hKc := hK.sub (tys' := [(cJ, .long), (cI, .int)]) [0, 1] rfl
    have hZc := hZ
    refine vp_callSi (va_runV (As := [.int 0]) (rest := []) ⟨hx, hb, hml, hown, hw⟩ (r_lengthOf l dC dI rq rp rl ct_ cl_ wt cJ cI ps lg 0 0 rfl (by decide)) (cwV 1 hw (gV w_a80aaf268a w_cb6da4ecc0 w_cf853dc132 w_d27e9d3e51 w_c8d11bcee7) rfl rfl rfl (by decide +kernel) ⟨Nat.le_of_ble_eq_true rfl, Nat.le_of_ble_eq_true rfl⟩) ⟨fun a U g mk q => by obtain ⟨q0, qP, qK, qZ⟩ := q; exact ⟨q0, qP, va_K.moved (u := U) (U := U.calling g mk a) (Vm.Alike.refl U.vm) qK, ZZ.same (u := U) (U := U.calling g mk a) rfl qZ⟩, va_recv hKc hPc (ci := 2) (q0 := 0) rfl rfl, fun U hU hW => ⟨rfl, by rw [hU]; exact hPc, va_K.moved hW.alike hKc, by rw [hU]; exact ZZ.warm hW hZc⟩⟩ rfl rfl hl.1 rfl (lv_room (Nat.le_of_ble_eq_true rfl)) dX2_endsFit_9 ⟨Nat.zero_le _, Nat.zero_le _⟩).run (fun r_2 hr_2 => ?_)
    have hr_2 : r_2 = lg 0 := hr_2
    refine lv_bipush (v := 16) hx hb dX2_endsFit_12 (by decide) ?_
    refine lv_icmp_lt (tgt := 45) hx hb dX2_endsFit_14 (by decide) (fun c_3 => ?_) (fun c_3 => ?_)
    · skip
      refine lv_iconst (v := 0) hx hb dX2_endsFit_45 (by decide) ?_
      exact W.zret (v := 0) hx hb hr rfl (fun t ht hW => ⟨_, rfl, (bI_f (fun y => by have y := hen.mp y; have z := c_3; rw [hr_2, q0, lt16C (by omega)] at z; omega)).symm, ht⟩) t_nil dX2_endsFit_46
    · skip
      refine lv_aload_n hx hb dX2_endsFit_17 rfl (lv_at hl 0 rfl) ?_
      refine va_get (D := (dC, dI)) (ci := 2) (v := .int cl_) (C := RX2) (T := TX2) (N := 5) hx hb hw inX2 hown hK hP 0 rfl rfl 3 (by decide) (hw _ w_c0451c0cf4) (fun _ h9 => h9) rfl dX2_endsFit_18 ?_
      refine lv_aload_n hx hb dX2_endsFit_21 rfl (lv_at hl 0 rfl) ?_
      refine va_get (D := (dC, dI)) (ci := 2) (v := .int ct_) (C := RX2) (T := TX2) (N := 5) hx hb hw inX2 hown hK hP 0 rfl rfl 2 (by decide) (hw _ w_17cac06a59) (fun _ h9 => h9) rfl dX2_endsFit_22 ?_
      refine lv_icmp_ge (tgt := 45) hx hb dX2_endsFit_25 (by decide) (fun c_4 => ?_) (fun c_4 => ?_)
      · skip
        refine lv_iconst (v := 0) hx hb dX2_endsFit_45 (by decide) ?_
        exact W.zret (v := 0) hx hb hr rfl (fun t ht hW => ⟨_, rfl, (bI_f (fun y => by have y := hen.mp y; have z := c_4; rw [hct, hcl, nI_leI (by omega) (by omega)] at z; omega)).symm, ht⟩) t_nil dX2_endsFit_46
      · skip
        refine lv_aload_n hx hb dX2_endsFit_28 rfl (lv_at hl 0 rfl) ?_
        refine lv_aload_n hx hb dX2_endsFit_29 rfl (lv_at hl 0 rfl) ?_
        refine va_get (D := (dC, dI)) (ci := 2) (v := .int ct_) (C := RX2) (T := TX2) (N := 5) hx hb hw inX2 hown hK hP 0 rfl rfl 2 (by decide) (hw _ w_17cac06a59) (fun _ h9 => h9) rfl dX2_endsFit_30 ?_
        refine lv_iconst (v := 1) hx hb dX2_endsFit_33 (by decide) ?_
        refine lv_isub hx hb dX2_endsFit_34 ?_
        have hPc := hP.sub (ws' := [(rq, .inr (2, [.ref rp, .ref rl, .int ct_, .int cl_, .int wt])), (rp, .inl (cJ, 16, .inr (.inl ps))), (rl, .inl (cI, 16, .inl lg))]) [0, 1, 2] rfl
        have hKc := hK.sub (tys' := [(cJ, .long), (cI, .int)]) [0, 1] rfl
        have hZc := hZ
        refine vp_callSi (va_runV (As := [.int (ct_ - 1)]) (rest := []) ⟨hx, hb, hml, hown, hw⟩ (r_lengthOf l dC dI rq rp rl ct_ cl_ wt cJ cI ps lg (ct_ - 1) (L.length - 1) (by rw [hct, nI_sub1 hl0]) (by omega)) (cwV 1 hw (gV w_a80aaf268a w_cb6da4ecc0 w_cf853dc132 w_d27e9d3e51 w_c8d11bcee7) rfl rfl rfl (by decide +kernel) ⟨Nat.le_of_ble_eq_true rfl, Nat.le_of_ble_eq_true rfl⟩) ⟨fun a U g mk q => by obtain ⟨q0, qP, qK, qZ⟩ := q; exact ⟨q0, qP, va_K.moved (u := U) (U := U.calling g mk a) (Vm.Alike.refl U.vm) qK, ZZ.same (u := U) (U := U.calling g mk a) rfl qZ⟩, va_recv hKc hPc (ci := 2) (q0 := 0) rfl rfl, fun U hU hW => ⟨rfl, by rw [hU]; exact hPc, va_K.moved hW.alike hKc, by rw [hU]; exact ZZ.warm hW hZc⟩⟩ rfl rfl hl.1 rfl (lv_room (Nat.le_of_ble_eq_true rfl)) dX2_endsFit_35 ⟨Nat.zero_le _, Nat.zero_le _⟩).run (fun r_5 hr_5 => ?_)
        have hr_5 : r_5 = lg (L.length - 1) := hr_5
        refine lv_if_le (tgt := 45) hx hb dX2_endsFit_38 (by decide) (fun c_6 => ?_) (fun c_6 => ?_)
        · skip
          refine lv_iconst (v := 0) hx hb dX2_endsFit_45 (by decide) ?_
          exact W.zret (v := 0) hx hb hr rfl (fun t ht hW => ⟨_, rfl, (bI_f (fun y => by have y := hen.mp y; have z := c_6; rw [hr_5, q9, le0C (by omega)] at z; omega)).symm, ht⟩) t_nil dX2_endsFit_46
        · skip
          refine lv_iconst (v := 1) hx hb dX2_endsFit_41 (by decide) ?_
          refine lv_goto (tgt := 46) hx hb dX2_endsFit_42 (by decide) ?_
          exact W.zret (v := 1) hx hb hr rfl (fun t ht hW => ⟨_, rfl, (bI_t (hen.mpr ⟨by have z := c_1; rw [hcl, le0C (by omega)] at z; omega, by have z := c_3; rw [hr_2, q0, lt16C (by omega)] at z; omega, by have z := c_4; rw [hct, hcl, nI_leI (by omega) (by omega)] at z; omega, by have z := c_6; rw [hr_5, q9, le0C (by omega)] at z; omega⟩)).symm, ht⟩) t_nil dX2_endsFit_46
set_option maxHeartbeats 4000000 in
set_option maxRecDepth 100000 in
/-- Request.gather -/
theorem r_gather (l : Launch) (dC : Nat → ClassId) (dI : Nat → Nat → Nat) (rq : Nat) (rp : Nat) (rl : Nat) (ct_ : Int32) (cl_ : Int32) (wt : Int32) (cJ : ClassId) (cI : ClassId) (ps : Nat → Int64) (lg : Nat → Int32) (b : Nat) (q : Nat) (cB_ : ClassId) (M : Nat → Nat) (uq : Nat) (sz : Int32) (rd : Int32) (bl : Int64) (of : Int64) (an : Int64) (tk : Int32) (td : Int32) (om : Int32) (oc : Int32) (x : Int32) (n : Nat) (k0 : Nat) (zS : Nat) (hsz : sz = nI n) (hn : n ≤ 16) (hxk : x = nI k0) (hk0 : k0 < 65536) (hM : byt M) : Met l yX2_gather wsX2_gather ({ frames := 3, cells := 0, slots := 0, locals := 120 }) (va_Pc [.ref rq, .ref b, .ref uq, .int x] (fun U => U.heap.size = zS ∧ va_P (dC, dI) vwCl [(rq, .inr (2, [.ref rp, .ref rl, .int ct_, .int cl_, .int wt])), (rp, .inl (cJ, 16, .inr (.inl ps))), (rl, .inl (cI, 16, .inl lg)), (b, .inr (0, [.ref q])), (q, .inl (cB_, 65536, .inl (cB M))), (uq, .inr (1, [.int sz, .int rd, .long bl, .long of, .long an, .int tk, .int td, .int om, .int oc]))] U.heap ∧ va_K (dC, dI) vwCl [(cJ, .long), (cI, .int), (cB_, .byte)] U ∧ va_D (fun _ => True) [(rq, .inr (2, [.ref rp, .ref rl, .int ct_, .int cl_, .int wt])), (rp, .inl (cJ, 16, .inr (.inl ps))), (rl, .inl (cI, 16, .inl lg)), (b, .inr (0, [.ref q])), (q, .inl (cB_, 65536, .inl (cB M))), (uq, .inr (1, [.int sz, .int rd, .long bl, .long of, .long an, .int tk, .int td, .int om, .int oc]))] ∧ ZZ (va_A [(rq, .inr (2, [.ref rp, .ref rl, .int ct_, .int cl_, .int wt])), (rp, .inl (cJ, 16, .inr (.inl ps))), (rl, .inl (cI, 16, .inl lg)), (b, .inr (0, [.ref q])), (q, .inl (cB_, 65536, .inl (cB M))), (uq, .inr (1, [.int sz, .int rd, .long bl, .long of, .long an, .int tk, .int td, .int om, .int oc]))] zS) U U.heap)) (va_Qi (fun (r : Int32) (u : Int32 × Int32 × (Nat → Int64) × (Nat → Int32)) => match u with | (ct2, cl2, ps2, lg2) => r = bI (finB (gat M bl n n k0 false []) = true) ∧ ∀ L, gat M bl n n k0 false [] = some L → repC L ps2 lg2 ∧ ct2 = nI L.length ∧ cl2 = nI (cOf L).length) (fun (u : Int32 × Int32 × (Nat → Int64) × (Nat → Int32)) (t : State) => match u with | (ct2, cl2, ps2, lg2) => va_P (dC, dI) vwCl [(rq, .inr (2, [.ref rp, .ref rl, .int ct2, .int cl2, .int 0])), (rp, .inl (cJ, 16, .inr (.inl ps2))), (rl, .inl (cI, 16, .inl lg2)), (b, .inr (0, [.ref q])), (q, .inl (cB_, 65536, .inl (cB M))), (uq, .inr (1, [.int sz, .int rd, .long bl, .long of, .long an, .int tk, .int td, .int om, .int oc]))] t.heap ∧ va_K (dC, dI) vwCl [(cJ, .long), (cI, .int), (cB_, .byte)] t ∧ va_D (va_A [(rq, .inr (2, [.ref rp, .ref rl, .int ct_, .int cl_, .int wt])), (rp, .inl (cJ, 16, .inr (.inl ps))), (rl, .inl (cI, 16, .inl lg)), (b, .inr (0, [.ref q])), (q, .inl (cB_, 65536, .inl (cB M))), (uq, .inr (1, [.int sz, .int rd, .long bl, .long of, .long an, .int tk, .int td, .int om, .int oc]))] zS) [(rq, .inr (2, [.ref rp, .ref rl, .int ct2, .int cl2, .int 0])), (rp, .inl (cJ, 16, .inr (.inl ps2))), (rl, .inl (cI, 16, .inl lg2)), (b, .inr (0, [.ref q])), (q, .inl (cB_, 65536, .inl (cB M))), (uq, .inr (1, [.int sz, .int rd, .long bl, .long of, .long an, .int tk, .int td, .int om, .int oc]))]) (va_A [(rq, .inr (2, [.ref rp, .ref rl, .int ct_, .int cl_, .int wt])), (rp, .inl (cJ, 16, .inr (.inl ps))), (rl, .inl (cI, 16, .inl lg)), (b, .inr (0, [.ref q])), (q, .inl (cB_, 65536, .inl (cB M))), (uq, .inr (1, [.int sz, .int rd, .long bl, .long of, .long an, .int tk, .int td, .int om, .int oc]))] zS)) 0 0 (va_A [(rq, .inr (2, [.ref rp, .ref rl, .int ct_, .int cl_, .int wt])), (rp, .inl (cJ, 16, .inr (.inl ps))), (rl, .inl (cI, 16, .inl lg)), (b, .inr (0, [.ref q])), (q, .inl (cB_, 65536, .inl (cB M))), (uq, .inr (1, [.int sz, .int rd, .long bl, .long of, .long an, .int tk, .int td, .int om, .int oc]))] zS) := by
  refine Met.ofW (cc := cX2_gather) (maxL := 14) (ret := (some .boolean)) (by decide) rfl ?_
  intro p e s m args below meth c s₁ B hml hv
  obtain ⟨rfl, hsz, hP, hK, hD0, hZ⟩ := hv
  have hx := B.exec
  have hb := B.bytes
  have hr := B.returns
  have hts := atoms_spec (ws := wsX2_gather) B.pre
  have hw : ∀ w ∈ WW, w.before _ s = true := fun w h => hts w (List.mem_cons_of_mem _ h)
  have hown : s.vm.findClass RX2 = some m.cls := findClass_of_methodNamed B.named
  have hlocks := B.notSynchronized
  subst hsz
  have hD := hD0.self (sz := s.heap.size)
  generalize hAe : va_A [(rq, .inr (2, [.ref rp, .ref rl, .int ct_, .int cl_, .int wt])), (rp, .inl (cJ, 16, .inr (.inl ps))), (rl, .inl (cI, 16, .inl lg)), (b, .inr (0, [.ref q])), (q, .inl (cB_, 65536, .inl (cB M))), (uq, .inr (1, [.int sz, .int rd, .long bl, .long of, .long an, .int tk, .int td, .int om, .int oc]))] s.heap.size = A at hD hZ ⊢
  have hA : ∀ q : Nat, s.heap.size ≤ q → A q := fun q h => by rw [← hAe]; exact Or.inr h
  have hS : va_S A s.heap s.heap [] := va_S.rf
  have hP : va_P (dC, dI) vwCl [(rq, .inr (2, [.ref rp, .ref rl, .int ct_, .int cl_, .int wt])), (rp, .inl (cJ, 16, .inr (.inl ps))), (rl, .inl (cI, 16, .inl lg)), (b, .inr (0, [.ref q])), (q, .inl (cB_, 65536, .inl (cB M))), (uq, .inr (1, [.int sz, .int rd, .long bl, .long of, .long an, .int tk, .int td, .int om, .int oc]))] s.heap := hP
  have hl := lv_entry ([.ref rq, .ref b, .ref uq, .int x]) (n := 14) (Nat.le_of_ble_eq_true rfl)
  rw [lg_entry_eq]
  generalize (lg_sl ([.ref rq, .ref b, .ref uq, .int x]) ++ List.replicate (14 - (lg_sl ([.ref rq, .ref b, .ref uq, .int x])).length) Slot.unset).toArray = ls at hl ⊢
  have hl : lv_has ls 14 [(0, .ref rq), (1, .ref b), (2, .ref uq), (3, .int x)] := hl
  refine lv_aload_n hx hb dX2_gather_0 rfl (lv_at hl 0 rfl) ?_
  refine lv_iconst (v := 0) hx hb dX2_gather_1 (by decide) ?_
  refine va_put (D := (dC, dI)) (ci := 2) (v := .int 0) (ty := .int) (C := RX2) (T := TX2) (N := 5) hx hb hw inX2 tyX2 tyX2_ok nmX2 hown hK hP hD hS 0 rfl rfl 2 (by decide) (hw _ w_17cac06a59) (fun _ h9 => h9) rfl (by decide +kernel) rfl rfl (Nat.le_of_ble_eq_true rfl) dX2_gather_2 (fun H locs hP hD hS => ?_)
  have hP : va_P (dC, dI) vwCl [(rq, .inr (2, [.ref rp, .ref rl, .int 0, .int cl_, .int wt])), (rp, .inl (cJ, 16, .inr (.inl ps))), (rl, .inl (cI, 16, .inl lg)), (b, .inr (0, [.ref q])), (q, .inl (cB_, 65536, .inl (cB M))), (uq, .inr (1, [.int sz, .int rd, .long bl, .long of, .long an, .int tk, .int td, .int om, .int oc]))] H := hP
  have hD : va_D A [(rq, .inr (2, [.ref rp, .ref rl, .int 0, .int cl_, .int wt])), (rp, .inl (cJ, 16, .inr (.inl ps))), (rl, .inl (cI, 16, .inl lg)), (b, .inr (0, [.ref q])), (q, .inl (cB_, 65536, .inl (cB M))), (uq, .inr (1, [.int sz, .int rd, .long bl, .long of, .long an, .int tk, .int td, .int om, .int oc]))] := hD
  refine lv_aload_n hx hb dX2_gather_5 rfl (lv_at hl 0 rfl) ?_
  refine lv_iconst (v := 0) hx hb dX2_gather_6 (by decide) ?_
  refine va_put (D := (dC, dI)) (ci := 2) (v := .int 0) (ty := .int) (C := RX2) (T := TX2) (N := 5) hx hb hw inX2 tyX2 tyX2_ok nmX2 hown hK hP hD hS 0 rfl rfl 3 (by decide) (hw _ w_c0451c0cf4) (fun _ h9 => h9) rfl (by decide +kernel) rfl rfl (Nat.le_of_ble_eq_true rfl) dX2_gather_7 (fun H locs hP hD hS => ?_)
  have hP : va_P (dC, dI) vwCl [(rq, .inr (2, [.ref rp, .ref rl, .int 0, .int 0, .int wt])), (rp, .inl (cJ, 16, .inr (.inl ps))), (rl, .inl (cI, 16, .inl lg)), (b, .inr (0, [.ref q])), (q, .inl (cB_, 65536, .inl (cB M))), (uq, .inr (1, [.int sz, .int rd, .long bl, .long of, .long an, .int tk, .int td, .int om, .int oc]))] H := hP
  have hD : va_D A [(rq, .inr (2, [.ref rp, .ref rl, .int 0, .int 0, .int wt])), (rp, .inl (cJ, 16, .inr (.inl ps))), (rl, .inl (cI, 16, .inl lg)), (b, .inr (0, [.ref q])), (q, .inl (cB_, 65536, .inl (cB M))), (uq, .inr (1, [.int sz, .int rd, .long bl, .long of, .long an, .int tk, .int td, .int om, .int oc]))] := hD
  refine lv_aload_n hx hb dX2_gather_10 rfl (lv_at hl 0 rfl) ?_
  refine lv_iconst (v := 0) hx hb dX2_gather_11 (by decide) ?_
  refine va_put (D := (dC, dI)) (ci := 2) (v := .int 0) (ty := .int) (C := RX2) (T := TX2) (N := 5) hx hb hw inX2 tyX2 tyX2_ok nmX2 hown hK hP hD hS 0 rfl rfl 4 (by decide) (hw _ w_448b866679) (fun _ h9 => h9) rfl (by decide +kernel) rfl rfl (Nat.le_of_ble_eq_true rfl) dX2_gather_12 (fun H locs hP hD hS => ?_)
  have hP : va_P (dC, dI) vwCl [(rq, .inr (2, [.ref rp, .ref rl, .int 0, .int 0, .int 0])), (rp, .inl (cJ, 16, .inr (.inl ps))), (rl, .inl (cI, 16, .inl lg)), (b, .inr (0, [.ref q])), (q, .inl (cB_, 65536, .inl (cB M))), (uq, .inr (1, [.int sz, .int rd, .long bl, .long of, .long an, .int tk, .int td, .int om, .int oc]))] H := hP
  have hD : va_D A [(rq, .inr (2, [.ref rp, .ref rl, .int 0, .int 0, .int 0])), (rp, .inl (cJ, 16, .inr (.inl ps))), (rl, .inl (cI, 16, .inl lg)), (b, .inr (0, [.ref q])), (q, .inl (cB_, 65536, .inl (cB M))), (uq, .inr (1, [.int sz, .int rd, .long bl, .long of, .long an, .int tk, .int td, .int om, .int oc]))] := hD
  refine lv_iload_n hx hb dX2_gather_15 rfl (lv_at hl 3 rfl) ?_
  refine lv_istore (lv' := [(4, .int x), (0, .ref rq), (1, .ref b), (2, .ref uq), (3, .int x)]) hx hb dX2_gather_16 hl (by decide) rfl (fun ls hl => ?_)
  refine lv_iconst (v := 1) hx hb dX2_gather_18 (by decide) ?_
  refine lv_istore (lv' := [(5, .int 1), (4, .int x), (0, .ref rq), (1, .ref b), (2, .ref uq), (3, .int x)]) hx hb dX2_gather_19 hl (by decide) rfl (fun ls hl => ?_)
  refine lv_iconst (v := 0) hx hb dX2_gather_21 (by decide) ?_
  refine lv_istore (lv' := [(6, .int 0), (5, .int 1), (4, .int x), (0, .ref rq), (1, .ref b), (2, .ref uq), (3, .int x)]) hx hb dX2_gather_22 hl (by decide) rfl (fun ls hl => ?_)
  have loop : ∀ (N : Nat) (f : Nat) (k : Nat) (po : Bool) (acc : List Blk) (mo : Int32) (y : Int32) (kx : Int32) (ct3 : Int32) (cl3 : Int32) (ps3 : Nat → Int64) (lg3 : Nat → Int32) (hN : (mo = 1 → f + 1 < N) ∧ 0 < N) (hmo : (mo = 1 ∧ y = nI k ∧ k < 65536 ∧ acc.length + f = n ∧ gat M bl n f k po acc = gat M bl n n k0 false []) ∨ (mo = 0 ∧ acc ≠ [] ∧ gat M bl n n k0 false [] = some acc)) (hqp : repC acc ps3 lg3) (hct3 : ct3 = nI acc.length) (hcl3 : cl3 = nI (cOf acc).length) (hkx : kx = nI acc.length) (hpo : po = decide ((cOf acc).length < acc.length)) (hal : acc.length ≤ n) (H : Heap) (locs : List Loc) (hP : va_P (dC, dI) vwCl [(rq, .inr (2, [.ref rp, .ref rl, .int ct3, .int cl3, .int 0])), (rp, .inl (cJ, 16, .inr (.inl ps3))), (rl, .inl (cI, 16, .inl lg3)), (b, .inr (0, [.ref q])), (q, .inl (cB_, 65536, .inl (cB M))), (uq, .inr (1, [.int sz, .int rd, .long bl, .long of, .long an, .int tk, .int td, .int om, .int oc]))] H) (hD : va_D A [(rq, .inr (2, [.ref rp, .ref rl, .int ct3, .int cl3, .int 0])), (rp, .inl (cJ, 16, .inr (.inl ps3))), (rl, .inl (cI, 16, .inl lg3)), (b, .inr (0, [.ref q])), (q, .inl (cB_, 65536, .inl (cB M))), (uq, .inr (1, [.int sz, .int rd, .long bl, .long of, .long an, .int tk, .int td, .int om, .int oc]))]) (hS : va_S A s.heap H locs) (ls : Array Slot) (hl : lv_has ls 14 [(6, .int kx), (5, .int mo), (4, .int y), (0, .ref rq), (1, .ref b), (2, .ref uq), (3, .int x)]), W p l e (headSpec wsX2_gather ({ frames := 3, cells := 0, slots := 0, locals := 120 })).room s m [.ref rq, .ref b, .ref uq, .int x].toArray below meth c H locs 0 0 (MQ below (va_Qi (fun (r : Int32) (u : Int32 × Int32 × (Nat → Int64) × (Nat → Int32)) => match u with | (ct2, cl2, ps2, lg2) => r = bI (finB (gat M bl n n k0 false []) = true) ∧ ∀ L, gat M bl n n k0 false [] = some L → repC L ps2 lg2 ∧ ct2 = nI L.length ∧ cl2 = nI (cOf L).length) (fun (u : Int32 × Int32 × (Nat → Int64) × (Nat → Int32)) (t : State) => match u with | (ct2, cl2, ps2, lg2) => va_P (dC, dI) vwCl [(rq, .inr (2, [.ref rp, .ref rl, .int ct2, .int cl2, .int 0])), (rp, .inl (cJ, 16, .inr (.inl ps2))), (rl, .inl (cI, 16, .inl lg2)), (b, .inr (0, [.ref q])), (q, .inl (cB_, 65536, .inl (cB M))), (uq, .inr (1, [.int sz, .int rd, .long bl, .long of, .long an, .int tk, .int td, .int om, .int oc]))] t.heap ∧ va_K (dC, dI) vwCl [(cJ, .long), (cI, .int), (cB_, .byte)] t ∧ va_D A [(rq, .inr (2, [.ref rp, .ref rl, .int ct2, .int cl2, .int 0])), (rp, .inl (cJ, 16, .inr (.inl ps2))), (rl, .inl (cI, 16, .inl lg2)), (b, .inr (0, [.ref q])), (q, .inl (cB_, 65536, .inl (cB M))), (uq, .inr (1, [.int sz, .int rd, .long bl, .long of, .long an, .int tk, .int td, .int om, .int oc]))]) A) [.ref rq, .ref b, .ref uq, .int x].toArray s 0 0 A) (F0 m 24 ls []) := by
    intro N
    induction N with
    | zero => intro f k po acc mo y kx ct3 cl3 ps3 lg3 hN hmo hqp hct3 hcl3 hkx hpo hal H locs hP hD hS ls hl; exact absurd hN.2 (Nat.lt_irrefl 0)
    | succ N ih =>
      intro f k po acc mo y kx ct3 cl3 ps3 lg3 hN hmo hqp hct3 hcl3 hkx hpo hal H locs hP hD hS ls hl
      refine lv_iload hx hb dX2_gather_24 (lv_at hl 1 rfl) ?_
      refine lv_if_eq (tgt := 160) hx hb dX2_gather_26 (by decide) (fun c_1 => ?_) (fun c_1 => ?_)
      · skip
        obtain ⟨hne, hres⟩ : acc ≠ [] ∧ gat M bl n n k0 false [] = some acc := by
          rcases hmo with q | q
          · rw [c_1] at q; exact absurd q.1 (by decide)
          · exact q.2
        have hsp := gat_sp hM hn hres
        refine lv_iload hx hb dX2_gather_160 (lv_at hl 1 rfl) ?_
        refine lv_if_ne (tgt := 176) hx hb dX2_gather_162 (by decide) (fun c_2 => ?_) (fun c_2 => ?_)
        · skip
          exact absurd c_1 c_2
        · skip
          refine lv_aload_n hx hb dX2_gather_165 rfl (lv_at hl 3 rfl) ?_
          have hPc := hP.sub (ws' := [(rq, .inr (2, [.ref rp, .ref rl, .int ct3, .int cl3, .int 0])), (rp, .inl (cJ, 16, .inr (.inl ps3))), (rl, .inl (cI, 16, .inl lg3))]) [0, 1, 2] rfl
          have hKc := hK.sub (tys' := [(cJ, .long), (cI, .int)]) [0, 1] rfl
          have hZc := (hZ.kept hS.2.1).narrow (B := fun _ => False) (fun _ h => h.elim)
          refine vp_callSi (va_runV (As := []) (rest := []) ⟨hx, hb, hml, hown, hw⟩ (r_endsFit l dC dI rq rp rl ct3 cl3 0 cJ cI ps3 lg3 acc hqp hct3 hcl3 hsp.1 hsp.2.1 hsp.2.2 hne) (cwV 0 hw (gV w_43a8c5f9dd w_2d04497e7d w_3576b41ee9 w_d27e9d3e51 w_c69a552ed9) rfl rfl rfl (by decide +kernel) ⟨Nat.le_of_ble_eq_true rfl, Nat.le_of_ble_eq_true rfl⟩) ⟨fun a U g mk q => by obtain ⟨q0, qP, qK, qZ⟩ := q; exact ⟨q0, qP, va_K.moved (u := U) (U := U.calling g mk a) (Vm.Alike.refl U.vm) qK, ZZ.same (u := U) (U := U.calling g mk a) rfl qZ⟩, va_recv hKc hPc (ci := 2) (q0 := 0) rfl rfl, fun U hU hW => ⟨rfl, by rw [hU]; exact hPc, va_K.moved hW.alike hKc, by rw [hU]; exact ZZ.warm hW hZc⟩⟩ rfl rfl hl.1 rfl (lv_room (Nat.le_of_ble_eq_true rfl)) dX2_gather_166 ⟨Nat.zero_le _, Nat.zero_le _⟩).run (fun r_3 hr_3 => ?_)
          have hr_3 : r_3 = bI (endsB acc = true) := hr_3
          refine lv_if_eq (tgt := 176) hx hb dX2_gather_169 (by decide) (fun c_4 => ?_) (fun c_4 => ?_)
          · skip
            have b_5 : ¬ (endsB acc = true) := bI_0 (by rw [← hr_3]; exact c_4)
            refine lv_iconst (v := 0) hx hb dX2_gather_176 (by decide) ?_
            have hP9 : va_P (dC, dI) vwCl [(rq, .inr (2, [.ref rp, .ref rl, .int ct3, .int cl3, .int 0])), (rp, .inl (cJ, 16, .inr (.inl ps3))), (rl, .inl (cI, 16, .inl lg3)), (b, .inr (0, [.ref q])), (q, .inl (cB_, 65536, .inl (cB M))), (uq, .inr (1, [.int sz, .int rd, .long bl, .long of, .long an, .int tk, .int td, .int om, .int oc]))] H := by exact hP.sub (ws' := [(rq, .inr (2, [.ref rp, .ref rl, .int ct3, .int cl3, .int 0])), (rp, .inl (cJ, 16, .inr (.inl ps3))), (rl, .inl (cI, 16, .inl lg3)), (b, .inr (0, [.ref q])), (q, .inl (cB_, 65536, .inl (cB M))), (uq, .inr (1, [.int sz, .int rd, .long bl, .long of, .long an, .int tk, .int td, .int om, .int oc]))]) [0, 1, 2, 3, 4, 5] rfl
            have hD9 : va_D A [(rq, .inr (2, [.ref rp, .ref rl, .int ct3, .int cl3, .int 0])), (rp, .inl (cJ, 16, .inr (.inl ps3))), (rl, .inl (cI, 16, .inl lg3)), (b, .inr (0, [.ref q])), (q, .inl (cB_, 65536, .inl (cB M))), (uq, .inr (1, [.int sz, .int rd, .long bl, .long of, .long an, .int tk, .int td, .int om, .int oc]))] := by exact hD.sub (ws' := [(rq, .inr (2, [.ref rp, .ref rl, .int ct3, .int cl3, .int 0])), (rp, .inl (cJ, 16, .inr (.inl ps3))), (rl, .inl (cI, 16, .inl lg3)), (b, .inr (0, [.ref q])), (q, .inl (cB_, 65536, .inl (cB M))), (uq, .inr (1, [.int sz, .int rd, .long bl, .long of, .long an, .int tk, .int td, .int om, .int oc]))]) [0, 1, 2, 3, 4, 5] (by decide) rfl
            have hK9 := hK.sub (tys' := [(cJ, .long), (cI, .int), (cB_, .byte)]) [0, 1, 2] rfl
            exact W.zret (v := 0) hx hb hr rfl (fun t ht hW => ⟨⟨_, (ct3, cl3, ps3, lg3), rfl, ⟨by rw [hres]; exact (bI_f b_5).symm, fun L z => by rw [hres] at z; cases z; exact ⟨hqp, hct3, hcl3⟩⟩, by rw [ht]; exact hP9, va_K.moved hW.alike hK9, hD9⟩, hS.F ht⟩) hS.2.2 dX2_gather_177
          · skip
            have b_6 : (endsB acc = true) := bI_1 (by rw [← hr_3]; exact c_4)
            refine lv_iconst (v := 1) hx hb dX2_gather_172 (by decide) ?_
            refine lv_goto (tgt := 177) hx hb dX2_gather_173 (by decide) ?_
            have hP9 : va_P (dC, dI) vwCl [(rq, .inr (2, [.ref rp, .ref rl, .int ct3, .int cl3, .int 0])), (rp, .inl (cJ, 16, .inr (.inl ps3))), (rl, .inl (cI, 16, .inl lg3)), (b, .inr (0, [.ref q])), (q, .inl (cB_, 65536, .inl (cB M))), (uq, .inr (1, [.int sz, .int rd, .long bl, .long of, .long an, .int tk, .int td, .int om, .int oc]))] H := by exact hP.sub (ws' := [(rq, .inr (2, [.ref rp, .ref rl, .int ct3, .int cl3, .int 0])), (rp, .inl (cJ, 16, .inr (.inl ps3))), (rl, .inl (cI, 16, .inl lg3)), (b, .inr (0, [.ref q])), (q, .inl (cB_, 65536, .inl (cB M))), (uq, .inr (1, [.int sz, .int rd, .long bl, .long of, .long an, .int tk, .int td, .int om, .int oc]))]) [0, 1, 2, 3, 4, 5] rfl
            have hD9 : va_D A [(rq, .inr (2, [.ref rp, .ref rl, .int ct3, .int cl3, .int 0])), (rp, .inl (cJ, 16, .inr (.inl ps3))), (rl, .inl (cI, 16, .inl lg3)), (b, .inr (0, [.ref q])), (q, .inl (cB_, 65536, .inl (cB M))), (uq, .inr (1, [.int sz, .int rd, .long bl, .long of, .long an, .int tk, .int td, .int om, .int oc]))] := by exact hD.sub (ws' := [(rq, .inr (2, [.ref rp, .ref rl, .int ct3, .int cl3, .int 0])), (rp, .inl (cJ, 16, .inr (.inl ps3))), (rl, .inl (cI, 16, .inl lg3)), (b, .inr (0, [.ref q])), (q, .inl (cB_, 65536, .inl (cB M))), (uq, .inr (1, [.int sz, .int rd, .long bl, .long of, .long an, .int tk, .int td, .int om, .int oc]))]) [0, 1, 2, 3, 4, 5] (by decide) rfl
            have hK9 := hK.sub (tys' := [(cJ, .long), (cI, .int), (cB_, .byte)]) [0, 1, 2] rfl
            exact W.zret (v := 1) hx hb hr rfl (fun t ht hW => ⟨⟨_, (ct3, cl3, ps3, lg3), rfl, ⟨by rw [hres]; exact (bI_t b_6).symm, fun L z => by rw [hres] at z; cases z; exact ⟨hqp, hct3, hcl3⟩⟩, by rw [ht]; exact hP9, va_K.moved hW.alike hK9, hD9⟩, hS.F ht⟩) hS.2.2 dX2_gather_177
      · skip
        obtain ⟨hm1, ey, hk5, hlf, hs⟩ := hmo.resolve_right (fun q => c_1 q.1)
        refine lv_iload hx hb dX2_gather_29 (lv_at hl 0 rfl) ?_
        refine lv_aload_n hx hb dX2_gather_31 rfl (lv_at hl 5 rfl) ?_
        refine va_getN (D := (dC, dI)) (ci := 1) (v := .int sz) (C := RX1) (T := TX1) (N := 9) hx hb hw inX1 hown hK hP 5 rfl rfl 0 (by decide) ((hZ.1 _ (List.mem_of_getElem? (i := 1) rfl)).use rfl) (fun _ h9 => h9) rfl dX2_gather_32 ?_
        refine lv_icmp_ge (tgt := 160) hx hb dX2_gather_35 (by decide) (fun c_7 => ?_) (fun c_7 => ?_)
        · skip
          have hf0 : f = 0 := by rw [hkx, hsz, nI_leI (by omega) (by omega)] at c_7; omega
          have hnone : gat M bl n n k0 false [] = none := by rw [← hs, hf0]; rfl
          refine lv_iload hx hb dX2_gather_160 (lv_at hl 1 rfl) ?_
          refine lv_if_ne (tgt := 176) hx hb dX2_gather_162 (by decide) (fun c_8 => ?_) (fun c_8 => ?_)
          · skip
            refine lv_iconst (v := 0) hx hb dX2_gather_176 (by decide) ?_
            have hP9 : va_P (dC, dI) vwCl [(rq, .inr (2, [.ref rp, .ref rl, .int ct3, .int cl3, .int 0])), (rp, .inl (cJ, 16, .inr (.inl ps3))), (rl, .inl (cI, 16, .inl lg3)), (b, .inr (0, [.ref q])), (q, .inl (cB_, 65536, .inl (cB M))), (uq, .inr (1, [.int sz, .int rd, .long bl, .long of, .long an, .int tk, .int td, .int om, .int oc]))] H := by exact hP.sub (ws' := [(rq, .inr (2, [.ref rp, .ref rl, .int ct3, .int cl3, .int 0])), (rp, .inl (cJ, 16, .inr (.inl ps3))), (rl, .inl (cI, 16, .inl lg3)), (b, .inr (0, [.ref q])), (q, .inl (cB_, 65536, .inl (cB M))), (uq, .inr (1, [.int sz, .int rd, .long bl, .long of, .long an, .int tk, .int td, .int om, .int oc]))]) [0, 1, 2, 3, 4, 5] rfl
            have hD9 : va_D A [(rq, .inr (2, [.ref rp, .ref rl, .int ct3, .int cl3, .int 0])), (rp, .inl (cJ, 16, .inr (.inl ps3))), (rl, .inl (cI, 16, .inl lg3)), (b, .inr (0, [.ref q])), (q, .inl (cB_, 65536, .inl (cB M))), (uq, .inr (1, [.int sz, .int rd, .long bl, .long of, .long an, .int tk, .int td, .int om, .int oc]))] := by exact hD.sub (ws' := [(rq, .inr (2, [.ref rp, .ref rl, .int ct3, .int cl3, .int 0])), (rp, .inl (cJ, 16, .inr (.inl ps3))), (rl, .inl (cI, 16, .inl lg3)), (b, .inr (0, [.ref q])), (q, .inl (cB_, 65536, .inl (cB M))), (uq, .inr (1, [.int sz, .int rd, .long bl, .long of, .long an, .int tk, .int td, .int om, .int oc]))]) [0, 1, 2, 3, 4, 5] (by decide) rfl
            have hK9 := hK.sub (tys' := [(cJ, .long), (cI, .int), (cB_, .byte)]) [0, 1, 2] rfl
            exact W.zret (v := 0) hx hb hr rfl (fun t ht hW => ⟨⟨_, (ct3, cl3, ps3, lg3), rfl, ⟨by rw [hnone]; exact (bI_f finB_n).symm, fun L z => by rw [hnone] at z; cases z⟩, by rw [ht]; exact hP9, va_K.moved hW.alike hK9, hD9⟩, hS.F ht⟩) hS.2.2 dX2_gather_177
          · skip
            exact absurd c_8 c_1
        · skip
          obtain ⟨f, rfl⟩ : ∃ g, f = g + 1 := ⟨f - 1, by rw [hkx, hsz, nI_leI (by omega) (by omega)] at c_7; omega⟩
          refine lv_aload_n hx hb dX2_gather_38 rfl (lv_at hl 5 rfl) ?_
          refine lv_iload hx hb dX2_gather_39 (lv_at hl 2 rfl) ?_
          have hPc := hP.sub (ws' := [(uq, .inr (1, [.int sz, .int rd, .long bl, .long of, .long an, .int tk, .int td, .int om, .int oc]))]) [5] rfl
          have hKc := hK.sub (tys' := []) [] rfl
          have hZc := (hZ.kept hS.2.1).narrow (B := fun _ => False) (fun _ h => h.elim)
          refine vp_callSl (va_runV (As := [.int y]) (rest := []) ⟨hx, hb, hml, hown, hw⟩ (q_blockPlace l dC dI uq sz rd bl of an tk td om oc y k ey (by omega)) (cwV 1 hw (gV w_0cb48753d4 w_006c891f54 w_b033d43b0a w_cf66e99dd3 w_94ba400bed) rfl rfl rfl (by decide +kernel) ⟨Nat.le_of_ble_eq_true rfl, Nat.le_of_ble_eq_true rfl⟩) ⟨fun a U g mk q => by obtain ⟨q0, qP, qK, qZ⟩ := q; exact ⟨q0, qP, va_K.moved (u := U) (U := U.calling g mk a) (Vm.Alike.refl U.vm) qK, ZZ.same (u := U) (U := U.calling g mk a) rfl qZ⟩, va_recv hKc hPc (ci := 1) (q0 := 0) rfl rfl, fun U hU hW => ⟨rfl, by rw [hU]; exact hPc, va_K.moved hW.alike hKc, by rw [hU]; exact ZZ.warm hW hZc⟩⟩ rfl rfl hl.1 rfl (lv_room (Nat.le_of_ble_eq_true rfl)) dX2_gather_41 ⟨Nat.zero_le _, Nat.zero_le _⟩).run (fun r_9 hr_9 => ?_)
          have hr_9 : r_9 = blA bl k - 2147483648 := hr_9
          refine lv_lstore (lv' := [(7, .long r_9), (6, .int kx), (5, .int mo), (4, .int y), (0, .ref rq), (1, .ref b), (2, .ref uq), (3, .int x)]) hx hb dX2_gather_44 hl (by decide) rfl (fun ls hl => ?_)
          refine lv_iload hx hb dX2_gather_46 (lv_at hl 3 rfl) ?_
          refine lv_aload_n hx hb dX2_gather_48 rfl (lv_at hl 6 rfl) ?_
          refine va_getN (D := (dC, dI)) (ci := 1) (v := .int sz) (C := RX1) (T := TX1) (N := 9) hx hb hw inX1 hown hK hP 5 rfl rfl 0 (by decide) ((hZ.1 _ (List.mem_of_getElem? (i := 1) rfl)).use rfl) (fun _ h9 => h9) rfl dX2_gather_49 ?_
          refine lv_icmp_ge (tgt := 67) hx hb dX2_gather_52 (by decide) (fun c_10 => ?_) (fun c_10 => ?_)
          · skip
            have hkn : ¬ k < n := by rw [ey, hsz, nI_leI (by omega) (by omega)] at c_10; omega
            have hnone : gat M bl n n k0 false [] = none := by rw [← hs, gat, if_neg (fun z => hkn z.1)]
            refine lv_iconst (v := 0) hx hb dX2_gather_67 (by decide) ?_
            have hP9 : va_P (dC, dI) vwCl [(rq, .inr (2, [.ref rp, .ref rl, .int ct3, .int cl3, .int 0])), (rp, .inl (cJ, 16, .inr (.inl ps3))), (rl, .inl (cI, 16, .inl lg3)), (b, .inr (0, [.ref q])), (q, .inl (cB_, 65536, .inl (cB M))), (uq, .inr (1, [.int sz, .int rd, .long bl, .long of, .long an, .int tk, .int td, .int om, .int oc]))] H := by exact hP.sub (ws' := [(rq, .inr (2, [.ref rp, .ref rl, .int ct3, .int cl3, .int 0])), (rp, .inl (cJ, 16, .inr (.inl ps3))), (rl, .inl (cI, 16, .inl lg3)), (b, .inr (0, [.ref q])), (q, .inl (cB_, 65536, .inl (cB M))), (uq, .inr (1, [.int sz, .int rd, .long bl, .long of, .long an, .int tk, .int td, .int om, .int oc]))]) [0, 1, 2, 3, 4, 5] rfl
            have hD9 : va_D A [(rq, .inr (2, [.ref rp, .ref rl, .int ct3, .int cl3, .int 0])), (rp, .inl (cJ, 16, .inr (.inl ps3))), (rl, .inl (cI, 16, .inl lg3)), (b, .inr (0, [.ref q])), (q, .inl (cB_, 65536, .inl (cB M))), (uq, .inr (1, [.int sz, .int rd, .long bl, .long of, .long an, .int tk, .int td, .int om, .int oc]))] := by exact hD.sub (ws' := [(rq, .inr (2, [.ref rp, .ref rl, .int ct3, .int cl3, .int 0])), (rp, .inl (cJ, 16, .inr (.inl ps3))), (rl, .inl (cI, 16, .inl lg3)), (b, .inr (0, [.ref q])), (q, .inl (cB_, 65536, .inl (cB M))), (uq, .inr (1, [.int sz, .int rd, .long bl, .long of, .long an, .int tk, .int td, .int om, .int oc]))]) [0, 1, 2, 3, 4, 5] (by decide) rfl
            have hK9 := hK.sub (tys' := [(cJ, .long), (cI, .int), (cB_, .byte)]) [0, 1, 2] rfl
            exact W.zret (v := 0) hx hb hr rfl (fun t ht hW => ⟨⟨_, (ct3, cl3, ps3, lg3), rfl, ⟨by rw [hnone]; exact (bI_f finB_n).symm, fun L z => by rw [hnone] at z; cases z⟩, by rw [ht]; exact hP9, va_K.moved hW.alike hK9, hD9⟩, hS.F ht⟩) hS.2.2 dX2_gather_68
          · skip
            have hkn : k < n := by rw [ey, hsz, nI_leI (by omega) (by omega)] at c_10; omega
            refine lv_aload_n hx hb dX2_gather_55 rfl (lv_at hl 5 rfl) ?_
            refine lv_lload hx hb dX2_gather_56 (lv_at hl 0 rfl) ?_
            refine lv_ldc2 (v := 16) hx hb hown (hw _ w_2f794dec7f) dX2_gather_58 ?_
            have hPc := hP.sub (ws' := [(b, .inr (0, [.ref q])), (q, .inl (cB_, 65536, .inl (cB M)))]) [3, 4] rfl
            have hKc := hK.sub (tys' := [(cB_, .byte)]) [2] rfl
            have hZc := (hZ.kept hS.2.1).narrow (B := fun _ => False) (fun _ h => h.elim)
            refine vp_callSi (va_runV (As := [.long r_9, .long 16]) (rest := []) ⟨hx, hb, hml, hown, hw⟩ (c_holds l dC dI b q cB_ 65536 (cB M) r_9 16 (by decide)) (cwV 2 hw (gV w_8e7575e911 w_bd9bccf83c w_88968f97c9 w_82b0ef516c w_0dba9a2727) rfl rfl rfl (by decide +kernel) ⟨Nat.le_of_ble_eq_true rfl, Nat.le_of_ble_eq_true rfl⟩) ⟨fun a U g mk q => by obtain ⟨q0, qP, qK, qZ⟩ := q; exact ⟨q0, qP, va_K.moved (u := U) (U := U.calling g mk a) (Vm.Alike.refl U.vm) qK, ZZ.same (u := U) (U := U.calling g mk a) rfl qZ⟩, va_recv hKc hPc (ci := 0) (q0 := 0) rfl rfl, fun U hU hW => ⟨rfl, by rw [hU]; exact hPc, va_K.moved hW.alike hKc, by rw [hU]; exact ZZ.warm hW hZc⟩⟩ rfl rfl hl.1 rfl (lv_room (Nat.le_of_ble_eq_true rfl)) dX2_gather_61 ⟨Nat.zero_le _, Nat.zero_le _⟩).run (fun r_11 hr_11 => ?_)
            have hr_11 : r_11 = bI (hoP 65536 r_9 16) := hr_11
            refine lv_if_ne (tgt := 69) hx hb dX2_gather_64 (by decide) (fun c_12 => ?_) (fun c_12 => ?_)
            · skip
              have b_13 : (hoP 65536 r_9 16) := bI_1 (by rw [← hr_11]; exact c_12)
              have hth : thP (blA bl k) (lN 16) := (ho_th (by decide) (by decide)).mp (by rw [← hr_9]; exact b_13)
              have ho0 := off_0 hth (by decide) (by decide)
              have ho8 := off_plus hth (show 8 < 16 by decide) (by decide)
              have ho12 := off_plus hth (show 12 < 16 by decide) (by decide)
              have ho14 := off_plus hth (show 14 < 16 by decide) (by decide)
              refine lv_aload_n hx hb dX2_gather_69 rfl (lv_at hl 5 rfl) ?_
              refine lv_lload hx hb dX2_gather_70 (lv_at hl 0 rfl) ?_
              refine lv_ldc2 (v := 12) hx hb hown (hw _ w_5ee6243702) dX2_gather_72 ?_
              refine lv_ladd hx hb dX2_gather_75 ?_
              refine lv_iconst (v := 2) hx hb dX2_gather_76 (by decide) ?_
              have hPc := hP.sub (ws' := [(b, .inr (0, [.ref q])), (q, .inl (cB_, 65536, .inl (cB M)))]) [3, 4] rfl
              have hKc := hK.sub (tys' := [(cB_, .byte)]) [2] rfl
              have hZc := (hZ.kept hS.2.1).narrow (B := fun _ => False) (fun _ h => h.elim)
              refine vp_callSl (va_runV (As := [.long (r_9 + 12), .int 2]) (rest := []) ⟨hx, hb, hml, hown, hw⟩ (c_number l dC dI b q cB_ 65536 M (r_9 + 12) 2 2 (off (blA bl k) + 12) (by decide) rfl (by decide) (by rw [hr_9, sh2]; exact ho12.1) (by have := ho0.2; omega) hM) (cwV 2 hw (gV w_12393e1ced w_b83b036cb8 w_d2cb4d8771 w_82b0ef516c w_7aba347942) rfl rfl rfl (by decide +kernel) ⟨Nat.le_of_ble_eq_true rfl, Nat.le_of_ble_eq_true rfl⟩) ⟨fun a U g mk q => by obtain ⟨q0, qP, qK, qZ⟩ := q; exact ⟨q0, qP, va_K.moved (u := U) (U := U.calling g mk a) (Vm.Alike.refl U.vm) qK, ZZ.same (u := U) (U := U.calling g mk a) rfl qZ⟩, va_recv hKc hPc (ci := 0) (q0 := 0) rfl rfl, fun U hU hW => ⟨rfl, by rw [hU]; exact hPc, va_K.moved hW.alike hKc, by rw [hU]; exact ZZ.warm hW hZc⟩⟩ rfl rfl hl.1 rfl (lv_room (Nat.le_of_ble_eq_true rfl)) dX2_gather_77 ⟨Nat.zero_le _, Nat.zero_le _⟩).run (fun r_14 hr_14 => ?_)
              have hr_14 : r_14 = lN (nbs M (off (blA bl k) + 12) 2) := hr_14
              refine lv_l2i (v := r_14.toInt32) hx hb dX2_gather_80 rfl ?_
              refine lv_topi (fun x_15 ex_15 => ?_)
              refine lv_istore (lv' := [(9, .int x_15), (7, .long r_9), (6, .int kx), (5, .int mo), (4, .int y), (0, .ref rq), (1, .ref b), (2, .ref uq), (3, .int x)]) hx hb dX2_gather_81 hl (by decide) rfl (fun ls hl => ?_)
              have emk : x_15 = nI (nbs M (off (blA bl k) + 12) 2) := by rw [ex_15, hr_14, lN_i]
              have hmk : nbs M (off (blA bl k) + 12) 2 < 65536 := nbs_lt hM _ 2
              refine lv_aload_n hx hb dX2_gather_83 rfl (lv_at hl 6 rfl) ?_
              refine lv_lload hx hb dX2_gather_84 (lv_at hl 1 rfl) ?_
              refine lv_bipush (v := 8) hx hb dX2_gather_86 (by decide) ?_
              have hPc := hP.sub (ws' := [(b, .inr (0, [.ref q])), (q, .inl (cB_, 65536, .inl (cB M)))]) [3, 4] rfl
              have hKc := hK.sub (tys' := [(cB_, .byte)]) [2] rfl
              have hZc := (hZ.kept hS.2.1).narrow (B := fun _ => False) (fun _ h => h.elim)
              refine vp_callSl (va_runV (As := [.long r_9, .int 8]) (rest := []) ⟨hx, hb, hml, hown, hw⟩ (c_number l dC dI b q cB_ 65536 M r_9 8 8 (off (blA bl k)) (by decide) rfl (by decide) (by rw [hr_9]; exact ho0.1) (by have := ho0.2; omega) hM) (cwV 2 hw (gV w_12393e1ced w_b83b036cb8 w_d2cb4d8771 w_82b0ef516c w_7aba347942) rfl rfl rfl (by decide +kernel) ⟨Nat.le_of_ble_eq_true rfl, Nat.le_of_ble_eq_true rfl⟩) ⟨fun a U g mk q => by obtain ⟨q0, qP, qK, qZ⟩ := q; exact ⟨q0, qP, va_K.moved (u := U) (U := U.calling g mk a) (Vm.Alike.refl U.vm) qK, ZZ.same (u := U) (U := U.calling g mk a) rfl qZ⟩, va_recv hKc hPc (ci := 0) (q0 := 0) rfl rfl, fun U hU hW => ⟨rfl, by rw [hU]; exact hPc, va_K.moved hW.alike hKc, by rw [hU]; exact ZZ.warm hW hZc⟩⟩ rfl rfl hl.1 rfl (lv_room (Nat.le_of_ble_eq_true rfl)) dX2_gather_88 ⟨Nat.zero_le _, Nat.zero_le _⟩).run (fun r_16 hr_16 => ?_)
              have hr_16 : r_16 = lN (nbs M (off (blA bl k)) 8) := hr_16
              refine lv_ldc2 (v := 2147483648) hx hb hown (hw _ w_7f5a5af703) dX2_gather_91 ?_
              refine lv_lsub hx hb dX2_gather_94 ?_
              refine lv_topl (fun x_17 ex_17 => ?_)
              refine lv_lstore (lv' := [(10, .long x_17), (9, .int x_15), (7, .long r_9), (6, .int kx), (5, .int mo), (4, .int y), (0, .ref rq), (1, .ref b), (2, .ref uq), (3, .int x)]) hx hb dX2_gather_95 hl (by decide) rfl (fun ls hl => ?_)
              have ead : x_17 = lN (nbs M (off (blA bl k)) 8) - 2147483648 := by rw [ex_17, hr_16]
              refine lv_aload_n hx hb dX2_gather_97 rfl (lv_at hl 7 rfl) ?_
              refine lv_lload hx hb dX2_gather_98 (lv_at hl 2 rfl) ?_
              refine lv_ldc2 (v := 8) hx hb hown (hw _ w_fbe93aa489) dX2_gather_100 ?_
              refine lv_ladd hx hb dX2_gather_103 ?_
              refine lv_iconst (v := 4) hx hb dX2_gather_104 (by decide) ?_
              have hPc := hP.sub (ws' := [(b, .inr (0, [.ref q])), (q, .inl (cB_, 65536, .inl (cB M)))]) [3, 4] rfl
              have hKc := hK.sub (tys' := [(cB_, .byte)]) [2] rfl
              have hZc := (hZ.kept hS.2.1).narrow (B := fun _ => False) (fun _ h => h.elim)
              refine vp_callSl (va_runV (As := [.long (r_9 + 8), .int 4]) (rest := []) ⟨hx, hb, hml, hown, hw⟩ (c_number l dC dI b q cB_ 65536 M (r_9 + 8) 4 4 (off (blA bl k) + 8) (by decide) rfl (by decide) (by rw [hr_9, sh2]; exact ho8.1) (by have := ho0.2; omega) hM) (cwV 2 hw (gV w_12393e1ced w_b83b036cb8 w_d2cb4d8771 w_82b0ef516c w_7aba347942) rfl rfl rfl (by decide +kernel) ⟨Nat.le_of_ble_eq_true rfl, Nat.le_of_ble_eq_true rfl⟩) ⟨fun a U g mk q => by obtain ⟨q0, qP, qK, qZ⟩ := q; exact ⟨q0, qP, va_K.moved (u := U) (U := U.calling g mk a) (Vm.Alike.refl U.vm) qK, ZZ.same (u := U) (U := U.calling g mk a) rfl qZ⟩, va_recv hKc hPc (ci := 0) (q0 := 0) rfl rfl, fun U hU hW => ⟨rfl, by rw [hU]; exact hPc, va_K.moved hW.alike hKc, by rw [hU]; exact ZZ.warm hW hZc⟩⟩ rfl rfl hl.1 rfl (lv_room (Nat.le_of_ble_eq_true rfl)) dX2_gather_105 ⟨Nat.zero_le _, Nat.zero_le _⟩).run (fun r_18 hr_18 => ?_)
              have hr_18 : r_18 = lN (nbs M (off (blA bl k) + 8) 4) := hr_18
              refine lv_lstore (lv' := [(12, .long r_18), (10, .long x_17), (9, .int x_15), (7, .long r_9), (6, .int kx), (5, .int mo), (4, .int y), (0, .ref rq), (1, .ref b), (2, .ref uq), (3, .int x)]) hx hb dX2_gather_108 hl (by decide) rfl (fun ls hl => ?_)
              refine lv_aload_n hx hb dX2_gather_110 rfl (lv_at hl 7 rfl) ?_
              refine lv_aload_n hx hb dX2_gather_111 rfl (lv_at hl 8 rfl) ?_
              refine lv_lload hx hb dX2_gather_112 (lv_at hl 1 rfl) ?_
              refine lv_lload hx hb dX2_gather_114 (lv_at hl 0 rfl) ?_
              refine lv_iload hx hb dX2_gather_116 (lv_at hl 2 rfl) ?_
              have hPc := hP.sub (ws' := [(rq, .inr (2, [.ref rp, .ref rl, .int ct3, .int cl3, .int 0])), (rp, .inl (cJ, 16, .inr (.inl ps3))), (rl, .inl (cI, 16, .inl lg3)), (b, .inr (0, [.ref q])), (q, .inl (cB_, 65536, .inl (cB M)))]) [0, 1, 2, 3, 4] rfl
              have hKc := hK.sub (tys' := [(cJ, .long), (cI, .int), (cB_, .byte)]) [0, 1, 2] rfl
              have hDc := hD.sub (ws' := [(rq, .inr (2, [.ref rp, .ref rl, .int ct3, .int cl3, .int 0])), (rp, .inl (cJ, 16, .inr (.inl ps3))), (rl, .inl (cI, 16, .inl lg3)), (b, .inr (0, [.ref q])), (q, .inl (cB_, 65536, .inl (cB M)))]) [0, 1, 2, 3, 4] (by decide) rfl
              have hFc := va_free (wc := [(rq, .inr (2, [.ref rp, .ref rl, .int ct3, .int cl3, .int 0])), (rp, .inl (cJ, 16, .inr (.inl ps3))), (rl, .inl (cI, 16, .inl lg3)), (b, .inr (0, [.ref q])), (q, .inl (cB_, 65536, .inl (cB M)))]) hD hS hA [0, 1, 2, 3, 4] rfl
              have hZc : ZZ (va_A [(rq, .inr (2, [.ref rp, .ref rl, .int ct3, .int cl3, .int 0])), (rp, .inl (cJ, 16, .inr (.inl ps3))), (rl, .inl (cI, 16, .inl lg3)), (b, .inr (0, [.ref q])), (q, .inl (cB_, 65536, .inl (cB M)))] H.size) s H := (hZ.kept hS.2.1).narrow hFc
              refine va_calli (va_runV (As := [.ref b, .long x_17, .long r_18, .int x_15]) (rest := []) ⟨hx, hb, hml, hown, hw⟩ (r_take l dC dI rq rp rl ct3 cl3 0 cJ cI ps3 lg3 b q cB_ (cB M) x_17 r_18 x_15 (nbs M (off (blA bl k) + 12) 2) acc.length ((cOf acc).length) (lN (nbs M (off (blA bl k)) 8)) (nbs M (off (blA bl k) + 8) 4) H.size emk hmk hct3 (by omega) hcl3 (cOf_le acc) ead hr_18 (nbs_lt hM _ 4)) (cwV 4 hw (gV w_69d2e5254c w_4d39d9e3f8 w_a8e575ad22 w_d27e9d3e51 w_b2bec04da6) rfl rfl rfl (by decide +kernel) ⟨Nat.le_of_ble_eq_true rfl, Nat.le_of_ble_eq_true rfl⟩) ⟨fun a U g mk q => by obtain ⟨q0, q1, qP, qK, qD, qZ⟩ := q; exact ⟨q0, q1, qP, va_K.moved (u := U) (U := U.calling g mk a) (Vm.Alike.refl U.vm) qK, qD, ZZ.same (u := U) (U := U.calling g mk a) rfl qZ⟩, va_recv hKc hPc (ci := 2) (q0 := 0) rfl rfl, fun U hU hW => ⟨rfl, by rw [hU], by rw [hU]; exact hPc, va_K.moved hW.alike hKc, hDc.weaken (fun _ _ _ _ => trivial), by rw [hU]; exact ZZ.warm hW hZc⟩⟩ rfl rfl hl.1 rfl (lv_room (Nat.le_of_ble_eq_true rfl)) dX2_gather_118 ⟨Nat.zero_le _, Nat.zero_le _⟩) hS (fun q _ h => hFc q h) hFc (fun r_19 u t H1 locs ht hvm hw2 hB hz1 hk1 hS => ?_)
              obtain ⟨ct2_20, cl2_21, ps2_22, lg2_23⟩ := u
              obtain ⟨hP1, hK1, hD1⟩ := hB
              rw [ht] at hP1
              have hK1 := va_K.moved hvm.symm hK1
              try dsimp only at hw2
              obtain ⟨hP, hD⟩ := va_join (wr := [(uq, .inr (1, [.int sz, .int rd, .long bl, .long of, .long an, .int tk, .int td, .int om, .int oc]))]) (w1 := [(rq, .inr (2, [.ref rp, .ref rl, .int ct2_20, .int cl2_21, .int 0])), (rp, .inl (cJ, 16, .inr (.inl ps2_22))), (rl, .inl (cI, 16, .inl lg2_23)), (b, .inr (0, [.ref q])), (q, .inl (cB_, 65536, .inl (cB M)))]) hP hD [0, 1, 2, 3, 4] [5] rfl rfl (by decide) (by decide) hk1 hFc hP1 hD1
              generalize H1 = H at hP hS hk1 ⊢
              have hP : va_P (dC, dI) vwCl [(uq, .inr (1, [.int sz, .int rd, .long bl, .long of, .long an, .int tk, .int td, .int om, .int oc])), (rq, .inr (2, [.ref rp, .ref rl, .int ct2_20, .int cl2_21, .int 0])), (rp, .inl (cJ, 16, .inr (.inl ps2_22))), (rl, .inl (cI, 16, .inl lg2_23)), (b, .inr (0, [.ref q])), (q, .inl (cB_, 65536, .inl (cB M)))] H := hP
              have hD : va_D A [(uq, .inr (1, [.int sz, .int rd, .long bl, .long of, .long an, .int tk, .int td, .int om, .int oc])), (rq, .inr (2, [.ref rp, .ref rl, .int ct2_20, .int cl2_21, .int 0])), (rp, .inl (cJ, 16, .inr (.inl ps2_22))), (rl, .inl (cI, 16, .inl lg2_23)), (b, .inr (0, [.ref q])), (q, .inl (cB_, 65536, .inl (cB M)))] := hD
              have hw_24 : r_19 = bI (¬ tkN (nbs M (off (blA bl k) + 12) 2) acc.length ((cOf acc).length) (lN (nbs M (off (blA bl k)) 8)) (nbs M (off (blA bl k) + 8) 4)) ∧ (¬ tkN (nbs M (off (blA bl k) + 12) 2) acc.length ((cOf acc).length) (lN (nbs M (off (blA bl k)) 8)) (nbs M (off (blA bl k) + 8) 4) → ct2_20 = nI (acc.length + 1) ∧ cl2_21 = nI (if (nbs M (off (blA bl k) + 12) 2) / 2 % 2 = 1 then ((cOf acc).length) else ((cOf acc).length) + 1) ∧ ps2_22 = vp_updL ps3 acc.length ((lN (nbs M (off (blA bl k)) 8)) - 2147483648) ∧ lg2_23 = upd lg3 acc.length (nI (nbs M (off (blA bl k) + 8) 4))) ∧ (tkN (nbs M (off (blA bl k) + 12) 2) acc.length ((cOf acc).length) (lN (nbs M (off (blA bl k)) 8)) (nbs M (off (blA bl k) + 8) 4) → ct2_20 = ct3 ∧ cl2_21 = cl3 ∧ ps2_22 = ps3 ∧ lg2_23 = lg3) := hw2
              refine lv_if_ne (tgt := 126) hx hb dX2_gather_121 (by decide) (fun c_25 => ?_) (fun c_25 => ?_)
              · skip
                have b_26 : (¬ tkN (nbs M (off (blA bl k) + 12) 2) acc.length ((cOf acc).length) (lN (nbs M (off (blA bl k)) 8)) (nbs M (off (blA bl k) + 8) 4)) := bI_1 (by rw [← hw_24.1]; exact c_25)
                have hno := fun z => b_26 ((tk_g hpo).mpr z)
                obtain ⟨ect, ecl, eps, elg⟩ := hw_24.2.1 b_26
                refine lv_iload hx hb dX2_gather_126 (lv_at hl 2 rfl) ?_
                refine lv_iconst (v := 1) hx hb dX2_gather_128 (by decide) ?_
                refine lv_iand hx hb dX2_gather_129 ?_
                refine lv_if_eq (tgt := 137) hx hb dX2_gather_130 (by decide) (fun c_27 => ?_) (fun c_27 => ?_)
                · skip
                  have hmr : ¬ nbs M (off (blA bl k) + 12) 2 % 2 = 1 := (mk_1 hmk).mp (by rw [← emk]; exact c_27)
                  refine lv_iconst (v := 0) hx hb dX2_gather_137 (by decide) ?_
                  refine lv_istore (lv' := [(5, .int 0), (12, .long r_18), (10, .long x_17), (9, .int x_15), (7, .long r_9), (6, .int kx), (4, .int y), (0, .ref rq), (1, .ref b), (2, .ref uq), (3, .int x)]) hx hb dX2_gather_138 hl (by decide) rfl (fun ls hl => ?_)
                  refine lv_aload_n hx hb dX2_gather_140 rfl (lv_at hl 8 rfl) ?_
                  refine lv_lload hx hb dX2_gather_141 (lv_at hl 4 rfl) ?_
                  refine lv_ldc2 (v := 14) hx hb hown (hw _ w_8d124cecb6) dX2_gather_143 ?_
                  refine lv_ladd hx hb dX2_gather_146 ?_
                  refine lv_iconst (v := 2) hx hb dX2_gather_147 (by decide) ?_
                  have hPc := hP.sub (ws' := [(b, .inr (0, [.ref q])), (q, .inl (cB_, 65536, .inl (cB M)))]) [4, 5] rfl
                  have hKc := hK.sub (tys' := [(cB_, .byte)]) [2] rfl
                  have hZc := (hZ.kept hS.2.1).narrow (B := fun _ => False) (fun _ h => h.elim)
                  refine vp_callSl (va_runV (As := [.long (r_9 + 14), .int 2]) (rest := []) ⟨hx, hb, hml, hown, hw⟩ (c_number l dC dI b q cB_ 65536 M (r_9 + 14) 2 2 (off (blA bl k) + 14) (by decide) rfl (by decide) (by rw [hr_9, sh2]; exact ho14.1) (by have := ho0.2; omega) hM) (cwV 2 hw (gV w_12393e1ced w_b83b036cb8 w_d2cb4d8771 w_82b0ef516c w_7aba347942) rfl rfl rfl (by decide +kernel) ⟨Nat.le_of_ble_eq_true rfl, Nat.le_of_ble_eq_true rfl⟩) ⟨fun a U g mk q => by obtain ⟨q0, qP, qK, qZ⟩ := q; exact ⟨q0, qP, va_K.moved (u := U) (U := U.calling g mk a) (Vm.Alike.refl U.vm) qK, ZZ.same (u := U) (U := U.calling g mk a) rfl qZ⟩, va_recv hKc hPc (ci := 0) (q0 := 0) rfl rfl, fun U hU hW => ⟨rfl, by rw [hU]; exact hPc, va_K.moved hW.alike hKc, by rw [hU]; exact ZZ.warm hW hZc⟩⟩ rfl rfl hl.1 rfl (lv_room (Nat.le_of_ble_eq_true rfl)) dX2_gather_148 ⟨Nat.zero_le _, Nat.zero_le _⟩).run (fun r_28 hr_28 => ?_)
                  have hr_28 : r_28 = lN (nbs M (off (blA bl k) + 14) 2) := hr_28
                  refine lv_l2i (v := r_28.toInt32) hx hb dX2_gather_151 rfl ?_
                  refine lv_topi (fun x_29 ex_29 => ?_)
                  refine lv_istore (lv' := [(4, .int x_29), (5, .int 0), (12, .long r_18), (10, .long x_17), (9, .int x_15), (7, .long r_9), (6, .int kx), (0, .ref rq), (1, .ref b), (2, .ref uq), (3, .int x)]) hx hb dX2_gather_152 hl (by decide) rfl (fun ls hl => ?_)
                  obtain ⟨x_30, ex_30⟩ : ∃ y : Int32, y = kx + 1 := ⟨_, rfl⟩
                  refine lv_iinc (v := x_30) (lv' := [(6, .int x_30), (4, .int x_29), (5, .int 0), (12, .long r_18), (10, .long x_17), (9, .int x_15), (7, .long r_9), (0, .ref rq), (1, .ref b), (2, .ref uq), (3, .int x)]) hx hb dX2_gather_154 hl (k := 6) rfl (by rw [ex_30]; rfl) (by decide) rfl (fun ls hl => ?_)
                  refine lv_goto (tgt := 24) hx hb dX2_gather_157 (by decide) ?_
                  exact ih f (nbs M (off (blA bl k) + 14) 2) (decide (nbs M (off (blA bl k) + 12) 2 / 2 % 2 = 1)) (acc ++ [(lN (nbs M (off (blA bl k)) 8), nbs M (off (blA bl k) + 8) 4, decide (nbs M (off (blA bl k) + 12) 2 / 2 % 2 = 1))]) 0 x_29 x_30 ct2_20 cl2_21 ps2_22 lg2_23 (⟨fun z => absurd z (by decide), by have := hN.1 hm1; omega⟩) (Or.inr ⟨rfl, by simp, by rw [← hs, gat, if_pos ⟨hkn, hth⟩, if_neg hno, if_neg hmr]⟩) (by rw [eps, elg]; exact repC_add hqp _ _ _) (by rw [ect, List.length_append]; rfl) (by rw [ecl, cOf_add]) (by rw [ex_30, hkx, List.length_append]; exact nI_1 _) (po_add _ _ _ hpo (fun z => hno (Or.inr (Or.inl z)))) (by rw [List.length_append]; show acc.length + 1 ≤ n; omega) _ _ (hP.sub [1, 2, 3, 4, 5, 0] rfl) (hD.sub [1, 2, 3, 4, 5, 0] (by decide) rfl) hS ls (lv_sub hl [0, 2, 1, 7, 8, 9, 10] rfl)
                · skip
                  have hmr : nbs M (off (blA bl k) + 12) 2 % 2 = 1 := Decidable.byContradiction fun z => c_27 (by rw [emk]; exact (mk_1 hmk).mpr z)
                  refine lv_iconst (v := 1) hx hb dX2_gather_133 (by decide) ?_
                  refine lv_goto (tgt := 138) hx hb dX2_gather_134 (by decide) ?_
                  refine lv_istore (lv' := [(5, .int 1), (12, .long r_18), (10, .long x_17), (9, .int x_15), (7, .long r_9), (6, .int kx), (4, .int y), (0, .ref rq), (1, .ref b), (2, .ref uq), (3, .int x)]) hx hb dX2_gather_138 hl (by decide) rfl (fun ls hl => ?_)
                  refine lv_aload_n hx hb dX2_gather_140 rfl (lv_at hl 8 rfl) ?_
                  refine lv_lload hx hb dX2_gather_141 (lv_at hl 4 rfl) ?_
                  refine lv_ldc2 (v := 14) hx hb hown (hw _ w_8d124cecb6) dX2_gather_143 ?_
                  refine lv_ladd hx hb dX2_gather_146 ?_
                  refine lv_iconst (v := 2) hx hb dX2_gather_147 (by decide) ?_
                  have hPc := hP.sub (ws' := [(b, .inr (0, [.ref q])), (q, .inl (cB_, 65536, .inl (cB M)))]) [4, 5] rfl
                  have hKc := hK.sub (tys' := [(cB_, .byte)]) [2] rfl
                  have hZc := (hZ.kept hS.2.1).narrow (B := fun _ => False) (fun _ h => h.elim)
                  refine vp_callSl (va_runV (As := [.long (r_9 + 14), .int 2]) (rest := []) ⟨hx, hb, hml, hown, hw⟩ (c_number l dC dI b q cB_ 65536 M (r_9 + 14) 2 2 (off (blA bl k) + 14) (by decide) rfl (by decide) (by rw [hr_9, sh2]; exact ho14.1) (by have := ho0.2; omega) hM) (cwV 2 hw (gV w_12393e1ced w_b83b036cb8 w_d2cb4d8771 w_82b0ef516c w_7aba347942) rfl rfl rfl (by decide +kernel) ⟨Nat.le_of_ble_eq_true rfl, Nat.le_of_ble_eq_true rfl⟩) ⟨fun a U g mk q => by obtain ⟨q0, qP, qK, qZ⟩ := q; exact ⟨q0, qP, va_K.moved (u := U) (U := U.calling g mk a) (Vm.Alike.refl U.vm) qK, ZZ.same (u := U) (U := U.calling g mk a) rfl qZ⟩, va_recv hKc hPc (ci := 0) (q0 := 0) rfl rfl, fun U hU hW => ⟨rfl, by rw [hU]; exact hPc, va_K.moved hW.alike hKc, by rw [hU]; exact ZZ.warm hW hZc⟩⟩ rfl rfl hl.1 rfl (lv_room (Nat.le_of_ble_eq_true rfl)) dX2_gather_148 ⟨Nat.zero_le _, Nat.zero_le _⟩).run (fun r_31 hr_31 => ?_)
                  have hr_31 : r_31 = lN (nbs M (off (blA bl k) + 14) 2) := hr_31
                  refine lv_l2i (v := r_31.toInt32) hx hb dX2_gather_151 rfl ?_
                  refine lv_topi (fun x_32 ex_32 => ?_)
                  refine lv_istore (lv' := [(4, .int x_32), (5, .int 1), (12, .long r_18), (10, .long x_17), (9, .int x_15), (7, .long r_9), (6, .int kx), (0, .ref rq), (1, .ref b), (2, .ref uq), (3, .int x)]) hx hb dX2_gather_152 hl (by decide) rfl (fun ls hl => ?_)
                  obtain ⟨x_33, ex_33⟩ : ∃ y : Int32, y = kx + 1 := ⟨_, rfl⟩
                  refine lv_iinc (v := x_33) (lv' := [(6, .int x_33), (4, .int x_32), (5, .int 1), (12, .long r_18), (10, .long x_17), (9, .int x_15), (7, .long r_9), (0, .ref rq), (1, .ref b), (2, .ref uq), (3, .int x)]) hx hb dX2_gather_154 hl (k := 6) rfl (by rw [ex_33]; rfl) (by decide) rfl (fun ls hl => ?_)
                  refine lv_goto (tgt := 24) hx hb dX2_gather_157 (by decide) ?_
                  exact ih f (nbs M (off (blA bl k) + 14) 2) (decide (nbs M (off (blA bl k) + 12) 2 / 2 % 2 = 1)) (acc ++ [(lN (nbs M (off (blA bl k)) 8), nbs M (off (blA bl k) + 8) 4, decide (nbs M (off (blA bl k) + 12) 2 / 2 % 2 = 1))]) 1 x_32 x_33 ct2_20 cl2_21 ps2_22 lg2_23 (⟨fun _ => by have := hN.1 hm1; omega, by have := hN.1 hm1; omega⟩) (Or.inl ⟨rfl, by rw [ex_32, hr_31, lN_i], nbs_lt hM _ 2, by rw [List.length_append]; show acc.length + 1 + f = n; omega, by rw [← hs, gat, if_pos ⟨hkn, hth⟩, if_neg hno, if_pos hmr]⟩) (by rw [eps, elg]; exact repC_add hqp _ _ _) (by rw [ect, List.length_append]; rfl) (by rw [ecl, cOf_add]) (by rw [ex_33, hkx, List.length_append]; exact nI_1 _) (po_add _ _ _ hpo (fun z => hno (Or.inr (Or.inl z)))) (by rw [List.length_append]; show acc.length + 1 ≤ n; omega) _ _ (hP.sub [1, 2, 3, 4, 5, 0] rfl) (hD.sub [1, 2, 3, 4, 5, 0] (by decide) rfl) hS ls (lv_sub hl [0, 2, 1, 7, 8, 9, 10] rfl)
              · skip
                have b_34 : ¬ (¬ tkN (nbs M (off (blA bl k) + 12) 2) acc.length ((cOf acc).length) (lN (nbs M (off (blA bl k)) 8)) (nbs M (off (blA bl k) + 8) 4)) := bI_0 (by rw [← hw_24.1]; exact c_25)
                have hnone : gat M bl n n k0 false [] = none := by rw [← hs, gat, if_pos ⟨hkn, hth⟩, if_pos ((tk_g hpo).mp (Decidable.byContradiction b_34))]
                refine lv_iconst (v := 0) hx hb dX2_gather_124 (by decide) ?_
                have hP9 : va_P (dC, dI) vwCl [(rq, .inr (2, [.ref rp, .ref rl, .int ct2_20, .int cl2_21, .int 0])), (rp, .inl (cJ, 16, .inr (.inl ps2_22))), (rl, .inl (cI, 16, .inl lg2_23)), (b, .inr (0, [.ref q])), (q, .inl (cB_, 65536, .inl (cB M))), (uq, .inr (1, [.int sz, .int rd, .long bl, .long of, .long an, .int tk, .int td, .int om, .int oc]))] H := by exact hP.sub (ws' := [(rq, .inr (2, [.ref rp, .ref rl, .int ct2_20, .int cl2_21, .int 0])), (rp, .inl (cJ, 16, .inr (.inl ps2_22))), (rl, .inl (cI, 16, .inl lg2_23)), (b, .inr (0, [.ref q])), (q, .inl (cB_, 65536, .inl (cB M))), (uq, .inr (1, [.int sz, .int rd, .long bl, .long of, .long an, .int tk, .int td, .int om, .int oc]))]) [1, 2, 3, 4, 5, 0] rfl
                have hD9 : va_D A [(rq, .inr (2, [.ref rp, .ref rl, .int ct2_20, .int cl2_21, .int 0])), (rp, .inl (cJ, 16, .inr (.inl ps2_22))), (rl, .inl (cI, 16, .inl lg2_23)), (b, .inr (0, [.ref q])), (q, .inl (cB_, 65536, .inl (cB M))), (uq, .inr (1, [.int sz, .int rd, .long bl, .long of, .long an, .int tk, .int td, .int om, .int oc]))] := by exact hD.sub (ws' := [(rq, .inr (2, [.ref rp, .ref rl, .int ct2_20, .int cl2_21, .int 0])), (rp, .inl (cJ, 16, .inr (.inl ps2_22))), (rl, .inl (cI, 16, .inl lg2_23)), (b, .inr (0, [.ref q])), (q, .inl (cB_, 65536, .inl (cB M))), (uq, .inr (1, [.int sz, .int rd, .long bl, .long of, .long an, .int tk, .int td, .int om, .int oc]))]) [1, 2, 3, 4, 5, 0] (by decide) rfl
                have hK9 := hK.sub (tys' := [(cJ, .long), (cI, .int), (cB_, .byte)]) [0, 1, 2] rfl
                exact W.zret (v := 0) hx hb hr rfl (fun t ht hW => ⟨⟨_, (ct2_20, cl2_21, ps2_22, lg2_23), rfl, ⟨by rw [hnone]; exact (bI_f finB_n).symm, fun L z => by rw [hnone] at z; cases z⟩, by rw [ht]; exact hP9, va_K.moved hW.alike hK9, hD9⟩, hS.F ht⟩) hS.2.2 dX2_gather_125
            · skip
              have b_35 : ¬ (hoP 65536 r_9 16) := bI_0 (by rw [← hr_11]; exact c_12)
              have hnone : gat M bl n n k0 false [] = none := by rw [← hs, gat, if_neg (fun z => b_35 (by rw [hr_9]; exact (ho_th (by decide) (by decide)).mpr z.2))]
              refine lv_iconst (v := 0) hx hb dX2_gather_67 (by decide) ?_
              have hP9 : va_P (dC, dI) vwCl [(rq, .inr (2, [.ref rp, .ref rl, .int ct3, .int cl3, .int 0])), (rp, .inl (cJ, 16, .inr (.inl ps3))), (rl, .inl (cI, 16, .inl lg3)), (b, .inr (0, [.ref q])), (q, .inl (cB_, 65536, .inl (cB M))), (uq, .inr (1, [.int sz, .int rd, .long bl, .long of, .long an, .int tk, .int td, .int om, .int oc]))] H := by exact hP.sub (ws' := [(rq, .inr (2, [.ref rp, .ref rl, .int ct3, .int cl3, .int 0])), (rp, .inl (cJ, 16, .inr (.inl ps3))), (rl, .inl (cI, 16, .inl lg3)), (b, .inr (0, [.ref q])), (q, .inl (cB_, 65536, .inl (cB M))), (uq, .inr (1, [.int sz, .int rd, .long bl, .long of, .long an, .int tk, .int td, .int om, .int oc]))]) [0, 1, 2, 3, 4, 5] rfl
              have hD9 : va_D A [(rq, .inr (2, [.ref rp, .ref rl, .int ct3, .int cl3, .int 0])), (rp, .inl (cJ, 16, .inr (.inl ps3))), (rl, .inl (cI, 16, .inl lg3)), (b, .inr (0, [.ref q])), (q, .inl (cB_, 65536, .inl (cB M))), (uq, .inr (1, [.int sz, .int rd, .long bl, .long of, .long an, .int tk, .int td, .int om, .int oc]))] := by exact hD.sub (ws' := [(rq, .inr (2, [.ref rp, .ref rl, .int ct3, .int cl3, .int 0])), (rp, .inl (cJ, 16, .inr (.inl ps3))), (rl, .inl (cI, 16, .inl lg3)), (b, .inr (0, [.ref q])), (q, .inl (cB_, 65536, .inl (cB M))), (uq, .inr (1, [.int sz, .int rd, .long bl, .long of, .long an, .int tk, .int td, .int om, .int oc]))]) [0, 1, 2, 3, 4, 5] (by decide) rfl
              have hK9 := hK.sub (tys' := [(cJ, .long), (cI, .int), (cB_, .byte)]) [0, 1, 2] rfl
              exact W.zret (v := 0) hx hb hr rfl (fun t ht hW => ⟨⟨_, (ct3, cl3, ps3, lg3), rfl, ⟨by rw [hnone]; exact (bI_f finB_n).symm, fun L z => by rw [hnone] at z; cases z⟩, by rw [ht]; exact hP9, va_K.moved hW.alike hK9, hD9⟩, hS.F ht⟩) hS.2.2 dX2_gather_68
  exact loop (n + 2) n k0 false ([]) 1 x 0 0 0 ps lg (⟨fun _ => by omega, by omega⟩) (Or.inl ⟨rfl, hxk, hk0, by simp, rfl⟩) (repC_nil) (rfl) (rfl) (rfl) (rfl) (Nat.zero_le _) _ _ (hP.sub [0, 1, 2, 3, 4, 5] rfl) (hD.sub [0, 1, 2, 3, 4, 5] (by decide) rfl) hS ls (lv_sub hl [0, 1, 2, 3, 4, 5, 6] rfl)
