set_option maxHeartbeats 4000000 in
set_option maxRecDepth 100000 in
/-- the law's load -/
theorem l_load (l : Launch) (dC : Nat → ClassId) (dI : Nat → Nat → Nat) (o : Nat) (sc : Int32) (b : Nat) (b2 : Nat) (uq : Nat) (rq : Nat) (fc : Int32) (qc : Int32) (cu : Int32) (sa : Int32) (aw : Int32) (cg : Int32) (q : Nat) (cB_ : ClassId) (M : Nat → Nat) (a : Int64) (x : Int32) (uo : Nat) (cO : ClassId) (go : Nat → Int64) (zS : Nat) (hst : l.stackTraces = false) (hM : byt M) : Met l yL_load wsL_load ({ frames := 8, cells := 1, slots := 6, locals := 140 }) (va_Pc [.ref o, .long a, .int x, .ref uo] (fun U => U.heap.size = zS ∧ va_P (dC, dI) vwCl [(o, .inr (3, [.int sc, .ref b, .ref b2, .ref uq, .ref rq, .int fc, .int qc, .int cu, .int sa, .int aw, .int cg])), (b, .inr (0, [.ref q])), (q, .inl (cB_, 65536, .inl (cB M))), (uo, .inl (cO, 1, .inr (.inl go)))] U.heap ∧ va_K (dC, dI) vwCl [(cB_, .byte), (cO, .long)] U ∧ va_D (fun _ => True) [(o, .inr (3, [.int sc, .ref b, .ref b2, .ref uq, .ref rq, .int fc, .int qc, .int cu, .int sa, .int aw, .int cg])), (b, .inr (0, [.ref q])), (q, .inl (cB_, 65536, .inl (cB M))), (uo, .inl (cO, 1, .inr (.inl go)))] ∧ ZZ (va_A [(o, .inr (3, [.int sc, .ref b, .ref b2, .ref uq, .ref rq, .int fc, .int qc, .int cu, .int sa, .int aw, .int cg])), (b, .inr (0, [.ref q])), (q, .inl (cB_, 65536, .inl (cB M))), (uo, .inl (cO, 1, .inr (.inl go)))] zS) U U.heap)) (va_Qi (fun (r : Int32) (u : (Nat → Int64)) => match u with | g => r = ldc a x ∧ (ldc a x = 0 → g 0 = lN (nbs M (off a) x.toInt.toNat))) (fun (u : (Nat → Int64)) (t : State) => match u with | g => va_P (dC, dI) vwCl [(o, .inr (3, [.int sc, .ref b, .ref b2, .ref uq, .ref rq, .int fc, .int qc, .int cu, .int sa, .int aw, .int cg])), (b, .inr (0, [.ref q])), (q, .inl (cB_, 65536, .inl (cB M))), (uo, .inl (cO, 1, .inr (.inl g)))] t.heap ∧ va_K (dC, dI) vwCl [(cB_, .byte), (cO, .long)] t ∧ va_D (va_A [(o, .inr (3, [.int sc, .ref b, .ref b2, .ref uq, .ref rq, .int fc, .int qc, .int cu, .int sa, .int aw, .int cg])), (b, .inr (0, [.ref q])), (q, .inl (cB_, 65536, .inl (cB M))), (uo, .inl (cO, 1, .inr (.inl go)))] zS) [(o, .inr (3, [.int sc, .ref b, .ref b2, .ref uq, .ref rq, .int fc, .int qc, .int cu, .int sa, .int aw, .int cg])), (b, .inr (0, [.ref q])), (q, .inl (cB_, 65536, .inl (cB M))), (uo, .inl (cO, 1, .inr (.inl g)))]) (va_A [(o, .inr (3, [.int sc, .ref b, .ref b2, .ref uq, .ref rq, .int fc, .int qc, .int cu, .int sa, .int aw, .int cg])), (b, .inr (0, [.ref q])), (q, .inl (cB_, 65536, .inl (cB M))), (uo, .inl (cO, 1, .inr (.inl go)))] zS)) 1 6 (va_A [(o, .inr (3, [.int sc, .ref b, .ref b2, .ref uq, .ref rq, .int fc, .int qc, .int cu, .int sa, .int aw, .int cg])), (b, .inr (0, [.ref q])), (q, .inl (cB_, 65536, .inl (cB M))), (uo, .inl (cO, 1, .inr (.inl go)))] zS) := by
  refine metWH (cc := cL_load) (maxL := 6) (ret := (some .int)) (by decide) rfl ?_
  intro p e s m args below meth c s₁ B hml hv
  obtain ⟨rfl, hsz, hP, hK, hD0, hZ⟩ := hv
  have hx := B.exec
  have hb := B.bytes
  have hr := B.returns
  have hts := atoms_spec (ws := wsL_load) B.pre
  have hw : ∀ w ∈ WW, w.before _ s = true := fun w h => hts w (List.mem_cons_of_mem _ h)
  have hown : s.vm.findClass RL = some m.cls := findClass_of_methodNamed B.named
  have hlocks := B.notSynchronized
  have htab := vx_table (x := yL_load) B (hts _ List.mem_cons_self)
  subst hsz
  have hD := hD0.self (sz := s.heap.size)
  generalize hAe : va_A [(o, .inr (3, [.int sc, .ref b, .ref b2, .ref uq, .ref rq, .int fc, .int qc, .int cu, .int sa, .int aw, .int cg])), (b, .inr (0, [.ref q])), (q, .inl (cB_, 65536, .inl (cB M))), (uo, .inl (cO, 1, .inr (.inl go)))] s.heap.size = A at hD hZ ⊢
  have hA : ∀ q : Nat, s.heap.size ≤ q → A q := fun q h => by rw [← hAe]; exact Or.inr h
  have hS : va_S A s.heap s.heap [] := va_S.rf
  have hP : va_P (dC, dI) vwCl [(o, .inr (3, [.int sc, .ref b, .ref b2, .ref uq, .ref rq, .int fc, .int qc, .int cu, .int sa, .int aw, .int cg])), (b, .inr (0, [.ref q])), (q, .inl (cB_, 65536, .inl (cB M))), (uo, .inl (cO, 1, .inr (.inl go)))] s.heap := hP
  have hl := lv_entry ([.ref o, .long a, .int x, .ref uo]) (n := 6) (Nat.le_of_ble_eq_true rfl)
  rw [lg_entry_eq]
  generalize (lg_sl ([.ref o, .long a, .int x, .ref uo]) ++ List.replicate (6 - (lg_sl ([.ref o, .long a, .int x, .ref uo])).length) Slot.unset).toArray = ls at hl ⊢
  have hl : lv_has ls 6 [(0, .ref o), (1, .long a), (3, .int x), (4, .ref uo)] := hl
  refine lv_aload hx hb dL_load_0 (lv_at hl 3 rfl) ?_
  refine lv_iconst (v := 0) hx hb dL_load_2 (by decide) ?_
  refine lv_aload_n hx hb dL_load_3 rfl (lv_at hl 0 rfl) ?_
  refine lv_lload_n hx hb dL_load_4 rfl (lv_at hl 1 rfl) ?_
  refine lv_iload_n hx hb dL_load_5 rfl (lv_at hl 2 rfl) ?_
  have hPc := hP.sub (ws' := [(o, .inr (3, [.int sc, .ref b, .ref b2, .ref uq, .ref rq, .int fc, .int qc, .int cu, .int sa, .int aw, .int cg])), (b, .inr (0, [.ref q])), (q, .inl (cB_, 65536, .inl (cB M)))]) [0, 1, 2] rfl
  have hKc := hK.sub (tys' := [(cB_, .byte)]) [0] rfl
  have hDc := hD.sub (ws' := [(o, .inr (3, [.int sc, .ref b, .ref b2, .ref uq, .ref rq, .int fc, .int qc, .int cu, .int sa, .int aw, .int cg])), (b, .inr (0, [.ref q])), (q, .inl (cB_, 65536, .inl (cB M)))]) [0, 1, 2] (by decide) rfl
  have hFc := va_free (wc := [(o, .inr (3, [.int sc, .ref b, .ref b2, .ref uq, .ref rq, .int fc, .int qc, .int cu, .int sa, .int aw, .int cg])), (b, .inr (0, [.ref q])), (q, .inl (cB_, 65536, .inl (cB M)))]) hD hS hA [0, 1, 2] rfl
  have hZc : ZZ (va_A [(o, .inr (3, [.int sc, .ref b, .ref b2, .ref uq, .ref rq, .int fc, .int qc, .int cu, .int sa, .int aw, .int cg])), (b, .inr (0, [.ref q])), (q, .inl (cB_, 65536, .inl (cB M)))] s.heap.size) s s.heap := (hZ.kept hS.2.1).narrow hFc
  refine vx_calll (vx_runV (As := [.long a, .int x]) (rest := [.int 0, .ref uo]) ⟨hx, hb, hml, hown, hw⟩ (d_load l dC dI o sc b b2 uq rq fc qc cu sa aw cg q cB_ M a x s.heap.size hst hM) (cwV 2 hw (gV w_0c84cc4b5a w_131135c09c w_c37d44147c w_106b72596f w_feceabba31) rfl rfl rfl (by decide +kernel) ⟨Nat.le_of_ble_eq_true rfl, Nat.le_of_ble_eq_true rfl⟩) ⟨fun a U g mk q => by obtain ⟨q0, q1, qP, qK, qD, qZ⟩ := q; exact ⟨q0, q1, qP, va_K.moved (u := U) (U := U.calling g mk a) (Vm.Alike.refl U.vm) qK, qD, ZZ.same (u := U) (U := U.calling g mk a) rfl qZ⟩, va_recv hKc hPc (ci := 3) (q0 := 0) rfl rfl, fun U hU hW => ⟨rfl, by rw [hU], by rw [hU]; exact hPc, va_K.moved hW.alike hKc, hDc.weaken (fun _ _ _ _ => trivial), by rw [hU]; exact ZZ.warm hW hZc⟩⟩ rfl rfl hl.1 rfl (lv_room (Nat.le_of_ble_eq_true rfl)) dL_load_6 ⟨Nat.le_of_ble_eq_true rfl, Nat.le_of_ble_eq_true rfl⟩) hS (fun q _ h => hFc q h) hFc (fun _ _ h => h.elim) (fun E9 ce9 q9 u9 t H1 locs9 ht hvm hpx hbx hz1 hk1 hS9 hce hcv hcl => ?_) (fun r_1 u t H1 locs ht hvm hw2 hB hz1 hk1 hS => ?_)
  · skip
    have hbx : (E9 = eA ∧ ldc a x = 1) ∨ (E9 = eB ∧ ldc a x = 2) := hbx
    rcases hbx with ⟨rfl, hl9⟩ | ⟨rfl, hl9⟩
    · skip
      refine vx_catch hown [] ⟨0, 10, 13, 13⟩ [⟨0, 10, 17, 15⟩] htab (fun z hz => nomatch hz) rfl (by decide) (hw _ w_fec2ae9526) ((hZ.1 _ (List.mem_of_getElem? (i := 12) rfl)).use rfl) hce hcv hcl ?_
      have hP := hP.kept (fun k q hk => hk1 q.1 (vx_lt hP hk) (fun h => h))
      have hS := hS9
      generalize H1 = H at hP hS ⊢
      refine W.cs (cells' := 1) (slots' := 6) (by omega) (by omega) ?_
      have hP : va_P (dC, dI) vwCl [(o, .inr (3, [.int sc, .ref b, .ref b2, .ref uq, .ref rq, .int fc, .int qc, .int cu, .int sa, .int aw, .int cg])), (b, .inr (0, [.ref q])), (q, .inl (cB_, 65536, .inl (cB M))), (uo, .inl (cO, 1, .inr (.inl go)))] H := hP
      have hD : va_D A [(o, .inr (3, [.int sc, .ref b, .ref b2, .ref uq, .ref rq, .int fc, .int qc, .int cu, .int sa, .int aw, .int cg])), (b, .inr (0, [.ref q])), (q, .inl (cB_, 65536, .inl (cB M))), (uo, .inl (cO, 1, .inr (.inl go)))] := hD
      refine lv_astore (lv' := [(5, .ref q9), (0, .ref o), (1, .long a), (3, .int x), (4, .ref uo)]) hx hb dL_load_13 hl (by decide) rfl (fun ls hl => ?_)
      refine lv_iconst (v := 1) hx hb dL_load_15 (by decide) ?_
      have hP9 : va_P (dC, dI) vwCl [(o, .inr (3, [.int sc, .ref b, .ref b2, .ref uq, .ref rq, .int fc, .int qc, .int cu, .int sa, .int aw, .int cg])), (b, .inr (0, [.ref q])), (q, .inl (cB_, 65536, .inl (cB M))), (uo, .inl (cO, 1, .inr (.inl go)))] H := by exact hP.sub (ws' := [(o, .inr (3, [.int sc, .ref b, .ref b2, .ref uq, .ref rq, .int fc, .int qc, .int cu, .int sa, .int aw, .int cg])), (b, .inr (0, [.ref q])), (q, .inl (cB_, 65536, .inl (cB M))), (uo, .inl (cO, 1, .inr (.inl go)))]) [0, 1, 2, 3] rfl
      have hD9 : va_D A [(o, .inr (3, [.int sc, .ref b, .ref b2, .ref uq, .ref rq, .int fc, .int qc, .int cu, .int sa, .int aw, .int cg])), (b, .inr (0, [.ref q])), (q, .inl (cB_, 65536, .inl (cB M))), (uo, .inl (cO, 1, .inr (.inl go)))] := by exact hD.sub (ws' := [(o, .inr (3, [.int sc, .ref b, .ref b2, .ref uq, .ref rq, .int fc, .int qc, .int cu, .int sa, .int aw, .int cg])), (b, .inr (0, [.ref q])), (q, .inl (cB_, 65536, .inl (cB M))), (uo, .inl (cO, 1, .inr (.inl go)))]) [0, 1, 2, 3] (by decide) rfl
      have hK9 := hK.sub (tys' := [(cB_, .byte), (cO, .long)]) [0, 1] rfl
      refine W.widen (k := 1) (n := 6) (by omega) (by omega) ?_
      exact W.iret (v := 1) hx hb hr (fun t ht hW => ⟨⟨_, (go), rfl, ⟨hl9.symm, fun z => absurd (hl9.symm.trans z) (by decide)⟩, by rw [ht]; exact hP9, va_K.moved hW.alike hK9, hD9⟩, hS.F ht⟩) hS.2.2 dL_load_16
    · skip
      refine vx_catch hown [⟨0, 10, 13, 13⟩] ⟨0, 10, 17, 15⟩ [] htab (fun z hz => Or.inr (by cases List.mem_singleton.mp hz; exact ⟨by decide, eA, hw _ w_fec2ae9526, hZ.2.2.2.2.2.2.2.1⟩)) rfl (by decide) (hw _ w_dbeeff8ac7) ((hZ.1 _ (List.mem_of_getElem? (i := 13) rfl)).use rfl) hce hcv hcl ?_
      have hP := hP.kept (fun k q hk => hk1 q.1 (vx_lt hP hk) (fun h => h))
      have hS := hS9
      generalize H1 = H at hP hS ⊢
      refine W.cs (cells' := 1) (slots' := 6) (by omega) (by omega) ?_
      have hP : va_P (dC, dI) vwCl [(o, .inr (3, [.int sc, .ref b, .ref b2, .ref uq, .ref rq, .int fc, .int qc, .int cu, .int sa, .int aw, .int cg])), (b, .inr (0, [.ref q])), (q, .inl (cB_, 65536, .inl (cB M))), (uo, .inl (cO, 1, .inr (.inl go)))] H := hP
      have hD : va_D A [(o, .inr (3, [.int sc, .ref b, .ref b2, .ref uq, .ref rq, .int fc, .int qc, .int cu, .int sa, .int aw, .int cg])), (b, .inr (0, [.ref q])), (q, .inl (cB_, 65536, .inl (cB M))), (uo, .inl (cO, 1, .inr (.inl go)))] := hD
      refine lv_astore (lv' := [(5, .ref q9), (0, .ref o), (1, .long a), (3, .int x), (4, .ref uo)]) hx hb dL_load_17 hl (by decide) rfl (fun ls hl => ?_)
      refine lv_iconst (v := 2) hx hb dL_load_19 (by decide) ?_
      have hP9 : va_P (dC, dI) vwCl [(o, .inr (3, [.int sc, .ref b, .ref b2, .ref uq, .ref rq, .int fc, .int qc, .int cu, .int sa, .int aw, .int cg])), (b, .inr (0, [.ref q])), (q, .inl (cB_, 65536, .inl (cB M))), (uo, .inl (cO, 1, .inr (.inl go)))] H := by exact hP.sub (ws' := [(o, .inr (3, [.int sc, .ref b, .ref b2, .ref uq, .ref rq, .int fc, .int qc, .int cu, .int sa, .int aw, .int cg])), (b, .inr (0, [.ref q])), (q, .inl (cB_, 65536, .inl (cB M))), (uo, .inl (cO, 1, .inr (.inl go)))]) [0, 1, 2, 3] rfl
      have hD9 : va_D A [(o, .inr (3, [.int sc, .ref b, .ref b2, .ref uq, .ref rq, .int fc, .int qc, .int cu, .int sa, .int aw, .int cg])), (b, .inr (0, [.ref q])), (q, .inl (cB_, 65536, .inl (cB M))), (uo, .inl (cO, 1, .inr (.inl go)))] := by exact hD.sub (ws' := [(o, .inr (3, [.int sc, .ref b, .ref b2, .ref uq, .ref rq, .int fc, .int qc, .int cu, .int sa, .int aw, .int cg])), (b, .inr (0, [.ref q])), (q, .inl (cB_, 65536, .inl (cB M))), (uo, .inl (cO, 1, .inr (.inl go)))]) [0, 1, 2, 3] (by decide) rfl
      have hK9 := hK.sub (tys' := [(cB_, .byte), (cO, .long)]) [0, 1] rfl
      refine W.widen (k := 1) (n := 6) (by omega) (by omega) ?_
      exact W.iret (v := 2) hx hb hr (fun t ht hW => ⟨⟨_, (go), rfl, ⟨hl9.symm, fun z => absurd (hl9.symm.trans z) (by decide)⟩, by rw [ht]; exact hP9, va_K.moved hW.alike hK9, hD9⟩, hS.F ht⟩) hS.2.2 dL_load_20
  obtain ⟨hP1, hK1, hD1⟩ := hB
  rw [ht] at hP1
  have hK1 := va_K.moved hvm.symm hK1
  try dsimp only at hw2
  obtain ⟨hP, hD⟩ := va_join (wr := [(uo, .inl (cO, 1, .inr (.inl go)))]) (w1 := [(o, .inr (3, [.int sc, .ref b, .ref b2, .ref uq, .ref rq, .int fc, .int qc, .int cu, .int sa, .int aw, .int cg])), (b, .inr (0, [.ref q])), (q, .inl (cB_, 65536, .inl (cB M)))]) hP hD [0, 1, 2] [3] rfl rfl (by decide) (by decide) hk1 hFc hP1 hD1
  generalize H1 = H at hP hS hk1 ⊢
  refine W.cs (cells' := 1) (slots' := 6) (by omega) (by omega) ?_
  have hP : va_P (dC, dI) vwCl [(uo, .inl (cO, 1, .inr (.inl go))), (o, .inr (3, [.int sc, .ref b, .ref b2, .ref uq, .ref rq, .int fc, .int qc, .int cu, .int sa, .int aw, .int cg])), (b, .inr (0, [.ref q])), (q, .inl (cB_, 65536, .inl (cB M)))] H := hP
  have hD : va_D A [(uo, .inl (cO, 1, .inr (.inl go))), (o, .inr (3, [.int sc, .ref b, .ref b2, .ref uq, .ref rq, .int fc, .int qc, .int cu, .int sa, .int aw, .int cg])), (b, .inr (0, [.ref q])), (q, .inl (cB_, 65536, .inl (cB M)))] := hD
  have hw_2 : ldc a x = 0 ∧ r_1 = lN (nbs M (off a) x.toInt.toNat) := hw2
  refine va_last hx hb hK hP hD hS 0 1 rfl rfl vp_in01 dL_load_9 (fun H locs hP hD hS => ?_)
  have hP : va_P (dC, dI) vwCl [(uo, .inl (cO, 1, .inr (.inl (vp_updL go (0 : Int32).toNatClampNeg r_1)))), (o, .inr (3, [.int sc, .ref b, .ref b2, .ref uq, .ref rq, .int fc, .int qc, .int cu, .int sa, .int aw, .int cg])), (b, .inr (0, [.ref q])), (q, .inl (cB_, 65536, .inl (cB M)))] H := hP
  have hD : va_D A [(uo, .inl (cO, 1, .inr (.inl (vp_updL go (0 : Int32).toNatClampNeg r_1)))), (o, .inr (3, [.int sc, .ref b, .ref b2, .ref uq, .ref rq, .int fc, .int qc, .int cu, .int sa, .int aw, .int cg])), (b, .inr (0, [.ref q])), (q, .inl (cB_, 65536, .inl (cB M)))] := hD
  refine lv_goto (tgt := 21) hx hb dL_load_10 (by decide) ?_
  refine lv_iconst (v := 0) hx hb dL_load_21 (by decide) ?_
  have hP9 : va_P (dC, dI) vwCl [(o, .inr (3, [.int sc, .ref b, .ref b2, .ref uq, .ref rq, .int fc, .int qc, .int cu, .int sa, .int aw, .int cg])), (b, .inr (0, [.ref q])), (q, .inl (cB_, 65536, .inl (cB M))), (uo, .inl (cO, 1, .inr (.inl (vp_updL go (0 : Int32).toNatClampNeg r_1))))] H := by exact hP.sub (ws' := [(o, .inr (3, [.int sc, .ref b, .ref b2, .ref uq, .ref rq, .int fc, .int qc, .int cu, .int sa, .int aw, .int cg])), (b, .inr (0, [.ref q])), (q, .inl (cB_, 65536, .inl (cB M))), (uo, .inl (cO, 1, .inr (.inl (vp_updL go (0 : Int32).toNatClampNeg r_1))))]) [1, 2, 3, 0] rfl
  have hD9 : va_D A [(o, .inr (3, [.int sc, .ref b, .ref b2, .ref uq, .ref rq, .int fc, .int qc, .int cu, .int sa, .int aw, .int cg])), (b, .inr (0, [.ref q])), (q, .inl (cB_, 65536, .inl (cB M))), (uo, .inl (cO, 1, .inr (.inl (vp_updL go (0 : Int32).toNatClampNeg r_1))))] := by exact hD.sub (ws' := [(o, .inr (3, [.int sc, .ref b, .ref b2, .ref uq, .ref rq, .int fc, .int qc, .int cu, .int sa, .int aw, .int cg])), (b, .inr (0, [.ref q])), (q, .inl (cB_, 65536, .inl (cB M))), (uo, .inl (cO, 1, .inr (.inl (vp_updL go (0 : Int32).toNatClampNeg r_1))))]) [1, 2, 3, 0] (by decide) rfl
  have hK9 := hK.sub (tys' := [(cB_, .byte), (cO, .long)]) [0, 1] rfl
  refine W.widen (k := 1) (n := 6) (by omega) (by omega) ?_
  exact W.iret (v := 0) hx hb hr (fun t ht hW => ⟨⟨_, (vp_updL go (0 : Int32).toNatClampNeg r_1), rfl, ⟨hw_2.1.symm, fun _ => (updL_0 _ _).trans hw_2.2⟩, by rw [ht]; exact hP9, va_K.moved hW.alike hK9, hD9⟩, hS.F ht⟩) hS.2.2 dL_load_22
set_option maxHeartbeats 4000000 in
set_option maxRecDepth 100000 in
/-- the law's store -/
theorem l_store (l : Launch) (dC : Nat → ClassId) (dI : Nat → Nat → Nat) (o : Nat) (sc : Int32) (b : Nat) (b2 : Nat) (uq : Nat) (rq : Nat) (fc : Int32) (qc : Int32) (cu : Int32) (sa : Int32) (aw : Int32) (cg : Int32) (q : Nat) (cB_ : ClassId) (M : Nat → Nat) (a : Int64) (x : Int32) (vv : Int64) (w : Nat) (zS : Nat) (hst : l.stackTraces = false) (hM : byt M) (hv : vv = lN w) (hwl : w < 2 ^ 64) : Met l yL_store wsL_store ({ frames := 8, cells := 1, slots := 6, locals := 140 }) (va_Pc [.ref o, .long a, .int x, .long vv] (fun U => U.heap.size = zS ∧ va_P (dC, dI) vwCl [(o, .inr (3, [.int sc, .ref b, .ref b2, .ref uq, .ref rq, .int fc, .int qc, .int cu, .int sa, .int aw, .int cg])), (b, .inr (0, [.ref q])), (q, .inl (cB_, 65536, .inl (cB M)))] U.heap ∧ va_K (dC, dI) vwCl [(cB_, .byte)] U ∧ va_D (fun _ => True) [(o, .inr (3, [.int sc, .ref b, .ref b2, .ref uq, .ref rq, .int fc, .int qc, .int cu, .int sa, .int aw, .int cg])), (b, .inr (0, [.ref q])), (q, .inl (cB_, 65536, .inl (cB M)))] ∧ ZZ (va_A [(o, .inr (3, [.int sc, .ref b, .ref b2, .ref uq, .ref rq, .int fc, .int qc, .int cu, .int sa, .int aw, .int cg])), (b, .inr (0, [.ref q])), (q, .inl (cB_, 65536, .inl (cB M)))] zS) U U.heap)) (va_Qi (fun (r : Int32) (u : (Nat → Int32)) => match u with | g => r = ldc a x ∧ g = cB (stM M a x w)) (fun (u : (Nat → Int32)) (t : State) => match u with | g => va_P (dC, dI) vwCl [(o, .inr (3, [.int sc, .ref b, .ref b2, .ref uq, .ref rq, .int fc, .int qc, .int cu, .int sa, .int aw, .int cg])), (b, .inr (0, [.ref q])), (q, .inl (cB_, 65536, .inl g))] t.heap ∧ va_K (dC, dI) vwCl [(cB_, .byte)] t ∧ va_D (va_A [(o, .inr (3, [.int sc, .ref b, .ref b2, .ref uq, .ref rq, .int fc, .int qc, .int cu, .int sa, .int aw, .int cg])), (b, .inr (0, [.ref q])), (q, .inl (cB_, 65536, .inl (cB M)))] zS) [(o, .inr (3, [.int sc, .ref b, .ref b2, .ref uq, .ref rq, .int fc, .int qc, .int cu, .int sa, .int aw, .int cg])), (b, .inr (0, [.ref q])), (q, .inl (cB_, 65536, .inl g))]) (va_A [(o, .inr (3, [.int sc, .ref b, .ref b2, .ref uq, .ref rq, .int fc, .int qc, .int cu, .int sa, .int aw, .int cg])), (b, .inr (0, [.ref q])), (q, .inl (cB_, 65536, .inl (cB M)))] zS)) 1 6 (va_A [(o, .inr (3, [.int sc, .ref b, .ref b2, .ref uq, .ref rq, .int fc, .int qc, .int cu, .int sa, .int aw, .int cg])), (b, .inr (0, [.ref q])), (q, .inl (cB_, 65536, .inl (cB M)))] zS) := by
  refine metWH (cc := cL_store) (maxL := 7) (ret := (some .int)) (by decide) rfl ?_
  intro p e s m args below meth c s₁ B hml hv
  obtain ⟨rfl, hsz, hP, hK, hD0, hZ⟩ := hv
  have hx := B.exec
  have hb := B.bytes
  have hr := B.returns
  have hts := atoms_spec (ws := wsL_store) B.pre
  have hw : ∀ w ∈ WW, w.before _ s = true := fun w h => hts w (List.mem_cons_of_mem _ h)
  have hown : s.vm.findClass RL = some m.cls := findClass_of_methodNamed B.named
  have hlocks := B.notSynchronized
  have htab := vx_table (x := yL_store) B (hts _ List.mem_cons_self)
  subst hsz
  have hD := hD0.self (sz := s.heap.size)
  generalize hAe : va_A [(o, .inr (3, [.int sc, .ref b, .ref b2, .ref uq, .ref rq, .int fc, .int qc, .int cu, .int sa, .int aw, .int cg])), (b, .inr (0, [.ref q])), (q, .inl (cB_, 65536, .inl (cB M)))] s.heap.size = A at hD hZ ⊢
  have hA : ∀ q : Nat, s.heap.size ≤ q → A q := fun q h => by rw [← hAe]; exact Or.inr h
  have hS : va_S A s.heap s.heap [] := va_S.rf
  have hP : va_P (dC, dI) vwCl [(o, .inr (3, [.int sc, .ref b, .ref b2, .ref uq, .ref rq, .int fc, .int qc, .int cu, .int sa, .int aw, .int cg])), (b, .inr (0, [.ref q])), (q, .inl (cB_, 65536, .inl (cB M)))] s.heap := hP
  have hl := lv_entry ([.ref o, .long a, .int x, .long vv]) (n := 7) (Nat.le_of_ble_eq_true rfl)
  rw [lg_entry_eq]
  generalize (lg_sl ([.ref o, .long a, .int x, .long vv]) ++ List.replicate (7 - (lg_sl ([.ref o, .long a, .int x, .long vv])).length) Slot.unset).toArray = ls at hl ⊢
  have hl : lv_has ls 7 [(0, .ref o), (1, .long a), (3, .int x), (4, .long vv)] := hl
  refine lv_aload_n hx hb dL_store_0 rfl (lv_at hl 0 rfl) ?_
  refine lv_lload_n hx hb dL_store_1 rfl (lv_at hl 1 rfl) ?_
  refine lv_iload_n hx hb dL_store_2 rfl (lv_at hl 2 rfl) ?_
  refine lv_lload hx hb dL_store_3 (lv_at hl 3 rfl) ?_
  have hPc := hP.sub (ws' := [(o, .inr (3, [.int sc, .ref b, .ref b2, .ref uq, .ref rq, .int fc, .int qc, .int cu, .int sa, .int aw, .int cg])), (b, .inr (0, [.ref q])), (q, .inl (cB_, 65536, .inl (cB M)))]) [0, 1, 2] rfl
  have hKc := hK.sub (tys' := [(cB_, .byte)]) [0] rfl
  have hDc := hD.sub (ws' := [(o, .inr (3, [.int sc, .ref b, .ref b2, .ref uq, .ref rq, .int fc, .int qc, .int cu, .int sa, .int aw, .int cg])), (b, .inr (0, [.ref q])), (q, .inl (cB_, 65536, .inl (cB M)))]) [0, 1, 2] (by decide) rfl
  have hFc := va_free (wc := [(o, .inr (3, [.int sc, .ref b, .ref b2, .ref uq, .ref rq, .int fc, .int qc, .int cu, .int sa, .int aw, .int cg])), (b, .inr (0, [.ref q])), (q, .inl (cB_, 65536, .inl (cB M)))]) hD hS hA [0, 1, 2] rfl
  have hZc : ZZ (va_A [(o, .inr (3, [.int sc, .ref b, .ref b2, .ref uq, .ref rq, .int fc, .int qc, .int cu, .int sa, .int aw, .int cg])), (b, .inr (0, [.ref q])), (q, .inl (cB_, 65536, .inl (cB M)))] s.heap.size) s s.heap := (hZ.kept hS.2.1).narrow hFc
  refine vx_callv (vx_runV (As := [.long a, .int x, .long vv]) (rest := []) ⟨hx, hb, hml, hown, hw⟩ (d_store l dC dI o sc b b2 uq rq fc qc cu sa aw cg q cB_ M a x vv w s.heap.size hst hM hv hwl) (cwV 3 hw (gV w_6a69d9a49a w_e16b8a6859 w_bd81ac26e7 w_106b72596f w_270242b33f) rfl rfl rfl (by decide +kernel) ⟨Nat.le_of_ble_eq_true rfl, Nat.le_of_ble_eq_true rfl⟩) ⟨fun a U g mk q => by obtain ⟨q0, q1, qP, qK, qD, qZ⟩ := q; exact ⟨q0, q1, qP, va_K.moved (u := U) (U := U.calling g mk a) (Vm.Alike.refl U.vm) qK, qD, ZZ.same (u := U) (U := U.calling g mk a) rfl qZ⟩, va_recv hKc hPc (ci := 3) (q0 := 0) rfl rfl, fun U hU hW => ⟨rfl, by rw [hU], by rw [hU]; exact hPc, va_K.moved hW.alike hKc, hDc.weaken (fun _ _ _ _ => trivial), by rw [hU]; exact ZZ.warm hW hZc⟩⟩ rfl rfl hl.1 rfl (lv_room (Nat.le_of_ble_eq_true rfl)) dL_store_5 ⟨Nat.le_of_ble_eq_true rfl, Nat.le_of_ble_eq_true rfl⟩) hS (fun q _ h => hFc q h) hFc (fun _ _ h => h.elim) (fun E9 ce9 q9 u9 t H1 locs9 ht hvm hpx hbx hz1 hk1 hS9 hce hcv hcl => ?_) (fun u t H1 locs ht hvm hw2 hB hz1 hk1 hS => ?_)
  · skip
    have hbx : (E9 = eA ∧ ldc a x = 1) ∨ (E9 = eB ∧ ldc a x = 2) := hbx
    rcases hbx with ⟨rfl, hl9⟩ | ⟨rfl, hl9⟩
    · skip
      refine vx_catch hown [] ⟨0, 8, 11, 13⟩ [⟨0, 8, 15, 15⟩] htab (fun z hz => nomatch hz) rfl (by decide) (hw _ w_fec2ae9526) ((hZ.1 _ (List.mem_of_getElem? (i := 12) rfl)).use rfl) hce hcv hcl ?_
      have hP := hP.kept (fun k q hk => hk1 q.1 (vx_lt hP hk) (fun h => h))
      have hS := hS9
      generalize H1 = H at hP hS ⊢
      refine W.cs (cells' := 1) (slots' := 6) (by omega) (by omega) ?_
      have hP : va_P (dC, dI) vwCl [(o, .inr (3, [.int sc, .ref b, .ref b2, .ref uq, .ref rq, .int fc, .int qc, .int cu, .int sa, .int aw, .int cg])), (b, .inr (0, [.ref q])), (q, .inl (cB_, 65536, .inl (cB M)))] H := hP
      have hD : va_D A [(o, .inr (3, [.int sc, .ref b, .ref b2, .ref uq, .ref rq, .int fc, .int qc, .int cu, .int sa, .int aw, .int cg])), (b, .inr (0, [.ref q])), (q, .inl (cB_, 65536, .inl (cB M)))] := hD
      refine lv_astore (lv' := [(6, .ref q9), (0, .ref o), (1, .long a), (3, .int x), (4, .long vv)]) hx hb dL_store_11 hl (by decide) rfl (fun ls hl => ?_)
      refine lv_iconst (v := 1) hx hb dL_store_13 (by decide) ?_
      have hP9 : va_P (dC, dI) vwCl [(o, .inr (3, [.int sc, .ref b, .ref b2, .ref uq, .ref rq, .int fc, .int qc, .int cu, .int sa, .int aw, .int cg])), (b, .inr (0, [.ref q])), (q, .inl (cB_, 65536, .inl (cB M)))] H := by exact hP.sub (ws' := [(o, .inr (3, [.int sc, .ref b, .ref b2, .ref uq, .ref rq, .int fc, .int qc, .int cu, .int sa, .int aw, .int cg])), (b, .inr (0, [.ref q])), (q, .inl (cB_, 65536, .inl (cB M)))]) [0, 1, 2] rfl
      have hD9 : va_D A [(o, .inr (3, [.int sc, .ref b, .ref b2, .ref uq, .ref rq, .int fc, .int qc, .int cu, .int sa, .int aw, .int cg])), (b, .inr (0, [.ref q])), (q, .inl (cB_, 65536, .inl (cB M)))] := by exact hD.sub (ws' := [(o, .inr (3, [.int sc, .ref b, .ref b2, .ref uq, .ref rq, .int fc, .int qc, .int cu, .int sa, .int aw, .int cg])), (b, .inr (0, [.ref q])), (q, .inl (cB_, 65536, .inl (cB M)))]) [0, 1, 2] (by decide) rfl
      have hK9 := hK.sub (tys' := [(cB_, .byte)]) [0] rfl
      refine W.widen (k := 1) (n := 6) (by omega) (by omega) ?_
      exact W.iret (v := 1) hx hb hr (fun t ht hW => ⟨⟨_, (cB M), rfl, ⟨hl9.symm, congrArg cB (stM_no hl9 (by decide)).symm⟩, by rw [ht]; exact hP9, va_K.moved hW.alike hK9, hD9⟩, hS.F ht⟩) hS.2.2 dL_store_14
    · skip
      refine vx_catch hown [⟨0, 8, 11, 13⟩] ⟨0, 8, 15, 15⟩ [] htab (fun z hz => Or.inr (by cases List.mem_singleton.mp hz; exact ⟨by decide, eA, hw _ w_fec2ae9526, hZ.2.2.2.2.2.2.2.1⟩)) rfl (by decide) (hw _ w_dbeeff8ac7) ((hZ.1 _ (List.mem_of_getElem? (i := 13) rfl)).use rfl) hce hcv hcl ?_
      have hP := hP.kept (fun k q hk => hk1 q.1 (vx_lt hP hk) (fun h => h))
      have hS := hS9
      generalize H1 = H at hP hS ⊢
      refine W.cs (cells' := 1) (slots' := 6) (by omega) (by omega) ?_
      have hP : va_P (dC, dI) vwCl [(o, .inr (3, [.int sc, .ref b, .ref b2, .ref uq, .ref rq, .int fc, .int qc, .int cu, .int sa, .int aw, .int cg])), (b, .inr (0, [.ref q])), (q, .inl (cB_, 65536, .inl (cB M)))] H := hP
      have hD : va_D A [(o, .inr (3, [.int sc, .ref b, .ref b2, .ref uq, .ref rq, .int fc, .int qc, .int cu, .int sa, .int aw, .int cg])), (b, .inr (0, [.ref q])), (q, .inl (cB_, 65536, .inl (cB M)))] := hD
      refine lv_astore (lv' := [(6, .ref q9), (0, .ref o), (1, .long a), (3, .int x), (4, .long vv)]) hx hb dL_store_15 hl (by decide) rfl (fun ls hl => ?_)
      refine lv_iconst (v := 2) hx hb dL_store_17 (by decide) ?_
      have hP9 : va_P (dC, dI) vwCl [(o, .inr (3, [.int sc, .ref b, .ref b2, .ref uq, .ref rq, .int fc, .int qc, .int cu, .int sa, .int aw, .int cg])), (b, .inr (0, [.ref q])), (q, .inl (cB_, 65536, .inl (cB M)))] H := by exact hP.sub (ws' := [(o, .inr (3, [.int sc, .ref b, .ref b2, .ref uq, .ref rq, .int fc, .int qc, .int cu, .int sa, .int aw, .int cg])), (b, .inr (0, [.ref q])), (q, .inl (cB_, 65536, .inl (cB M)))]) [0, 1, 2] rfl
      have hD9 : va_D A [(o, .inr (3, [.int sc, .ref b, .ref b2, .ref uq, .ref rq, .int fc, .int qc, .int cu, .int sa, .int aw, .int cg])), (b, .inr (0, [.ref q])), (q, .inl (cB_, 65536, .inl (cB M)))] := by exact hD.sub (ws' := [(o, .inr (3, [.int sc, .ref b, .ref b2, .ref uq, .ref rq, .int fc, .int qc, .int cu, .int sa, .int aw, .int cg])), (b, .inr (0, [.ref q])), (q, .inl (cB_, 65536, .inl (cB M)))]) [0, 1, 2] (by decide) rfl
      have hK9 := hK.sub (tys' := [(cB_, .byte)]) [0] rfl
      refine W.widen (k := 1) (n := 6) (by omega) (by omega) ?_
      exact W.iret (v := 2) hx hb hr (fun t ht hW => ⟨⟨_, (cB M), rfl, ⟨hl9.symm, congrArg cB (stM_no hl9 (by decide)).symm⟩, by rw [ht]; exact hP9, va_K.moved hW.alike hK9, hD9⟩, hS.F ht⟩) hS.2.2 dL_store_18
  obtain ⟨g_1, rfl⟩ : ∃ z, z = u := ⟨_, rfl⟩
  obtain ⟨hP1, hK1, hD1⟩ := hB
  rw [ht] at hP1
  have hK1 := va_K.moved hvm.symm hK1
  try dsimp only at hw2
  obtain ⟨hP, hD⟩ := va_join (wr := []) (w1 := [(o, .inr (3, [.int sc, .ref b, .ref b2, .ref uq, .ref rq, .int fc, .int qc, .int cu, .int sa, .int aw, .int cg])), (b, .inr (0, [.ref q])), (q, .inl (cB_, 65536, .inl g_1))]) hP hD [0, 1, 2] [] rfl rfl (by decide) (by decide) hk1 hFc hP1 hD1
  generalize H1 = H at hP hS hk1 ⊢
  refine W.cs (cells' := 1) (slots' := 6) (by omega) (by omega) ?_
  have hP : va_P (dC, dI) vwCl [(o, .inr (3, [.int sc, .ref b, .ref b2, .ref uq, .ref rq, .int fc, .int qc, .int cu, .int sa, .int aw, .int cg])), (b, .inr (0, [.ref q])), (q, .inl (cB_, 65536, .inl g_1))] H := hP
  have hD : va_D A [(o, .inr (3, [.int sc, .ref b, .ref b2, .ref uq, .ref rq, .int fc, .int qc, .int cu, .int sa, .int aw, .int cg])), (b, .inr (0, [.ref q])), (q, .inl (cB_, 65536, .inl g_1))] := hD
  have hw_2 : ldc a x = 0 ∧ g_1 = cB (stM M a x w) := hw2
  refine lv_goto (tgt := 19) hx hb dL_store_8 (by decide) ?_
  refine lv_iconst (v := 0) hx hb dL_store_19 (by decide) ?_
  have hP9 : va_P (dC, dI) vwCl [(o, .inr (3, [.int sc, .ref b, .ref b2, .ref uq, .ref rq, .int fc, .int qc, .int cu, .int sa, .int aw, .int cg])), (b, .inr (0, [.ref q])), (q, .inl (cB_, 65536, .inl g_1))] H := by exact hP.sub (ws' := [(o, .inr (3, [.int sc, .ref b, .ref b2, .ref uq, .ref rq, .int fc, .int qc, .int cu, .int sa, .int aw, .int cg])), (b, .inr (0, [.ref q])), (q, .inl (cB_, 65536, .inl g_1))]) [0, 1, 2] rfl
  have hD9 : va_D A [(o, .inr (3, [.int sc, .ref b, .ref b2, .ref uq, .ref rq, .int fc, .int qc, .int cu, .int sa, .int aw, .int cg])), (b, .inr (0, [.ref q])), (q, .inl (cB_, 65536, .inl g_1))] := by exact hD.sub (ws' := [(o, .inr (3, [.int sc, .ref b, .ref b2, .ref uq, .ref rq, .int fc, .int qc, .int cu, .int sa, .int aw, .int cg])), (b, .inr (0, [.ref q])), (q, .inl (cB_, 65536, .inl g_1))]) [0, 1, 2] (by decide) rfl
  have hK9 := hK.sub (tys' := [(cB_, .byte)]) [0] rfl
  refine W.widen (k := 1) (n := 6) (by omega) (by omega) ?_
  exact W.iret (v := 0) hx hb hr (fun t ht hW => ⟨⟨_, (g_1), rfl, ⟨hw_2.1.symm, hw_2.2⟩, by rw [ht]; exact hP9, va_K.moved hW.alike hK9, hD9⟩, hS.F ht⟩) hS.2.2 dL_store_20
set_option maxHeartbeats 4000000 in
set_option maxRecDepth 100000 in
/-- the law's disk -/
theorem l_disk (l : Launch) (dC : Nat → ClassId) (dI : Nat → Nat → Nat) (o : Nat) (sc : Int32) (b : Nat) (b2 : Nat) (uq : Nat) (rq : Nat) (fc : Int32) (qc : Int32) (cu : Int32) (sa : Int32) (aw : Int32) (cg : Int32) (q2 : Nat) (cB2 : ClassId) (nn : Nat) (Dk : Nat → Nat) (x : Int32) (uo : Nat) (cO : ClassId) (go : Nat → Int64) (zS : Nat) (hst : l.stackTraces = false) (hnn : nn ≤ 2048) (hDk : byt Dk) : Met l yL_disk wsL_disk ({ frames := 8, cells := 1, slots := 6, locals := 140 }) (va_Pc [.ref o, .int x, .ref uo] (fun U => U.heap.size = zS ∧ va_P (dC, dI) vwCl [(o, .inr (3, [.int sc, .ref b, .ref b2, .ref uq, .ref rq, .int fc, .int qc, .int cu, .int sa, .int aw, .int cg])), (b2, .inr (0, [.ref q2])), (q2, .inl (cB2, 512 * nn, .inl (cB Dk))), (uo, .inl (cO, 1, .inr (.inl go)))] U.heap ∧ va_K (dC, dI) vwCl [(cB2, .byte), (cO, .long)] U ∧ va_D (fun _ => True) [(o, .inr (3, [.int sc, .ref b, .ref b2, .ref uq, .ref rq, .int fc, .int qc, .int cu, .int sa, .int aw, .int cg])), (b2, .inr (0, [.ref q2])), (q2, .inl (cB2, 512 * nn, .inl (cB Dk))), (uo, .inl (cO, 1, .inr (.inl go)))] ∧ ZZ (va_A [(o, .inr (3, [.int sc, .ref b, .ref b2, .ref uq, .ref rq, .int fc, .int qc, .int cu, .int sa, .int aw, .int cg])), (b2, .inr (0, [.ref q2])), (q2, .inl (cB2, 512 * nn, .inl (cB Dk))), (uo, .inl (cO, 1, .inr (.inl go)))] zS) U U.heap)) (va_Qi (fun (r : Int32) (u : (Nat → Int64)) => match u with | g => r = bI (npP x nn) ∧ (¬ npP x nn → g 0 = (nI (Dk x.toInt.toNat)).toInt64)) (fun (u : (Nat → Int64)) (t : State) => match u with | g => va_P (dC, dI) vwCl [(o, .inr (3, [.int sc, .ref b, .ref b2, .ref uq, .ref rq, .int fc, .int qc, .int cu, .int sa, .int aw, .int cg])), (b2, .inr (0, [.ref q2])), (q2, .inl (cB2, 512 * nn, .inl (cB Dk))), (uo, .inl (cO, 1, .inr (.inl g)))] t.heap ∧ va_K (dC, dI) vwCl [(cB2, .byte), (cO, .long)] t ∧ va_D (va_A [(o, .inr (3, [.int sc, .ref b, .ref b2, .ref uq, .ref rq, .int fc, .int qc, .int cu, .int sa, .int aw, .int cg])), (b2, .inr (0, [.ref q2])), (q2, .inl (cB2, 512 * nn, .inl (cB Dk))), (uo, .inl (cO, 1, .inr (.inl go)))] zS) [(o, .inr (3, [.int sc, .ref b, .ref b2, .ref uq, .ref rq, .int fc, .int qc, .int cu, .int sa, .int aw, .int cg])), (b2, .inr (0, [.ref q2])), (q2, .inl (cB2, 512 * nn, .inl (cB Dk))), (uo, .inl (cO, 1, .inr (.inl g)))]) (va_A [(o, .inr (3, [.int sc, .ref b, .ref b2, .ref uq, .ref rq, .int fc, .int qc, .int cu, .int sa, .int aw, .int cg])), (b2, .inr (0, [.ref q2])), (q2, .inl (cB2, 512 * nn, .inl (cB Dk))), (uo, .inl (cO, 1, .inr (.inl go)))] zS)) 1 6 (va_A [(o, .inr (3, [.int sc, .ref b, .ref b2, .ref uq, .ref rq, .int fc, .int qc, .int cu, .int sa, .int aw, .int cg])), (b2, .inr (0, [.ref q2])), (q2, .inl (cB2, 512 * nn, .inl (cB Dk))), (uo, .inl (cO, 1, .inr (.inl go)))] zS) := by
  refine metWH (cc := cL_disk) (maxL := 4) (ret := (some .int)) (by decide) rfl ?_
  intro p e s m args below meth c s₁ B hml hv
  obtain ⟨rfl, hsz, hP, hK, hD0, hZ⟩ := hv
  have hx := B.exec
  have hb := B.bytes
  have hr := B.returns
  have hts := atoms_spec (ws := wsL_disk) B.pre
  have hw : ∀ w ∈ WW, w.before _ s = true := fun w h => hts w (List.mem_cons_of_mem _ h)
  have hown : s.vm.findClass RL = some m.cls := findClass_of_methodNamed B.named
  have hlocks := B.notSynchronized
  have htab := vx_table (x := yL_disk) B (hts _ List.mem_cons_self)
  subst hsz
  have hD := hD0.self (sz := s.heap.size)
  generalize hAe : va_A [(o, .inr (3, [.int sc, .ref b, .ref b2, .ref uq, .ref rq, .int fc, .int qc, .int cu, .int sa, .int aw, .int cg])), (b2, .inr (0, [.ref q2])), (q2, .inl (cB2, 512 * nn, .inl (cB Dk))), (uo, .inl (cO, 1, .inr (.inl go)))] s.heap.size = A at hD hZ ⊢
  have hA : ∀ q : Nat, s.heap.size ≤ q → A q := fun q h => by rw [← hAe]; exact Or.inr h
  have hS : va_S A s.heap s.heap [] := va_S.rf
  have hP : va_P (dC, dI) vwCl [(o, .inr (3, [.int sc, .ref b, .ref b2, .ref uq, .ref rq, .int fc, .int qc, .int cu, .int sa, .int aw, .int cg])), (b2, .inr (0, [.ref q2])), (q2, .inl (cB2, 512 * nn, .inl (cB Dk))), (uo, .inl (cO, 1, .inr (.inl go)))] s.heap := hP
  have hl := lv_entry ([.ref o, .int x, .ref uo]) (n := 4) (Nat.le_of_ble_eq_true rfl)
  rw [lg_entry_eq]
  generalize (lg_sl ([.ref o, .int x, .ref uo]) ++ List.replicate (4 - (lg_sl ([.ref o, .int x, .ref uo])).length) Slot.unset).toArray = ls at hl ⊢
  have hl : lv_has ls 4 [(0, .ref o), (1, .int x), (2, .ref uo)] := hl
  refine lv_aload_n hx hb dL_disk_0 rfl (lv_at hl 2 rfl) ?_
  refine lv_iconst (v := 0) hx hb dL_disk_1 (by decide) ?_
  refine lv_aload_n hx hb dL_disk_2 rfl (lv_at hl 0 rfl) ?_
  refine lv_iload_n hx hb dL_disk_3 rfl (lv_at hl 1 rfl) ?_
  have hPc := hP.sub (ws' := [(o, .inr (3, [.int sc, .ref b, .ref b2, .ref uq, .ref rq, .int fc, .int qc, .int cu, .int sa, .int aw, .int cg])), (b2, .inr (0, [.ref q2])), (q2, .inl (cB2, 512 * nn, .inl (cB Dk)))]) [0, 1, 2] rfl
  have hKc := hK.sub (tys' := [(cB2, .byte)]) [0] rfl
  have hDc := hD.sub (ws' := [(o, .inr (3, [.int sc, .ref b, .ref b2, .ref uq, .ref rq, .int fc, .int qc, .int cu, .int sa, .int aw, .int cg])), (b2, .inr (0, [.ref q2])), (q2, .inl (cB2, 512 * nn, .inl (cB Dk)))]) [0, 1, 2] (by decide) rfl
  have hFc := va_free (wc := [(o, .inr (3, [.int sc, .ref b, .ref b2, .ref uq, .ref rq, .int fc, .int qc, .int cu, .int sa, .int aw, .int cg])), (b2, .inr (0, [.ref q2])), (q2, .inl (cB2, 512 * nn, .inl (cB Dk)))]) hD hS hA [0, 1, 2] rfl
  have hZc : ZZ (va_A [(o, .inr (3, [.int sc, .ref b, .ref b2, .ref uq, .ref rq, .int fc, .int qc, .int cu, .int sa, .int aw, .int cg])), (b2, .inr (0, [.ref q2])), (q2, .inl (cB2, 512 * nn, .inl (cB Dk)))] s.heap.size) s s.heap := (hZ.kept hS.2.1).narrow hFc
  refine vx_calli (vx_runV (As := [.int x]) (rest := [.int 0, .ref uo]) ⟨hx, hb, hml, hown, hw⟩ (d_disk l dC dI o sc b b2 uq rq fc qc cu sa aw cg q2 cB2 nn Dk x s.heap.size hst hnn hDk) (cwV 1 hw (gV w_0b1dab0b45 w_d1cfef0bc7 w_7ef169d9a2 w_106b72596f w_46d682f85f) rfl rfl rfl (by decide +kernel) ⟨Nat.le_of_ble_eq_true rfl, Nat.le_of_ble_eq_true rfl⟩) ⟨fun a U g mk q => by obtain ⟨q0, q1, qP, qK, qD, qZ⟩ := q; exact ⟨q0, q1, qP, va_K.moved (u := U) (U := U.calling g mk a) (Vm.Alike.refl U.vm) qK, qD, ZZ.same (u := U) (U := U.calling g mk a) rfl qZ⟩, va_recv hKc hPc (ci := 3) (q0 := 0) rfl rfl, fun U hU hW => ⟨rfl, by rw [hU], by rw [hU]; exact hPc, va_K.moved hW.alike hKc, hDc.weaken (fun _ _ _ _ => trivial), by rw [hU]; exact ZZ.warm hW hZc⟩⟩ rfl rfl hl.1 rfl (lv_room (Nat.le_of_ble_eq_true rfl)) dL_disk_4 ⟨Nat.le_of_ble_eq_true rfl, Nat.le_of_ble_eq_true rfl⟩) hS (fun q _ h => hFc q h) hFc (fun _ _ h => h.elim) (fun E9 ce9 q9 u9 t H1 locs9 ht hvm hpx hbx hz1 hk1 hS9 hce hcv hcl => ?_) (fun r_1 u t H1 locs ht hvm hw2 hB hz1 hk1 hS => ?_)
  · skip
    have hbx : E9 = eB ∧ npP x nn := hbx
    obtain ⟨rfl, hl9⟩ := hbx
    refine vx_catch hown [] ⟨0, 9, 12, 15⟩ [] htab (fun z hz => nomatch hz) rfl (by decide) (hw _ w_dbeeff8ac7) ((hZ.1 _ (List.mem_of_getElem? (i := 13) rfl)).use rfl) hce hcv hcl ?_
    have hP := hP.kept (fun k q hk => hk1 q.1 (vx_lt hP hk) (fun h => h))
    have hS := hS9
    generalize H1 = H at hP hS ⊢
    refine W.cs (cells' := 1) (slots' := 6) (by omega) (by omega) ?_
    have hP : va_P (dC, dI) vwCl [(o, .inr (3, [.int sc, .ref b, .ref b2, .ref uq, .ref rq, .int fc, .int qc, .int cu, .int sa, .int aw, .int cg])), (b2, .inr (0, [.ref q2])), (q2, .inl (cB2, 512 * nn, .inl (cB Dk))), (uo, .inl (cO, 1, .inr (.inl go)))] H := hP
    have hD : va_D A [(o, .inr (3, [.int sc, .ref b, .ref b2, .ref uq, .ref rq, .int fc, .int qc, .int cu, .int sa, .int aw, .int cg])), (b2, .inr (0, [.ref q2])), (q2, .inl (cB2, 512 * nn, .inl (cB Dk))), (uo, .inl (cO, 1, .inr (.inl go)))] := hD
    refine lv_astore_n (lv' := [(3, .ref q9), (0, .ref o), (1, .int x), (2, .ref uo)]) hx hb dL_disk_12 rfl hl (by decide) rfl (fun ls hl => ?_)
    refine lv_iconst (v := 1) hx hb dL_disk_13 (by decide) ?_
    have hP9 : va_P (dC, dI) vwCl [(o, .inr (3, [.int sc, .ref b, .ref b2, .ref uq, .ref rq, .int fc, .int qc, .int cu, .int sa, .int aw, .int cg])), (b2, .inr (0, [.ref q2])), (q2, .inl (cB2, 512 * nn, .inl (cB Dk))), (uo, .inl (cO, 1, .inr (.inl go)))] H := by exact hP.sub (ws' := [(o, .inr (3, [.int sc, .ref b, .ref b2, .ref uq, .ref rq, .int fc, .int qc, .int cu, .int sa, .int aw, .int cg])), (b2, .inr (0, [.ref q2])), (q2, .inl (cB2, 512 * nn, .inl (cB Dk))), (uo, .inl (cO, 1, .inr (.inl go)))]) [0, 1, 2, 3] rfl
    have hD9 : va_D A [(o, .inr (3, [.int sc, .ref b, .ref b2, .ref uq, .ref rq, .int fc, .int qc, .int cu, .int sa, .int aw, .int cg])), (b2, .inr (0, [.ref q2])), (q2, .inl (cB2, 512 * nn, .inl (cB Dk))), (uo, .inl (cO, 1, .inr (.inl go)))] := by exact hD.sub (ws' := [(o, .inr (3, [.int sc, .ref b, .ref b2, .ref uq, .ref rq, .int fc, .int qc, .int cu, .int sa, .int aw, .int cg])), (b2, .inr (0, [.ref q2])), (q2, .inl (cB2, 512 * nn, .inl (cB Dk))), (uo, .inl (cO, 1, .inr (.inl go)))]) [0, 1, 2, 3] (by decide) rfl
    have hK9 := hK.sub (tys' := [(cB2, .byte), (cO, .long)]) [0, 1] rfl
    refine W.widen (k := 1) (n := 6) (by omega) (by omega) ?_
    exact W.iret (v := 1) hx hb hr (fun t ht hW => ⟨⟨_, (go), rfl, ⟨(bI_t hl9).symm, fun z => absurd hl9 z⟩, by rw [ht]; exact hP9, va_K.moved hW.alike hK9, hD9⟩, hS.F ht⟩) hS.2.2 dL_disk_14
  obtain ⟨hP1, hK1, hD1⟩ := hB
  rw [ht] at hP1
  have hK1 := va_K.moved hvm.symm hK1
  try dsimp only at hw2
  obtain ⟨hP, hD⟩ := va_join (wr := [(uo, .inl (cO, 1, .inr (.inl go)))]) (w1 := [(o, .inr (3, [.int sc, .ref b, .ref b2, .ref uq, .ref rq, .int fc, .int qc, .int cu, .int sa, .int aw, .int cg])), (b2, .inr (0, [.ref q2])), (q2, .inl (cB2, 512 * nn, .inl (cB Dk)))]) hP hD [0, 1, 2] [3] rfl rfl (by decide) (by decide) hk1 hFc hP1 hD1
  generalize H1 = H at hP hS hk1 ⊢
  refine W.cs (cells' := 1) (slots' := 6) (by omega) (by omega) ?_
  have hP : va_P (dC, dI) vwCl [(uo, .inl (cO, 1, .inr (.inl go))), (o, .inr (3, [.int sc, .ref b, .ref b2, .ref uq, .ref rq, .int fc, .int qc, .int cu, .int sa, .int aw, .int cg])), (b2, .inr (0, [.ref q2])), (q2, .inl (cB2, 512 * nn, .inl (cB Dk)))] H := hP
  have hD : va_D A [(uo, .inl (cO, 1, .inr (.inl go))), (o, .inr (3, [.int sc, .ref b, .ref b2, .ref uq, .ref rq, .int fc, .int qc, .int cu, .int sa, .int aw, .int cg])), (b2, .inr (0, [.ref q2])), (q2, .inl (cB2, 512 * nn, .inl (cB Dk)))] := hD
  have hw_2 : ¬ npP x nn ∧ r_1 = nI (Dk x.toInt.toNat) := hw2
  refine lv_i2l (v := r_1.toInt64) hx hb dL_disk_7 rfl ?_
  refine lv_topl (fun x_3 ex_3 => ?_)
  refine va_last hx hb hK hP hD hS 0 1 rfl rfl vp_in01 dL_disk_8 (fun H locs hP hD hS => ?_)
  have hP : va_P (dC, dI) vwCl [(uo, .inl (cO, 1, .inr (.inl (vp_updL go (0 : Int32).toNatClampNeg x_3)))), (o, .inr (3, [.int sc, .ref b, .ref b2, .ref uq, .ref rq, .int fc, .int qc, .int cu, .int sa, .int aw, .int cg])), (b2, .inr (0, [.ref q2])), (q2, .inl (cB2, 512 * nn, .inl (cB Dk)))] H := hP
  have hD : va_D A [(uo, .inl (cO, 1, .inr (.inl (vp_updL go (0 : Int32).toNatClampNeg x_3)))), (o, .inr (3, [.int sc, .ref b, .ref b2, .ref uq, .ref rq, .int fc, .int qc, .int cu, .int sa, .int aw, .int cg])), (b2, .inr (0, [.ref q2])), (q2, .inl (cB2, 512 * nn, .inl (cB Dk)))] := hD
  refine lv_goto (tgt := 15) hx hb dL_disk_9 (by decide) ?_
  refine lv_iconst (v := 0) hx hb dL_disk_15 (by decide) ?_
  have hP9 : va_P (dC, dI) vwCl [(o, .inr (3, [.int sc, .ref b, .ref b2, .ref uq, .ref rq, .int fc, .int qc, .int cu, .int sa, .int aw, .int cg])), (b2, .inr (0, [.ref q2])), (q2, .inl (cB2, 512 * nn, .inl (cB Dk))), (uo, .inl (cO, 1, .inr (.inl (vp_updL go (0 : Int32).toNatClampNeg x_3))))] H := by exact hP.sub (ws' := [(o, .inr (3, [.int sc, .ref b, .ref b2, .ref uq, .ref rq, .int fc, .int qc, .int cu, .int sa, .int aw, .int cg])), (b2, .inr (0, [.ref q2])), (q2, .inl (cB2, 512 * nn, .inl (cB Dk))), (uo, .inl (cO, 1, .inr (.inl (vp_updL go (0 : Int32).toNatClampNeg x_3))))]) [1, 2, 3, 0] rfl
  have hD9 : va_D A [(o, .inr (3, [.int sc, .ref b, .ref b2, .ref uq, .ref rq, .int fc, .int qc, .int cu, .int sa, .int aw, .int cg])), (b2, .inr (0, [.ref q2])), (q2, .inl (cB2, 512 * nn, .inl (cB Dk))), (uo, .inl (cO, 1, .inr (.inl (vp_updL go (0 : Int32).toNatClampNeg x_3))))] := by exact hD.sub (ws' := [(o, .inr (3, [.int sc, .ref b, .ref b2, .ref uq, .ref rq, .int fc, .int qc, .int cu, .int sa, .int aw, .int cg])), (b2, .inr (0, [.ref q2])), (q2, .inl (cB2, 512 * nn, .inl (cB Dk))), (uo, .inl (cO, 1, .inr (.inl (vp_updL go (0 : Int32).toNatClampNeg x_3))))]) [1, 2, 3, 0] (by decide) rfl
  have hK9 := hK.sub (tys' := [(cB2, .byte), (cO, .long)]) [0, 1] rfl
  refine W.widen (k := 1) (n := 6) (by omega) (by omega) ?_
  exact W.iret (v := 0) hx hb hr (fun t ht hW => ⟨⟨_, (vp_updL go (0 : Int32).toNatClampNeg x_3), rfl, ⟨(bI_f hw_2.1).symm, fun _ => (updL_0 _ _).trans (by rw [ex_3, hw_2.2])⟩, by rw [ht]; exact hP9, va_K.moved hW.alike hK9, hD9⟩, hS.F ht⟩) hS.2.2 dL_disk_16
set_option maxHeartbeats 4000000 in
set_option maxRecDepth 100000 in
/-- the law's setDisk -/
theorem l_setDisk (l : Launch) (dC : Nat → ClassId) (dI : Nat → Nat → Nat) (o : Nat) (sc : Int32) (b : Nat) (b2 : Nat) (uq : Nat) (rq : Nat) (fc : Int32) (qc : Int32) (cu : Int32) (sa : Int32) (aw : Int32) (cg : Int32) (q2 : Nat) (cB2 : ClassId) (nn : Nat) (Dk : Nat → Nat) (x : Int32) (v : Int32) (zS : Nat) (hst : l.stackTraces = false) (hnn : nn ≤ 2048) (hDk : byt Dk) : Met l yL_setDisk wsL_setDisk ({ frames := 8, cells := 1, slots := 6, locals := 140 }) (va_Pc [.ref o, .int x, .int v] (fun U => U.heap.size = zS ∧ va_P (dC, dI) vwCl [(o, .inr (3, [.int sc, .ref b, .ref b2, .ref uq, .ref rq, .int fc, .int qc, .int cu, .int sa, .int aw, .int cg])), (b2, .inr (0, [.ref q2])), (q2, .inl (cB2, 512 * nn, .inl (cB Dk)))] U.heap ∧ va_K (dC, dI) vwCl [(cB2, .byte)] U ∧ va_D (fun _ => True) [(o, .inr (3, [.int sc, .ref b, .ref b2, .ref uq, .ref rq, .int fc, .int qc, .int cu, .int sa, .int aw, .int cg])), (b2, .inr (0, [.ref q2])), (q2, .inl (cB2, 512 * nn, .inl (cB Dk)))] ∧ ZZ (va_A [(o, .inr (3, [.int sc, .ref b, .ref b2, .ref uq, .ref rq, .int fc, .int qc, .int cu, .int sa, .int aw, .int cg])), (b2, .inr (0, [.ref q2])), (q2, .inl (cB2, 512 * nn, .inl (cB Dk)))] zS) U U.heap)) (va_Qi (fun (r : Int32) (u : (Nat → Int32)) => match u with | g => r = bI (npP x nn) ∧ g = cB (if npP x nn then Dk else va_up Dk x.toInt.toNat (v.toBitVec.toNat % 256))) (fun (u : (Nat → Int32)) (t : State) => match u with | g => va_P (dC, dI) vwCl [(o, .inr (3, [.int sc, .ref b, .ref b2, .ref uq, .ref rq, .int fc, .int qc, .int cu, .int sa, .int aw, .int cg])), (b2, .inr (0, [.ref q2])), (q2, .inl (cB2, 512 * nn, .inl g))] t.heap ∧ va_K (dC, dI) vwCl [(cB2, .byte)] t ∧ va_D (va_A [(o, .inr (3, [.int sc, .ref b, .ref b2, .ref uq, .ref rq, .int fc, .int qc, .int cu, .int sa, .int aw, .int cg])), (b2, .inr (0, [.ref q2])), (q2, .inl (cB2, 512 * nn, .inl (cB Dk)))] zS) [(o, .inr (3, [.int sc, .ref b, .ref b2, .ref uq, .ref rq, .int fc, .int qc, .int cu, .int sa, .int aw, .int cg])), (b2, .inr (0, [.ref q2])), (q2, .inl (cB2, 512 * nn, .inl g))]) (va_A [(o, .inr (3, [.int sc, .ref b, .ref b2, .ref uq, .ref rq, .int fc, .int qc, .int cu, .int sa, .int aw, .int cg])), (b2, .inr (0, [.ref q2])), (q2, .inl (cB2, 512 * nn, .inl (cB Dk)))] zS)) 1 6 (va_A [(o, .inr (3, [.int sc, .ref b, .ref b2, .ref uq, .ref rq, .int fc, .int qc, .int cu, .int sa, .int aw, .int cg])), (b2, .inr (0, [.ref q2])), (q2, .inl (cB2, 512 * nn, .inl (cB Dk)))] zS) := by
  refine metWH (cc := cL_setDisk) (maxL := 4) (ret := (some .int)) (by decide) rfl ?_
  intro p e s m args below meth c s₁ B hml hv
  obtain ⟨rfl, hsz, hP, hK, hD0, hZ⟩ := hv
  have hx := B.exec
  have hb := B.bytes
  have hr := B.returns
  have hts := atoms_spec (ws := wsL_setDisk) B.pre
  have hw : ∀ w ∈ WW, w.before _ s = true := fun w h => hts w (List.mem_cons_of_mem _ h)
  have hown : s.vm.findClass RL = some m.cls := findClass_of_methodNamed B.named
  have hlocks := B.notSynchronized
  have htab := vx_table (x := yL_setDisk) B (hts _ List.mem_cons_self)
  subst hsz
  have hD := hD0.self (sz := s.heap.size)
  generalize hAe : va_A [(o, .inr (3, [.int sc, .ref b, .ref b2, .ref uq, .ref rq, .int fc, .int qc, .int cu, .int sa, .int aw, .int cg])), (b2, .inr (0, [.ref q2])), (q2, .inl (cB2, 512 * nn, .inl (cB Dk)))] s.heap.size = A at hD hZ ⊢
  have hA : ∀ q : Nat, s.heap.size ≤ q → A q := fun q h => by rw [← hAe]; exact Or.inr h
  have hS : va_S A s.heap s.heap [] := va_S.rf
  have hP : va_P (dC, dI) vwCl [(o, .inr (3, [.int sc, .ref b, .ref b2, .ref uq, .ref rq, .int fc, .int qc, .int cu, .int sa, .int aw, .int cg])), (b2, .inr (0, [.ref q2])), (q2, .inl (cB2, 512 * nn, .inl (cB Dk)))] s.heap := hP
  have hl := lv_entry ([.ref o, .int x, .int v]) (n := 4) (Nat.le_of_ble_eq_true rfl)
  rw [lg_entry_eq]
  generalize (lg_sl ([.ref o, .int x, .int v]) ++ List.replicate (4 - (lg_sl ([.ref o, .int x, .int v])).length) Slot.unset).toArray = ls at hl ⊢
  have hl : lv_has ls 4 [(0, .ref o), (1, .int x), (2, .int v)] := hl
  refine lv_aload_n hx hb dL_setDisk_0 rfl (lv_at hl 0 rfl) ?_
  refine lv_iload_n hx hb dL_setDisk_1 rfl (lv_at hl 1 rfl) ?_
  refine lv_iload_n hx hb dL_setDisk_2 rfl (lv_at hl 2 rfl) ?_
  have hPc := hP.sub (ws' := [(o, .inr (3, [.int sc, .ref b, .ref b2, .ref uq, .ref rq, .int fc, .int qc, .int cu, .int sa, .int aw, .int cg])), (b2, .inr (0, [.ref q2])), (q2, .inl (cB2, 512 * nn, .inl (cB Dk)))]) [0, 1, 2] rfl
  have hKc := hK.sub (tys' := [(cB2, .byte)]) [0] rfl
  have hDc := hD.sub (ws' := [(o, .inr (3, [.int sc, .ref b, .ref b2, .ref uq, .ref rq, .int fc, .int qc, .int cu, .int sa, .int aw, .int cg])), (b2, .inr (0, [.ref q2])), (q2, .inl (cB2, 512 * nn, .inl (cB Dk)))]) [0, 1, 2] (by decide) rfl
  have hFc := va_free (wc := [(o, .inr (3, [.int sc, .ref b, .ref b2, .ref uq, .ref rq, .int fc, .int qc, .int cu, .int sa, .int aw, .int cg])), (b2, .inr (0, [.ref q2])), (q2, .inl (cB2, 512 * nn, .inl (cB Dk)))]) hD hS hA [0, 1, 2] rfl
  have hZc : ZZ (va_A [(o, .inr (3, [.int sc, .ref b, .ref b2, .ref uq, .ref rq, .int fc, .int qc, .int cu, .int sa, .int aw, .int cg])), (b2, .inr (0, [.ref q2])), (q2, .inl (cB2, 512 * nn, .inl (cB Dk)))] s.heap.size) s s.heap := (hZ.kept hS.2.1).narrow hFc
  refine vx_callv (vx_runV (As := [.int x, .int v]) (rest := []) ⟨hx, hb, hml, hown, hw⟩ (d_setDisk l dC dI o sc b b2 uq rq fc qc cu sa aw cg q2 cB2 nn Dk x v s.heap.size hst hnn hDk) (cwV 2 hw (gV w_bc42299b3f w_42d74c71dd w_95041be81b w_106b72596f w_3d62780fa3) rfl rfl rfl (by decide +kernel) ⟨Nat.le_of_ble_eq_true rfl, Nat.le_of_ble_eq_true rfl⟩) ⟨fun a U g mk q => by obtain ⟨q0, q1, qP, qK, qD, qZ⟩ := q; exact ⟨q0, q1, qP, va_K.moved (u := U) (U := U.calling g mk a) (Vm.Alike.refl U.vm) qK, qD, ZZ.same (u := U) (U := U.calling g mk a) rfl qZ⟩, va_recv hKc hPc (ci := 3) (q0 := 0) rfl rfl, fun U hU hW => ⟨rfl, by rw [hU], by rw [hU]; exact hPc, va_K.moved hW.alike hKc, hDc.weaken (fun _ _ _ _ => trivial), by rw [hU]; exact ZZ.warm hW hZc⟩⟩ rfl rfl hl.1 rfl (lv_room (Nat.le_of_ble_eq_true rfl)) dL_setDisk_3 ⟨Nat.le_of_ble_eq_true rfl, Nat.le_of_ble_eq_true rfl⟩) hS (fun q _ h => hFc q h) hFc (fun _ _ h => h.elim) (fun E9 ce9 q9 u9 t H1 locs9 ht hvm hpx hbx hz1 hk1 hS9 hce hcv hcl => ?_) (fun u t H1 locs ht hvm hw2 hB hz1 hk1 hS => ?_)
  · skip
    have hbx : E9 = eB ∧ npP x nn := hbx
    obtain ⟨rfl, hl9⟩ := hbx
    refine vx_catch hown [] ⟨0, 6, 9, 15⟩ [] htab (fun z hz => nomatch hz) rfl (by decide) (hw _ w_dbeeff8ac7) ((hZ.1 _ (List.mem_of_getElem? (i := 13) rfl)).use rfl) hce hcv hcl ?_
    have hP := hP.kept (fun k q hk => hk1 q.1 (vx_lt hP hk) (fun h => h))
    have hS := hS9
    generalize H1 = H at hP hS ⊢
    refine W.cs (cells' := 1) (slots' := 6) (by omega) (by omega) ?_
    have hP : va_P (dC, dI) vwCl [(o, .inr (3, [.int sc, .ref b, .ref b2, .ref uq, .ref rq, .int fc, .int qc, .int cu, .int sa, .int aw, .int cg])), (b2, .inr (0, [.ref q2])), (q2, .inl (cB2, 512 * nn, .inl (cB Dk)))] H := hP
    have hD : va_D A [(o, .inr (3, [.int sc, .ref b, .ref b2, .ref uq, .ref rq, .int fc, .int qc, .int cu, .int sa, .int aw, .int cg])), (b2, .inr (0, [.ref q2])), (q2, .inl (cB2, 512 * nn, .inl (cB Dk)))] := hD
    refine lv_astore_n (lv' := [(3, .ref q9), (0, .ref o), (1, .int x), (2, .int v)]) hx hb dL_setDisk_9 rfl hl (by decide) rfl (fun ls hl => ?_)
    refine lv_iconst (v := 1) hx hb dL_setDisk_10 (by decide) ?_
    have hP9 : va_P (dC, dI) vwCl [(o, .inr (3, [.int sc, .ref b, .ref b2, .ref uq, .ref rq, .int fc, .int qc, .int cu, .int sa, .int aw, .int cg])), (b2, .inr (0, [.ref q2])), (q2, .inl (cB2, 512 * nn, .inl (cB Dk)))] H := by exact hP.sub (ws' := [(o, .inr (3, [.int sc, .ref b, .ref b2, .ref uq, .ref rq, .int fc, .int qc, .int cu, .int sa, .int aw, .int cg])), (b2, .inr (0, [.ref q2])), (q2, .inl (cB2, 512 * nn, .inl (cB Dk)))]) [0, 1, 2] rfl
    have hD9 : va_D A [(o, .inr (3, [.int sc, .ref b, .ref b2, .ref uq, .ref rq, .int fc, .int qc, .int cu, .int sa, .int aw, .int cg])), (b2, .inr (0, [.ref q2])), (q2, .inl (cB2, 512 * nn, .inl (cB Dk)))] := by exact hD.sub (ws' := [(o, .inr (3, [.int sc, .ref b, .ref b2, .ref uq, .ref rq, .int fc, .int qc, .int cu, .int sa, .int aw, .int cg])), (b2, .inr (0, [.ref q2])), (q2, .inl (cB2, 512 * nn, .inl (cB Dk)))]) [0, 1, 2] (by decide) rfl
    have hK9 := hK.sub (tys' := [(cB2, .byte)]) [0] rfl
    refine W.widen (k := 1) (n := 6) (by omega) (by omega) ?_
    exact W.iret (v := 1) hx hb hr (fun t ht hW => ⟨⟨_, (cB Dk), rfl, ⟨(bI_t hl9).symm, by rw [if_pos hl9]⟩, by rw [ht]; exact hP9, va_K.moved hW.alike hK9, hD9⟩, hS.F ht⟩) hS.2.2 dL_setDisk_11
  obtain ⟨g_1, rfl⟩ : ∃ z, z = u := ⟨_, rfl⟩
  obtain ⟨hP1, hK1, hD1⟩ := hB
  rw [ht] at hP1
  have hK1 := va_K.moved hvm.symm hK1
  try dsimp only at hw2
  obtain ⟨hP, hD⟩ := va_join (wr := []) (w1 := [(o, .inr (3, [.int sc, .ref b, .ref b2, .ref uq, .ref rq, .int fc, .int qc, .int cu, .int sa, .int aw, .int cg])), (b2, .inr (0, [.ref q2])), (q2, .inl (cB2, 512 * nn, .inl g_1))]) hP hD [0, 1, 2] [] rfl rfl (by decide) (by decide) hk1 hFc hP1 hD1
  generalize H1 = H at hP hS hk1 ⊢
  refine W.cs (cells' := 1) (slots' := 6) (by omega) (by omega) ?_
  have hP : va_P (dC, dI) vwCl [(o, .inr (3, [.int sc, .ref b, .ref b2, .ref uq, .ref rq, .int fc, .int qc, .int cu, .int sa, .int aw, .int cg])), (b2, .inr (0, [.ref q2])), (q2, .inl (cB2, 512 * nn, .inl g_1))] H := hP
  have hD : va_D A [(o, .inr (3, [.int sc, .ref b, .ref b2, .ref uq, .ref rq, .int fc, .int qc, .int cu, .int sa, .int aw, .int cg])), (b2, .inr (0, [.ref q2])), (q2, .inl (cB2, 512 * nn, .inl g_1))] := hD
  have hw_2 : ¬ npP x nn ∧ g_1 = cB (va_up Dk x.toInt.toNat (v.toBitVec.toNat % 256)) := hw2
  refine lv_goto (tgt := 12) hx hb dL_setDisk_6 (by decide) ?_
  refine lv_iconst (v := 0) hx hb dL_setDisk_12 (by decide) ?_
  have hP9 : va_P (dC, dI) vwCl [(o, .inr (3, [.int sc, .ref b, .ref b2, .ref uq, .ref rq, .int fc, .int qc, .int cu, .int sa, .int aw, .int cg])), (b2, .inr (0, [.ref q2])), (q2, .inl (cB2, 512 * nn, .inl g_1))] H := by exact hP.sub (ws' := [(o, .inr (3, [.int sc, .ref b, .ref b2, .ref uq, .ref rq, .int fc, .int qc, .int cu, .int sa, .int aw, .int cg])), (b2, .inr (0, [.ref q2])), (q2, .inl (cB2, 512 * nn, .inl g_1))]) [0, 1, 2] rfl
  have hD9 : va_D A [(o, .inr (3, [.int sc, .ref b, .ref b2, .ref uq, .ref rq, .int fc, .int qc, .int cu, .int sa, .int aw, .int cg])), (b2, .inr (0, [.ref q2])), (q2, .inl (cB2, 512 * nn, .inl g_1))] := by exact hD.sub (ws' := [(o, .inr (3, [.int sc, .ref b, .ref b2, .ref uq, .ref rq, .int fc, .int qc, .int cu, .int sa, .int aw, .int cg])), (b2, .inr (0, [.ref q2])), (q2, .inl (cB2, 512 * nn, .inl g_1))]) [0, 1, 2] (by decide) rfl
  have hK9 := hK.sub (tys' := [(cB2, .byte)]) [0] rfl
  refine W.widen (k := 1) (n := 6) (by omega) (by omega) ?_
  exact W.iret (v := 0) hx hb hr (fun t ht hW => ⟨⟨_, (g_1), rfl, ⟨(bI_f hw_2.1).symm, by rw [if_neg hw_2.1]; exact hw_2.2⟩, by rw [ht]; exact hP9, va_K.moved hW.alike hK9, hD9⟩, hS.F ht⟩) hS.2.2 dL_setDisk_13
set_option maxHeartbeats 4000000 in
set_option maxRecDepth 100000 in
/-- the law's read -/
theorem l_read (l : Launch) (dC : Nat → ClassId) (dI : Nat → Nat → Nat) (o : Nat) (sc : Int32) (b : Nat) (b2 : Nat) (uq : Nat) (rq : Nat) (fc : Int32) (qc : Int32) (cu : Int32) (sa : Int32) (aw : Int32) (cg : Int32) (sz : Int32) (rd : Int32) (bl : Int64) (of : Int64) (an : Int64) (tk : Int32) (td : Int32) (om : Int32) (oc : Int32) (x : Int32) (uo : Nat) (cO : ClassId) (go : Nat → Int64) (zS : Nat) (hst : l.stackTraces = false) : Met l yL_read wsL_read ({ frames := 8, cells := 1, slots := 6, locals := 140 }) (va_Pc [.ref o, .int x, .ref uo] (fun U => U.heap.size = zS ∧ va_P (dC, dI) vwCl [(o, .inr (3, [.int sc, .ref b, .ref b2, .ref uq, .ref rq, .int fc, .int qc, .int cu, .int sa, .int aw, .int cg])), (uq, .inr (1, [.int sz, .int rd, .long bl, .long of, .long an, .int tk, .int td, .int om, .int oc])), (uo, .inl (cO, 1, .inr (.inl go)))] U.heap ∧ va_K (dC, dI) vwCl [(cO, .long)] U ∧ va_D (fun _ => True) [(o, .inr (3, [.int sc, .ref b, .ref b2, .ref uq, .ref rq, .int fc, .int qc, .int cu, .int sa, .int aw, .int cg])), (uq, .inr (1, [.int sz, .int rd, .long bl, .long of, .long an, .int tk, .int td, .int om, .int oc])), (uo, .inl (cO, 1, .inr (.inl go)))] ∧ ZZ (va_A [(o, .inr (3, [.int sc, .ref b, .ref b2, .ref uq, .ref rq, .int fc, .int qc, .int cu, .int sa, .int aw, .int cg])), (uq, .inr (1, [.int sz, .int rd, .long bl, .long of, .long an, .int tk, .int td, .int om, .int oc])), (uo, .inl (cO, 1, .inr (.inl go)))] zS) U U.heap)) (va_Qi (fun (r : Int32) (u : (Nat → Int64)) => match u with | g => r = bI (noP x) ∧ (¬ noP x → g 0 = (rdS x fc qc rd cu sa sc).toInt64)) (fun (u : (Nat → Int64)) (t : State) => match u with | g => va_P (dC, dI) vwCl [(o, .inr (3, [.int sc, .ref b, .ref b2, .ref uq, .ref rq, .int fc, .int qc, .int cu, .int sa, .int aw, .int cg])), (uq, .inr (1, [.int sz, .int rd, .long bl, .long of, .long an, .int tk, .int td, .int om, .int oc])), (uo, .inl (cO, 1, .inr (.inl g)))] t.heap ∧ va_K (dC, dI) vwCl [(cO, .long)] t ∧ va_D (va_A [(o, .inr (3, [.int sc, .ref b, .ref b2, .ref uq, .ref rq, .int fc, .int qc, .int cu, .int sa, .int aw, .int cg])), (uq, .inr (1, [.int sz, .int rd, .long bl, .long of, .long an, .int tk, .int td, .int om, .int oc])), (uo, .inl (cO, 1, .inr (.inl go)))] zS) [(o, .inr (3, [.int sc, .ref b, .ref b2, .ref uq, .ref rq, .int fc, .int qc, .int cu, .int sa, .int aw, .int cg])), (uq, .inr (1, [.int sz, .int rd, .long bl, .long of, .long an, .int tk, .int td, .int om, .int oc])), (uo, .inl (cO, 1, .inr (.inl g)))]) (va_A [(o, .inr (3, [.int sc, .ref b, .ref b2, .ref uq, .ref rq, .int fc, .int qc, .int cu, .int sa, .int aw, .int cg])), (uq, .inr (1, [.int sz, .int rd, .long bl, .long of, .long an, .int tk, .int td, .int om, .int oc])), (uo, .inl (cO, 1, .inr (.inl go)))] zS)) 1 6 (va_A [(o, .inr (3, [.int sc, .ref b, .ref b2, .ref uq, .ref rq, .int fc, .int qc, .int cu, .int sa, .int aw, .int cg])), (uq, .inr (1, [.int sz, .int rd, .long bl, .long of, .long an, .int tk, .int td, .int om, .int oc])), (uo, .inl (cO, 1, .inr (.inl go)))] zS) := by
  refine metWH (cc := cL_read) (maxL := 4) (ret := (some .int)) (by decide) rfl ?_
  intro p e s m args below meth c s₁ B hml hv
  obtain ⟨rfl, hsz, hP, hK, hD0, hZ⟩ := hv
  have hx := B.exec
  have hb := B.bytes
  have hr := B.returns
  have hts := atoms_spec (ws := wsL_read) B.pre
  have hw : ∀ w ∈ WW, w.before _ s = true := fun w h => hts w (List.mem_cons_of_mem _ h)
  have hown : s.vm.findClass RL = some m.cls := findClass_of_methodNamed B.named
  have hlocks := B.notSynchronized
  have htab := vx_table (x := yL_read) B (hts _ List.mem_cons_self)
  subst hsz
  have hD := hD0.self (sz := s.heap.size)
  generalize hAe : va_A [(o, .inr (3, [.int sc, .ref b, .ref b2, .ref uq, .ref rq, .int fc, .int qc, .int cu, .int sa, .int aw, .int cg])), (uq, .inr (1, [.int sz, .int rd, .long bl, .long of, .long an, .int tk, .int td, .int om, .int oc])), (uo, .inl (cO, 1, .inr (.inl go)))] s.heap.size = A at hD hZ ⊢
  have hA : ∀ q : Nat, s.heap.size ≤ q → A q := fun q h => by rw [← hAe]; exact Or.inr h
  have hS : va_S A s.heap s.heap [] := va_S.rf
  have hP : va_P (dC, dI) vwCl [(o, .inr (3, [.int sc, .ref b, .ref b2, .ref uq, .ref rq, .int fc, .int qc, .int cu, .int sa, .int aw, .int cg])), (uq, .inr (1, [.int sz, .int rd, .long bl, .long of, .long an, .int tk, .int td, .int om, .int oc])), (uo, .inl (cO, 1, .inr (.inl go)))] s.heap := hP
  have hl := lv_entry ([.ref o, .int x, .ref uo]) (n := 4) (Nat.le_of_ble_eq_true rfl)
  rw [lg_entry_eq]
  generalize (lg_sl ([.ref o, .int x, .ref uo]) ++ List.replicate (4 - (lg_sl ([.ref o, .int x, .ref uo])).length) Slot.unset).toArray = ls at hl ⊢
  have hl : lv_has ls 4 [(0, .ref o), (1, .int x), (2, .ref uo)] := hl
  refine lv_aload_n hx hb dL_read_0 rfl (lv_at hl 2 rfl) ?_
  refine lv_iconst (v := 0) hx hb dL_read_1 (by decide) ?_
  refine lv_aload_n hx hb dL_read_2 rfl (lv_at hl 0 rfl) ?_
  refine lv_iload_n hx hb dL_read_3 rfl (lv_at hl 1 rfl) ?_
  have hPc := hP.sub (ws' := [(o, .inr (3, [.int sc, .ref b, .ref b2, .ref uq, .ref rq, .int fc, .int qc, .int cu, .int sa, .int aw, .int cg])), (uq, .inr (1, [.int sz, .int rd, .long bl, .long of, .long an, .int tk, .int td, .int om, .int oc]))]) [0, 1] rfl
  have hKc := hK.sub (tys' := []) [] rfl
  have hDc := hD.sub (ws' := [(o, .inr (3, [.int sc, .ref b, .ref b2, .ref uq, .ref rq, .int fc, .int qc, .int cu, .int sa, .int aw, .int cg])), (uq, .inr (1, [.int sz, .int rd, .long bl, .long of, .long an, .int tk, .int td, .int om, .int oc]))]) [0, 1] (by decide) rfl
  have hFc := va_free (wc := [(o, .inr (3, [.int sc, .ref b, .ref b2, .ref uq, .ref rq, .int fc, .int qc, .int cu, .int sa, .int aw, .int cg])), (uq, .inr (1, [.int sz, .int rd, .long bl, .long of, .long an, .int tk, .int td, .int om, .int oc]))]) hD hS hA [0, 1] rfl
  have hZc : ZZ (va_A [(o, .inr (3, [.int sc, .ref b, .ref b2, .ref uq, .ref rq, .int fc, .int qc, .int cu, .int sa, .int aw, .int cg])), (uq, .inr (1, [.int sz, .int rd, .long bl, .long of, .long an, .int tk, .int td, .int om, .int oc]))] s.heap.size) s s.heap := (hZ.kept hS.2.1).narrow hFc
  refine vx_calli (vx_runV (As := [.int x]) (rest := [.int 0, .ref uo]) ⟨hx, hb, hml, hown, hw⟩ (d_read l dC dI o sc b b2 uq rq fc qc cu sa aw cg sz rd bl of an tk td om oc x s.heap.size hst) (cwV 1 hw (gV w_804b0b039f w_156a06de21 w_35232e18b3 w_106b72596f w_88dd2d6b7c) rfl rfl rfl (by decide +kernel) ⟨Nat.le_of_ble_eq_true rfl, Nat.le_of_ble_eq_true rfl⟩) ⟨fun a U g mk q => by obtain ⟨q0, q1, qP, qK, qD, qZ⟩ := q; exact ⟨q0, q1, qP, va_K.moved (u := U) (U := U.calling g mk a) (Vm.Alike.refl U.vm) qK, qD, ZZ.same (u := U) (U := U.calling g mk a) rfl qZ⟩, va_recv hKc hPc (ci := 3) (q0 := 0) rfl rfl, fun U hU hW => ⟨rfl, by rw [hU], by rw [hU]; exact hPc, va_K.moved hW.alike hKc, hDc.weaken (fun _ _ _ _ => trivial), by rw [hU]; exact ZZ.warm hW hZc⟩⟩ rfl rfl hl.1 rfl (lv_room (Nat.le_of_ble_eq_true rfl)) dL_read_4 ⟨Nat.le_of_ble_eq_true rfl, Nat.le_of_ble_eq_true rfl⟩) hS (fun q _ h => hFc q h) hFc (fun _ _ h => h.elim) (fun E9 ce9 q9 u9 t H1 locs9 ht hvm hpx hbx hz1 hk1 hS9 hce hcv hcl => ?_) (fun r_1 u t H1 locs ht hvm hw2 hB hz1 hk1 hS => ?_)
  · skip
    have hbx : E9 = eB ∧ noP x := hbx
    obtain ⟨rfl, hl9⟩ := hbx
    refine vx_catch hown [] ⟨0, 9, 12, 15⟩ [] htab (fun z hz => nomatch hz) rfl (by decide) (hw _ w_dbeeff8ac7) ((hZ.1 _ (List.mem_of_getElem? (i := 13) rfl)).use rfl) hce hcv hcl ?_
    have hP := hP.kept (fun k q hk => hk1 q.1 (vx_lt hP hk) (fun h => h))
    have hS := hS9
    generalize H1 = H at hP hS ⊢
    refine W.cs (cells' := 1) (slots' := 6) (by omega) (by omega) ?_
    have hP : va_P (dC, dI) vwCl [(o, .inr (3, [.int sc, .ref b, .ref b2, .ref uq, .ref rq, .int fc, .int qc, .int cu, .int sa, .int aw, .int cg])), (uq, .inr (1, [.int sz, .int rd, .long bl, .long of, .long an, .int tk, .int td, .int om, .int oc])), (uo, .inl (cO, 1, .inr (.inl go)))] H := hP
    have hD : va_D A [(o, .inr (3, [.int sc, .ref b, .ref b2, .ref uq, .ref rq, .int fc, .int qc, .int cu, .int sa, .int aw, .int cg])), (uq, .inr (1, [.int sz, .int rd, .long bl, .long of, .long an, .int tk, .int td, .int om, .int oc])), (uo, .inl (cO, 1, .inr (.inl go)))] := hD
    refine lv_astore_n (lv' := [(3, .ref q9), (0, .ref o), (1, .int x), (2, .ref uo)]) hx hb dL_read_12 rfl hl (by decide) rfl (fun ls hl => ?_)
    refine lv_iconst (v := 1) hx hb dL_read_13 (by decide) ?_
    have hP9 : va_P (dC, dI) vwCl [(o, .inr (3, [.int sc, .ref b, .ref b2, .ref uq, .ref rq, .int fc, .int qc, .int cu, .int sa, .int aw, .int cg])), (uq, .inr (1, [.int sz, .int rd, .long bl, .long of, .long an, .int tk, .int td, .int om, .int oc])), (uo, .inl (cO, 1, .inr (.inl go)))] H := by exact hP.sub (ws' := [(o, .inr (3, [.int sc, .ref b, .ref b2, .ref uq, .ref rq, .int fc, .int qc, .int cu, .int sa, .int aw, .int cg])), (uq, .inr (1, [.int sz, .int rd, .long bl, .long of, .long an, .int tk, .int td, .int om, .int oc])), (uo, .inl (cO, 1, .inr (.inl go)))]) [0, 1, 2] rfl
    have hD9 : va_D A [(o, .inr (3, [.int sc, .ref b, .ref b2, .ref uq, .ref rq, .int fc, .int qc, .int cu, .int sa, .int aw, .int cg])), (uq, .inr (1, [.int sz, .int rd, .long bl, .long of, .long an, .int tk, .int td, .int om, .int oc])), (uo, .inl (cO, 1, .inr (.inl go)))] := by exact hD.sub (ws' := [(o, .inr (3, [.int sc, .ref b, .ref b2, .ref uq, .ref rq, .int fc, .int qc, .int cu, .int sa, .int aw, .int cg])), (uq, .inr (1, [.int sz, .int rd, .long bl, .long of, .long an, .int tk, .int td, .int om, .int oc])), (uo, .inl (cO, 1, .inr (.inl go)))]) [0, 1, 2] (by decide) rfl
    have hK9 := hK.sub (tys' := [(cO, .long)]) [0] rfl
    refine W.widen (k := 1) (n := 6) (by omega) (by omega) ?_
    exact W.iret (v := 1) hx hb hr (fun t ht hW => ⟨⟨_, (go), rfl, ⟨(bI_t hl9).symm, fun z => absurd hl9 z⟩, by rw [ht]; exact hP9, va_K.moved hW.alike hK9, hD9⟩, hS.F ht⟩) hS.2.2 dL_read_14
  obtain ⟨hP1, hK1, hD1⟩ := hB
  rw [ht] at hP1
  have hK1 := va_K.moved hvm.symm hK1
  try dsimp only at hw2
  obtain ⟨hP, hD⟩ := va_join (wr := [(uo, .inl (cO, 1, .inr (.inl go)))]) (w1 := [(o, .inr (3, [.int sc, .ref b, .ref b2, .ref uq, .ref rq, .int fc, .int qc, .int cu, .int sa, .int aw, .int cg])), (uq, .inr (1, [.int sz, .int rd, .long bl, .long of, .long an, .int tk, .int td, .int om, .int oc]))]) hP hD [0, 1] [2] rfl rfl (by decide) (by decide) hk1 hFc hP1 hD1
  generalize H1 = H at hP hS hk1 ⊢
  refine W.cs (cells' := 1) (slots' := 6) (by omega) (by omega) ?_
  have hP : va_P (dC, dI) vwCl [(uo, .inl (cO, 1, .inr (.inl go))), (o, .inr (3, [.int sc, .ref b, .ref b2, .ref uq, .ref rq, .int fc, .int qc, .int cu, .int sa, .int aw, .int cg])), (uq, .inr (1, [.int sz, .int rd, .long bl, .long of, .long an, .int tk, .int td, .int om, .int oc]))] H := hP
  have hD : va_D A [(uo, .inl (cO, 1, .inr (.inl go))), (o, .inr (3, [.int sc, .ref b, .ref b2, .ref uq, .ref rq, .int fc, .int qc, .int cu, .int sa, .int aw, .int cg])), (uq, .inr (1, [.int sz, .int rd, .long bl, .long of, .long an, .int tk, .int td, .int om, .int oc]))] := hD
  have hw_2 : ¬ noP x ∧ r_1 = rdS x fc qc rd cu sa sc := hw2
  refine lv_i2l (v := r_1.toInt64) hx hb dL_read_7 rfl ?_
  refine lv_topl (fun x_3 ex_3 => ?_)
  refine va_last hx hb hK hP hD hS 0 0 rfl rfl vp_in01 dL_read_8 (fun H locs hP hD hS => ?_)
  have hP : va_P (dC, dI) vwCl [(uo, .inl (cO, 1, .inr (.inl (vp_updL go (0 : Int32).toNatClampNeg x_3)))), (o, .inr (3, [.int sc, .ref b, .ref b2, .ref uq, .ref rq, .int fc, .int qc, .int cu, .int sa, .int aw, .int cg])), (uq, .inr (1, [.int sz, .int rd, .long bl, .long of, .long an, .int tk, .int td, .int om, .int oc]))] H := hP
  have hD : va_D A [(uo, .inl (cO, 1, .inr (.inl (vp_updL go (0 : Int32).toNatClampNeg x_3)))), (o, .inr (3, [.int sc, .ref b, .ref b2, .ref uq, .ref rq, .int fc, .int qc, .int cu, .int sa, .int aw, .int cg])), (uq, .inr (1, [.int sz, .int rd, .long bl, .long of, .long an, .int tk, .int td, .int om, .int oc]))] := hD
  refine lv_goto (tgt := 15) hx hb dL_read_9 (by decide) ?_
  refine lv_iconst (v := 0) hx hb dL_read_15 (by decide) ?_
  have hP9 : va_P (dC, dI) vwCl [(o, .inr (3, [.int sc, .ref b, .ref b2, .ref uq, .ref rq, .int fc, .int qc, .int cu, .int sa, .int aw, .int cg])), (uq, .inr (1, [.int sz, .int rd, .long bl, .long of, .long an, .int tk, .int td, .int om, .int oc])), (uo, .inl (cO, 1, .inr (.inl (vp_updL go (0 : Int32).toNatClampNeg x_3))))] H := by exact hP.sub (ws' := [(o, .inr (3, [.int sc, .ref b, .ref b2, .ref uq, .ref rq, .int fc, .int qc, .int cu, .int sa, .int aw, .int cg])), (uq, .inr (1, [.int sz, .int rd, .long bl, .long of, .long an, .int tk, .int td, .int om, .int oc])), (uo, .inl (cO, 1, .inr (.inl (vp_updL go (0 : Int32).toNatClampNeg x_3))))]) [1, 2, 0] rfl
  have hD9 : va_D A [(o, .inr (3, [.int sc, .ref b, .ref b2, .ref uq, .ref rq, .int fc, .int qc, .int cu, .int sa, .int aw, .int cg])), (uq, .inr (1, [.int sz, .int rd, .long bl, .long of, .long an, .int tk, .int td, .int om, .int oc])), (uo, .inl (cO, 1, .inr (.inl (vp_updL go (0 : Int32).toNatClampNeg x_3))))] := by exact hD.sub (ws' := [(o, .inr (3, [.int sc, .ref b, .ref b2, .ref uq, .ref rq, .int fc, .int qc, .int cu, .int sa, .int aw, .int cg])), (uq, .inr (1, [.int sz, .int rd, .long bl, .long of, .long an, .int tk, .int td, .int om, .int oc])), (uo, .inl (cO, 1, .inr (.inl (vp_updL go (0 : Int32).toNatClampNeg x_3))))]) [1, 2, 0] (by decide) rfl
  have hK9 := hK.sub (tys' := [(cO, .long)]) [0] rfl
  refine W.widen (k := 1) (n := 6) (by omega) (by omega) ?_
  exact W.iret (v := 0) hx hb hr (fun t ht hW => ⟨⟨_, (vp_updL go (0 : Int32).toNatClampNeg x_3), rfl, ⟨(bI_f hw_2.1).symm, fun _ => (updL_0 _ _).trans (by rw [ex_3, hw_2.2])⟩, by rw [ht]; exact hP9, va_K.moved hW.alike hK9, hD9⟩, hS.F ht⟩) hS.2.2 dL_read_16
set_option maxHeartbeats 4000000 in
set_option maxRecDepth 100000 in
/-- the law's write -/
theorem l_write (l : Launch) (dC : Nat → ClassId) (dI : Nat → Nat → Nat) (o : Nat) (sc : Int32) (b : Nat) (b2 : Nat) (uq : Nat) (rq : Nat) (fc : Int32) (qc : Int32) (cu : Int32) (sa : Int32) (aw : Int32) (cg : Int32) (sz : Int32) (rd : Int32) (bl : Int64) (of : Int64) (an : Int64) (tk : Int32) (td : Int32) (om : Int32) (oc : Int32) (rp : Nat) (rl : Nat) (ct_ : Int32) (cl_ : Int32) (wt : Int32) (cJ : ClassId) (cI : ClassId) (ps : Nat → Int64) (lg : Nat → Int32) (q : Nat) (cB_ : ClassId) (M : Nat → Nat) (q2 : Nat) (cB2 : ClassId) (nn : Nat) (Dk : Nat → Nat) (n : Nat) (cn : Nat) (gn : Nat) (x : Int32) (v : Int32) (zS : Nat) (hst : l.stackTraces = false) (hsc : sc = nI nn) (hnn : nn ≤ 2048) (hpw : pw n) (hsz : sz = nI n) (hcl : cn < 65536) (htk : tk = nI cn) (hgl : gn < 65536) (htd : td = nI gn) (hM : byt M) (hDk : byt Dk) : Met l yL_write wsL_write ({ frames := 8, cells := 1, slots := 6, locals := 290 }) (va_Pc [.ref o, .int x, .int v] (fun U => U.heap.size = zS ∧ va_P (dC, dI) vwCl [(o, .inr (3, [.int sc, .ref b, .ref b2, .ref uq, .ref rq, .int fc, .int qc, .int cu, .int sa, .int aw, .int cg])), (uq, .inr (1, [.int sz, .int rd, .long bl, .long of, .long an, .int tk, .int td, .int om, .int oc])), (rq, .inr (2, [.ref rp, .ref rl, .int ct_, .int cl_, .int wt])), (rp, .inl (cJ, 16, .inr (.inl ps))), (rl, .inl (cI, 16, .inl lg)), (b, .inr (0, [.ref q])), (q, .inl (cB_, 65536, .inl (cB M))), (b2, .inr (0, [.ref q2])), (q2, .inl (cB2, 512 * nn, .inl (cB Dk)))] U.heap ∧ va_K (dC, dI) vwCl [(cJ, .long), (cI, .int), (cB_, .byte), (cB2, .byte)] U ∧ va_D (fun _ => True) [(o, .inr (3, [.int sc, .ref b, .ref b2, .ref uq, .ref rq, .int fc, .int qc, .int cu, .int sa, .int aw, .int cg])), (uq, .inr (1, [.int sz, .int rd, .long bl, .long of, .long an, .int tk, .int td, .int om, .int oc])), (rq, .inr (2, [.ref rp, .ref rl, .int ct_, .int cl_, .int wt])), (rp, .inl (cJ, 16, .inr (.inl ps))), (rl, .inl (cI, 16, .inl lg)), (b, .inr (0, [.ref q])), (q, .inl (cB_, 65536, .inl (cB M))), (b2, .inr (0, [.ref q2])), (q2, .inl (cB2, 512 * nn, .inl (cB Dk)))] ∧ ZZ (va_A [(o, .inr (3, [.int sc, .ref b, .ref b2, .ref uq, .ref rq, .int fc, .int qc, .int cu, .int sa, .int aw, .int cg])), (uq, .inr (1, [.int sz, .int rd, .long bl, .long of, .long an, .int tk, .int td, .int om, .int oc])), (rq, .inr (2, [.ref rp, .ref rl, .int ct_, .int cl_, .int wt])), (rp, .inl (cJ, 16, .inr (.inl ps))), (rl, .inl (cI, 16, .inl lg)), (b, .inr (0, [.ref q])), (q, .inl (cB_, 65536, .inl (cB M))), (b2, .inr (0, [.ref q2])), (q2, .inl (cB2, 512 * nn, .inl (cB Dk)))] zS) U U.heap)) (va_Qi (fun (r : Int32) (u : Int32 × Int32 × Int32 × (Nat → Int64) × (Nat → Int32) × (Nat → Int32) × (Nat → Int32) × Int32 × Int32 × Int32 × Int32 × Int32 × Int32 × Int32 × Int32 × Int32 × Int32 × Int32 × Int32 × Int64 × Int64 × Int64) => match u with | (ct2, cl2, wt2, ps2, lg2, gm2, gd2, cg2, aw2, tk2, td2, om2, oc2, cu2, sa2, fc2, qc2, sz2, rd2, bl2, of2, an2) => r = bI (noP x) ∧ ∃ (M5 D5 : Nat → Nat) (k5 g5 : Nat), wrS spC nn x v M Dk cg cn gn aw fc qc cu sa sz rd bl of an = ((M5, D5, cg2, k5, g5, aw2), fc2, qc2, cu2, sa2, (sz2, rd2, bl2, of2, an2)) ∧ gm2 = cB M5 ∧ gd2 = cB D5 ∧ tk2 = nI k5 ∧ td2 = nI g5) (fun (u : Int32 × Int32 × Int32 × (Nat → Int64) × (Nat → Int32) × (Nat → Int32) × (Nat → Int32) × Int32 × Int32 × Int32 × Int32 × Int32 × Int32 × Int32 × Int32 × Int32 × Int32 × Int32 × Int32 × Int64 × Int64 × Int64) (t : State) => match u with | (ct2, cl2, wt2, ps2, lg2, gm2, gd2, cg2, aw2, tk2, td2, om2, oc2, cu2, sa2, fc2, qc2, sz2, rd2, bl2, of2, an2) => va_P (dC, dI) vwCl [(o, .inr (3, [.int sc, .ref b, .ref b2, .ref uq, .ref rq, .int fc2, .int qc2, .int cu2, .int sa2, .int aw2, .int cg2])), (uq, .inr (1, [.int sz2, .int rd2, .long bl2, .long of2, .long an2, .int tk2, .int td2, .int om2, .int oc2])), (rq, .inr (2, [.ref rp, .ref rl, .int ct2, .int cl2, .int wt2])), (rp, .inl (cJ, 16, .inr (.inl ps2))), (rl, .inl (cI, 16, .inl lg2)), (b, .inr (0, [.ref q])), (q, .inl (cB_, 65536, .inl gm2)), (b2, .inr (0, [.ref q2])), (q2, .inl (cB2, 512 * nn, .inl gd2))] t.heap ∧ va_K (dC, dI) vwCl [(cJ, .long), (cI, .int), (cB_, .byte), (cB2, .byte)] t ∧ va_D (va_A [(o, .inr (3, [.int sc, .ref b, .ref b2, .ref uq, .ref rq, .int fc, .int qc, .int cu, .int sa, .int aw, .int cg])), (uq, .inr (1, [.int sz, .int rd, .long bl, .long of, .long an, .int tk, .int td, .int om, .int oc])), (rq, .inr (2, [.ref rp, .ref rl, .int ct_, .int cl_, .int wt])), (rp, .inl (cJ, 16, .inr (.inl ps))), (rl, .inl (cI, 16, .inl lg)), (b, .inr (0, [.ref q])), (q, .inl (cB_, 65536, .inl (cB M))), (b2, .inr (0, [.ref q2])), (q2, .inl (cB2, 512 * nn, .inl (cB Dk)))] zS) [(o, .inr (3, [.int sc, .ref b, .ref b2, .ref uq, .ref rq, .int fc2, .int qc2, .int cu2, .int sa2, .int aw2, .int cg2])), (uq, .inr (1, [.int sz2, .int rd2, .long bl2, .long of2, .long an2, .int tk2, .int td2, .int om2, .int oc2])), (rq, .inr (2, [.ref rp, .ref rl, .int ct2, .int cl2, .int wt2])), (rp, .inl (cJ, 16, .inr (.inl ps2))), (rl, .inl (cI, 16, .inl lg2)), (b, .inr (0, [.ref q])), (q, .inl (cB_, 65536, .inl gm2)), (b2, .inr (0, [.ref q2])), (q2, .inl (cB2, 512 * nn, .inl gd2))]) (va_A [(o, .inr (3, [.int sc, .ref b, .ref b2, .ref uq, .ref rq, .int fc, .int qc, .int cu, .int sa, .int aw, .int cg])), (uq, .inr (1, [.int sz, .int rd, .long bl, .long of, .long an, .int tk, .int td, .int om, .int oc])), (rq, .inr (2, [.ref rp, .ref rl, .int ct_, .int cl_, .int wt])), (rp, .inl (cJ, 16, .inr (.inl ps))), (rl, .inl (cI, 16, .inl lg)), (b, .inr (0, [.ref q])), (q, .inl (cB_, 65536, .inl (cB M))), (b2, .inr (0, [.ref q2])), (q2, .inl (cB2, 512 * nn, .inl (cB Dk)))] zS)) 1 6 (va_A [(o, .inr (3, [.int sc, .ref b, .ref b2, .ref uq, .ref rq, .int fc, .int qc, .int cu, .int sa, .int aw, .int cg])), (uq, .inr (1, [.int sz, .int rd, .long bl, .long of, .long an, .int tk, .int td, .int om, .int oc])), (rq, .inr (2, [.ref rp, .ref rl, .int ct_, .int cl_, .int wt])), (rp, .inl (cJ, 16, .inr (.inl ps))), (rl, .inl (cI, 16, .inl lg)), (b, .inr (0, [.ref q])), (q, .inl (cB_, 65536, .inl (cB M))), (b2, .inr (0, [.ref q2])), (q2, .inl (cB2, 512 * nn, .inl (cB Dk)))] zS) := by
  refine metWH (cc := cL_write) (maxL := 4) (ret := (some .int)) (by decide) rfl ?_
  intro p e s m args below meth c s₁ B hml hv
  obtain ⟨rfl, hsz, hP, hK, hD0, hZ⟩ := hv
  have hx := B.exec
  have hb := B.bytes
  have hr := B.returns
  have hts := atoms_spec (ws := wsL_write) B.pre
  have hw : ∀ w ∈ WW, w.before _ s = true := fun w h => hts w (List.mem_cons_of_mem _ h)
  have hown : s.vm.findClass RL = some m.cls := findClass_of_methodNamed B.named
  have hlocks := B.notSynchronized
  have htab := vx_table (x := yL_write) B (hts _ List.mem_cons_self)
  subst hsz
  have hD := hD0.self (sz := s.heap.size)
  generalize hAe : va_A [(o, .inr (3, [.int sc, .ref b, .ref b2, .ref uq, .ref rq, .int fc, .int qc, .int cu, .int sa, .int aw, .int cg])), (uq, .inr (1, [.int sz, .int rd, .long bl, .long of, .long an, .int tk, .int td, .int om, .int oc])), (rq, .inr (2, [.ref rp, .ref rl, .int ct_, .int cl_, .int wt])), (rp, .inl (cJ, 16, .inr (.inl ps))), (rl, .inl (cI, 16, .inl lg)), (b, .inr (0, [.ref q])), (q, .inl (cB_, 65536, .inl (cB M))), (b2, .inr (0, [.ref q2])), (q2, .inl (cB2, 512 * nn, .inl (cB Dk)))] s.heap.size = A at hD hZ ⊢
  have hA : ∀ q : Nat, s.heap.size ≤ q → A q := fun q h => by rw [← hAe]; exact Or.inr h
  have hS : va_S A s.heap s.heap [] := va_S.rf
  have hP : va_P (dC, dI) vwCl [(o, .inr (3, [.int sc, .ref b, .ref b2, .ref uq, .ref rq, .int fc, .int qc, .int cu, .int sa, .int aw, .int cg])), (uq, .inr (1, [.int sz, .int rd, .long bl, .long of, .long an, .int tk, .int td, .int om, .int oc])), (rq, .inr (2, [.ref rp, .ref rl, .int ct_, .int cl_, .int wt])), (rp, .inl (cJ, 16, .inr (.inl ps))), (rl, .inl (cI, 16, .inl lg)), (b, .inr (0, [.ref q])), (q, .inl (cB_, 65536, .inl (cB M))), (b2, .inr (0, [.ref q2])), (q2, .inl (cB2, 512 * nn, .inl (cB Dk)))] s.heap := hP
  have hl := lv_entry ([.ref o, .int x, .int v]) (n := 4) (Nat.le_of_ble_eq_true rfl)
  rw [lg_entry_eq]
  generalize (lg_sl ([.ref o, .int x, .int v]) ++ List.replicate (4 - (lg_sl ([.ref o, .int x, .int v])).length) Slot.unset).toArray = ls at hl ⊢
  have hl : lv_has ls 4 [(0, .ref o), (1, .int x), (2, .int v)] := hl
  refine lv_aload_n hx hb dL_write_0 rfl (lv_at hl 0 rfl) ?_
  refine lv_iload_n hx hb dL_write_1 rfl (lv_at hl 1 rfl) ?_
  refine lv_iload_n hx hb dL_write_2 rfl (lv_at hl 2 rfl) ?_
  have hPc := hP.sub (ws' := [(o, .inr (3, [.int sc, .ref b, .ref b2, .ref uq, .ref rq, .int fc, .int qc, .int cu, .int sa, .int aw, .int cg])), (uq, .inr (1, [.int sz, .int rd, .long bl, .long of, .long an, .int tk, .int td, .int om, .int oc])), (rq, .inr (2, [.ref rp, .ref rl, .int ct_, .int cl_, .int wt])), (rp, .inl (cJ, 16, .inr (.inl ps))), (rl, .inl (cI, 16, .inl lg)), (b, .inr (0, [.ref q])), (q, .inl (cB_, 65536, .inl (cB M))), (b2, .inr (0, [.ref q2])), (q2, .inl (cB2, 512 * nn, .inl (cB Dk)))]) [0, 1, 2, 3, 4, 5, 6, 7, 8] rfl
  have hKc := hK.sub (tys' := [(cJ, .long), (cI, .int), (cB_, .byte), (cB2, .byte)]) [0, 1, 2, 3] rfl
  have hDc := hD.sub (ws' := [(o, .inr (3, [.int sc, .ref b, .ref b2, .ref uq, .ref rq, .int fc, .int qc, .int cu, .int sa, .int aw, .int cg])), (uq, .inr (1, [.int sz, .int rd, .long bl, .long of, .long an, .int tk, .int td, .int om, .int oc])), (rq, .inr (2, [.ref rp, .ref rl, .int ct_, .int cl_, .int wt])), (rp, .inl (cJ, 16, .inr (.inl ps))), (rl, .inl (cI, 16, .inl lg)), (b, .inr (0, [.ref q])), (q, .inl (cB_, 65536, .inl (cB M))), (b2, .inr (0, [.ref q2])), (q2, .inl (cB2, 512 * nn, .inl (cB Dk)))]) [0, 1, 2, 3, 4, 5, 6, 7, 8] (by decide) rfl
  have hFc := va_free (wc := [(o, .inr (3, [.int sc, .ref b, .ref b2, .ref uq, .ref rq, .int fc, .int qc, .int cu, .int sa, .int aw, .int cg])), (uq, .inr (1, [.int sz, .int rd, .long bl, .long of, .long an, .int tk, .int td, .int om, .int oc])), (rq, .inr (2, [.ref rp, .ref rl, .int ct_, .int cl_, .int wt])), (rp, .inl (cJ, 16, .inr (.inl ps))), (rl, .inl (cI, 16, .inl lg)), (b, .inr (0, [.ref q])), (q, .inl (cB_, 65536, .inl (cB M))), (b2, .inr (0, [.ref q2])), (q2, .inl (cB2, 512 * nn, .inl (cB Dk)))]) hD hS hA [0, 1, 2, 3, 4, 5, 6, 7, 8] rfl
  have hZc : ZZ (va_A [(o, .inr (3, [.int sc, .ref b, .ref b2, .ref uq, .ref rq, .int fc, .int qc, .int cu, .int sa, .int aw, .int cg])), (uq, .inr (1, [.int sz, .int rd, .long bl, .long of, .long an, .int tk, .int td, .int om, .int oc])), (rq, .inr (2, [.ref rp, .ref rl, .int ct_, .int cl_, .int wt])), (rp, .inl (cJ, 16, .inr (.inl ps))), (rl, .inl (cI, 16, .inl lg)), (b, .inr (0, [.ref q])), (q, .inl (cB_, 65536, .inl (cB M))), (b2, .inr (0, [.ref q2])), (q2, .inl (cB2, 512 * nn, .inl (cB Dk)))] s.heap.size) s s.heap := (hZ.kept hS.2.1).narrow hFc
  refine vx_callv (vx_runV (As := [.int x, .int v]) (rest := []) ⟨hx, hb, hml, hown, hw⟩ (d_write l dC dI o sc b b2 uq rq fc qc cu sa aw cg sz rd bl of an tk td om oc rp rl ct_ cl_ wt cJ cI ps lg q cB_ M q2 cB2 nn Dk n cn gn x v s.heap.size hst hsc hnn hpw hsz hcl htk hgl htd hM hDk) (cwV 2 hw (gV w_c7cad3e6c5 w_6541820822 w_509ed58952 w_106b72596f w_25bc15cb69) rfl rfl rfl (by decide +kernel) ⟨Nat.le_of_ble_eq_true rfl, Nat.le_of_ble_eq_true rfl⟩) ⟨fun a U g mk q => by obtain ⟨q0, q1, qP, qK, qD, qZ⟩ := q; exact ⟨q0, q1, qP, va_K.moved (u := U) (U := U.calling g mk a) (Vm.Alike.refl U.vm) qK, qD, ZZ.same (u := U) (U := U.calling g mk a) rfl qZ⟩, va_recv hKc hPc (ci := 3) (q0 := 0) rfl rfl, fun U hU hW => ⟨rfl, by rw [hU], by rw [hU]; exact hPc, va_K.moved hW.alike hKc, hDc.weaken (fun _ _ _ _ => trivial), by rw [hU]; exact ZZ.warm hW hZc⟩⟩ rfl rfl hl.1 rfl (lv_room (Nat.le_of_ble_eq_true rfl)) dL_write_3 ⟨Nat.le_of_ble_eq_true rfl, Nat.le_of_ble_eq_true rfl⟩) hS (fun q _ h => hFc q h) hFc (fun _ _ h => h.elim) (fun E9 ce9 q9 u9 t H1 locs9 ht hvm hpx hbx hz1 hk1 hS9 hce hcv hcl => ?_) (fun u t H1 locs ht hvm hw2 hB hz1 hk1 hS => ?_)
  · skip
    have hbx : E9 = eB ∧ noP x := hbx
    obtain ⟨rfl, hl9⟩ := hbx
    refine vx_catch hown [] ⟨0, 6, 9, 15⟩ [] htab (fun z hz => nomatch hz) rfl (by decide) (hw _ w_dbeeff8ac7) ((hZ.1 _ (List.mem_of_getElem? (i := 13) rfl)).use rfl) hce hcv hcl ?_
    have hP := hP.kept (fun k q hk => hk1 q.1 (vx_lt hP hk) (fun h => h))
    have hS := hS9
    generalize H1 = H at hP hS ⊢
    refine W.cs (cells' := 1) (slots' := 6) (by omega) (by omega) ?_
    have hP : va_P (dC, dI) vwCl [(o, .inr (3, [.int sc, .ref b, .ref b2, .ref uq, .ref rq, .int fc, .int qc, .int cu, .int sa, .int aw, .int cg])), (uq, .inr (1, [.int sz, .int rd, .long bl, .long of, .long an, .int tk, .int td, .int om, .int oc])), (rq, .inr (2, [.ref rp, .ref rl, .int ct_, .int cl_, .int wt])), (rp, .inl (cJ, 16, .inr (.inl ps))), (rl, .inl (cI, 16, .inl lg)), (b, .inr (0, [.ref q])), (q, .inl (cB_, 65536, .inl (cB M))), (b2, .inr (0, [.ref q2])), (q2, .inl (cB2, 512 * nn, .inl (cB Dk)))] H := hP
    have hD : va_D A [(o, .inr (3, [.int sc, .ref b, .ref b2, .ref uq, .ref rq, .int fc, .int qc, .int cu, .int sa, .int aw, .int cg])), (uq, .inr (1, [.int sz, .int rd, .long bl, .long of, .long an, .int tk, .int td, .int om, .int oc])), (rq, .inr (2, [.ref rp, .ref rl, .int ct_, .int cl_, .int wt])), (rp, .inl (cJ, 16, .inr (.inl ps))), (rl, .inl (cI, 16, .inl lg)), (b, .inr (0, [.ref q])), (q, .inl (cB_, 65536, .inl (cB M))), (b2, .inr (0, [.ref q2])), (q2, .inl (cB2, 512 * nn, .inl (cB Dk)))] := hD
    refine lv_astore_n (lv' := [(3, .ref q9), (0, .ref o), (1, .int x), (2, .int v)]) hx hb dL_write_9 rfl hl (by decide) rfl (fun ls hl => ?_)
    refine lv_iconst (v := 1) hx hb dL_write_10 (by decide) ?_
    have hP9 : va_P (dC, dI) vwCl [(o, .inr (3, [.int sc, .ref b, .ref b2, .ref uq, .ref rq, .int fc, .int qc, .int cu, .int sa, .int aw, .int cg])), (uq, .inr (1, [.int sz, .int rd, .long bl, .long of, .long an, .int tk, .int td, .int om, .int oc])), (rq, .inr (2, [.ref rp, .ref rl, .int ct_, .int cl_, .int wt])), (rp, .inl (cJ, 16, .inr (.inl ps))), (rl, .inl (cI, 16, .inl lg)), (b, .inr (0, [.ref q])), (q, .inl (cB_, 65536, .inl (cB M))), (b2, .inr (0, [.ref q2])), (q2, .inl (cB2, 512 * nn, .inl (cB Dk)))] H := by exact hP.sub (ws' := [(o, .inr (3, [.int sc, .ref b, .ref b2, .ref uq, .ref rq, .int fc, .int qc, .int cu, .int sa, .int aw, .int cg])), (uq, .inr (1, [.int sz, .int rd, .long bl, .long of, .long an, .int tk, .int td, .int om, .int oc])), (rq, .inr (2, [.ref rp, .ref rl, .int ct_, .int cl_, .int wt])), (rp, .inl (cJ, 16, .inr (.inl ps))), (rl, .inl (cI, 16, .inl lg)), (b, .inr (0, [.ref q])), (q, .inl (cB_, 65536, .inl (cB M))), (b2, .inr (0, [.ref q2])), (q2, .inl (cB2, 512 * nn, .inl (cB Dk)))]) [0, 1, 2, 3, 4, 5, 6, 7, 8] rfl
    have hD9 : va_D A [(o, .inr (3, [.int sc, .ref b, .ref b2, .ref uq, .ref rq, .int fc, .int qc, .int cu, .int sa, .int aw, .int cg])), (uq, .inr (1, [.int sz, .int rd, .long bl, .long of, .long an, .int tk, .int td, .int om, .int oc])), (rq, .inr (2, [.ref rp, .ref rl, .int ct_, .int cl_, .int wt])), (rp, .inl (cJ, 16, .inr (.inl ps))), (rl, .inl (cI, 16, .inl lg)), (b, .inr (0, [.ref q])), (q, .inl (cB_, 65536, .inl (cB M))), (b2, .inr (0, [.ref q2])), (q2, .inl (cB2, 512 * nn, .inl (cB Dk)))] := by exact hD.sub (ws' := [(o, .inr (3, [.int sc, .ref b, .ref b2, .ref uq, .ref rq, .int fc, .int qc, .int cu, .int sa, .int aw, .int cg])), (uq, .inr (1, [.int sz, .int rd, .long bl, .long of, .long an, .int tk, .int td, .int om, .int oc])), (rq, .inr (2, [.ref rp, .ref rl, .int ct_, .int cl_, .int wt])), (rp, .inl (cJ, 16, .inr (.inl ps))), (rl, .inl (cI, 16, .inl lg)), (b, .inr (0, [.ref q])), (q, .inl (cB_, 65536, .inl (cB M))), (b2, .inr (0, [.ref q2])), (q2, .inl (cB2, 512 * nn, .inl (cB Dk)))]) [0, 1, 2, 3, 4, 5, 6, 7, 8] (by decide) rfl
    have hK9 := hK.sub (tys' := [(cJ, .long), (cI, .int), (cB_, .byte), (cB2, .byte)]) [0, 1, 2, 3] rfl
    refine W.widen (k := 1) (n := 6) (by omega) (by omega) ?_
    exact W.iret (v := 1) hx hb hr (fun t ht hW => ⟨⟨_, (ct_, cl_, wt, ps, lg, cB M, cB Dk, cg, aw, tk, td, om, oc, cu, sa, fc, qc, sz, rd, bl, of, an), rfl, ⟨(bI_t hl9).symm, M, Dk, cn, gn, by unfold wrS; rw [if_pos hl9], rfl, rfl, htk, htd⟩, by rw [ht]; exact hP9, va_K.moved hW.alike hK9, hD9⟩, hS.F ht⟩) hS.2.2 dL_write_11
  obtain ⟨ct2_1, cl2_2, wt2_3, ps2_4, lg2_5, gm2_6, gd2_7, cg2_8, aw2_9, tk2_10, td2_11, om2_12, oc2_13, cu2_14, sa2_15, fc2_16, qc2_17, sz2_18, rd2_19, bl2_20, of2_21, an2_22⟩ := u
  obtain ⟨hP1, hK1, hD1⟩ := hB
  rw [ht] at hP1
  have hK1 := va_K.moved hvm.symm hK1
  try dsimp only at hw2
  obtain ⟨hP, hD⟩ := va_join (wr := []) (w1 := [(o, .inr (3, [.int sc, .ref b, .ref b2, .ref uq, .ref rq, .int fc2_16, .int qc2_17, .int cu2_14, .int sa2_15, .int aw2_9, .int cg2_8])), (uq, .inr (1, [.int sz2_18, .int rd2_19, .long bl2_20, .long of2_21, .long an2_22, .int tk2_10, .int td2_11, .int om2_12, .int oc2_13])), (rq, .inr (2, [.ref rp, .ref rl, .int ct2_1, .int cl2_2, .int wt2_3])), (rp, .inl (cJ, 16, .inr (.inl ps2_4))), (rl, .inl (cI, 16, .inl lg2_5)), (b, .inr (0, [.ref q])), (q, .inl (cB_, 65536, .inl gm2_6)), (b2, .inr (0, [.ref q2])), (q2, .inl (cB2, 512 * nn, .inl gd2_7))]) hP hD [0, 1, 2, 3, 4, 5, 6, 7, 8] [] rfl rfl (by decide) (by decide) hk1 hFc hP1 hD1
  generalize H1 = H at hP hS hk1 ⊢
  refine W.cs (cells' := 1) (slots' := 6) (by omega) (by omega) ?_
  have hP : va_P (dC, dI) vwCl [(o, .inr (3, [.int sc, .ref b, .ref b2, .ref uq, .ref rq, .int fc2_16, .int qc2_17, .int cu2_14, .int sa2_15, .int aw2_9, .int cg2_8])), (uq, .inr (1, [.int sz2_18, .int rd2_19, .long bl2_20, .long of2_21, .long an2_22, .int tk2_10, .int td2_11, .int om2_12, .int oc2_13])), (rq, .inr (2, [.ref rp, .ref rl, .int ct2_1, .int cl2_2, .int wt2_3])), (rp, .inl (cJ, 16, .inr (.inl ps2_4))), (rl, .inl (cI, 16, .inl lg2_5)), (b, .inr (0, [.ref q])), (q, .inl (cB_, 65536, .inl gm2_6)), (b2, .inr (0, [.ref q2])), (q2, .inl (cB2, 512 * nn, .inl gd2_7))] H := hP
  have hD : va_D A [(o, .inr (3, [.int sc, .ref b, .ref b2, .ref uq, .ref rq, .int fc2_16, .int qc2_17, .int cu2_14, .int sa2_15, .int aw2_9, .int cg2_8])), (uq, .inr (1, [.int sz2_18, .int rd2_19, .long bl2_20, .long of2_21, .long an2_22, .int tk2_10, .int td2_11, .int om2_12, .int oc2_13])), (rq, .inr (2, [.ref rp, .ref rl, .int ct2_1, .int cl2_2, .int wt2_3])), (rp, .inl (cJ, 16, .inr (.inl ps2_4))), (rl, .inl (cI, 16, .inl lg2_5)), (b, .inr (0, [.ref q])), (q, .inl (cB_, 65536, .inl gm2_6)), (b2, .inr (0, [.ref q2])), (q2, .inl (cB2, 512 * nn, .inl gd2_7))] := hD
  have hw_23 : ¬ noP x ∧ ∃ (M5 D5 : Nat → Nat) (k5 g5 : Nat), wrS spC nn x v M Dk cg cn gn aw fc qc cu sa sz rd bl of an = ((M5, D5, cg2_8, k5, g5, aw2_9), fc2_16, qc2_17, cu2_14, sa2_15, (sz2_18, rd2_19, bl2_20, of2_21, an2_22)) ∧ gm2_6 = cB M5 ∧ gd2_7 = cB D5 ∧ tk2_10 = nI k5 ∧ td2_11 = nI g5 := hw2
  refine lv_goto (tgt := 12) hx hb dL_write_6 (by decide) ?_
  refine lv_iconst (v := 0) hx hb dL_write_12 (by decide) ?_
  have hP9 : va_P (dC, dI) vwCl [(o, .inr (3, [.int sc, .ref b, .ref b2, .ref uq, .ref rq, .int fc2_16, .int qc2_17, .int cu2_14, .int sa2_15, .int aw2_9, .int cg2_8])), (uq, .inr (1, [.int sz2_18, .int rd2_19, .long bl2_20, .long of2_21, .long an2_22, .int tk2_10, .int td2_11, .int om2_12, .int oc2_13])), (rq, .inr (2, [.ref rp, .ref rl, .int ct2_1, .int cl2_2, .int wt2_3])), (rp, .inl (cJ, 16, .inr (.inl ps2_4))), (rl, .inl (cI, 16, .inl lg2_5)), (b, .inr (0, [.ref q])), (q, .inl (cB_, 65536, .inl gm2_6)), (b2, .inr (0, [.ref q2])), (q2, .inl (cB2, 512 * nn, .inl gd2_7))] H := by exact hP.sub (ws' := [(o, .inr (3, [.int sc, .ref b, .ref b2, .ref uq, .ref rq, .int fc2_16, .int qc2_17, .int cu2_14, .int sa2_15, .int aw2_9, .int cg2_8])), (uq, .inr (1, [.int sz2_18, .int rd2_19, .long bl2_20, .long of2_21, .long an2_22, .int tk2_10, .int td2_11, .int om2_12, .int oc2_13])), (rq, .inr (2, [.ref rp, .ref rl, .int ct2_1, .int cl2_2, .int wt2_3])), (rp, .inl (cJ, 16, .inr (.inl ps2_4))), (rl, .inl (cI, 16, .inl lg2_5)), (b, .inr (0, [.ref q])), (q, .inl (cB_, 65536, .inl gm2_6)), (b2, .inr (0, [.ref q2])), (q2, .inl (cB2, 512 * nn, .inl gd2_7))]) [0, 1, 2, 3, 4, 5, 6, 7, 8] rfl
  have hD9 : va_D A [(o, .inr (3, [.int sc, .ref b, .ref b2, .ref uq, .ref rq, .int fc2_16, .int qc2_17, .int cu2_14, .int sa2_15, .int aw2_9, .int cg2_8])), (uq, .inr (1, [.int sz2_18, .int rd2_19, .long bl2_20, .long of2_21, .long an2_22, .int tk2_10, .int td2_11, .int om2_12, .int oc2_13])), (rq, .inr (2, [.ref rp, .ref rl, .int ct2_1, .int cl2_2, .int wt2_3])), (rp, .inl (cJ, 16, .inr (.inl ps2_4))), (rl, .inl (cI, 16, .inl lg2_5)), (b, .inr (0, [.ref q])), (q, .inl (cB_, 65536, .inl gm2_6)), (b2, .inr (0, [.ref q2])), (q2, .inl (cB2, 512 * nn, .inl gd2_7))] := by exact hD.sub (ws' := [(o, .inr (3, [.int sc, .ref b, .ref b2, .ref uq, .ref rq, .int fc2_16, .int qc2_17, .int cu2_14, .int sa2_15, .int aw2_9, .int cg2_8])), (uq, .inr (1, [.int sz2_18, .int rd2_19, .long bl2_20, .long of2_21, .long an2_22, .int tk2_10, .int td2_11, .int om2_12, .int oc2_13])), (rq, .inr (2, [.ref rp, .ref rl, .int ct2_1, .int cl2_2, .int wt2_3])), (rp, .inl (cJ, 16, .inr (.inl ps2_4))), (rl, .inl (cI, 16, .inl lg2_5)), (b, .inr (0, [.ref q])), (q, .inl (cB_, 65536, .inl gm2_6)), (b2, .inr (0, [.ref q2])), (q2, .inl (cB2, 512 * nn, .inl gd2_7))]) [0, 1, 2, 3, 4, 5, 6, 7, 8] (by decide) rfl
  have hK9 := hK.sub (tys' := [(cJ, .long), (cI, .int), (cB_, .byte), (cB2, .byte)]) [0, 1, 2, 3] rfl
  refine W.widen (k := 1) (n := 6) (by omega) (by omega) ?_
  exact W.iret (v := 0) hx hb hr (fun t ht hW => ⟨⟨_, (ct2_1, cl2_2, wt2_3, ps2_4, lg2_5, gm2_6, gd2_7, cg2_8, aw2_9, tk2_10, td2_11, om2_12, oc2_13, cu2_14, sa2_15, fc2_16, qc2_17, sz2_18, rd2_19, bl2_20, of2_21, an2_22), rfl, ⟨(bI_f hw_23.1).symm, hw_23.2⟩, by rw [ht]; exact hP9, va_K.moved hW.alike hK9, hD9⟩, hS.F ht⟩) hS.2.2 dL_write_13
