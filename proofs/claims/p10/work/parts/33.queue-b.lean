set_option maxHeartbeats 4000000 in
set_option maxRecDepth 100000 in
/-- Queue.ahead -/
theorem q_ahead (l : Launch) (dC : Nat → ClassId) (dI : Nat → Nat → Nat) (uq : Nat) (sz : Int32) (rd : Int32) (bl : Int64) (of : Int64) (an : Int64) (tk : Int32) (td : Int32) (om : Int32) (oc : Int32) : Met l yX1_ahead wsX1_ahead ({ frames := 0, cells := 0, slots := 0, locals := 0 }) (va_Pc [.ref uq] (fun U => va_P (dC, dI) vwCl [(uq, .inr (1, [.int sz, .int rd, .long bl, .long of, .long an, .int tk, .int td, .int om, .int oc]))] U.heap ∧ va_K (dC, dI) vwCl [] U ∧ ZZ (fun _ => False) U U.heap)) (vp_Si (fun r => r = (oc - tk) &&& 65535)) 0 0 (fun _ => False) := by
  refine Met.ofW (cc := cX1_ahead) (maxL := 1) (ret := (some .int)) (by decide) rfl ?_
  intro p e s m args below meth c s₁ B hml hv
  obtain ⟨rfl, hP, hK, hZ⟩ := hv
  have hx := B.exec
  have hb := B.bytes
  have hr := B.returns
  have hts := atoms_spec (ws := wsX1_ahead) B.pre
  have hw : ∀ w ∈ WW, w.before _ s = true := fun w h => hts w (List.mem_cons_of_mem _ h)
  have hown : s.vm.findClass RX1 = some m.cls := findClass_of_methodNamed B.named
  have hlocks := B.notSynchronized
  have hl := lv_entry ([.ref uq]) (n := 1) (Nat.le_of_ble_eq_true rfl)
  rw [lg_entry_eq]
  generalize (lg_sl ([.ref uq]) ++ List.replicate (1 - (lg_sl ([.ref uq])).length) Slot.unset).toArray = ls at hl ⊢
  have hl : lv_has ls 1 [(0, .ref uq)] := hl
  refine lv_aload_n hx hb dX1_ahead_0 rfl (lv_at hl 0 rfl) ?_
  refine va_get (D := (dC, dI)) (ci := 1) (v := .int oc) (C := RX1) (T := TX1) (N := 9) hx hb hw inX1 hown hK hP 0 rfl rfl 8 (by decide) (hw _ w_2c00f7fe81) (fun _ h9 => h9) rfl dX1_ahead_1 ?_
  refine lv_aload_n hx hb dX1_ahead_4 rfl (lv_at hl 0 rfl) ?_
  refine va_get (D := (dC, dI)) (ci := 1) (v := .int tk) (C := RX1) (T := TX1) (N := 9) hx hb hw inX1 hown hK hP 0 rfl rfl 5 (by decide) (hw _ w_485db9fa6d) (fun _ h9 => h9) rfl dX1_ahead_5 ?_
  refine lv_isub hx hb dX1_ahead_8 ?_
  refine lv_ldc (v := 65535) hx hb hown (hw _ w_d297576465) dX1_ahead_9 ?_
  refine lv_iand hx hb dX1_ahead_11 ?_
  exact W.iret (v := (oc - tk) &&& 65535) hx hb hr (fun t ht hW => ⟨_, rfl, rfl, ht⟩) t_nil dX1_ahead_12
set_option maxHeartbeats 4000000 in
set_option maxRecDepth 100000 in
/-- Queue.slot -/
theorem q_slot (l : Launch) (dC : Nat → ClassId) (dI : Nat → Nat → Nat) (uq : Nat) (sz : Int32) (rd : Int32) (bl : Int64) (of : Int64) (an : Int64) (tk : Int32) (td : Int32) (om : Int32) (oc : Int32) (k : Int32) : Met l yX1_slot wsX1_slot ({ frames := 0, cells := 0, slots := 0, locals := 0 }) (va_Pc [.ref uq, .int k] (fun U => va_P (dC, dI) vwCl [(uq, .inr (1, [.int sz, .int rd, .long bl, .long of, .long an, .int tk, .int td, .int om, .int oc]))] U.heap ∧ va_K (dC, dI) vwCl [] U ∧ ZZ (fun _ => False) U U.heap)) (vp_Si (fun r => r = k &&& (sz - 1))) 0 0 (fun _ => False) := by
  refine Met.ofW (cc := cX1_slot) (maxL := 2) (ret := (some .int)) (by decide) rfl ?_
  intro p e s m args below meth c s₁ B hml hv
  obtain ⟨rfl, hP, hK, hZ⟩ := hv
  have hx := B.exec
  have hb := B.bytes
  have hr := B.returns
  have hts := atoms_spec (ws := wsX1_slot) B.pre
  have hw : ∀ w ∈ WW, w.before _ s = true := fun w h => hts w (List.mem_cons_of_mem _ h)
  have hown : s.vm.findClass RX1 = some m.cls := findClass_of_methodNamed B.named
  have hlocks := B.notSynchronized
  have hl := lv_entry ([.ref uq, .int k]) (n := 2) (Nat.le_of_ble_eq_true rfl)
  rw [lg_entry_eq]
  generalize (lg_sl ([.ref uq, .int k]) ++ List.replicate (2 - (lg_sl ([.ref uq, .int k])).length) Slot.unset).toArray = ls at hl ⊢
  have hl : lv_has ls 2 [(0, .ref uq), (1, .int k)] := hl
  refine lv_iload_n hx hb dX1_slot_0 rfl (lv_at hl 1 rfl) ?_
  refine lv_aload_n hx hb dX1_slot_1 rfl (lv_at hl 0 rfl) ?_
  refine va_get (D := (dC, dI)) (ci := 1) (v := .int sz) (C := RX1) (T := TX1) (N := 9) hx hb hw inX1 hown hK hP 0 rfl rfl 0 (by decide) (hw _ w_434fce38a3) (fun _ h9 => h9) rfl dX1_slot_2 ?_
  refine lv_iconst (v := 1) hx hb dX1_slot_5 (by decide) ?_
  refine lv_isub hx hb dX1_slot_6 ?_
  refine lv_iand hx hb dX1_slot_7 ?_
  exact W.iret (v := k &&& (sz - 1)) hx hb hr (fun t ht hW => ⟨_, rfl, rfl, ht⟩) t_nil dX1_slot_8
set_option maxHeartbeats 4000000 in
set_option maxRecDepth 100000 in
/-- Queue.blockPlace -/
theorem q_blockPlace (l : Launch) (dC : Nat → ClassId) (dI : Nat → Nat → Nat) (uq : Nat) (sz : Int32) (rd : Int32) (bl : Int64) (of : Int64) (an : Int64) (tk : Int32) (td : Int32) (om : Int32) (oc : Int32) (x : Int32) (k : Nat) (hxk : x = nI k) (hk : k < 2 ^ 31) : Met l yX1_blockPlace wsX1_blockPlace ({ frames := 0, cells := 0, slots := 0, locals := 0 }) (va_Pc [.ref uq, .int x] (fun U => va_P (dC, dI) vwCl [(uq, .inr (1, [.int sz, .int rd, .long bl, .long of, .long an, .int tk, .int td, .int om, .int oc]))] U.heap ∧ va_K (dC, dI) vwCl [] U ∧ ZZ (fun _ => False) U U.heap)) (vp_Sl (fun r => r = blA bl k - 2147483648)) 0 0 (fun _ => False) := by
  refine Met.ofW (cc := cX1_blockPlace) (maxL := 2) (ret := (some .long)) (by decide) rfl ?_
  intro p e s m args below meth c s₁ B hml hv
  obtain ⟨rfl, hP, hK, hZ⟩ := hv
  have hx := B.exec
  have hb := B.bytes
  have hr := B.returns
  have hts := atoms_spec (ws := wsX1_blockPlace) B.pre
  have hw : ∀ w ∈ WW, w.before _ s = true := fun w h => hts w (List.mem_cons_of_mem _ h)
  have hown : s.vm.findClass RX1 = some m.cls := findClass_of_methodNamed B.named
  have hlocks := B.notSynchronized
  have hl := lv_entry ([.ref uq, .int x]) (n := 2) (Nat.le_of_ble_eq_true rfl)
  rw [lg_entry_eq]
  generalize (lg_sl ([.ref uq, .int x]) ++ List.replicate (2 - (lg_sl ([.ref uq, .int x])).length) Slot.unset).toArray = ls at hl ⊢
  have hl : lv_has ls 2 [(0, .ref uq), (1, .int x)] := hl
  refine lv_aload_n hx hb dX1_blockPlace_0 rfl (lv_at hl 0 rfl) ?_
  refine va_get (D := (dC, dI)) (ci := 1) (v := .long bl) (C := RX1) (T := TX1) (N := 9) hx hb hw inX1 hown hK hP 0 rfl rfl 2 (by decide) (hw _ w_92aa121c2f) (fun _ h9 => h9) rfl dX1_blockPlace_1 ?_
  refine lv_ldc2 (v := 2147483648) hx hb hown (hw _ w_76207a66a1) dX1_blockPlace_4 ?_
  refine lv_lsub hx hb dX1_blockPlace_7 ?_
  refine lv_ldc2 (v := 16) hx hb hown (hw _ w_6a79d6a403) dX1_blockPlace_8 ?_
  refine lv_iload_n hx hb dX1_blockPlace_11 rfl (lv_at hl 1 rfl) ?_
  refine lv_i2l (v := x.toInt64) hx hb dX1_blockPlace_12 rfl ?_
  refine lv_lmul hx hb dX1_blockPlace_13 ?_
  refine lv_ladd hx hb dX1_blockPlace_14 ?_
  exact W.lret (v := (bl - 2147483648) + (16 * x.toInt64)) hx hb hr (fun t ht hW => ⟨_, rfl, (by rw [hxk]; exact blP_ok bl hk), ht⟩) t_nil dX1_blockPlace_15
set_option maxHeartbeats 4000000 in
set_option maxRecDepth 100000 in
/-- Queue.offerPlace -/
theorem q_offerPlace (l : Launch) (dC : Nat → ClassId) (dI : Nat → Nat → Nat) (uq : Nat) (sz : Int32) (rd : Int32) (bl : Int64) (of : Int64) (an : Int64) (tk : Int32) (td : Int32) (om : Int32) (oc : Int32) (n : Nat) (cn : Nat) (gn : Nat) (hpw : pw n) (hsz : sz = nI n) (hcl : cn < 65536) (htk : tk = nI cn) (hgl : gn < 65536) (htd : td = nI gn) : Met l yX1_offerPlace wsX1_offerPlace ({ frames := 1, cells := 0, slots := 0, locals := 40 }) (va_Pc [.ref uq] (fun U => va_P (dC, dI) vwCl [(uq, .inr (1, [.int sz, .int rd, .long bl, .long of, .long an, .int tk, .int td, .int om, .int oc]))] U.heap ∧ va_K (dC, dI) vwCl [] U ∧ ZZ (fun _ => False) U U.heap)) (vp_Sl (fun r => r = ofA of cn n - 2147483648)) 0 0 (fun _ => False) := by
  refine Met.ofW (cc := cX1_offerPlace) (maxL := 1) (ret := (some .long)) (by decide) rfl ?_
  intro p e s m args below meth c s₁ B hml hv
  obtain ⟨rfl, hP, hK, hZ⟩ := hv
  have hx := B.exec
  have hb := B.bytes
  have hr := B.returns
  have hts := atoms_spec (ws := wsX1_offerPlace) B.pre
  have hw : ∀ w ∈ WW, w.before _ s = true := fun w h => hts w (List.mem_cons_of_mem _ h)
  have hown : s.vm.findClass RX1 = some m.cls := findClass_of_methodNamed B.named
  have hlocks := B.notSynchronized
  have hl := lv_entry ([.ref uq]) (n := 1) (Nat.le_of_ble_eq_true rfl)
  rw [lg_entry_eq]
  generalize (lg_sl ([.ref uq]) ++ List.replicate (1 - (lg_sl ([.ref uq])).length) Slot.unset).toArray = ls at hl ⊢
  have hl : lv_has ls 1 [(0, .ref uq)] := hl
  refine lv_aload_n hx hb dX1_offerPlace_0 rfl (lv_at hl 0 rfl) ?_
  refine va_get (D := (dC, dI)) (ci := 1) (v := .long of) (C := RX1) (T := TX1) (N := 9) hx hb hw inX1 hown hK hP 0 rfl rfl 3 (by decide) (hw _ w_cdd8a4f183) (fun _ h9 => h9) rfl dX1_offerPlace_1 ?_
  refine lv_ldc2 (v := 2147483648) hx hb hown (hw _ w_76207a66a1) dX1_offerPlace_4 ?_
  refine lv_lsub hx hb dX1_offerPlace_7 ?_
  refine lv_ldc2 (v := 4) hx hb hown (hw _ w_932f3f98cf) dX1_offerPlace_8 ?_
  refine lv_ladd hx hb dX1_offerPlace_11 ?_
  refine lv_ldc2 (v := 2) hx hb hown (hw _ w_e99f164e50) dX1_offerPlace_12 ?_
  refine lv_aload_n hx hb dX1_offerPlace_15 rfl (lv_at hl 0 rfl) ?_
  refine lv_aload_n hx hb dX1_offerPlace_16 rfl (lv_at hl 0 rfl) ?_
  refine va_get (D := (dC, dI)) (ci := 1) (v := .int tk) (C := RX1) (T := TX1) (N := 9) hx hb hw inX1 hown hK hP 0 rfl rfl 5 (by decide) (hw _ w_485db9fa6d) (fun _ h9 => h9) rfl dX1_offerPlace_17 ?_
  have hPc := hP.sub (ws' := [(uq, .inr (1, [.int sz, .int rd, .long bl, .long of, .long an, .int tk, .int td, .int om, .int oc]))]) [0] rfl
  have hKc := hK.sub (tys' := []) [] rfl
  have hZc := hZ
  refine vp_callSi (va_runV (As := [.int tk]) (rest := [.long 2, .long ((of - 2147483648) + 4)]) ⟨hx, hb, hml, hown, hw⟩ (q_slot l dC dI uq sz rd bl of an tk td om oc tk) (cwV 1 hw (gV w_9f53ca14e5 w_bed1381442 w_08eb20d3fa w_cf66e99dd3 w_7e01589f6b) rfl rfl rfl (by decide +kernel) ⟨Nat.le_of_ble_eq_true rfl, Nat.le_of_ble_eq_true rfl⟩) ⟨fun a U g mk q => by obtain ⟨q0, qP, qK, qZ⟩ := q; exact ⟨q0, qP, va_K.moved (u := U) (U := U.calling g mk a) (Vm.Alike.refl U.vm) qK, ZZ.same (u := U) (U := U.calling g mk a) rfl qZ⟩, va_recv hKc hPc (ci := 1) (q0 := 0) rfl rfl, fun U hU hW => ⟨rfl, by rw [hU]; exact hPc, va_K.moved hW.alike hKc, by rw [hU]; exact ZZ.warm hW hZc⟩⟩ rfl rfl hl.1 rfl (lv_room (Nat.le_of_ble_eq_true rfl)) dX1_offerPlace_20 ⟨Nat.zero_le _, Nat.zero_le _⟩).run (fun r_1 hr_1 => ?_)
  have hr_1 : r_1 = tk &&& (sz - 1) := hr_1
  refine lv_i2l (v := r_1.toInt64) hx hb dX1_offerPlace_23 rfl ?_
  refine lv_lmul hx hb dX1_offerPlace_24 ?_
  refine lv_ladd hx hb dX1_offerPlace_25 ?_
  exact W.lret (v := ((of - 2147483648) + 4) + (2 * r_1.toInt64)) hx hb hr (fun t ht hW => ⟨_, rfl, (by rw [hr_1]; exact ofP_ok hpw hcl htk hsz), ht⟩) t_nil dX1_offerPlace_26
set_option maxHeartbeats 4000000 in
set_option maxRecDepth 100000 in
/-- Queue.answerPlace -/
theorem q_answerPlace (l : Launch) (dC : Nat → ClassId) (dI : Nat → Nat → Nat) (uq : Nat) (sz : Int32) (rd : Int32) (bl : Int64) (of : Int64) (an : Int64) (tk : Int32) (td : Int32) (om : Int32) (oc : Int32) (n : Nat) (cn : Nat) (gn : Nat) (hpw : pw n) (hsz : sz = nI n) (hcl : cn < 65536) (htk : tk = nI cn) (hgl : gn < 65536) (htd : td = nI gn) : Met l yX1_answerPlace wsX1_answerPlace ({ frames := 1, cells := 0, slots := 0, locals := 40 }) (va_Pc [.ref uq] (fun U => va_P (dC, dI) vwCl [(uq, .inr (1, [.int sz, .int rd, .long bl, .long of, .long an, .int tk, .int td, .int om, .int oc]))] U.heap ∧ va_K (dC, dI) vwCl [] U ∧ ZZ (fun _ => False) U U.heap)) (vp_Sl (fun r => r = anA an gn n - 2147483648)) 0 0 (fun _ => False) := by
  refine Met.ofW (cc := cX1_answerPlace) (maxL := 1) (ret := (some .long)) (by decide) rfl ?_
  intro p e s m args below meth c s₁ B hml hv
  obtain ⟨rfl, hP, hK, hZ⟩ := hv
  have hx := B.exec
  have hb := B.bytes
  have hr := B.returns
  have hts := atoms_spec (ws := wsX1_answerPlace) B.pre
  have hw : ∀ w ∈ WW, w.before _ s = true := fun w h => hts w (List.mem_cons_of_mem _ h)
  have hown : s.vm.findClass RX1 = some m.cls := findClass_of_methodNamed B.named
  have hlocks := B.notSynchronized
  have hl := lv_entry ([.ref uq]) (n := 1) (Nat.le_of_ble_eq_true rfl)
  rw [lg_entry_eq]
  generalize (lg_sl ([.ref uq]) ++ List.replicate (1 - (lg_sl ([.ref uq])).length) Slot.unset).toArray = ls at hl ⊢
  have hl : lv_has ls 1 [(0, .ref uq)] := hl
  refine lv_aload_n hx hb dX1_answerPlace_0 rfl (lv_at hl 0 rfl) ?_
  refine va_get (D := (dC, dI)) (ci := 1) (v := .long an) (C := RX1) (T := TX1) (N := 9) hx hb hw inX1 hown hK hP 0 rfl rfl 4 (by decide) (hw _ w_275797ba51) (fun _ h9 => h9) rfl dX1_answerPlace_1 ?_
  refine lv_ldc2 (v := 2147483648) hx hb hown (hw _ w_76207a66a1) dX1_answerPlace_4 ?_
  refine lv_lsub hx hb dX1_answerPlace_7 ?_
  refine lv_ldc2 (v := 4) hx hb hown (hw _ w_932f3f98cf) dX1_answerPlace_8 ?_
  refine lv_ladd hx hb dX1_answerPlace_11 ?_
  refine lv_ldc2 (v := 8) hx hb hown (hw _ w_5224a93b14) dX1_answerPlace_12 ?_
  refine lv_aload_n hx hb dX1_answerPlace_15 rfl (lv_at hl 0 rfl) ?_
  refine lv_aload_n hx hb dX1_answerPlace_16 rfl (lv_at hl 0 rfl) ?_
  refine va_get (D := (dC, dI)) (ci := 1) (v := .int td) (C := RX1) (T := TX1) (N := 9) hx hb hw inX1 hown hK hP 0 rfl rfl 6 (by decide) (hw _ w_59eb6c0c73) (fun _ h9 => h9) rfl dX1_answerPlace_17 ?_
  have hPc := hP.sub (ws' := [(uq, .inr (1, [.int sz, .int rd, .long bl, .long of, .long an, .int tk, .int td, .int om, .int oc]))]) [0] rfl
  have hKc := hK.sub (tys' := []) [] rfl
  have hZc := hZ
  refine vp_callSi (va_runV (As := [.int td]) (rest := [.long 8, .long ((an - 2147483648) + 4)]) ⟨hx, hb, hml, hown, hw⟩ (q_slot l dC dI uq sz rd bl of an tk td om oc td) (cwV 1 hw (gV w_9f53ca14e5 w_bed1381442 w_08eb20d3fa w_cf66e99dd3 w_7e01589f6b) rfl rfl rfl (by decide +kernel) ⟨Nat.le_of_ble_eq_true rfl, Nat.le_of_ble_eq_true rfl⟩) ⟨fun a U g mk q => by obtain ⟨q0, qP, qK, qZ⟩ := q; exact ⟨q0, qP, va_K.moved (u := U) (U := U.calling g mk a) (Vm.Alike.refl U.vm) qK, ZZ.same (u := U) (U := U.calling g mk a) rfl qZ⟩, va_recv hKc hPc (ci := 1) (q0 := 0) rfl rfl, fun U hU hW => ⟨rfl, by rw [hU]; exact hPc, va_K.moved hW.alike hKc, by rw [hU]; exact ZZ.warm hW hZc⟩⟩ rfl rfl hl.1 rfl (lv_room (Nat.le_of_ble_eq_true rfl)) dX1_answerPlace_20 ⟨Nat.zero_le _, Nat.zero_le _⟩).run (fun r_1 hr_1 => ?_)
  have hr_1 : r_1 = td &&& (sz - 1) := hr_1
  refine lv_i2l (v := r_1.toInt64) hx hb dX1_answerPlace_23 rfl ?_
  refine lv_lmul hx hb dX1_answerPlace_24 ?_
  refine lv_ladd hx hb dX1_answerPlace_25 ?_
  exact W.lret (v := ((an - 2147483648) + 4) + (8 * r_1.toInt64)) hx hb hr (fun t ht hW => ⟨_, rfl, (by rw [hr_1]; exact anP_ok hpw hgl htd hsz), ht⟩) t_nil dX1_answerPlace_26
set_option maxHeartbeats 4000000 in
set_option maxRecDepth 100000 in
/-- Queue.answerCountPlace -/
theorem q_answerCountPlace (l : Launch) (dC : Nat → ClassId) (dI : Nat → Nat → Nat) (uq : Nat) (sz : Int32) (rd : Int32) (bl : Int64) (of : Int64) (an : Int64) (tk : Int32) (td : Int32) (om : Int32) (oc : Int32) : Met l yX1_answerCountPlace wsX1_answerCountPlace ({ frames := 0, cells := 0, slots := 0, locals := 0 }) (va_Pc [.ref uq] (fun U => va_P (dC, dI) vwCl [(uq, .inr (1, [.int sz, .int rd, .long bl, .long of, .long an, .int tk, .int td, .int om, .int oc]))] U.heap ∧ va_K (dC, dI) vwCl [] U ∧ ZZ (fun _ => False) U U.heap)) (vp_Sl (fun r => r = (an + 2) - 2147483648)) 0 0 (fun _ => False) := by
  refine Met.ofW (cc := cX1_answerCountPlace) (maxL := 1) (ret := (some .long)) (by decide) rfl ?_
  intro p e s m args below meth c s₁ B hml hv
  obtain ⟨rfl, hP, hK, hZ⟩ := hv
  have hx := B.exec
  have hb := B.bytes
  have hr := B.returns
  have hts := atoms_spec (ws := wsX1_answerCountPlace) B.pre
  have hw : ∀ w ∈ WW, w.before _ s = true := fun w h => hts w (List.mem_cons_of_mem _ h)
  have hown : s.vm.findClass RX1 = some m.cls := findClass_of_methodNamed B.named
  have hlocks := B.notSynchronized
  have hl := lv_entry ([.ref uq]) (n := 1) (Nat.le_of_ble_eq_true rfl)
  rw [lg_entry_eq]
  generalize (lg_sl ([.ref uq]) ++ List.replicate (1 - (lg_sl ([.ref uq])).length) Slot.unset).toArray = ls at hl ⊢
  have hl : lv_has ls 1 [(0, .ref uq)] := hl
  refine lv_aload_n hx hb dX1_answerCountPlace_0 rfl (lv_at hl 0 rfl) ?_
  refine va_get (D := (dC, dI)) (ci := 1) (v := .long an) (C := RX1) (T := TX1) (N := 9) hx hb hw inX1 hown hK hP 0 rfl rfl 4 (by decide) (hw _ w_275797ba51) (fun _ h9 => h9) rfl dX1_answerCountPlace_1 ?_
  refine lv_ldc2 (v := 2147483648) hx hb hown (hw _ w_76207a66a1) dX1_answerCountPlace_4 ?_
  refine lv_lsub hx hb dX1_answerCountPlace_7 ?_
  refine lv_ldc2 (v := 2) hx hb hown (hw _ w_e99f164e50) dX1_answerCountPlace_8 ?_
  refine lv_ladd hx hb dX1_answerCountPlace_11 ?_
  exact W.lret (v := (an - 2147483648) + 2) hx hb hr (fun t ht hW => ⟨_, rfl, (acP_ok an), ht⟩) t_nil dX1_answerCountPlace_12
set_option maxHeartbeats 4000000 in
set_option maxRecDepth 100000 in
/-- Queue.canAnswer -/
theorem q_canAnswer (l : Launch) (dC : Nat → ClassId) (dI : Nat → Nat → Nat) (uq : Nat) (sz : Int32) (rd : Int32) (bl : Int64) (of : Int64) (an : Int64) (tk : Int32) (td : Int32) (om : Int32) (oc : Int32) (b : Nat) (q : Nat) (cB_ : ClassId) (M : Nat → Nat) (n : Nat) (cn : Nat) (gn : Nat) (hpw : pw n) (hsz : sz = nI n) (hcl : cn < 65536) (htk : tk = nI cn) (hgl : gn < 65536) (htd : td = nI gn) : Met l yX1_canAnswer wsX1_canAnswer ({ frames := 2, cells := 0, slots := 0, locals := 80 }) (va_Pc [.ref uq, .ref b] (fun U => va_P (dC, dI) vwCl [(uq, .inr (1, [.int sz, .int rd, .long bl, .long of, .long an, .int tk, .int td, .int om, .int oc])), (b, .inr (0, [.ref q])), (q, .inl (cB_, 65536, .inl (cB M)))] U.heap ∧ va_K (dC, dI) vwCl [(cB_, .byte)] U ∧ ZZ (fun _ => False) U U.heap)) (vp_Si (fun r => r = bI (thP (anA an gn n) 8 ∧ thP (an + 2) 2))) 0 0 (fun _ => False) := by
  refine Met.ofW (cc := cX1_canAnswer) (maxL := 2) (ret := (some .boolean)) (by decide) rfl ?_
  intro p e s m args below meth c s₁ B hml hv
  obtain ⟨rfl, hP, hK, hZ⟩ := hv
  have hx := B.exec
  have hb := B.bytes
  have hr := B.returns
  have hts := atoms_spec (ws := wsX1_canAnswer) B.pre
  have hw : ∀ w ∈ WW, w.before _ s = true := fun w h => hts w (List.mem_cons_of_mem _ h)
  have hown : s.vm.findClass RX1 = some m.cls := findClass_of_methodNamed B.named
  have hlocks := B.notSynchronized
  have hl := lv_entry ([.ref uq, .ref b]) (n := 2) (Nat.le_of_ble_eq_true rfl)
  rw [lg_entry_eq]
  generalize (lg_sl ([.ref uq, .ref b]) ++ List.replicate (2 - (lg_sl ([.ref uq, .ref b])).length) Slot.unset).toArray = ls at hl ⊢
  have hl : lv_has ls 2 [(0, .ref uq), (1, .ref b)] := hl
  refine lv_aload_n hx hb dX1_canAnswer_0 rfl (lv_at hl 1 rfl) ?_
  refine lv_aload_n hx hb dX1_canAnswer_1 rfl (lv_at hl 0 rfl) ?_
  have hPc := hP.sub (ws' := [(uq, .inr (1, [.int sz, .int rd, .long bl, .long of, .long an, .int tk, .int td, .int om, .int oc]))]) [0] rfl
  have hKc := hK.sub (tys' := []) [] rfl
  have hZc := hZ
  refine vp_callSl (va_runV (As := []) (rest := [.ref b]) ⟨hx, hb, hml, hown, hw⟩ (q_answerPlace l dC dI uq sz rd bl of an tk td om oc n cn gn hpw hsz hcl htk hgl htd) (cwV 0 hw (gV w_18da88d665 w_23aa8e6c39 w_0da93079e3 w_cf66e99dd3 w_bb29a39b50) rfl rfl rfl (by decide +kernel) ⟨Nat.le_of_ble_eq_true rfl, Nat.le_of_ble_eq_true rfl⟩) ⟨fun a U g mk q => by obtain ⟨q0, qP, qK, qZ⟩ := q; exact ⟨q0, qP, va_K.moved (u := U) (U := U.calling g mk a) (Vm.Alike.refl U.vm) qK, ZZ.same (u := U) (U := U.calling g mk a) rfl qZ⟩, va_recv hKc hPc (ci := 1) (q0 := 0) rfl rfl, fun U hU hW => ⟨rfl, by rw [hU]; exact hPc, va_K.moved hW.alike hKc, by rw [hU]; exact ZZ.warm hW hZc⟩⟩ rfl rfl hl.1 rfl (lv_room (Nat.le_of_ble_eq_true rfl)) dX1_canAnswer_2 ⟨Nat.zero_le _, Nat.zero_le _⟩).run (fun r_1 hr_1 => ?_)
  have hr_1 : r_1 = anA an gn n - 2147483648 := hr_1
  refine lv_ldc2 (v := 8) hx hb hown (hw _ w_5224a93b14) dX1_canAnswer_5 ?_
  have hPc := hP.sub (ws' := [(b, .inr (0, [.ref q])), (q, .inl (cB_, 65536, .inl (cB M)))]) [1, 2] rfl
  have hKc := hK.sub (tys' := [(cB_, .byte)]) [0] rfl
  have hZc := hZ
  refine vp_callSi (va_runV (As := [.long r_1, .long 8]) (rest := []) ⟨hx, hb, hml, hown, hw⟩ (c_holds l dC dI b q cB_ 65536 (cB M) r_1 8 (by decide)) (cwV 2 hw (gV w_91a639c728 w_bd9bccf83c w_88968f97c9 w_82b0ef516c w_0dba9a2727) rfl rfl rfl (by decide +kernel) ⟨Nat.le_of_ble_eq_true rfl, Nat.le_of_ble_eq_true rfl⟩) ⟨fun a U g mk q => by obtain ⟨q0, qP, qK, qZ⟩ := q; exact ⟨q0, qP, va_K.moved (u := U) (U := U.calling g mk a) (Vm.Alike.refl U.vm) qK, ZZ.same (u := U) (U := U.calling g mk a) rfl qZ⟩, va_recv hKc hPc (ci := 0) (q0 := 0) rfl rfl, fun U hU hW => ⟨rfl, by rw [hU]; exact hPc, va_K.moved hW.alike hKc, by rw [hU]; exact ZZ.warm hW hZc⟩⟩ rfl rfl hl.1 rfl (lv_room (Nat.le_of_ble_eq_true rfl)) dX1_canAnswer_8 ⟨Nat.zero_le _, Nat.zero_le _⟩).run (fun r_2 hr_2 => ?_)
  have hr_2 : r_2 = bI (hoP 65536 r_1 8) := hr_2
  refine lv_if_eq (tgt := 32) hx hb dX1_canAnswer_11 (by decide) (fun c_3 => ?_) (fun c_3 => ?_)
  · skip
    have b_4 : ¬ (hoP 65536 r_1 8) := bI_0 (by rw [← hr_2]; exact c_3)
    refine lv_iconst (v := 0) hx hb dX1_canAnswer_32 (by decide) ?_
    exact W.zret (v := 0) hx hb hr rfl (fun t ht hW => ⟨_, rfl, (bI_f (fun z => b_4 (by rw [hr_1]; exact (ho_th (by decide) (by decide)).mpr z.1))).symm, ht⟩) t_nil dX1_canAnswer_33
  · skip
    have b_5 : (hoP 65536 r_1 8) := bI_1 (by rw [← hr_2]; exact c_3)
    refine lv_aload_n hx hb dX1_canAnswer_14 rfl (lv_at hl 1 rfl) ?_
    refine lv_aload_n hx hb dX1_canAnswer_15 rfl (lv_at hl 0 rfl) ?_
    have hPc := hP.sub (ws' := [(uq, .inr (1, [.int sz, .int rd, .long bl, .long of, .long an, .int tk, .int td, .int om, .int oc]))]) [0] rfl
    have hKc := hK.sub (tys' := []) [] rfl
    have hZc := hZ
    refine vp_callSl (va_runV (As := []) (rest := [.ref b]) ⟨hx, hb, hml, hown, hw⟩ (q_answerCountPlace l dC dI uq sz rd bl of an tk td om oc) (cwV 0 hw (gV w_8a7c54ccc9 w_eedb226694 w_cd77ecfec7 w_cf66e99dd3 w_449aba9ddc) rfl rfl rfl (by decide +kernel) ⟨Nat.le_of_ble_eq_true rfl, Nat.le_of_ble_eq_true rfl⟩) ⟨fun a U g mk q => by obtain ⟨q0, qP, qK, qZ⟩ := q; exact ⟨q0, qP, va_K.moved (u := U) (U := U.calling g mk a) (Vm.Alike.refl U.vm) qK, ZZ.same (u := U) (U := U.calling g mk a) rfl qZ⟩, va_recv hKc hPc (ci := 1) (q0 := 0) rfl rfl, fun U hU hW => ⟨rfl, by rw [hU]; exact hPc, va_K.moved hW.alike hKc, by rw [hU]; exact ZZ.warm hW hZc⟩⟩ rfl rfl hl.1 rfl (lv_room (Nat.le_of_ble_eq_true rfl)) dX1_canAnswer_16 ⟨Nat.zero_le _, Nat.zero_le _⟩).run (fun r_6 hr_6 => ?_)
    have hr_6 : r_6 = (an + 2) - 2147483648 := hr_6
    refine lv_ldc2 (v := 2) hx hb hown (hw _ w_e99f164e50) dX1_canAnswer_19 ?_
    have hPc := hP.sub (ws' := [(b, .inr (0, [.ref q])), (q, .inl (cB_, 65536, .inl (cB M)))]) [1, 2] rfl
    have hKc := hK.sub (tys' := [(cB_, .byte)]) [0] rfl
    have hZc := hZ
    refine vp_callSi (va_runV (As := [.long r_6, .long 2]) (rest := []) ⟨hx, hb, hml, hown, hw⟩ (c_holds l dC dI b q cB_ 65536 (cB M) r_6 2 (by decide)) (cwV 2 hw (gV w_91a639c728 w_bd9bccf83c w_88968f97c9 w_82b0ef516c w_0dba9a2727) rfl rfl rfl (by decide +kernel) ⟨Nat.le_of_ble_eq_true rfl, Nat.le_of_ble_eq_true rfl⟩) ⟨fun a U g mk q => by obtain ⟨q0, qP, qK, qZ⟩ := q; exact ⟨q0, qP, va_K.moved (u := U) (U := U.calling g mk a) (Vm.Alike.refl U.vm) qK, ZZ.same (u := U) (U := U.calling g mk a) rfl qZ⟩, va_recv hKc hPc (ci := 0) (q0 := 0) rfl rfl, fun U hU hW => ⟨rfl, by rw [hU]; exact hPc, va_K.moved hW.alike hKc, by rw [hU]; exact ZZ.warm hW hZc⟩⟩ rfl rfl hl.1 rfl (lv_room (Nat.le_of_ble_eq_true rfl)) dX1_canAnswer_22 ⟨Nat.zero_le _, Nat.zero_le _⟩).run (fun r_7 hr_7 => ?_)
    have hr_7 : r_7 = bI (hoP 65536 r_6 2) := hr_7
    refine lv_if_eq (tgt := 32) hx hb dX1_canAnswer_25 (by decide) (fun c_8 => ?_) (fun c_8 => ?_)
    · skip
      have b_9 : ¬ (hoP 65536 r_6 2) := bI_0 (by rw [← hr_7]; exact c_8)
      refine lv_iconst (v := 0) hx hb dX1_canAnswer_32 (by decide) ?_
      exact W.zret (v := 0) hx hb hr rfl (fun t ht hW => ⟨_, rfl, (bI_f (fun z => b_9 (by rw [hr_6]; exact (ho_th (by decide) (by decide)).mpr z.2))).symm, ht⟩) t_nil dX1_canAnswer_33
    · skip
      have b_10 : (hoP 65536 r_6 2) := bI_1 (by rw [← hr_7]; exact c_8)
      refine lv_iconst (v := 1) hx hb dX1_canAnswer_28 (by decide) ?_
      refine lv_goto (tgt := 33) hx hb dX1_canAnswer_29 (by decide) ?_
      exact W.zret (v := 1) hx hb hr rfl (fun t ht hW => ⟨_, rfl, (bI_t ⟨((ho_th (by decide) (by decide)).mp (by rw [← hr_1]; exact b_5)), (ho_th (by decide) (by decide)).mp (by rw [← hr_6]; exact b_10)⟩).symm, ht⟩) t_nil dX1_canAnswer_33
set_option maxHeartbeats 4000000 in
set_option maxRecDepth 100000 in
/-- Queue.withLower -/
theorem q_withLower (l : Launch) (dC : Nat → ClassId) (dI : Nat → Nat → Nat) (a : Int64) (k : Int32) : Met l yX1_withLower wsX1_withLower ({ frames := 0, cells := 0, slots := 0, locals := 0 }) (va_Pc [.long a, .int k] (fun U => va_P (dC, dI) vwCl [] U.heap ∧ va_K (dC, dI) vwCl [] U ∧ ZZ (fun _ => False) U U.heap)) (vp_Sl (fun r => r = wLo a k)) 0 0 (fun _ => False) := by
  refine Met.ofW (cc := cX1_withLower) (maxL := 3) (ret := (some .long)) (by decide) rfl ?_
  intro p e s m args below meth c s₁ B hml hv
  obtain ⟨rfl, hP, hK, hZ⟩ := hv
  have hx := B.exec
  have hb := B.bytes
  have hr := B.returns
  have hts := atoms_spec (ws := wsX1_withLower) B.pre
  have hw : ∀ w ∈ WW, w.before _ s = true := fun w h => hts w (List.mem_cons_of_mem _ h)
  have hown : s.vm.findClass RX1 = some m.cls := findClass_of_methodNamed B.named
  have hlocks := B.notSynchronized
  have hl := lv_entry ([.long a, .int k]) (n := 3) (Nat.le_of_ble_eq_true rfl)
  rw [lg_entry_eq]
  generalize (lg_sl ([.long a, .int k]) ++ List.replicate (3 - (lg_sl ([.long a, .int k])).length) Slot.unset).toArray = ls at hl ⊢
  have hl : lv_has ls 3 [(0, .long a), (2, .int k)] := hl
  refine lv_lload_n hx hb dX1_withLower_0 rfl (lv_at hl 0 rfl) ?_
  refine lv_ldc2 (v := (-4294967296)) hx hb hown (hw _ w_9a3515db1f) dX1_withLower_1 ?_
  refine lv_land hx hb dX1_withLower_4 ?_
  refine lv_iload_n hx hb dX1_withLower_5 rfl (lv_at hl 1 rfl) ?_
  refine lv_i2l (v := k.toInt64) hx hb dX1_withLower_6 rfl ?_
  refine lv_ldc2 (v := 4294967295) hx hb hown (hw _ w_5d2f9febb2) dX1_withLower_7 ?_
  refine lv_land hx hb dX1_withLower_10 ?_
  refine lv_lor hx hb dX1_withLower_11 ?_
  exact W.lret (v := (a &&& (-4294967296)) ||| (k.toInt64 &&& 4294967295)) hx hb hr (fun t ht hW => ⟨_, rfl, rfl, ht⟩) t_nil dX1_withLower_12
set_option maxHeartbeats 4000000 in
set_option maxRecDepth 100000 in
/-- Queue.withUpper -/
theorem q_withUpper (l : Launch) (dC : Nat → ClassId) (dI : Nat → Nat → Nat) (a : Int64) (k : Int32) : Met l yX1_withUpper wsX1_withUpper ({ frames := 0, cells := 0, slots := 0, locals := 0 }) (va_Pc [.long a, .int k] (fun U => va_P (dC, dI) vwCl [] U.heap ∧ va_K (dC, dI) vwCl [] U ∧ ZZ (fun _ => False) U U.heap)) (vp_Sl (fun r => r = wUp a k)) 0 0 (fun _ => False) := by
  refine Met.ofW (cc := cX1_withUpper) (maxL := 3) (ret := (some .long)) (by decide) rfl ?_
  intro p e s m args below meth c s₁ B hml hv
  obtain ⟨rfl, hP, hK, hZ⟩ := hv
  have hx := B.exec
  have hb := B.bytes
  have hr := B.returns
  have hts := atoms_spec (ws := wsX1_withUpper) B.pre
  have hw : ∀ w ∈ WW, w.before _ s = true := fun w h => hts w (List.mem_cons_of_mem _ h)
  have hown : s.vm.findClass RX1 = some m.cls := findClass_of_methodNamed B.named
  have hlocks := B.notSynchronized
  have hl := lv_entry ([.long a, .int k]) (n := 3) (Nat.le_of_ble_eq_true rfl)
  rw [lg_entry_eq]
  generalize (lg_sl ([.long a, .int k]) ++ List.replicate (3 - (lg_sl ([.long a, .int k])).length) Slot.unset).toArray = ls at hl ⊢
  have hl : lv_has ls 3 [(0, .long a), (2, .int k)] := hl
  refine lv_iload_n hx hb dX1_withUpper_0 rfl (lv_at hl 1 rfl) ?_
  refine lv_i2l (v := k.toInt64) hx hb dX1_withUpper_1 rfl ?_
  refine lv_bipush (v := 32) hx hb dX1_withUpper_2 (by decide) ?_
  refine lv_lshl (v := k.toInt64 <<< ((32 : Int32).toInt64 &&& 63)) hx hb dX1_withUpper_4 rfl ?_
  refine lv_lload_n hx hb dX1_withUpper_5 rfl (lv_at hl 0 rfl) ?_
  refine lv_ldc2 (v := 4294967295) hx hb hown (hw _ w_5d2f9febb2) dX1_withUpper_6 ?_
  refine lv_land hx hb dX1_withUpper_9 ?_
  refine lv_lor hx hb dX1_withUpper_10 ?_
  exact W.lret (v := (k.toInt64 <<< ((32 : Int32).toInt64 &&& 63)) ||| (a &&& 4294967295)) hx hb hr (fun t ht hW => ⟨_, rfl, rfl, ht⟩) t_nil dX1_withUpper_11
set_option maxHeartbeats 4000000 in
set_option maxRecDepth 100000 in
/-- Queue.lookAtOffers -/
theorem q_lookAtOffers (l : Launch) (dC : Nat → ClassId) (dI : Nat → Nat → Nat) (uq : Nat) (sz : Int32) (rd : Int32) (bl : Int64) (of : Int64) (an : Int64) (tk : Int32) (td : Int32) (om : Int32) (oc : Int32) (b : Nat) (q : Nat) (cB_ : ClassId) (M : Nat → Nat) (zS : Nat) (hM : byt M) : Met l yX1_lookAtOffers wsX1_lookAtOffers ({ frames := 3, cells := 0, slots := 0, locals := 120 }) (va_Pc [.ref uq, .ref b] (fun U => U.heap.size = zS ∧ va_P (dC, dI) vwCl [(uq, .inr (1, [.int sz, .int rd, .long bl, .long of, .long an, .int tk, .int td, .int om, .int oc])), (b, .inr (0, [.ref q])), (q, .inl (cB_, 65536, .inl (cB M)))] U.heap ∧ va_K (dC, dI) vwCl [(cB_, .byte)] U ∧ va_D (fun _ => True) [(uq, .inr (1, [.int sz, .int rd, .long bl, .long of, .long an, .int tk, .int td, .int om, .int oc])), (b, .inr (0, [.ref q])), (q, .inl (cB_, 65536, .inl (cB M)))] ∧ ZZ (va_A [(uq, .inr (1, [.int sz, .int rd, .long bl, .long of, .long an, .int tk, .int td, .int om, .int oc])), (b, .inr (0, [.ref q])), (q, .inl (cB_, 65536, .inl (cB M)))] zS) U U.heap)) (va_Qi (fun (r : Int32) (u : Int32 × Int32) => match u with | (om2, oc2) => r = bI (thP of 4) ∧ (thP of 4 → om2 = nI (nbs M (off of) 2) ∧ oc2 = nI (nbs M (off of + 2) 2)) ∧ (¬ thP of 4 → om2 = om ∧ oc2 = oc)) (fun (u : Int32 × Int32) (t : State) => match u with | (om2, oc2) => va_P (dC, dI) vwCl [(uq, .inr (1, [.int sz, .int rd, .long bl, .long of, .long an, .int tk, .int td, .int om2, .int oc2])), (b, .inr (0, [.ref q])), (q, .inl (cB_, 65536, .inl (cB M)))] t.heap ∧ va_K (dC, dI) vwCl [(cB_, .byte)] t ∧ va_D (va_A [(uq, .inr (1, [.int sz, .int rd, .long bl, .long of, .long an, .int tk, .int td, .int om, .int oc])), (b, .inr (0, [.ref q])), (q, .inl (cB_, 65536, .inl (cB M)))] zS) [(uq, .inr (1, [.int sz, .int rd, .long bl, .long of, .long an, .int tk, .int td, .int om2, .int oc2])), (b, .inr (0, [.ref q])), (q, .inl (cB_, 65536, .inl (cB M)))]) (va_A [(uq, .inr (1, [.int sz, .int rd, .long bl, .long of, .long an, .int tk, .int td, .int om, .int oc])), (b, .inr (0, [.ref q])), (q, .inl (cB_, 65536, .inl (cB M)))] zS)) 0 0 (va_A [(uq, .inr (1, [.int sz, .int rd, .long bl, .long of, .long an, .int tk, .int td, .int om, .int oc])), (b, .inr (0, [.ref q])), (q, .inl (cB_, 65536, .inl (cB M)))] zS) := by
  refine Met.ofW (cc := cX1_lookAtOffers) (maxL := 4) (ret := (some .boolean)) (by decide) rfl ?_
  intro p e s m args below meth c s₁ B hml hv
  obtain ⟨rfl, hsz, hP, hK, hD0, hZ⟩ := hv
  have hx := B.exec
  have hb := B.bytes
  have hr := B.returns
  have hts := atoms_spec (ws := wsX1_lookAtOffers) B.pre
  have hw : ∀ w ∈ WW, w.before _ s = true := fun w h => hts w (List.mem_cons_of_mem _ h)
  have hown : s.vm.findClass RX1 = some m.cls := findClass_of_methodNamed B.named
  have hlocks := B.notSynchronized
  subst hsz
  have hD := hD0.self (sz := s.heap.size)
  generalize hAe : va_A [(uq, .inr (1, [.int sz, .int rd, .long bl, .long of, .long an, .int tk, .int td, .int om, .int oc])), (b, .inr (0, [.ref q])), (q, .inl (cB_, 65536, .inl (cB M)))] s.heap.size = A at hD hZ ⊢
  have hA : ∀ q : Nat, s.heap.size ≤ q → A q := fun q h => by rw [← hAe]; exact Or.inr h
  have hS : va_S A s.heap s.heap [] := va_S.rf
  have hP : va_P (dC, dI) vwCl [(uq, .inr (1, [.int sz, .int rd, .long bl, .long of, .long an, .int tk, .int td, .int om, .int oc])), (b, .inr (0, [.ref q])), (q, .inl (cB_, 65536, .inl (cB M)))] s.heap := hP
  have hl := lv_entry ([.ref uq, .ref b]) (n := 4) (Nat.le_of_ble_eq_true rfl)
  rw [lg_entry_eq]
  generalize (lg_sl ([.ref uq, .ref b]) ++ List.replicate (4 - (lg_sl ([.ref uq, .ref b])).length) Slot.unset).toArray = ls at hl ⊢
  have hl : lv_has ls 4 [(0, .ref uq), (1, .ref b)] := hl
  refine lv_aload_n hx hb dX1_lookAtOffers_0 rfl (lv_at hl 0 rfl) ?_
  refine va_get (D := (dC, dI)) (ci := 1) (v := .long of) (C := RX1) (T := TX1) (N := 9) hx hb hw inX1 hown hK hP 0 rfl rfl 3 (by decide) (hw _ w_cdd8a4f183) (fun _ h9 => h9) rfl dX1_lookAtOffers_1 ?_
  refine lv_ldc2 (v := 2147483648) hx hb hown (hw _ w_76207a66a1) dX1_lookAtOffers_4 ?_
  refine lv_lsub hx hb dX1_lookAtOffers_7 ?_
  refine lv_topl (fun x_1 ex_1 => ?_)
  refine lv_lstore_n (lv' := [(2, .long x_1), (0, .ref uq), (1, .ref b)]) hx hb dX1_lookAtOffers_8 rfl hl (by decide) rfl (fun ls hl => ?_)
  refine lv_aload_n hx hb dX1_lookAtOffers_9 rfl (lv_at hl 2 rfl) ?_
  refine lv_lload_n hx hb dX1_lookAtOffers_10 rfl (lv_at hl 0 rfl) ?_
  refine lv_ldc2 (v := 4) hx hb hown (hw _ w_932f3f98cf) dX1_lookAtOffers_11 ?_
  have hPc := hP.sub (ws' := [(b, .inr (0, [.ref q])), (q, .inl (cB_, 65536, .inl (cB M)))]) [1, 2] rfl
  have hKc := hK.sub (tys' := [(cB_, .byte)]) [0] rfl
  have hZc := (hZ.kept hS.2.1).narrow (B := fun _ => False) (fun _ h => h.elim)
  refine vp_callSi (va_runV (As := [.long x_1, .long 4]) (rest := []) ⟨hx, hb, hml, hown, hw⟩ (c_holds l dC dI b q cB_ 65536 (cB M) x_1 4 (by decide)) (cwV 2 hw (gV w_91a639c728 w_bd9bccf83c w_88968f97c9 w_82b0ef516c w_0dba9a2727) rfl rfl rfl (by decide +kernel) ⟨Nat.le_of_ble_eq_true rfl, Nat.le_of_ble_eq_true rfl⟩) ⟨fun a U g mk q => by obtain ⟨q0, qP, qK, qZ⟩ := q; exact ⟨q0, qP, va_K.moved (u := U) (U := U.calling g mk a) (Vm.Alike.refl U.vm) qK, ZZ.same (u := U) (U := U.calling g mk a) rfl qZ⟩, va_recv hKc hPc (ci := 0) (q0 := 0) rfl rfl, fun U hU hW => ⟨rfl, by rw [hU]; exact hPc, va_K.moved hW.alike hKc, by rw [hU]; exact ZZ.warm hW hZc⟩⟩ rfl rfl hl.1 rfl (lv_room (Nat.le_of_ble_eq_true rfl)) dX1_lookAtOffers_14 ⟨Nat.zero_le _, Nat.zero_le _⟩).run (fun r_2 hr_2 => ?_)
  have hr_2 : r_2 = bI (hoP 65536 x_1 4) := hr_2
  refine lv_if_ne (tgt := 22) hx hb dX1_lookAtOffers_17 (by decide) (fun c_3 => ?_) (fun c_3 => ?_)
  · skip
    have b_4 : (hoP 65536 x_1 4) := bI_1 (by rw [← hr_2]; exact c_3)
    have hth : thP of 4 := (ho_th (by decide) (by decide)).mp (by rw [← ex_1]; exact b_4)
    have ho4 := off_0 (ct := 4) hth (by decide) (by decide)
    have ho6 := off_plus (ct := 4) (j := 2) hth (by decide) (by decide)
    refine lv_aload_n hx hb dX1_lookAtOffers_22 rfl (lv_at hl 1 rfl) ?_
    refine lv_aload_n hx hb dX1_lookAtOffers_23 rfl (lv_at hl 2 rfl) ?_
    refine lv_lload_n hx hb dX1_lookAtOffers_24 rfl (lv_at hl 0 rfl) ?_
    refine lv_iconst (v := 2) hx hb dX1_lookAtOffers_25 (by decide) ?_
    have hPc := hP.sub (ws' := [(b, .inr (0, [.ref q])), (q, .inl (cB_, 65536, .inl (cB M)))]) [1, 2] rfl
    have hKc := hK.sub (tys' := [(cB_, .byte)]) [0] rfl
    have hZc := (hZ.kept hS.2.1).narrow (B := fun _ => False) (fun _ h => h.elim)
    refine vp_callSl (va_runV (As := [.long x_1, .int 2]) (rest := [.ref uq]) ⟨hx, hb, hml, hown, hw⟩ (c_number l dC dI b q cB_ 65536 M x_1 2 2 (off of) (by decide) rfl (by decide) (by rw [ex_1]; exact ho4.1) (by omega) hM) (cwV 2 hw (gV w_6cc81048bc w_b83b036cb8 w_d2cb4d8771 w_82b0ef516c w_7aba347942) rfl rfl rfl (by decide +kernel) ⟨Nat.le_of_ble_eq_true rfl, Nat.le_of_ble_eq_true rfl⟩) ⟨fun a U g mk q => by obtain ⟨q0, qP, qK, qZ⟩ := q; exact ⟨q0, qP, va_K.moved (u := U) (U := U.calling g mk a) (Vm.Alike.refl U.vm) qK, ZZ.same (u := U) (U := U.calling g mk a) rfl qZ⟩, va_recv hKc hPc (ci := 0) (q0 := 0) rfl rfl, fun U hU hW => ⟨rfl, by rw [hU]; exact hPc, va_K.moved hW.alike hKc, by rw [hU]; exact ZZ.warm hW hZc⟩⟩ rfl rfl hl.1 rfl (lv_room (Nat.le_of_ble_eq_true rfl)) dX1_lookAtOffers_26 ⟨Nat.zero_le _, Nat.zero_le _⟩).run (fun r_5 hr_5 => ?_)
    have hr_5 : r_5 = lN (nbs M (off of) 2) := hr_5
    refine lv_l2i (v := r_5.toInt32) hx hb dX1_lookAtOffers_29 rfl ?_
    refine lv_topi (fun x_6 ex_6 => ?_)
    refine va_put (D := (dC, dI)) (ci := 1) (v := .int x_6) (ty := .int) (C := RX1) (T := TX1) (N := 9) hx hb hw inX1 tyX1 tyX1_ok nmX1 hown hK hP hD hS 0 rfl rfl 7 (by decide) (hw _ w_6ff114ad55) (fun _ h9 => h9) rfl (by decide +kernel) rfl rfl (Nat.le_of_ble_eq_true rfl) dX1_lookAtOffers_30 (fun H locs hP hD hS => ?_)
    have hP : va_P (dC, dI) vwCl [(uq, .inr (1, [.int sz, .int rd, .long bl, .long of, .long an, .int tk, .int td, .int x_6, .int oc])), (b, .inr (0, [.ref q])), (q, .inl (cB_, 65536, .inl (cB M)))] H := hP
    have hD : va_D A [(uq, .inr (1, [.int sz, .int rd, .long bl, .long of, .long an, .int tk, .int td, .int x_6, .int oc])), (b, .inr (0, [.ref q])), (q, .inl (cB_, 65536, .inl (cB M)))] := hD
    refine lv_aload_n hx hb dX1_lookAtOffers_33 rfl (lv_at hl 1 rfl) ?_
    refine lv_aload_n hx hb dX1_lookAtOffers_34 rfl (lv_at hl 2 rfl) ?_
    refine lv_lload_n hx hb dX1_lookAtOffers_35 rfl (lv_at hl 0 rfl) ?_
    refine lv_ldc2 (v := 2) hx hb hown (hw _ w_e99f164e50) dX1_lookAtOffers_36 ?_
    refine lv_ladd hx hb dX1_lookAtOffers_39 ?_
    refine lv_iconst (v := 2) hx hb dX1_lookAtOffers_40 (by decide) ?_
    have hPc := hP.sub (ws' := [(b, .inr (0, [.ref q])), (q, .inl (cB_, 65536, .inl (cB M)))]) [1, 2] rfl
    have hKc := hK.sub (tys' := [(cB_, .byte)]) [0] rfl
    have hZc := (hZ.kept hS.2.1).narrow (B := fun _ => False) (fun _ h => h.elim)
    refine vp_callSl (va_runV (As := [.long (x_1 + 2), .int 2]) (rest := [.ref uq]) ⟨hx, hb, hml, hown, hw⟩ (c_number l dC dI b q cB_ 65536 M (x_1 + 2) 2 2 (off of + 2) (by decide) rfl (by decide) (by rw [ex_1, sh2]; exact ho6.1) (by omega) hM) (cwV 2 hw (gV w_6cc81048bc w_b83b036cb8 w_d2cb4d8771 w_82b0ef516c w_7aba347942) rfl rfl rfl (by decide +kernel) ⟨Nat.le_of_ble_eq_true rfl, Nat.le_of_ble_eq_true rfl⟩) ⟨fun a U g mk q => by obtain ⟨q0, qP, qK, qZ⟩ := q; exact ⟨q0, qP, va_K.moved (u := U) (U := U.calling g mk a) (Vm.Alike.refl U.vm) qK, ZZ.same (u := U) (U := U.calling g mk a) rfl qZ⟩, va_recv hKc hPc (ci := 0) (q0 := 0) rfl rfl, fun U hU hW => ⟨rfl, by rw [hU]; exact hPc, va_K.moved hW.alike hKc, by rw [hU]; exact ZZ.warm hW hZc⟩⟩ rfl rfl hl.1 rfl (lv_room (Nat.le_of_ble_eq_true rfl)) dX1_lookAtOffers_41 ⟨Nat.zero_le _, Nat.zero_le _⟩).run (fun r_7 hr_7 => ?_)
    have hr_7 : r_7 = lN (nbs M (off of + 2) 2) := hr_7
    refine lv_l2i (v := r_7.toInt32) hx hb dX1_lookAtOffers_44 rfl ?_
    refine lv_topi (fun x_8 ex_8 => ?_)
    refine va_put (D := (dC, dI)) (ci := 1) (v := .int x_8) (ty := .int) (C := RX1) (T := TX1) (N := 9) hx hb hw inX1 tyX1 tyX1_ok nmX1 hown hK hP hD hS 0 rfl rfl 8 (by decide) (hw _ w_2c00f7fe81) (fun _ h9 => h9) rfl (by decide +kernel) rfl rfl (Nat.le_of_ble_eq_true rfl) dX1_lookAtOffers_45 (fun H locs hP hD hS => ?_)
    have hP : va_P (dC, dI) vwCl [(uq, .inr (1, [.int sz, .int rd, .long bl, .long of, .long an, .int tk, .int td, .int x_6, .int x_8])), (b, .inr (0, [.ref q])), (q, .inl (cB_, 65536, .inl (cB M)))] H := hP
    have hD : va_D A [(uq, .inr (1, [.int sz, .int rd, .long bl, .long of, .long an, .int tk, .int td, .int x_6, .int x_8])), (b, .inr (0, [.ref q])), (q, .inl (cB_, 65536, .inl (cB M)))] := hD
    refine lv_iconst (v := 1) hx hb dX1_lookAtOffers_48 (by decide) ?_
    have hP9 : va_P (dC, dI) vwCl [(uq, .inr (1, [.int sz, .int rd, .long bl, .long of, .long an, .int tk, .int td, .int x_6, .int x_8])), (b, .inr (0, [.ref q])), (q, .inl (cB_, 65536, .inl (cB M)))] H := by exact hP.sub (ws' := [(uq, .inr (1, [.int sz, .int rd, .long bl, .long of, .long an, .int tk, .int td, .int x_6, .int x_8])), (b, .inr (0, [.ref q])), (q, .inl (cB_, 65536, .inl (cB M)))]) [0, 1, 2] rfl
    have hD9 : va_D A [(uq, .inr (1, [.int sz, .int rd, .long bl, .long of, .long an, .int tk, .int td, .int x_6, .int x_8])), (b, .inr (0, [.ref q])), (q, .inl (cB_, 65536, .inl (cB M)))] := by exact hD.sub (ws' := [(uq, .inr (1, [.int sz, .int rd, .long bl, .long of, .long an, .int tk, .int td, .int x_6, .int x_8])), (b, .inr (0, [.ref q])), (q, .inl (cB_, 65536, .inl (cB M)))]) [0, 1, 2] (by decide) rfl
    have hK9 := hK.sub (tys' := [(cB_, .byte)]) [0] rfl
    exact W.zret (v := 1) hx hb hr rfl (fun t ht hW => ⟨⟨_, (x_6, x_8), rfl, ⟨(bI_t hth).symm, fun _ => ⟨by rw [ex_6, hr_5, lN_i], by rw [ex_8, hr_7, lN_i]⟩, fun z => absurd hth z⟩, by rw [ht]; exact hP9, va_K.moved hW.alike hK9, hD9⟩, hS.F ht⟩) hS.2.2 dX1_lookAtOffers_49
  · skip
    have b_9 : ¬ (hoP 65536 x_1 4) := bI_0 (by rw [← hr_2]; exact c_3)
    have hth : ¬ thP of 4 := fun z => b_9 (by rw [ex_1]; exact (ho_th (by decide) (by decide)).mpr z)
    refine lv_iconst (v := 0) hx hb dX1_lookAtOffers_20 (by decide) ?_
    have hP9 : va_P (dC, dI) vwCl [(uq, .inr (1, [.int sz, .int rd, .long bl, .long of, .long an, .int tk, .int td, .int om, .int oc])), (b, .inr (0, [.ref q])), (q, .inl (cB_, 65536, .inl (cB M)))] s.heap := by exact hP.sub (ws' := [(uq, .inr (1, [.int sz, .int rd, .long bl, .long of, .long an, .int tk, .int td, .int om, .int oc])), (b, .inr (0, [.ref q])), (q, .inl (cB_, 65536, .inl (cB M)))]) [0, 1, 2] rfl
    have hD9 : va_D A [(uq, .inr (1, [.int sz, .int rd, .long bl, .long of, .long an, .int tk, .int td, .int om, .int oc])), (b, .inr (0, [.ref q])), (q, .inl (cB_, 65536, .inl (cB M)))] := by exact hD.sub (ws' := [(uq, .inr (1, [.int sz, .int rd, .long bl, .long of, .long an, .int tk, .int td, .int om, .int oc])), (b, .inr (0, [.ref q])), (q, .inl (cB_, 65536, .inl (cB M)))]) [0, 1, 2] (by decide) rfl
    have hK9 := hK.sub (tys' := [(cB_, .byte)]) [0] rfl
    exact W.zret (v := 0) hx hb hr rfl (fun t ht hW => ⟨⟨_, (om, oc), rfl, ⟨(bI_f hth).symm, fun z => absurd z hth, fun _ => ⟨rfl, rfl⟩⟩, by rw [ht]; exact hP9, va_K.moved hW.alike hK9, hD9⟩, hS.F ht⟩) hS.2.2 dX1_lookAtOffers_21
set_option maxHeartbeats 4000000 in
set_option maxRecDepth 100000 in
/-- Queue.answer -/
theorem q_answer (l : Launch) (dC : Nat → ClassId) (dI : Nat → Nat → Nat) (uq : Nat) (sz : Int32) (rd : Int32) (bl : Int64) (of : Int64) (an : Int64) (tk : Int32) (td : Int32) (om : Int32) (oc : Int32) (b : Nat) (q : Nat) (cB_ : ClassId) (M : Nat → Nat) (n : Nat) (cn : Nat) (gn : Nat) (x : Int32) (y : Int32) (fi : Nat) (wr : Nat) (zS : Nat) (hpw : pw n) (hsz : sz = nI n) (hcl : cn < 65536) (htk : tk = nI cn) (hgl : gn < 65536) (htd : td = nI gn) (hM : byt M) (hth3 : thP (anA an gn n) 8) (hth4 : thP (an + 2) 2) (hxf : x = nI fi) (hfi : fi < 65536) (hyw : y = nI wr) (hwr : wr < 2 ^ 31) : Met l yX1_answer wsX1_answer ({ frames := 3, cells := 0, slots := 0, locals := 120 }) (va_Pc [.ref uq, .ref b, .int x, .int y] (fun U => U.heap.size = zS ∧ va_P (dC, dI) vwCl [(uq, .inr (1, [.int sz, .int rd, .long bl, .long of, .long an, .int tk, .int td, .int om, .int oc])), (b, .inr (0, [.ref q])), (q, .inl (cB_, 65536, .inl (cB M)))] U.heap ∧ va_K (dC, dI) vwCl [(cB_, .byte)] U ∧ va_D (fun _ => True) [(uq, .inr (1, [.int sz, .int rd, .long bl, .long of, .long an, .int tk, .int td, .int om, .int oc])), (b, .inr (0, [.ref q])), (q, .inl (cB_, 65536, .inl (cB M)))] ∧ ZZ (va_A [(uq, .inr (1, [.int sz, .int rd, .long bl, .long of, .long an, .int tk, .int td, .int om, .int oc])), (b, .inr (0, [.ref q])), (q, .inl (cB_, 65536, .inl (cB M)))] zS) U U.heap)) (va_Qv (fun (u : Int32 × Int32 × (Nat → Int32)) => match u with | (tk2, td2, g) => tk2 = nI ((cn + 1) % 65536) ∧ td2 = nI ((gn + 1) % 65536) ∧ g = cB (pbs (pbs (pbs M (off (anA an gn n)) fi 4) (off (anA an gn n) + 4) wr 4) (off (an + 2)) ((gn + 1) % 65536) 2)) (fun (u : Int32 × Int32 × (Nat → Int32)) (t : State) => match u with | (tk2, td2, g) => va_P (dC, dI) vwCl [(uq, .inr (1, [.int sz, .int rd, .long bl, .long of, .long an, .int tk2, .int td2, .int om, .int oc])), (b, .inr (0, [.ref q])), (q, .inl (cB_, 65536, .inl g))] t.heap ∧ va_K (dC, dI) vwCl [(cB_, .byte)] t ∧ va_D (va_A [(uq, .inr (1, [.int sz, .int rd, .long bl, .long of, .long an, .int tk, .int td, .int om, .int oc])), (b, .inr (0, [.ref q])), (q, .inl (cB_, 65536, .inl (cB M)))] zS) [(uq, .inr (1, [.int sz, .int rd, .long bl, .long of, .long an, .int tk2, .int td2, .int om, .int oc])), (b, .inr (0, [.ref q])), (q, .inl (cB_, 65536, .inl g))]) (va_A [(uq, .inr (1, [.int sz, .int rd, .long bl, .long of, .long an, .int tk, .int td, .int om, .int oc])), (b, .inr (0, [.ref q])), (q, .inl (cB_, 65536, .inl (cB M)))] zS)) 0 0 (va_A [(uq, .inr (1, [.int sz, .int rd, .long bl, .long of, .long an, .int tk, .int td, .int om, .int oc])), (b, .inr (0, [.ref q])), (q, .inl (cB_, 65536, .inl (cB M)))] zS) := by
  refine Met.ofW (cc := cX1_answer) (maxL := 6) (ret := (none)) (by decide) rfl ?_
  intro p e s m args below meth c s₁ B hml hv
  obtain ⟨rfl, hsz, hP, hK, hD0, hZ⟩ := hv
  have hx := B.exec
  have hb := B.bytes
  have hr := B.returns
  have hts := atoms_spec (ws := wsX1_answer) B.pre
  have hw : ∀ w ∈ WW, w.before _ s = true := fun w h => hts w (List.mem_cons_of_mem _ h)
  have hown : s.vm.findClass RX1 = some m.cls := findClass_of_methodNamed B.named
  have hlocks := B.notSynchronized
  subst hsz
  have hD := hD0.self (sz := s.heap.size)
  generalize hAe : va_A [(uq, .inr (1, [.int sz, .int rd, .long bl, .long of, .long an, .int tk, .int td, .int om, .int oc])), (b, .inr (0, [.ref q])), (q, .inl (cB_, 65536, .inl (cB M)))] s.heap.size = A at hD hZ ⊢
  have hA : ∀ q : Nat, s.heap.size ≤ q → A q := fun q h => by rw [← hAe]; exact Or.inr h
  have hS : va_S A s.heap s.heap [] := va_S.rf
  have hP : va_P (dC, dI) vwCl [(uq, .inr (1, [.int sz, .int rd, .long bl, .long of, .long an, .int tk, .int td, .int om, .int oc])), (b, .inr (0, [.ref q])), (q, .inl (cB_, 65536, .inl (cB M)))] s.heap := hP
  have hl := lv_entry ([.ref uq, .ref b, .int x, .int y]) (n := 6) (Nat.le_of_ble_eq_true rfl)
  rw [lg_entry_eq]
  generalize (lg_sl ([.ref uq, .ref b, .int x, .int y]) ++ List.replicate (6 - (lg_sl ([.ref uq, .ref b, .int x, .int y])).length) Slot.unset).toArray = ls at hl ⊢
  have hl : lv_has ls 6 [(0, .ref uq), (1, .ref b), (2, .int x), (3, .int y)] := hl
  have ha4 := an_4 hth3
  have ha2 := off_0 (ct := 2) hth4 (by decide) (by decide)
  refine lv_aload_n hx hb dX1_answer_0 rfl (lv_at hl 0 rfl) ?_
  have hPc := hP.sub (ws' := [(uq, .inr (1, [.int sz, .int rd, .long bl, .long of, .long an, .int tk, .int td, .int om, .int oc]))]) [0] rfl
  have hKc := hK.sub (tys' := []) [] rfl
  have hZc := (hZ.kept hS.2.1).narrow (B := fun _ => False) (fun _ h => h.elim)
  refine vp_callSl (va_runV (As := []) (rest := []) ⟨hx, hb, hml, hown, hw⟩ (q_answerPlace l dC dI uq sz rd bl of an tk td om oc n cn gn hpw hsz hcl htk hgl htd) (cwV 0 hw (gV w_18da88d665 w_23aa8e6c39 w_0da93079e3 w_cf66e99dd3 w_bb29a39b50) rfl rfl rfl (by decide +kernel) ⟨Nat.le_of_ble_eq_true rfl, Nat.le_of_ble_eq_true rfl⟩) ⟨fun a U g mk q => by obtain ⟨q0, qP, qK, qZ⟩ := q; exact ⟨q0, qP, va_K.moved (u := U) (U := U.calling g mk a) (Vm.Alike.refl U.vm) qK, ZZ.same (u := U) (U := U.calling g mk a) rfl qZ⟩, va_recv hKc hPc (ci := 1) (q0 := 0) rfl rfl, fun U hU hW => ⟨rfl, by rw [hU]; exact hPc, va_K.moved hW.alike hKc, by rw [hU]; exact ZZ.warm hW hZc⟩⟩ rfl rfl hl.1 rfl (lv_room (Nat.le_of_ble_eq_true rfl)) dX1_answer_1 ⟨Nat.zero_le _, Nat.zero_le _⟩).run (fun r_1 hr_1 => ?_)
  have hr_1 : r_1 = anA an gn n - 2147483648 := hr_1
  refine lv_lstore (lv' := [(4, .long r_1), (0, .ref uq), (1, .ref b), (2, .int x), (3, .int y)]) hx hb dX1_answer_4 hl (by decide) rfl (fun ls hl => ?_)
  refine lv_aload_n hx hb dX1_answer_6 rfl (lv_at hl 2 rfl) ?_
  refine lv_lload hx hb dX1_answer_7 (lv_at hl 0 rfl) ?_
  refine lv_iconst (v := 4) hx hb dX1_answer_9 (by decide) ?_
  refine lv_iload_n hx hb dX1_answer_10 rfl (lv_at hl 3 rfl) ?_
  refine lv_i2l (v := x.toInt64) hx hb dX1_answer_11 rfl ?_
  have hPc := hP.sub (ws' := [(b, .inr (0, [.ref q])), (q, .inl (cB_, 65536, .inl (cB M)))]) [1, 2] rfl
  have hKc := hK.sub (tys' := [(cB_, .byte)]) [0] rfl
  have hDc := hD.sub (ws' := [(b, .inr (0, [.ref q])), (q, .inl (cB_, 65536, .inl (cB M)))]) [1, 2] (by decide) rfl
  have hFc := va_free (wc := [(b, .inr (0, [.ref q])), (q, .inl (cB_, 65536, .inl (cB M)))]) hD hS hA [1, 2] rfl
  have hZc : ZZ (va_A [(b, .inr (0, [.ref q])), (q, .inl (cB_, 65536, .inl (cB M)))] s.heap.size) s s.heap := (hZ.kept hS.2.1).narrow hFc
  refine va_callv (va_runV (As := [.long r_1, .int 4, .long x.toInt64]) (rest := []) ⟨hx, hb, hml, hown, hw⟩ (c_putNumber l dC dI b q cB_ 65536 M r_1 4 x.toInt64 4 (off (anA an gn n)) fi s.heap.size (by decide) rfl (by decide) (by rw [hr_1]; exact ha4.1) (by omega) hM (by rw [hxf, nI_l (by omega)]) (by omega)) (cwV 3 hw (gV w_94cbe7a430 w_2fdba07db2 w_80d4820def w_82b0ef516c w_661ab5aac1) rfl rfl rfl (by decide +kernel) ⟨Nat.le_of_ble_eq_true rfl, Nat.le_of_ble_eq_true rfl⟩) ⟨fun a U g mk q => by obtain ⟨q0, q1, qP, qK, qD, qZ⟩ := q; exact ⟨q0, q1, qP, va_K.moved (u := U) (U := U.calling g mk a) (Vm.Alike.refl U.vm) qK, qD, ZZ.same (u := U) (U := U.calling g mk a) rfl qZ⟩, va_recv hKc hPc (ci := 0) (q0 := 0) rfl rfl, fun U hU hW => ⟨rfl, by rw [hU], by rw [hU]; exact hPc, va_K.moved hW.alike hKc, hDc.weaken (fun _ _ _ _ => trivial), by rw [hU]; exact ZZ.warm hW hZc⟩⟩ rfl rfl hl.1 rfl (lv_room (Nat.le_of_ble_eq_true rfl)) dX1_answer_12 ⟨Nat.zero_le _, Nat.zero_le _⟩) hS (fun q _ h => hFc q h) hFc (fun u t H1 locs ht hvm hw2 hB hz1 hk1 hS => ?_)
  obtain ⟨g_2, rfl⟩ : ∃ z, z = u := ⟨_, rfl⟩
  obtain ⟨hP1, hK1, hD1⟩ := hB
  rw [ht] at hP1
  have hK1 := va_K.moved hvm.symm hK1
  try dsimp only at hw2
  obtain ⟨hP, hD⟩ := va_join (wr := [(uq, .inr (1, [.int sz, .int rd, .long bl, .long of, .long an, .int tk, .int td, .int om, .int oc]))]) (w1 := [(b, .inr (0, [.ref q])), (q, .inl (cB_, 65536, .inl g_2))]) hP hD [1, 2] [0] rfl rfl (by decide) (by decide) hk1 hFc hP1 hD1
  generalize H1 = H at hP hS hk1 ⊢
  have hP : va_P (dC, dI) vwCl [(uq, .inr (1, [.int sz, .int rd, .long bl, .long of, .long an, .int tk, .int td, .int om, .int oc])), (b, .inr (0, [.ref q])), (q, .inl (cB_, 65536, .inl g_2))] H := hP
  have hD : va_D A [(uq, .inr (1, [.int sz, .int rd, .long bl, .long of, .long an, .int tk, .int td, .int om, .int oc])), (b, .inr (0, [.ref q])), (q, .inl (cB_, 65536, .inl g_2))] := hD
  have hw_3 : g_2 = cB (pbs M (off (anA an gn n)) fi 4) := hw2
  obtain rfl := hw_3
  refine lv_aload_n hx hb dX1_answer_15 rfl (lv_at hl 2 rfl) ?_
  refine lv_lload hx hb dX1_answer_16 (lv_at hl 0 rfl) ?_
  refine lv_ldc2 (v := 4) hx hb hown (hw _ w_932f3f98cf) dX1_answer_18 ?_
  refine lv_ladd hx hb dX1_answer_21 ?_
  refine lv_iconst (v := 4) hx hb dX1_answer_22 (by decide) ?_
  refine lv_iload_n hx hb dX1_answer_23 rfl (lv_at hl 4 rfl) ?_
  refine lv_i2l (v := y.toInt64) hx hb dX1_answer_24 rfl ?_
  have hPc := hP.sub (ws' := [(b, .inr (0, [.ref q])), (q, .inl (cB_, 65536, .inl (cB (pbs M (off (anA an gn n)) fi 4))))]) [1, 2] rfl
  have hKc := hK.sub (tys' := [(cB_, .byte)]) [0] rfl
  have hDc := hD.sub (ws' := [(b, .inr (0, [.ref q])), (q, .inl (cB_, 65536, .inl (cB (pbs M (off (anA an gn n)) fi 4))))]) [1, 2] (by decide) rfl
  have hFc := va_free (wc := [(b, .inr (0, [.ref q])), (q, .inl (cB_, 65536, .inl (cB (pbs M (off (anA an gn n)) fi 4))))]) hD hS hA [1, 2] rfl
  have hZc : ZZ (va_A [(b, .inr (0, [.ref q])), (q, .inl (cB_, 65536, .inl (cB (pbs M (off (anA an gn n)) fi 4))))] H.size) s H := (hZ.kept hS.2.1).narrow hFc
  refine va_callv (va_runV (As := [.long (r_1 + 4), .int 4, .long y.toInt64]) (rest := []) ⟨hx, hb, hml, hown, hw⟩ (c_putNumber l dC dI b q cB_ 65536 (pbs M (off (anA an gn n)) fi 4) (r_1 + 4) 4 y.toInt64 4 (off (anA an gn n) + 4) wr H.size (by decide) rfl (by decide) (by rw [hr_1, sh2]; exact ha4.2.1) (by omega) (byt_pbs hM _ _ _) (by rw [hyw, nI_l hwr]) (by omega)) (cwV 3 hw (gV w_94cbe7a430 w_2fdba07db2 w_80d4820def w_82b0ef516c w_661ab5aac1) rfl rfl rfl (by decide +kernel) ⟨Nat.le_of_ble_eq_true rfl, Nat.le_of_ble_eq_true rfl⟩) ⟨fun a U g mk q => by obtain ⟨q0, q1, qP, qK, qD, qZ⟩ := q; exact ⟨q0, q1, qP, va_K.moved (u := U) (U := U.calling g mk a) (Vm.Alike.refl U.vm) qK, qD, ZZ.same (u := U) (U := U.calling g mk a) rfl qZ⟩, va_recv hKc hPc (ci := 0) (q0 := 0) rfl rfl, fun U hU hW => ⟨rfl, by rw [hU], by rw [hU]; exact hPc, va_K.moved hW.alike hKc, hDc.weaken (fun _ _ _ _ => trivial), by rw [hU]; exact ZZ.warm hW hZc⟩⟩ rfl rfl hl.1 rfl (lv_room (Nat.le_of_ble_eq_true rfl)) dX1_answer_25 ⟨Nat.zero_le _, Nat.zero_le _⟩) hS (fun q _ h => hFc q h) hFc (fun u t H1 locs ht hvm hw2 hB hz1 hk1 hS => ?_)
  obtain ⟨g_4, rfl⟩ : ∃ z, z = u := ⟨_, rfl⟩
  obtain ⟨hP1, hK1, hD1⟩ := hB
  rw [ht] at hP1
  have hK1 := va_K.moved hvm.symm hK1
  try dsimp only at hw2
  obtain ⟨hP, hD⟩ := va_join (wr := [(uq, .inr (1, [.int sz, .int rd, .long bl, .long of, .long an, .int tk, .int td, .int om, .int oc]))]) (w1 := [(b, .inr (0, [.ref q])), (q, .inl (cB_, 65536, .inl g_4))]) hP hD [1, 2] [0] rfl rfl (by decide) (by decide) hk1 hFc hP1 hD1
  generalize H1 = H at hP hS hk1 ⊢
  have hP : va_P (dC, dI) vwCl [(uq, .inr (1, [.int sz, .int rd, .long bl, .long of, .long an, .int tk, .int td, .int om, .int oc])), (b, .inr (0, [.ref q])), (q, .inl (cB_, 65536, .inl g_4))] H := hP
  have hD : va_D A [(uq, .inr (1, [.int sz, .int rd, .long bl, .long of, .long an, .int tk, .int td, .int om, .int oc])), (b, .inr (0, [.ref q])), (q, .inl (cB_, 65536, .inl g_4))] := hD
  have hw_5 : g_4 = cB (pbs (pbs M (off (anA an gn n)) fi 4) (off (anA an gn n) + 4) wr 4) := hw2
  obtain rfl := hw_5
  refine lv_aload_n hx hb dX1_answer_28 rfl (lv_at hl 1 rfl) ?_
  refine lv_aload_n hx hb dX1_answer_29 rfl (lv_at hl 1 rfl) ?_
  refine va_get (D := (dC, dI)) (ci := 1) (v := .int tk) (C := RX1) (T := TX1) (N := 9) hx hb hw inX1 hown hK hP 0 rfl rfl 5 (by decide) (hw _ w_485db9fa6d) (fun _ h9 => h9) rfl dX1_answer_30 ?_
  refine lv_iconst (v := 1) hx hb dX1_answer_33 (by decide) ?_
  refine lv_iadd hx hb dX1_answer_34 ?_
  refine lv_ldc (v := 65535) hx hb hown (hw _ w_d297576465) dX1_answer_35 ?_
  refine lv_iand hx hb dX1_answer_37 ?_
  refine lv_topi (fun x_6 ex_6 => ?_)
  refine va_put (D := (dC, dI)) (ci := 1) (v := .int x_6) (ty := .int) (C := RX1) (T := TX1) (N := 9) hx hb hw inX1 tyX1 tyX1_ok nmX1 hown hK hP hD hS 0 rfl rfl 5 (by decide) (hw _ w_485db9fa6d) (fun _ h9 => h9) rfl (by decide +kernel) rfl rfl (Nat.le_of_ble_eq_true rfl) dX1_answer_38 (fun H locs hP hD hS => ?_)
  have hP : va_P (dC, dI) vwCl [(uq, .inr (1, [.int sz, .int rd, .long bl, .long of, .long an, .int x_6, .int td, .int om, .int oc])), (b, .inr (0, [.ref q])), (q, .inl (cB_, 65536, .inl (cB (pbs (pbs M (off (anA an gn n)) fi 4) (off (anA an gn n) + 4) wr 4))))] H := hP
  have hD : va_D A [(uq, .inr (1, [.int sz, .int rd, .long bl, .long of, .long an, .int x_6, .int td, .int om, .int oc])), (b, .inr (0, [.ref q])), (q, .inl (cB_, 65536, .inl (cB (pbs (pbs M (off (anA an gn n)) fi 4) (off (anA an gn n) + 4) wr 4))))] := hD
  have etk : x_6 = nI ((cn + 1) % 65536) := by rw [ex_6, htk, inc_ok hcl]
  refine lv_aload_n hx hb dX1_answer_41 rfl (lv_at hl 1 rfl) ?_
  refine lv_aload_n hx hb dX1_answer_42 rfl (lv_at hl 1 rfl) ?_
  refine va_get (D := (dC, dI)) (ci := 1) (v := .int td) (C := RX1) (T := TX1) (N := 9) hx hb hw inX1 hown hK hP 0 rfl rfl 6 (by decide) (hw _ w_59eb6c0c73) (fun _ h9 => h9) rfl dX1_answer_43 ?_
  refine lv_iconst (v := 1) hx hb dX1_answer_46 (by decide) ?_
  refine lv_iadd hx hb dX1_answer_47 ?_
  refine lv_ldc (v := 65535) hx hb hown (hw _ w_d297576465) dX1_answer_48 ?_
  refine lv_iand hx hb dX1_answer_50 ?_
  refine lv_topi (fun x_7 ex_7 => ?_)
  refine va_put (D := (dC, dI)) (ci := 1) (v := .int x_7) (ty := .int) (C := RX1) (T := TX1) (N := 9) hx hb hw inX1 tyX1 tyX1_ok nmX1 hown hK hP hD hS 0 rfl rfl 6 (by decide) (hw _ w_59eb6c0c73) (fun _ h9 => h9) rfl (by decide +kernel) rfl rfl (Nat.le_of_ble_eq_true rfl) dX1_answer_51 (fun H locs hP hD hS => ?_)
  have hP : va_P (dC, dI) vwCl [(uq, .inr (1, [.int sz, .int rd, .long bl, .long of, .long an, .int x_6, .int x_7, .int om, .int oc])), (b, .inr (0, [.ref q])), (q, .inl (cB_, 65536, .inl (cB (pbs (pbs M (off (anA an gn n)) fi 4) (off (anA an gn n) + 4) wr 4))))] H := hP
  have hD : va_D A [(uq, .inr (1, [.int sz, .int rd, .long bl, .long of, .long an, .int x_6, .int x_7, .int om, .int oc])), (b, .inr (0, [.ref q])), (q, .inl (cB_, 65536, .inl (cB (pbs (pbs M (off (anA an gn n)) fi 4) (off (anA an gn n) + 4) wr 4))))] := hD
  have etd : x_7 = nI ((gn + 1) % 65536) := by rw [ex_7, htd, inc_ok hgl]
  refine lv_aload_n hx hb dX1_answer_54 rfl (lv_at hl 2 rfl) ?_
  refine lv_aload_n hx hb dX1_answer_55 rfl (lv_at hl 1 rfl) ?_
  have hPc := hP.sub (ws' := [(uq, .inr (1, [.int sz, .int rd, .long bl, .long of, .long an, .int x_6, .int x_7, .int om, .int oc]))]) [0] rfl
  have hKc := hK.sub (tys' := []) [] rfl
  have hZc := (hZ.kept hS.2.1).narrow (B := fun _ => False) (fun _ h => h.elim)
  refine vp_callSl (va_runV (As := []) (rest := [.ref b]) ⟨hx, hb, hml, hown, hw⟩ (q_answerCountPlace l dC dI uq sz rd bl of an x_6 x_7 om oc) (cwV 0 hw (gV w_8a7c54ccc9 w_eedb226694 w_cd77ecfec7 w_cf66e99dd3 w_449aba9ddc) rfl rfl rfl (by decide +kernel) ⟨Nat.le_of_ble_eq_true rfl, Nat.le_of_ble_eq_true rfl⟩) ⟨fun a U g mk q => by obtain ⟨q0, qP, qK, qZ⟩ := q; exact ⟨q0, qP, va_K.moved (u := U) (U := U.calling g mk a) (Vm.Alike.refl U.vm) qK, ZZ.same (u := U) (U := U.calling g mk a) rfl qZ⟩, va_recv hKc hPc (ci := 1) (q0 := 0) rfl rfl, fun U hU hW => ⟨rfl, by rw [hU]; exact hPc, va_K.moved hW.alike hKc, by rw [hU]; exact ZZ.warm hW hZc⟩⟩ rfl rfl hl.1 rfl (lv_room (Nat.le_of_ble_eq_true rfl)) dX1_answer_56 ⟨Nat.zero_le _, Nat.zero_le _⟩).run (fun r_8 hr_8 => ?_)
  have hr_8 : r_8 = (an + 2) - 2147483648 := hr_8
  refine lv_iconst (v := 2) hx hb dX1_answer_59 (by decide) ?_
  refine lv_aload_n hx hb dX1_answer_60 rfl (lv_at hl 1 rfl) ?_
  refine va_get (D := (dC, dI)) (ci := 1) (v := .int x_7) (C := RX1) (T := TX1) (N := 9) hx hb hw inX1 hown hK hP 0 rfl rfl 6 (by decide) (hw _ w_59eb6c0c73) (fun _ h9 => h9) rfl dX1_answer_61 ?_
  refine lv_i2l (v := x_7.toInt64) hx hb dX1_answer_64 rfl ?_
  have hPc := hP.sub (ws' := [(b, .inr (0, [.ref q])), (q, .inl (cB_, 65536, .inl (cB (pbs (pbs M (off (anA an gn n)) fi 4) (off (anA an gn n) + 4) wr 4))))]) [1, 2] rfl
  have hKc := hK.sub (tys' := [(cB_, .byte)]) [0] rfl
  have hDc := hD.sub (ws' := [(b, .inr (0, [.ref q])), (q, .inl (cB_, 65536, .inl (cB (pbs (pbs M (off (anA an gn n)) fi 4) (off (anA an gn n) + 4) wr 4))))]) [1, 2] (by decide) rfl
  have hFc := va_free (wc := [(b, .inr (0, [.ref q])), (q, .inl (cB_, 65536, .inl (cB (pbs (pbs M (off (anA an gn n)) fi 4) (off (anA an gn n) + 4) wr 4))))]) hD hS hA [1, 2] rfl
  have hZc : ZZ (va_A [(b, .inr (0, [.ref q])), (q, .inl (cB_, 65536, .inl (cB (pbs (pbs M (off (anA an gn n)) fi 4) (off (anA an gn n) + 4) wr 4))))] H.size) s H := (hZ.kept hS.2.1).narrow hFc
  refine va_callv (va_runV (As := [.long r_8, .int 2, .long x_7.toInt64]) (rest := []) ⟨hx, hb, hml, hown, hw⟩ (c_putNumber l dC dI b q cB_ 65536 (pbs (pbs M (off (anA an gn n)) fi 4) (off (anA an gn n) + 4) wr 4) r_8 2 x_7.toInt64 2 (off (an + 2)) ((gn + 1) % 65536) H.size (by decide) rfl (by decide) (by rw [hr_8]; exact ha2.1) ha2.2 (byt_pbs (byt_pbs hM _ _ _) _ _ _) (by rw [etd, nI_l (by omega)]) (by omega)) (cwV 3 hw (gV w_94cbe7a430 w_2fdba07db2 w_80d4820def w_82b0ef516c w_661ab5aac1) rfl rfl rfl (by decide +kernel) ⟨Nat.le_of_ble_eq_true rfl, Nat.le_of_ble_eq_true rfl⟩) ⟨fun a U g mk q => by obtain ⟨q0, q1, qP, qK, qD, qZ⟩ := q; exact ⟨q0, q1, qP, va_K.moved (u := U) (U := U.calling g mk a) (Vm.Alike.refl U.vm) qK, qD, ZZ.same (u := U) (U := U.calling g mk a) rfl qZ⟩, va_recv hKc hPc (ci := 0) (q0 := 0) rfl rfl, fun U hU hW => ⟨rfl, by rw [hU], by rw [hU]; exact hPc, va_K.moved hW.alike hKc, hDc.weaken (fun _ _ _ _ => trivial), by rw [hU]; exact ZZ.warm hW hZc⟩⟩ rfl rfl hl.1 rfl (lv_room (Nat.le_of_ble_eq_true rfl)) dX1_answer_65 ⟨Nat.zero_le _, Nat.zero_le _⟩) hS (fun q _ h => hFc q h) hFc (fun u t H1 locs ht hvm hw2 hB hz1 hk1 hS => ?_)
  obtain ⟨g_9, rfl⟩ : ∃ z, z = u := ⟨_, rfl⟩
  obtain ⟨hP1, hK1, hD1⟩ := hB
  rw [ht] at hP1
  have hK1 := va_K.moved hvm.symm hK1
  try dsimp only at hw2
  obtain ⟨hP, hD⟩ := va_join (wr := [(uq, .inr (1, [.int sz, .int rd, .long bl, .long of, .long an, .int x_6, .int x_7, .int om, .int oc]))]) (w1 := [(b, .inr (0, [.ref q])), (q, .inl (cB_, 65536, .inl g_9))]) hP hD [1, 2] [0] rfl rfl (by decide) (by decide) hk1 hFc hP1 hD1
  generalize H1 = H at hP hS hk1 ⊢
  have hP : va_P (dC, dI) vwCl [(uq, .inr (1, [.int sz, .int rd, .long bl, .long of, .long an, .int x_6, .int x_7, .int om, .int oc])), (b, .inr (0, [.ref q])), (q, .inl (cB_, 65536, .inl g_9))] H := hP
  have hD : va_D A [(uq, .inr (1, [.int sz, .int rd, .long bl, .long of, .long an, .int x_6, .int x_7, .int om, .int oc])), (b, .inr (0, [.ref q])), (q, .inl (cB_, 65536, .inl g_9))] := hD
  have hw_10 : g_9 = cB (pbs (pbs (pbs M (off (anA an gn n)) fi 4) (off (anA an gn n) + 4) wr 4) (off (an + 2)) ((gn + 1) % 65536) 2) := hw2
  obtain rfl := hw_10
  have hP9 : va_P (dC, dI) vwCl [(uq, .inr (1, [.int sz, .int rd, .long bl, .long of, .long an, .int x_6, .int x_7, .int om, .int oc])), (b, .inr (0, [.ref q])), (q, .inl (cB_, 65536, .inl (cB (pbs (pbs (pbs M (off (anA an gn n)) fi 4) (off (anA an gn n) + 4) wr 4) (off (an + 2)) ((gn + 1) % 65536) 2))))] H := by exact hP.sub (ws' := [(uq, .inr (1, [.int sz, .int rd, .long bl, .long of, .long an, .int x_6, .int x_7, .int om, .int oc])), (b, .inr (0, [.ref q])), (q, .inl (cB_, 65536, .inl (cB (pbs (pbs (pbs M (off (anA an gn n)) fi 4) (off (anA an gn n) + 4) wr 4) (off (an + 2)) ((gn + 1) % 65536) 2))))]) [0, 1, 2] rfl
  have hD9 : va_D A [(uq, .inr (1, [.int sz, .int rd, .long bl, .long of, .long an, .int x_6, .int x_7, .int om, .int oc])), (b, .inr (0, [.ref q])), (q, .inl (cB_, 65536, .inl (cB (pbs (pbs (pbs M (off (anA an gn n)) fi 4) (off (anA an gn n) + 4) wr 4) (off (an + 2)) ((gn + 1) % 65536) 2))))] := by exact hD.sub (ws' := [(uq, .inr (1, [.int sz, .int rd, .long bl, .long of, .long an, .int x_6, .int x_7, .int om, .int oc])), (b, .inr (0, [.ref q])), (q, .inl (cB_, 65536, .inl (cB (pbs (pbs (pbs M (off (anA an gn n)) fi 4) (off (anA an gn n) + 4) wr 4) (off (an + 2)) ((gn + 1) % 65536) 2))))]) [0, 1, 2] (by decide) rfl
  have hK9 := hK.sub (tys' := [(cB_, .byte)]) [0] rfl
  exact W.vret hx hb hr (fun t ht hW => ⟨⟨(x_6, x_7, cB (pbs (pbs (pbs M (off (anA an gn n)) fi 4) (off (anA an gn n) + 4) wr 4) (off (an + 2)) ((gn + 1) % 65536) 2)), rfl, ⟨etk, etd, rfl⟩, by rw [ht]; exact hP9, va_K.moved hW.alike hK9, hD9⟩, hS.F ht⟩) hS.2.2 dX1_answer_68
set_option maxHeartbeats 4000000 in
set_option maxRecDepth 100000 in
/-- Queue.forget -/
theorem q_forget (l : Launch) (dC : Nat → ClassId) (dI : Nat → Nat → Nat) (uq : Nat) (sz : Int32) (rd : Int32) (bl : Int64) (of : Int64) (an : Int64) (tk : Int32) (td : Int32) (om : Int32) (oc : Int32) (zS : Nat) : Met l yX1_forget wsX1_forget ({ frames := 0, cells := 0, slots := 0, locals := 0 }) (va_Pc [.ref uq] (fun U => U.heap.size = zS ∧ va_P (dC, dI) vwCl [(uq, .inr (1, [.int sz, .int rd, .long bl, .long of, .long an, .int tk, .int td, .int om, .int oc]))] U.heap ∧ va_K (dC, dI) vwCl [] U ∧ va_D (fun _ => True) [(uq, .inr (1, [.int sz, .int rd, .long bl, .long of, .long an, .int tk, .int td, .int om, .int oc]))] ∧ ZZ (va_A [(uq, .inr (1, [.int sz, .int rd, .long bl, .long of, .long an, .int tk, .int td, .int om, .int oc]))] zS) U U.heap)) (va_Qv (fun (_ : Unit) => True) (fun (_ : Unit) (t : State) => va_P (dC, dI) vwCl [(uq, .inr (1, [.int 16, .int 0, .long 0, .long 0, .long 0, .int 0, .int 0, .int om, .int oc]))] t.heap ∧ va_K (dC, dI) vwCl [] t ∧ va_D (va_A [(uq, .inr (1, [.int sz, .int rd, .long bl, .long of, .long an, .int tk, .int td, .int om, .int oc]))] zS) [(uq, .inr (1, [.int 16, .int 0, .long 0, .long 0, .long 0, .int 0, .int 0, .int om, .int oc]))]) (va_A [(uq, .inr (1, [.int sz, .int rd, .long bl, .long of, .long an, .int tk, .int td, .int om, .int oc]))] zS)) 0 0 (va_A [(uq, .inr (1, [.int sz, .int rd, .long bl, .long of, .long an, .int tk, .int td, .int om, .int oc]))] zS) := by
  refine Met.ofW (cc := cX1_forget) (maxL := 1) (ret := (none)) (by decide) rfl ?_
  intro p e s m args below meth c s₁ B hml hv
  obtain ⟨rfl, hsz, hP, hK, hD0, hZ⟩ := hv
  have hx := B.exec
  have hb := B.bytes
  have hr := B.returns
  have hts := atoms_spec (ws := wsX1_forget) B.pre
  have hw : ∀ w ∈ WW, w.before _ s = true := fun w h => hts w (List.mem_cons_of_mem _ h)
  have hown : s.vm.findClass RX1 = some m.cls := findClass_of_methodNamed B.named
  have hlocks := B.notSynchronized
  subst hsz
  have hD := hD0.self (sz := s.heap.size)
  generalize hAe : va_A [(uq, .inr (1, [.int sz, .int rd, .long bl, .long of, .long an, .int tk, .int td, .int om, .int oc]))] s.heap.size = A at hD hZ ⊢
  have hA : ∀ q : Nat, s.heap.size ≤ q → A q := fun q h => by rw [← hAe]; exact Or.inr h
  have hS : va_S A s.heap s.heap [] := va_S.rf
  have hP : va_P (dC, dI) vwCl [(uq, .inr (1, [.int sz, .int rd, .long bl, .long of, .long an, .int tk, .int td, .int om, .int oc]))] s.heap := hP
  have hl := lv_entry ([.ref uq]) (n := 1) (Nat.le_of_ble_eq_true rfl)
  rw [lg_entry_eq]
  generalize (lg_sl ([.ref uq]) ++ List.replicate (1 - (lg_sl ([.ref uq])).length) Slot.unset).toArray = ls at hl ⊢
  have hl : lv_has ls 1 [(0, .ref uq)] := hl
  refine lv_aload_n hx hb dX1_forget_0 rfl (lv_at hl 0 rfl) ?_
  refine lv_bipush (v := 16) hx hb dX1_forget_1 (by decide) ?_
  refine va_put (D := (dC, dI)) (ci := 1) (v := .int 16) (ty := .int) (C := RX1) (T := TX1) (N := 9) hx hb hw inX1 tyX1 tyX1_ok nmX1 hown hK hP hD hS 0 rfl rfl 0 (by decide) (hw _ w_434fce38a3) (fun _ h9 => h9) rfl (by decide +kernel) rfl rfl (Nat.le_of_ble_eq_true rfl) dX1_forget_3 (fun H locs hP hD hS => ?_)
  have hP : va_P (dC, dI) vwCl [(uq, .inr (1, [.int 16, .int rd, .long bl, .long of, .long an, .int tk, .int td, .int om, .int oc]))] H := hP
  have hD : va_D A [(uq, .inr (1, [.int 16, .int rd, .long bl, .long of, .long an, .int tk, .int td, .int om, .int oc]))] := hD
  refine lv_aload_n hx hb dX1_forget_6 rfl (lv_at hl 0 rfl) ?_
  refine lv_iconst (v := 0) hx hb dX1_forget_7 (by decide) ?_
  refine va_put (D := (dC, dI)) (ci := 1) (v := .int 0) (ty := .boolean) (C := RX1) (T := TX1) (N := 9) hx hb hw inX1 tyX1 tyX1_ok nmX1 hown hK hP hD hS 0 rfl rfl 1 (by decide) (hw _ w_7364a20e3e) (fun _ h9 => h9) rfl (by decide +kernel) rfl rfl (Nat.le_of_ble_eq_true rfl) dX1_forget_8 (fun H locs hP hD hS => ?_)
  have hP : va_P (dC, dI) vwCl [(uq, .inr (1, [.int 16, .int 0, .long bl, .long of, .long an, .int tk, .int td, .int om, .int oc]))] H := hP
  have hD : va_D A [(uq, .inr (1, [.int 16, .int 0, .long bl, .long of, .long an, .int tk, .int td, .int om, .int oc]))] := hD
  refine lv_aload_n hx hb dX1_forget_11 rfl (lv_at hl 0 rfl) ?_
  refine lv_lconst (v := 0) hx hb dX1_forget_12 (by decide) ?_
  refine va_put (D := (dC, dI)) (ci := 1) (v := .long 0) (ty := .long) (C := RX1) (T := TX1) (N := 9) hx hb hw inX1 tyX1 tyX1_ok nmX1 hown hK hP hD hS 0 rfl rfl 2 (by decide) (hw _ w_92aa121c2f) (fun _ h9 => h9) rfl (by decide +kernel) rfl rfl (Nat.le_of_ble_eq_true rfl) dX1_forget_13 (fun H locs hP hD hS => ?_)
  have hP : va_P (dC, dI) vwCl [(uq, .inr (1, [.int 16, .int 0, .long 0, .long of, .long an, .int tk, .int td, .int om, .int oc]))] H := hP
  have hD : va_D A [(uq, .inr (1, [.int 16, .int 0, .long 0, .long of, .long an, .int tk, .int td, .int om, .int oc]))] := hD
  refine lv_aload_n hx hb dX1_forget_16 rfl (lv_at hl 0 rfl) ?_
  refine lv_lconst (v := 0) hx hb dX1_forget_17 (by decide) ?_
  refine va_put (D := (dC, dI)) (ci := 1) (v := .long 0) (ty := .long) (C := RX1) (T := TX1) (N := 9) hx hb hw inX1 tyX1 tyX1_ok nmX1 hown hK hP hD hS 0 rfl rfl 3 (by decide) (hw _ w_cdd8a4f183) (fun _ h9 => h9) rfl (by decide +kernel) rfl rfl (Nat.le_of_ble_eq_true rfl) dX1_forget_18 (fun H locs hP hD hS => ?_)
  have hP : va_P (dC, dI) vwCl [(uq, .inr (1, [.int 16, .int 0, .long 0, .long 0, .long an, .int tk, .int td, .int om, .int oc]))] H := hP
  have hD : va_D A [(uq, .inr (1, [.int 16, .int 0, .long 0, .long 0, .long an, .int tk, .int td, .int om, .int oc]))] := hD
  refine lv_aload_n hx hb dX1_forget_21 rfl (lv_at hl 0 rfl) ?_
  refine lv_lconst (v := 0) hx hb dX1_forget_22 (by decide) ?_
  refine va_put (D := (dC, dI)) (ci := 1) (v := .long 0) (ty := .long) (C := RX1) (T := TX1) (N := 9) hx hb hw inX1 tyX1 tyX1_ok nmX1 hown hK hP hD hS 0 rfl rfl 4 (by decide) (hw _ w_275797ba51) (fun _ h9 => h9) rfl (by decide +kernel) rfl rfl (Nat.le_of_ble_eq_true rfl) dX1_forget_23 (fun H locs hP hD hS => ?_)
  have hP : va_P (dC, dI) vwCl [(uq, .inr (1, [.int 16, .int 0, .long 0, .long 0, .long 0, .int tk, .int td, .int om, .int oc]))] H := hP
  have hD : va_D A [(uq, .inr (1, [.int 16, .int 0, .long 0, .long 0, .long 0, .int tk, .int td, .int om, .int oc]))] := hD
  refine lv_aload_n hx hb dX1_forget_26 rfl (lv_at hl 0 rfl) ?_
  refine lv_iconst (v := 0) hx hb dX1_forget_27 (by decide) ?_
  refine va_put (D := (dC, dI)) (ci := 1) (v := .int 0) (ty := .int) (C := RX1) (T := TX1) (N := 9) hx hb hw inX1 tyX1 tyX1_ok nmX1 hown hK hP hD hS 0 rfl rfl 5 (by decide) (hw _ w_485db9fa6d) (fun _ h9 => h9) rfl (by decide +kernel) rfl rfl (Nat.le_of_ble_eq_true rfl) dX1_forget_28 (fun H locs hP hD hS => ?_)
  have hP : va_P (dC, dI) vwCl [(uq, .inr (1, [.int 16, .int 0, .long 0, .long 0, .long 0, .int 0, .int td, .int om, .int oc]))] H := hP
  have hD : va_D A [(uq, .inr (1, [.int 16, .int 0, .long 0, .long 0, .long 0, .int 0, .int td, .int om, .int oc]))] := hD
  refine lv_aload_n hx hb dX1_forget_31 rfl (lv_at hl 0 rfl) ?_
  refine lv_iconst (v := 0) hx hb dX1_forget_32 (by decide) ?_
  refine va_put (D := (dC, dI)) (ci := 1) (v := .int 0) (ty := .int) (C := RX1) (T := TX1) (N := 9) hx hb hw inX1 tyX1 tyX1_ok nmX1 hown hK hP hD hS 0 rfl rfl 6 (by decide) (hw _ w_59eb6c0c73) (fun _ h9 => h9) rfl (by decide +kernel) rfl rfl (Nat.le_of_ble_eq_true rfl) dX1_forget_33 (fun H locs hP hD hS => ?_)
  have hP : va_P (dC, dI) vwCl [(uq, .inr (1, [.int 16, .int 0, .long 0, .long 0, .long 0, .int 0, .int 0, .int om, .int oc]))] H := hP
  have hD : va_D A [(uq, .inr (1, [.int 16, .int 0, .long 0, .long 0, .long 0, .int 0, .int 0, .int om, .int oc]))] := hD
  have hP9 : va_P (dC, dI) vwCl [(uq, .inr (1, [.int 16, .int 0, .long 0, .long 0, .long 0, .int 0, .int 0, .int om, .int oc]))] H := by exact hP.sub (ws' := [(uq, .inr (1, [.int 16, .int 0, .long 0, .long 0, .long 0, .int 0, .int 0, .int om, .int oc]))]) [0] rfl
  have hD9 : va_D A [(uq, .inr (1, [.int 16, .int 0, .long 0, .long 0, .long 0, .int 0, .int 0, .int om, .int oc]))] := by exact hD.sub (ws' := [(uq, .inr (1, [.int 16, .int 0, .long 0, .long 0, .long 0, .int 0, .int 0, .int om, .int oc]))]) [0] (by decide) rfl
  have hK9 := hK.sub (tys' := []) [] rfl
  exact W.vret hx hb hr (fun t ht hW => ⟨⟨(), rfl, trivial, by rw [ht]; exact hP9, va_K.moved hW.alike hK9, hD9⟩, hS.F ht⟩) hS.2.2 dX1_forget_36
set_option maxHeartbeats 4000000 in
set_option maxRecDepth 100000 in
/-- Queue.<init> -/
theorem q_init (l : Launch) (dC : Nat → ClassId) (dI : Nat → Nat → Nat) (uq : Nat) (zS : Nat) : Met l yX1_init wsX1_init ({ frames := 1, cells := 0, slots := 0, locals := 20 }) (va_Pc [.ref uq] (fun U => U.heap.size = zS ∧ va_P (dC, dI) vwCl [(uq, .inr (1, [.int 0, .int 0, .long 0, .long 0, .long 0, .int 0, .int 0, .int 0, .int 0]))] U.heap ∧ va_K (dC, dI) vwCl [] U ∧ va_D (fun _ => True) [(uq, .inr (1, [.int 0, .int 0, .long 0, .long 0, .long 0, .int 0, .int 0, .int 0, .int 0]))] ∧ ZZ (va_A [(uq, .inr (1, [.int 0, .int 0, .long 0, .long 0, .long 0, .int 0, .int 0, .int 0, .int 0]))] zS) U U.heap)) (va_Qv (fun (_ : Unit) => True) (fun (_ : Unit) (t : State) => va_P (dC, dI) vwCl [(uq, .inr (1, [.int 16, .int 0, .long 0, .long 0, .long 0, .int 0, .int 0, .int 0, .int 0]))] t.heap ∧ va_K (dC, dI) vwCl [] t ∧ va_D (va_A [(uq, .inr (1, [.int 0, .int 0, .long 0, .long 0, .long 0, .int 0, .int 0, .int 0, .int 0]))] zS) [(uq, .inr (1, [.int 16, .int 0, .long 0, .long 0, .long 0, .int 0, .int 0, .int 0, .int 0]))]) (va_A [(uq, .inr (1, [.int 0, .int 0, .long 0, .long 0, .long 0, .int 0, .int 0, .int 0, .int 0]))] zS)) 0 0 (va_A [(uq, .inr (1, [.int 0, .int 0, .long 0, .long 0, .long 0, .int 0, .int 0, .int 0, .int 0]))] zS) := by
  refine Met.ofW (cc := cX1_init) (maxL := 1) (ret := (none)) (by decide) rfl ?_
  intro p e s m args below meth c s₁ B hml hv
  obtain ⟨rfl, hsz, hP, hK, hD0, hZ⟩ := hv
  have hx := B.exec
  have hb := B.bytes
  have hr := B.returns
  have hts := atoms_spec (ws := wsX1_init) B.pre
  have hw : ∀ w ∈ WW, w.before _ s = true := fun w h => hts w (List.mem_cons_of_mem _ h)
  have hown : s.vm.findClass RX1 = some m.cls := findClass_of_methodNamed B.named
  have hlocks := B.notSynchronized
  have hin : meth.name = "<init>" := (name_of_methodNamed B.named B.method).1
  subst hsz
  have hD := hD0.self (sz := s.heap.size)
  generalize hAe : va_A [(uq, .inr (1, [.int 0, .int 0, .long 0, .long 0, .long 0, .int 0, .int 0, .int 0, .int 0]))] s.heap.size = A at hD hZ ⊢
  have hA : ∀ q : Nat, s.heap.size ≤ q → A q := fun q h => by rw [← hAe]; exact Or.inr h
  have hS : va_S A s.heap s.heap [] := va_S.rf
  have hP : va_P (dC, dI) vwCl [(uq, .inr (1, [.int 0, .int 0, .long 0, .long 0, .long 0, .int 0, .int 0, .int 0, .int 0]))] s.heap := hP
  have hl := lv_entry ([.ref uq]) (n := 1) (Nat.le_of_ble_eq_true rfl)
  rw [lg_entry_eq]
  generalize (lg_sl ([.ref uq]) ++ List.replicate (1 - (lg_sl ([.ref uq])).length) Slot.unset).toArray = ls at hl ⊢
  have hl : lv_has ls 1 [(0, .ref uq)] := hl
  refine lv_aload_n hx hb dX1_init_0 rfl (lv_at hl 0 rfl) ?_
  refine W.objInit hx hb hown (hw _ w_ea31ed776d) (hw _ w_e68b0fb77c) (hw _ w_f29cc5b5a1) rfl (by rw [hml]; exact hl.1) rfl dX1_init_1 (Nat.le_of_ble_eq_true rfl) (Nat.le_of_ble_eq_true rfl) ?_
  refine W.eq (g2 := F0 m 4 ls []) rfl ?_
  refine lv_aload_n hx hb dX1_init_4 rfl (lv_at hl 0 rfl) ?_
  refine lv_bipush (v := 16) hx hb dX1_init_5 (by decide) ?_
  refine va_put (D := (dC, dI)) (ci := 1) (v := .int 16) (ty := .int) (C := RX1) (T := TX1) (N := 9) hx hb hw inX1 tyX1 tyX1_ok nmX1 hown hK hP hD hS 0 rfl rfl 0 (by decide) (hw _ w_434fce38a3) (fun _ h9 => h9) rfl (by decide +kernel) rfl rfl (Nat.le_of_ble_eq_true rfl) dX1_init_7 (fun H locs hP hD hS => ?_)
  have hP : va_P (dC, dI) vwCl [(uq, .inr (1, [.int 16, .int 0, .long 0, .long 0, .long 0, .int 0, .int 0, .int 0, .int 0]))] H := hP
  have hD : va_D A [(uq, .inr (1, [.int 16, .int 0, .long 0, .long 0, .long 0, .int 0, .int 0, .int 0, .int 0]))] := hD
  have hP9 : va_P (dC, dI) vwCl [(uq, .inr (1, [.int 16, .int 0, .long 0, .long 0, .long 0, .int 0, .int 0, .int 0, .int 0]))] H := by exact hP.sub (ws' := [(uq, .inr (1, [.int 16, .int 0, .long 0, .long 0, .long 0, .int 0, .int 0, .int 0, .int 0]))]) [0] rfl
  have hD9 : va_D A [(uq, .inr (1, [.int 16, .int 0, .long 0, .long 0, .long 0, .int 0, .int 0, .int 0, .int 0]))] := by exact hD.sub (ws' := [(uq, .inr (1, [.int 16, .int 0, .long 0, .long 0, .long 0, .int 0, .int 0, .int 0, .int 0]))]) [0] (by decide) rfl
  have hK9 := hK.sub (tys' := []) [] rfl
  exact W.vret hx hb hr (fun t ht hW => ⟨⟨(), rfl, trivial, by rw [ht]; exact hP9, va_K.moved hW.alike hK9, hD9⟩, hS.F ht⟩) hS.2.2 dX1_init_10
set_option maxHeartbeats 4000000 in
set_option maxRecDepth 100000 in
/-- Queue.setUp -/
theorem q_setUp (l : Launch) (dC : Nat → ClassId) (dI : Nat → Nat → Nat) (uq : Nat) (sz : Int32) (rd : Int32) (bl : Int64) (of : Int64) (an : Int64) (tk : Int32) (td : Int32) (om : Int32) (oc : Int32) (x : Int32) (v : Int32) (zS : Nat) (h68 : ¬ x = 68) : Met l yX1_setUp wsX1_setUp ({ frames := 1, cells := 0, slots := 0, locals := 40 }) (va_Pc [.ref uq, .int x, .int v] (fun U => U.heap.size = zS ∧ va_P (dC, dI) vwCl [(uq, .inr (1, [.int sz, .int rd, .long bl, .long of, .long an, .int tk, .int td, .int om, .int oc]))] U.heap ∧ va_K (dC, dI) vwCl [] U ∧ va_D (fun _ => True) [(uq, .inr (1, [.int sz, .int rd, .long bl, .long of, .long an, .int tk, .int td, .int om, .int oc]))] ∧ ZZ (va_A [(uq, .inr (1, [.int sz, .int rd, .long bl, .long of, .long an, .int tk, .int td, .int om, .int oc]))] zS) U U.heap)) (va_Qv (fun (u : Int32 × Int64 × Int64 × Int64) => match u with | (sz2, bl2, of2, an2) => (sz2, rd, bl2, of2, an2) = qUp x v sz rd bl of an) (fun (u : Int32 × Int64 × Int64 × Int64) (t : State) => match u with | (sz2, bl2, of2, an2) => va_P (dC, dI) vwCl [(uq, .inr (1, [.int sz2, .int rd, .long bl2, .long of2, .long an2, .int tk, .int td, .int om, .int oc]))] t.heap ∧ va_K (dC, dI) vwCl [] t ∧ va_D (va_A [(uq, .inr (1, [.int sz, .int rd, .long bl, .long of, .long an, .int tk, .int td, .int om, .int oc]))] zS) [(uq, .inr (1, [.int sz2, .int rd, .long bl2, .long of2, .long an2, .int tk, .int td, .int om, .int oc]))]) (va_A [(uq, .inr (1, [.int sz, .int rd, .long bl, .long of, .long an, .int tk, .int td, .int om, .int oc]))] zS)) 0 0 (va_A [(uq, .inr (1, [.int sz, .int rd, .long bl, .long of, .long an, .int tk, .int td, .int om, .int oc]))] zS) := by
  refine Met.ofW (cc := cX1_setUp) (maxL := 3) (ret := (none)) (by decide) rfl ?_
  intro p e s m args below meth c s₁ B hml hv
  obtain ⟨rfl, hsz, hP, hK, hD0, hZ⟩ := hv
  have hx := B.exec
  have hb := B.bytes
  have hr := B.returns
  have hts := atoms_spec (ws := wsX1_setUp) B.pre
  have hw : ∀ w ∈ WW, w.before _ s = true := fun w h => hts w (List.mem_cons_of_mem _ h)
  have hown : s.vm.findClass RX1 = some m.cls := findClass_of_methodNamed B.named
  have hlocks := B.notSynchronized
  subst hsz
  have hD := hD0.self (sz := s.heap.size)
  generalize hAe : va_A [(uq, .inr (1, [.int sz, .int rd, .long bl, .long of, .long an, .int tk, .int td, .int om, .int oc]))] s.heap.size = A at hD hZ ⊢
  have hA : ∀ q : Nat, s.heap.size ≤ q → A q := fun q h => by rw [← hAe]; exact Or.inr h
  have hS : va_S A s.heap s.heap [] := va_S.rf
  have hP : va_P (dC, dI) vwCl [(uq, .inr (1, [.int sz, .int rd, .long bl, .long of, .long an, .int tk, .int td, .int om, .int oc]))] s.heap := hP
  have hl := lv_entry ([.ref uq, .int x, .int v]) (n := 3) (Nat.le_of_ble_eq_true rfl)
  rw [lg_entry_eq]
  generalize (lg_sl ([.ref uq, .int x, .int v]) ++ List.replicate (3 - (lg_sl ([.ref uq, .int x, .int v])).length) Slot.unset).toArray = ls at hl ⊢
  have hl : lv_has ls 3 [(0, .ref uq), (1, .int x), (2, .int v)] := hl
  refine lv_iload_n hx hb dX1_setUp_0 rfl (lv_at hl 1 rfl) ?_
  by_cases c_1 : x = (56 : Int32)
  · skip
    refine lv_lookup (off := 67) (tgt := 68) hx hb dX1_setUp_1 (by decide) (by rw [c_1]; decide) (by decide) ?_
    refine lv_iload_n hx hb dX1_setUp_68 rfl (lv_at hl 2 rfl) ?_
    refine lv_iconst (v := 1) hx hb dX1_setUp_69 (by decide) ?_
    refine lv_icmp_eq (tgt := 95) hx hb dX1_setUp_70 (by decide) (fun c_2 => ?_) (fun c_2 => ?_)
    · skip
      refine lv_aload_n hx hb dX1_setUp_95 rfl (lv_at hl 0 rfl) ?_
      refine lv_iload_n hx hb dX1_setUp_96 rfl (lv_at hl 2 rfl) ?_
      refine va_put (D := (dC, dI)) (ci := 1) (v := .int v) (ty := .int) (C := RX1) (T := TX1) (N := 9) hx hb hw inX1 tyX1 tyX1_ok nmX1 hown hK hP hD hS 0 rfl rfl 0 (by decide) (hw _ w_434fce38a3) (fun _ h9 => h9) rfl (by decide +kernel) rfl rfl (Nat.le_of_ble_eq_true rfl) dX1_setUp_97 (fun H locs hP hD hS => ?_)
      have hP : va_P (dC, dI) vwCl [(uq, .inr (1, [.int v, .int rd, .long bl, .long of, .long an, .int tk, .int td, .int om, .int oc]))] H := hP
      have hD : va_D A [(uq, .inr (1, [.int v, .int rd, .long bl, .long of, .long an, .int tk, .int td, .int om, .int oc]))] := hD
      refine lv_goto (tgt := 193) hx hb dX1_setUp_100 (by decide) ?_
      have hP9 : va_P (dC, dI) vwCl [(uq, .inr (1, [.int v, .int rd, .long bl, .long of, .long an, .int tk, .int td, .int om, .int oc]))] H := by exact hP.sub (ws' := [(uq, .inr (1, [.int v, .int rd, .long bl, .long of, .long an, .int tk, .int td, .int om, .int oc]))]) [0] rfl
      have hD9 : va_D A [(uq, .inr (1, [.int v, .int rd, .long bl, .long of, .long an, .int tk, .int td, .int om, .int oc]))] := by exact hD.sub (ws' := [(uq, .inr (1, [.int v, .int rd, .long bl, .long of, .long an, .int tk, .int td, .int om, .int oc]))]) [0] (by decide) rfl
      have hK9 := hK.sub (tys' := []) [] rfl
      exact W.vret hx hb hr (fun t ht hW => ⟨⟨(v, bl, of, an), rfl, (by unfold qUp; rw [if_pos c_1, if_pos (by first | exact Or.inl c_2 | exact Or.inr (Or.inl c_2) | exact Or.inr (Or.inr (Or.inl c_2)) | exact Or.inr (Or.inr (Or.inr (Or.inl c_2))) | exact Or.inr (Or.inr (Or.inr (Or.inr c_2))))]), by rw [ht]; exact hP9, va_K.moved hW.alike hK9, hD9⟩, hS.F ht⟩) hS.2.2 dX1_setUp_193
    · skip
      refine lv_iload_n hx hb dX1_setUp_73 rfl (lv_at hl 2 rfl) ?_
      refine lv_iconst (v := 2) hx hb dX1_setUp_74 (by decide) ?_
      refine lv_icmp_eq (tgt := 95) hx hb dX1_setUp_75 (by decide) (fun c_3 => ?_) (fun c_3 => ?_)
      · skip
        refine lv_aload_n hx hb dX1_setUp_95 rfl (lv_at hl 0 rfl) ?_
        refine lv_iload_n hx hb dX1_setUp_96 rfl (lv_at hl 2 rfl) ?_
        refine va_put (D := (dC, dI)) (ci := 1) (v := .int v) (ty := .int) (C := RX1) (T := TX1) (N := 9) hx hb hw inX1 tyX1 tyX1_ok nmX1 hown hK hP hD hS 0 rfl rfl 0 (by decide) (hw _ w_434fce38a3) (fun _ h9 => h9) rfl (by decide +kernel) rfl rfl (Nat.le_of_ble_eq_true rfl) dX1_setUp_97 (fun H locs hP hD hS => ?_)
        have hP : va_P (dC, dI) vwCl [(uq, .inr (1, [.int v, .int rd, .long bl, .long of, .long an, .int tk, .int td, .int om, .int oc]))] H := hP
        have hD : va_D A [(uq, .inr (1, [.int v, .int rd, .long bl, .long of, .long an, .int tk, .int td, .int om, .int oc]))] := hD
        refine lv_goto (tgt := 193) hx hb dX1_setUp_100 (by decide) ?_
        have hP9 : va_P (dC, dI) vwCl [(uq, .inr (1, [.int v, .int rd, .long bl, .long of, .long an, .int tk, .int td, .int om, .int oc]))] H := by exact hP.sub (ws' := [(uq, .inr (1, [.int v, .int rd, .long bl, .long of, .long an, .int tk, .int td, .int om, .int oc]))]) [0] rfl
        have hD9 : va_D A [(uq, .inr (1, [.int v, .int rd, .long bl, .long of, .long an, .int tk, .int td, .int om, .int oc]))] := by exact hD.sub (ws' := [(uq, .inr (1, [.int v, .int rd, .long bl, .long of, .long an, .int tk, .int td, .int om, .int oc]))]) [0] (by decide) rfl
        have hK9 := hK.sub (tys' := []) [] rfl
        exact W.vret hx hb hr (fun t ht hW => ⟨⟨(v, bl, of, an), rfl, (by unfold qUp; rw [if_pos c_1, if_pos (by first | exact Or.inl c_3 | exact Or.inr (Or.inl c_3) | exact Or.inr (Or.inr (Or.inl c_3)) | exact Or.inr (Or.inr (Or.inr (Or.inl c_3))) | exact Or.inr (Or.inr (Or.inr (Or.inr c_3))))]), by rw [ht]; exact hP9, va_K.moved hW.alike hK9, hD9⟩, hS.F ht⟩) hS.2.2 dX1_setUp_193
      · skip
        refine lv_iload_n hx hb dX1_setUp_78 rfl (lv_at hl 2 rfl) ?_
        refine lv_iconst (v := 4) hx hb dX1_setUp_79 (by decide) ?_
        refine lv_icmp_eq (tgt := 95) hx hb dX1_setUp_80 (by decide) (fun c_4 => ?_) (fun c_4 => ?_)
        · skip
          refine lv_aload_n hx hb dX1_setUp_95 rfl (lv_at hl 0 rfl) ?_
          refine lv_iload_n hx hb dX1_setUp_96 rfl (lv_at hl 2 rfl) ?_
          refine va_put (D := (dC, dI)) (ci := 1) (v := .int v) (ty := .int) (C := RX1) (T := TX1) (N := 9) hx hb hw inX1 tyX1 tyX1_ok nmX1 hown hK hP hD hS 0 rfl rfl 0 (by decide) (hw _ w_434fce38a3) (fun _ h9 => h9) rfl (by decide +kernel) rfl rfl (Nat.le_of_ble_eq_true rfl) dX1_setUp_97 (fun H locs hP hD hS => ?_)
          have hP : va_P (dC, dI) vwCl [(uq, .inr (1, [.int v, .int rd, .long bl, .long of, .long an, .int tk, .int td, .int om, .int oc]))] H := hP
          have hD : va_D A [(uq, .inr (1, [.int v, .int rd, .long bl, .long of, .long an, .int tk, .int td, .int om, .int oc]))] := hD
          refine lv_goto (tgt := 193) hx hb dX1_setUp_100 (by decide) ?_
          have hP9 : va_P (dC, dI) vwCl [(uq, .inr (1, [.int v, .int rd, .long bl, .long of, .long an, .int tk, .int td, .int om, .int oc]))] H := by exact hP.sub (ws' := [(uq, .inr (1, [.int v, .int rd, .long bl, .long of, .long an, .int tk, .int td, .int om, .int oc]))]) [0] rfl
          have hD9 : va_D A [(uq, .inr (1, [.int v, .int rd, .long bl, .long of, .long an, .int tk, .int td, .int om, .int oc]))] := by exact hD.sub (ws' := [(uq, .inr (1, [.int v, .int rd, .long bl, .long of, .long an, .int tk, .int td, .int om, .int oc]))]) [0] (by decide) rfl
          have hK9 := hK.sub (tys' := []) [] rfl
          exact W.vret hx hb hr (fun t ht hW => ⟨⟨(v, bl, of, an), rfl, (by unfold qUp; rw [if_pos c_1, if_pos (by first | exact Or.inl c_4 | exact Or.inr (Or.inl c_4) | exact Or.inr (Or.inr (Or.inl c_4)) | exact Or.inr (Or.inr (Or.inr (Or.inl c_4))) | exact Or.inr (Or.inr (Or.inr (Or.inr c_4))))]), by rw [ht]; exact hP9, va_K.moved hW.alike hK9, hD9⟩, hS.F ht⟩) hS.2.2 dX1_setUp_193
        · skip
          refine lv_iload_n hx hb dX1_setUp_83 rfl (lv_at hl 2 rfl) ?_
          refine lv_bipush (v := 8) hx hb dX1_setUp_84 (by decide) ?_
          refine lv_icmp_eq (tgt := 95) hx hb dX1_setUp_86 (by decide) (fun c_5 => ?_) (fun c_5 => ?_)
          · skip
            refine lv_aload_n hx hb dX1_setUp_95 rfl (lv_at hl 0 rfl) ?_
            refine lv_iload_n hx hb dX1_setUp_96 rfl (lv_at hl 2 rfl) ?_
            refine va_put (D := (dC, dI)) (ci := 1) (v := .int v) (ty := .int) (C := RX1) (T := TX1) (N := 9) hx hb hw inX1 tyX1 tyX1_ok nmX1 hown hK hP hD hS 0 rfl rfl 0 (by decide) (hw _ w_434fce38a3) (fun _ h9 => h9) rfl (by decide +kernel) rfl rfl (Nat.le_of_ble_eq_true rfl) dX1_setUp_97 (fun H locs hP hD hS => ?_)
            have hP : va_P (dC, dI) vwCl [(uq, .inr (1, [.int v, .int rd, .long bl, .long of, .long an, .int tk, .int td, .int om, .int oc]))] H := hP
            have hD : va_D A [(uq, .inr (1, [.int v, .int rd, .long bl, .long of, .long an, .int tk, .int td, .int om, .int oc]))] := hD
            refine lv_goto (tgt := 193) hx hb dX1_setUp_100 (by decide) ?_
            have hP9 : va_P (dC, dI) vwCl [(uq, .inr (1, [.int v, .int rd, .long bl, .long of, .long an, .int tk, .int td, .int om, .int oc]))] H := by exact hP.sub (ws' := [(uq, .inr (1, [.int v, .int rd, .long bl, .long of, .long an, .int tk, .int td, .int om, .int oc]))]) [0] rfl
            have hD9 : va_D A [(uq, .inr (1, [.int v, .int rd, .long bl, .long of, .long an, .int tk, .int td, .int om, .int oc]))] := by exact hD.sub (ws' := [(uq, .inr (1, [.int v, .int rd, .long bl, .long of, .long an, .int tk, .int td, .int om, .int oc]))]) [0] (by decide) rfl
            have hK9 := hK.sub (tys' := []) [] rfl
            exact W.vret hx hb hr (fun t ht hW => ⟨⟨(v, bl, of, an), rfl, (by unfold qUp; rw [if_pos c_1, if_pos (by first | exact Or.inl c_5 | exact Or.inr (Or.inl c_5) | exact Or.inr (Or.inr (Or.inl c_5)) | exact Or.inr (Or.inr (Or.inr (Or.inl c_5))) | exact Or.inr (Or.inr (Or.inr (Or.inr c_5))))]), by rw [ht]; exact hP9, va_K.moved hW.alike hK9, hD9⟩, hS.F ht⟩) hS.2.2 dX1_setUp_193
          · skip
            refine lv_iload_n hx hb dX1_setUp_89 rfl (lv_at hl 2 rfl) ?_
            refine lv_bipush (v := 16) hx hb dX1_setUp_90 (by decide) ?_
            refine lv_icmp_ne (tgt := 193) hx hb dX1_setUp_92 (by decide) (fun c_6 => ?_) (fun c_6 => ?_)
            · skip
              have hP9 : va_P (dC, dI) vwCl [(uq, .inr (1, [.int sz, .int rd, .long bl, .long of, .long an, .int tk, .int td, .int om, .int oc]))] s.heap := by exact hP.sub (ws' := [(uq, .inr (1, [.int sz, .int rd, .long bl, .long of, .long an, .int tk, .int td, .int om, .int oc]))]) [0] rfl
              have hD9 : va_D A [(uq, .inr (1, [.int sz, .int rd, .long bl, .long of, .long an, .int tk, .int td, .int om, .int oc]))] := by exact hD.sub (ws' := [(uq, .inr (1, [.int sz, .int rd, .long bl, .long of, .long an, .int tk, .int td, .int om, .int oc]))]) [0] (by decide) rfl
              have hK9 := hK.sub (tys' := []) [] rfl
              exact W.vret hx hb hr (fun t ht hW => ⟨⟨(sz, bl, of, an), rfl, (by unfold qUp; rw [if_pos c_1, if_neg (fun z => z.elim c_2 (fun z => z.elim c_3 (fun z => z.elim c_4 (fun z => z.elim c_5 c_6))))]), by rw [ht]; exact hP9, va_K.moved hW.alike hK9, hD9⟩, hS.F ht⟩) hS.2.2 dX1_setUp_193
            · skip
              refine lv_aload_n hx hb dX1_setUp_95 rfl (lv_at hl 0 rfl) ?_
              refine lv_iload_n hx hb dX1_setUp_96 rfl (lv_at hl 2 rfl) ?_
              refine va_put (D := (dC, dI)) (ci := 1) (v := .int v) (ty := .int) (C := RX1) (T := TX1) (N := 9) hx hb hw inX1 tyX1 tyX1_ok nmX1 hown hK hP hD hS 0 rfl rfl 0 (by decide) (hw _ w_434fce38a3) (fun _ h9 => h9) rfl (by decide +kernel) rfl rfl (Nat.le_of_ble_eq_true rfl) dX1_setUp_97 (fun H locs hP hD hS => ?_)
              have hP : va_P (dC, dI) vwCl [(uq, .inr (1, [.int v, .int rd, .long bl, .long of, .long an, .int tk, .int td, .int om, .int oc]))] H := hP
              have hD : va_D A [(uq, .inr (1, [.int v, .int rd, .long bl, .long of, .long an, .int tk, .int td, .int om, .int oc]))] := hD
              refine lv_goto (tgt := 193) hx hb dX1_setUp_100 (by decide) ?_
              have hP9 : va_P (dC, dI) vwCl [(uq, .inr (1, [.int v, .int rd, .long bl, .long of, .long an, .int tk, .int td, .int om, .int oc]))] H := by exact hP.sub (ws' := [(uq, .inr (1, [.int v, .int rd, .long bl, .long of, .long an, .int tk, .int td, .int om, .int oc]))]) [0] rfl
              have hD9 : va_D A [(uq, .inr (1, [.int v, .int rd, .long bl, .long of, .long an, .int tk, .int td, .int om, .int oc]))] := by exact hD.sub (ws' := [(uq, .inr (1, [.int v, .int rd, .long bl, .long of, .long an, .int tk, .int td, .int om, .int oc]))]) [0] (by decide) rfl
              have hK9 := hK.sub (tys' := []) [] rfl
              exact W.vret hx hb hr (fun t ht hW => ⟨⟨(v, bl, of, an), rfl, (by unfold qUp; rw [if_pos c_1, if_pos (by first | exact Or.inl c_6 | exact Or.inr (Or.inl c_6) | exact Or.inr (Or.inr (Or.inl c_6)) | exact Or.inr (Or.inr (Or.inr (Or.inl c_6))) | exact Or.inr (Or.inr (Or.inr (Or.inr c_6))))]), by rw [ht]; exact hP9, va_K.moved hW.alike hK9, hD9⟩, hS.F ht⟩) hS.2.2 dX1_setUp_193
  · skip
    by_cases c_7 : x = (128 : Int32)
    · skip
      refine lv_lookup (off := 102) (tgt := 103) hx hb dX1_setUp_1 (by decide) (by rw [c_7]; decide) (by decide) ?_
      refine lv_aload_n hx hb dX1_setUp_103 rfl (lv_at hl 0 rfl) ?_
      refine lv_aload_n hx hb dX1_setUp_104 rfl (lv_at hl 0 rfl) ?_
      refine va_get (D := (dC, dI)) (ci := 1) (v := .long bl) (C := RX1) (T := TX1) (N := 9) hx hb hw inX1 hown hK hP 0 rfl rfl 2 (by decide) (hw _ w_92aa121c2f) (fun _ h9 => h9) rfl dX1_setUp_105 ?_
      refine lv_iload_n hx hb dX1_setUp_108 rfl (lv_at hl 2 rfl) ?_
      have hPc := hP.sub (ws' := []) [] rfl
      have hKc := hK.sub (tys' := []) [] rfl
      have hZc := (hZ.kept hS.2.1).narrow (B := fun _ => False) (fun _ h => h.elim)
      refine vp_callSl (va_runS (As := [.long bl, .int v]) (rest := [.ref uq]) ⟨hx, hb, hml, hown, hw⟩ (q_withLower l dC dI bl v) (va_cwS 2 hw (gS w_256847efc9 w_761b5837ca w_cf66e99dd3 w_2a3ec8270c) rfl rfl rfl (by decide +kernel) ⟨Nat.le_of_ble_eq_true rfl, Nat.le_of_ble_eq_true rfl⟩) ⟨fun a U g mk q => by obtain ⟨q0, qP, qK, qZ⟩ := q; exact ⟨q0, qP, va_K.moved (u := U) (U := U.calling g mk a) (Vm.Alike.refl U.vm) qK, ZZ.same (u := U) (U := U.calling g mk a) rfl qZ⟩, fun U hU hW => ⟨rfl, by rw [hU]; exact hPc, va_K.moved hW.alike hKc, by rw [hU]; exact ZZ.warm hW hZc⟩⟩ rfl rfl hl.1 rfl (lv_room (Nat.le_of_ble_eq_true rfl)) dX1_setUp_109 ⟨Nat.zero_le _, Nat.zero_le _⟩).run (fun r_8 hr_8 => ?_)
      have hr_8 : r_8 = wLo bl v := hr_8
      refine va_put (D := (dC, dI)) (ci := 1) (v := .long r_8) (ty := .long) (C := RX1) (T := TX1) (N := 9) hx hb hw inX1 tyX1 tyX1_ok nmX1 hown hK hP hD hS 0 rfl rfl 2 (by decide) (hw _ w_92aa121c2f) (fun _ h9 => h9) rfl (by decide +kernel) rfl rfl (Nat.le_of_ble_eq_true rfl) dX1_setUp_112 (fun H locs hP hD hS => ?_)
      have hP : va_P (dC, dI) vwCl [(uq, .inr (1, [.int sz, .int rd, .long r_8, .long of, .long an, .int tk, .int td, .int om, .int oc]))] H := hP
      have hD : va_D A [(uq, .inr (1, [.int sz, .int rd, .long r_8, .long of, .long an, .int tk, .int td, .int om, .int oc]))] := hD
      refine lv_goto (tgt := 193) hx hb dX1_setUp_115 (by decide) ?_
      have hP9 : va_P (dC, dI) vwCl [(uq, .inr (1, [.int sz, .int rd, .long r_8, .long of, .long an, .int tk, .int td, .int om, .int oc]))] H := by exact hP.sub (ws' := [(uq, .inr (1, [.int sz, .int rd, .long r_8, .long of, .long an, .int tk, .int td, .int om, .int oc]))]) [0] rfl
      have hD9 : va_D A [(uq, .inr (1, [.int sz, .int rd, .long r_8, .long of, .long an, .int tk, .int td, .int om, .int oc]))] := by exact hD.sub (ws' := [(uq, .inr (1, [.int sz, .int rd, .long r_8, .long of, .long an, .int tk, .int td, .int om, .int oc]))]) [0] (by decide) rfl
      have hK9 := hK.sub (tys' := []) [] rfl
      exact W.vret hx hb hr (fun t ht hW => ⟨⟨(sz, r_8, of, an), rfl, (by unfold qUp; rw [if_neg (by rw [c_7]; decide), if_neg (by rw [c_7]; decide), if_pos c_7, hr_8]), by rw [ht]; exact hP9, va_K.moved hW.alike hK9, hD9⟩, hS.F ht⟩) hS.2.2 dX1_setUp_193
    · skip
      by_cases c_9 : x = (132 : Int32)
      · skip
        refine lv_lookup (off := 117) (tgt := 118) hx hb dX1_setUp_1 (by decide) (by rw [c_9]; decide) (by decide) ?_
        refine lv_aload_n hx hb dX1_setUp_118 rfl (lv_at hl 0 rfl) ?_
        refine lv_aload_n hx hb dX1_setUp_119 rfl (lv_at hl 0 rfl) ?_
        refine va_get (D := (dC, dI)) (ci := 1) (v := .long bl) (C := RX1) (T := TX1) (N := 9) hx hb hw inX1 hown hK hP 0 rfl rfl 2 (by decide) (hw _ w_92aa121c2f) (fun _ h9 => h9) rfl dX1_setUp_120 ?_
        refine lv_iload_n hx hb dX1_setUp_123 rfl (lv_at hl 2 rfl) ?_
        have hPc := hP.sub (ws' := []) [] rfl
        have hKc := hK.sub (tys' := []) [] rfl
        have hZc := (hZ.kept hS.2.1).narrow (B := fun _ => False) (fun _ h => h.elim)
        refine vp_callSl (va_runS (As := [.long bl, .int v]) (rest := [.ref uq]) ⟨hx, hb, hml, hown, hw⟩ (q_withUpper l dC dI bl v) (va_cwS 2 hw (gS w_92ac5ba515 w_7d4383c839 w_cf66e99dd3 w_d6274e426e) rfl rfl rfl (by decide +kernel) ⟨Nat.le_of_ble_eq_true rfl, Nat.le_of_ble_eq_true rfl⟩) ⟨fun a U g mk q => by obtain ⟨q0, qP, qK, qZ⟩ := q; exact ⟨q0, qP, va_K.moved (u := U) (U := U.calling g mk a) (Vm.Alike.refl U.vm) qK, ZZ.same (u := U) (U := U.calling g mk a) rfl qZ⟩, fun U hU hW => ⟨rfl, by rw [hU]; exact hPc, va_K.moved hW.alike hKc, by rw [hU]; exact ZZ.warm hW hZc⟩⟩ rfl rfl hl.1 rfl (lv_room (Nat.le_of_ble_eq_true rfl)) dX1_setUp_124 ⟨Nat.zero_le _, Nat.zero_le _⟩).run (fun r_10 hr_10 => ?_)
        have hr_10 : r_10 = wUp bl v := hr_10
        refine va_put (D := (dC, dI)) (ci := 1) (v := .long r_10) (ty := .long) (C := RX1) (T := TX1) (N := 9) hx hb hw inX1 tyX1 tyX1_ok nmX1 hown hK hP hD hS 0 rfl rfl 2 (by decide) (hw _ w_92aa121c2f) (fun _ h9 => h9) rfl (by decide +kernel) rfl rfl (Nat.le_of_ble_eq_true rfl) dX1_setUp_127 (fun H locs hP hD hS => ?_)
        have hP : va_P (dC, dI) vwCl [(uq, .inr (1, [.int sz, .int rd, .long r_10, .long of, .long an, .int tk, .int td, .int om, .int oc]))] H := hP
        have hD : va_D A [(uq, .inr (1, [.int sz, .int rd, .long r_10, .long of, .long an, .int tk, .int td, .int om, .int oc]))] := hD
        refine lv_goto (tgt := 193) hx hb dX1_setUp_130 (by decide) ?_
        have hP9 : va_P (dC, dI) vwCl [(uq, .inr (1, [.int sz, .int rd, .long r_10, .long of, .long an, .int tk, .int td, .int om, .int oc]))] H := by exact hP.sub (ws' := [(uq, .inr (1, [.int sz, .int rd, .long r_10, .long of, .long an, .int tk, .int td, .int om, .int oc]))]) [0] rfl
        have hD9 : va_D A [(uq, .inr (1, [.int sz, .int rd, .long r_10, .long of, .long an, .int tk, .int td, .int om, .int oc]))] := by exact hD.sub (ws' := [(uq, .inr (1, [.int sz, .int rd, .long r_10, .long of, .long an, .int tk, .int td, .int om, .int oc]))]) [0] (by decide) rfl
        have hK9 := hK.sub (tys' := []) [] rfl
        exact W.vret hx hb hr (fun t ht hW => ⟨⟨(sz, r_10, of, an), rfl, (by unfold qUp; rw [if_neg (by rw [c_9]; decide), if_neg (by rw [c_9]; decide), if_neg (by rw [c_9]; decide), if_pos c_9, hr_10]), by rw [ht]; exact hP9, va_K.moved hW.alike hK9, hD9⟩, hS.F ht⟩) hS.2.2 dX1_setUp_193
      · skip
        by_cases c_11 : x = (144 : Int32)
        · skip
          refine lv_lookup (off := 132) (tgt := 133) hx hb dX1_setUp_1 (by decide) (by rw [c_11]; decide) (by decide) ?_
          refine lv_aload_n hx hb dX1_setUp_133 rfl (lv_at hl 0 rfl) ?_
          refine lv_aload_n hx hb dX1_setUp_134 rfl (lv_at hl 0 rfl) ?_
          refine va_get (D := (dC, dI)) (ci := 1) (v := .long of) (C := RX1) (T := TX1) (N := 9) hx hb hw inX1 hown hK hP 0 rfl rfl 3 (by decide) (hw _ w_cdd8a4f183) (fun _ h9 => h9) rfl dX1_setUp_135 ?_
          refine lv_iload_n hx hb dX1_setUp_138 rfl (lv_at hl 2 rfl) ?_
          have hPc := hP.sub (ws' := []) [] rfl
          have hKc := hK.sub (tys' := []) [] rfl
          have hZc := (hZ.kept hS.2.1).narrow (B := fun _ => False) (fun _ h => h.elim)
          refine vp_callSl (va_runS (As := [.long of, .int v]) (rest := [.ref uq]) ⟨hx, hb, hml, hown, hw⟩ (q_withLower l dC dI of v) (va_cwS 2 hw (gS w_256847efc9 w_761b5837ca w_cf66e99dd3 w_2a3ec8270c) rfl rfl rfl (by decide +kernel) ⟨Nat.le_of_ble_eq_true rfl, Nat.le_of_ble_eq_true rfl⟩) ⟨fun a U g mk q => by obtain ⟨q0, qP, qK, qZ⟩ := q; exact ⟨q0, qP, va_K.moved (u := U) (U := U.calling g mk a) (Vm.Alike.refl U.vm) qK, ZZ.same (u := U) (U := U.calling g mk a) rfl qZ⟩, fun U hU hW => ⟨rfl, by rw [hU]; exact hPc, va_K.moved hW.alike hKc, by rw [hU]; exact ZZ.warm hW hZc⟩⟩ rfl rfl hl.1 rfl (lv_room (Nat.le_of_ble_eq_true rfl)) dX1_setUp_139 ⟨Nat.zero_le _, Nat.zero_le _⟩).run (fun r_12 hr_12 => ?_)
          have hr_12 : r_12 = wLo of v := hr_12
          refine va_put (D := (dC, dI)) (ci := 1) (v := .long r_12) (ty := .long) (C := RX1) (T := TX1) (N := 9) hx hb hw inX1 tyX1 tyX1_ok nmX1 hown hK hP hD hS 0 rfl rfl 3 (by decide) (hw _ w_cdd8a4f183) (fun _ h9 => h9) rfl (by decide +kernel) rfl rfl (Nat.le_of_ble_eq_true rfl) dX1_setUp_142 (fun H locs hP hD hS => ?_)
          have hP : va_P (dC, dI) vwCl [(uq, .inr (1, [.int sz, .int rd, .long bl, .long r_12, .long an, .int tk, .int td, .int om, .int oc]))] H := hP
          have hD : va_D A [(uq, .inr (1, [.int sz, .int rd, .long bl, .long r_12, .long an, .int tk, .int td, .int om, .int oc]))] := hD
          refine lv_goto (tgt := 193) hx hb dX1_setUp_145 (by decide) ?_
          have hP9 : va_P (dC, dI) vwCl [(uq, .inr (1, [.int sz, .int rd, .long bl, .long r_12, .long an, .int tk, .int td, .int om, .int oc]))] H := by exact hP.sub (ws' := [(uq, .inr (1, [.int sz, .int rd, .long bl, .long r_12, .long an, .int tk, .int td, .int om, .int oc]))]) [0] rfl
          have hD9 : va_D A [(uq, .inr (1, [.int sz, .int rd, .long bl, .long r_12, .long an, .int tk, .int td, .int om, .int oc]))] := by exact hD.sub (ws' := [(uq, .inr (1, [.int sz, .int rd, .long bl, .long r_12, .long an, .int tk, .int td, .int om, .int oc]))]) [0] (by decide) rfl
          have hK9 := hK.sub (tys' := []) [] rfl
          exact W.vret hx hb hr (fun t ht hW => ⟨⟨(sz, bl, r_12, an), rfl, (by unfold qUp; rw [if_neg (by rw [c_11]; decide), if_neg (by rw [c_11]; decide), if_neg (by rw [c_11]; decide), if_neg (by rw [c_11]; decide), if_pos c_11, hr_12]), by rw [ht]; exact hP9, va_K.moved hW.alike hK9, hD9⟩, hS.F ht⟩) hS.2.2 dX1_setUp_193
        · skip
          by_cases c_13 : x = (148 : Int32)
          · skip
            refine lv_lookup (off := 147) (tgt := 148) hx hb dX1_setUp_1 (by decide) (by rw [c_13]; decide) (by decide) ?_
            refine lv_aload_n hx hb dX1_setUp_148 rfl (lv_at hl 0 rfl) ?_
            refine lv_aload_n hx hb dX1_setUp_149 rfl (lv_at hl 0 rfl) ?_
            refine va_get (D := (dC, dI)) (ci := 1) (v := .long of) (C := RX1) (T := TX1) (N := 9) hx hb hw inX1 hown hK hP 0 rfl rfl 3 (by decide) (hw _ w_cdd8a4f183) (fun _ h9 => h9) rfl dX1_setUp_150 ?_
            refine lv_iload_n hx hb dX1_setUp_153 rfl (lv_at hl 2 rfl) ?_
            have hPc := hP.sub (ws' := []) [] rfl
            have hKc := hK.sub (tys' := []) [] rfl
            have hZc := (hZ.kept hS.2.1).narrow (B := fun _ => False) (fun _ h => h.elim)
            refine vp_callSl (va_runS (As := [.long of, .int v]) (rest := [.ref uq]) ⟨hx, hb, hml, hown, hw⟩ (q_withUpper l dC dI of v) (va_cwS 2 hw (gS w_92ac5ba515 w_7d4383c839 w_cf66e99dd3 w_d6274e426e) rfl rfl rfl (by decide +kernel) ⟨Nat.le_of_ble_eq_true rfl, Nat.le_of_ble_eq_true rfl⟩) ⟨fun a U g mk q => by obtain ⟨q0, qP, qK, qZ⟩ := q; exact ⟨q0, qP, va_K.moved (u := U) (U := U.calling g mk a) (Vm.Alike.refl U.vm) qK, ZZ.same (u := U) (U := U.calling g mk a) rfl qZ⟩, fun U hU hW => ⟨rfl, by rw [hU]; exact hPc, va_K.moved hW.alike hKc, by rw [hU]; exact ZZ.warm hW hZc⟩⟩ rfl rfl hl.1 rfl (lv_room (Nat.le_of_ble_eq_true rfl)) dX1_setUp_154 ⟨Nat.zero_le _, Nat.zero_le _⟩).run (fun r_14 hr_14 => ?_)
            have hr_14 : r_14 = wUp of v := hr_14
            refine va_put (D := (dC, dI)) (ci := 1) (v := .long r_14) (ty := .long) (C := RX1) (T := TX1) (N := 9) hx hb hw inX1 tyX1 tyX1_ok nmX1 hown hK hP hD hS 0 rfl rfl 3 (by decide) (hw _ w_cdd8a4f183) (fun _ h9 => h9) rfl (by decide +kernel) rfl rfl (Nat.le_of_ble_eq_true rfl) dX1_setUp_157 (fun H locs hP hD hS => ?_)
            have hP : va_P (dC, dI) vwCl [(uq, .inr (1, [.int sz, .int rd, .long bl, .long r_14, .long an, .int tk, .int td, .int om, .int oc]))] H := hP
            have hD : va_D A [(uq, .inr (1, [.int sz, .int rd, .long bl, .long r_14, .long an, .int tk, .int td, .int om, .int oc]))] := hD
            refine lv_goto (tgt := 193) hx hb dX1_setUp_160 (by decide) ?_
            have hP9 : va_P (dC, dI) vwCl [(uq, .inr (1, [.int sz, .int rd, .long bl, .long r_14, .long an, .int tk, .int td, .int om, .int oc]))] H := by exact hP.sub (ws' := [(uq, .inr (1, [.int sz, .int rd, .long bl, .long r_14, .long an, .int tk, .int td, .int om, .int oc]))]) [0] rfl
            have hD9 : va_D A [(uq, .inr (1, [.int sz, .int rd, .long bl, .long r_14, .long an, .int tk, .int td, .int om, .int oc]))] := by exact hD.sub (ws' := [(uq, .inr (1, [.int sz, .int rd, .long bl, .long r_14, .long an, .int tk, .int td, .int om, .int oc]))]) [0] (by decide) rfl
            have hK9 := hK.sub (tys' := []) [] rfl
            exact W.vret hx hb hr (fun t ht hW => ⟨⟨(sz, bl, r_14, an), rfl, (by unfold qUp; rw [if_neg (by rw [c_13]; decide), if_neg (by rw [c_13]; decide), if_neg (by rw [c_13]; decide), if_neg (by rw [c_13]; decide), if_neg (by rw [c_13]; decide), if_pos c_13, hr_14]), by rw [ht]; exact hP9, va_K.moved hW.alike hK9, hD9⟩, hS.F ht⟩) hS.2.2 dX1_setUp_193
          · skip
            by_cases c_15 : x = (160 : Int32)
            · skip
              refine lv_lookup (off := 162) (tgt := 163) hx hb dX1_setUp_1 (by decide) (by rw [c_15]; decide) (by decide) ?_
              refine lv_aload_n hx hb dX1_setUp_163 rfl (lv_at hl 0 rfl) ?_
              refine lv_aload_n hx hb dX1_setUp_164 rfl (lv_at hl 0 rfl) ?_
              refine va_get (D := (dC, dI)) (ci := 1) (v := .long an) (C := RX1) (T := TX1) (N := 9) hx hb hw inX1 hown hK hP 0 rfl rfl 4 (by decide) (hw _ w_275797ba51) (fun _ h9 => h9) rfl dX1_setUp_165 ?_
              refine lv_iload_n hx hb dX1_setUp_168 rfl (lv_at hl 2 rfl) ?_
              have hPc := hP.sub (ws' := []) [] rfl
              have hKc := hK.sub (tys' := []) [] rfl
              have hZc := (hZ.kept hS.2.1).narrow (B := fun _ => False) (fun _ h => h.elim)
              refine vp_callSl (va_runS (As := [.long an, .int v]) (rest := [.ref uq]) ⟨hx, hb, hml, hown, hw⟩ (q_withLower l dC dI an v) (va_cwS 2 hw (gS w_256847efc9 w_761b5837ca w_cf66e99dd3 w_2a3ec8270c) rfl rfl rfl (by decide +kernel) ⟨Nat.le_of_ble_eq_true rfl, Nat.le_of_ble_eq_true rfl⟩) ⟨fun a U g mk q => by obtain ⟨q0, qP, qK, qZ⟩ := q; exact ⟨q0, qP, va_K.moved (u := U) (U := U.calling g mk a) (Vm.Alike.refl U.vm) qK, ZZ.same (u := U) (U := U.calling g mk a) rfl qZ⟩, fun U hU hW => ⟨rfl, by rw [hU]; exact hPc, va_K.moved hW.alike hKc, by rw [hU]; exact ZZ.warm hW hZc⟩⟩ rfl rfl hl.1 rfl (lv_room (Nat.le_of_ble_eq_true rfl)) dX1_setUp_169 ⟨Nat.zero_le _, Nat.zero_le _⟩).run (fun r_16 hr_16 => ?_)
              have hr_16 : r_16 = wLo an v := hr_16
              refine va_put (D := (dC, dI)) (ci := 1) (v := .long r_16) (ty := .long) (C := RX1) (T := TX1) (N := 9) hx hb hw inX1 tyX1 tyX1_ok nmX1 hown hK hP hD hS 0 rfl rfl 4 (by decide) (hw _ w_275797ba51) (fun _ h9 => h9) rfl (by decide +kernel) rfl rfl (Nat.le_of_ble_eq_true rfl) dX1_setUp_172 (fun H locs hP hD hS => ?_)
              have hP : va_P (dC, dI) vwCl [(uq, .inr (1, [.int sz, .int rd, .long bl, .long of, .long r_16, .int tk, .int td, .int om, .int oc]))] H := hP
              have hD : va_D A [(uq, .inr (1, [.int sz, .int rd, .long bl, .long of, .long r_16, .int tk, .int td, .int om, .int oc]))] := hD
              refine lv_goto (tgt := 193) hx hb dX1_setUp_175 (by decide) ?_
              have hP9 : va_P (dC, dI) vwCl [(uq, .inr (1, [.int sz, .int rd, .long bl, .long of, .long r_16, .int tk, .int td, .int om, .int oc]))] H := by exact hP.sub (ws' := [(uq, .inr (1, [.int sz, .int rd, .long bl, .long of, .long r_16, .int tk, .int td, .int om, .int oc]))]) [0] rfl
              have hD9 : va_D A [(uq, .inr (1, [.int sz, .int rd, .long bl, .long of, .long r_16, .int tk, .int td, .int om, .int oc]))] := by exact hD.sub (ws' := [(uq, .inr (1, [.int sz, .int rd, .long bl, .long of, .long r_16, .int tk, .int td, .int om, .int oc]))]) [0] (by decide) rfl
              have hK9 := hK.sub (tys' := []) [] rfl
              exact W.vret hx hb hr (fun t ht hW => ⟨⟨(sz, bl, of, r_16), rfl, (by unfold qUp; rw [if_neg (by rw [c_15]; decide), if_neg (by rw [c_15]; decide), if_neg (by rw [c_15]; decide), if_neg (by rw [c_15]; decide), if_neg (by rw [c_15]; decide), if_neg (by rw [c_15]; decide), if_pos c_15, hr_16]), by rw [ht]; exact hP9, va_K.moved hW.alike hK9, hD9⟩, hS.F ht⟩) hS.2.2 dX1_setUp_193
            · skip
              by_cases c_17 : x = (164 : Int32)
              · skip
                refine lv_lookup (off := 177) (tgt := 178) hx hb dX1_setUp_1 (by decide) (by rw [c_17]; decide) (by decide) ?_
                refine lv_aload_n hx hb dX1_setUp_178 rfl (lv_at hl 0 rfl) ?_
                refine lv_aload_n hx hb dX1_setUp_179 rfl (lv_at hl 0 rfl) ?_
                refine va_get (D := (dC, dI)) (ci := 1) (v := .long an) (C := RX1) (T := TX1) (N := 9) hx hb hw inX1 hown hK hP 0 rfl rfl 4 (by decide) (hw _ w_275797ba51) (fun _ h9 => h9) rfl dX1_setUp_180 ?_
                refine lv_iload_n hx hb dX1_setUp_183 rfl (lv_at hl 2 rfl) ?_
                have hPc := hP.sub (ws' := []) [] rfl
                have hKc := hK.sub (tys' := []) [] rfl
                have hZc := (hZ.kept hS.2.1).narrow (B := fun _ => False) (fun _ h => h.elim)
                refine vp_callSl (va_runS (As := [.long an, .int v]) (rest := [.ref uq]) ⟨hx, hb, hml, hown, hw⟩ (q_withUpper l dC dI an v) (va_cwS 2 hw (gS w_92ac5ba515 w_7d4383c839 w_cf66e99dd3 w_d6274e426e) rfl rfl rfl (by decide +kernel) ⟨Nat.le_of_ble_eq_true rfl, Nat.le_of_ble_eq_true rfl⟩) ⟨fun a U g mk q => by obtain ⟨q0, qP, qK, qZ⟩ := q; exact ⟨q0, qP, va_K.moved (u := U) (U := U.calling g mk a) (Vm.Alike.refl U.vm) qK, ZZ.same (u := U) (U := U.calling g mk a) rfl qZ⟩, fun U hU hW => ⟨rfl, by rw [hU]; exact hPc, va_K.moved hW.alike hKc, by rw [hU]; exact ZZ.warm hW hZc⟩⟩ rfl rfl hl.1 rfl (lv_room (Nat.le_of_ble_eq_true rfl)) dX1_setUp_184 ⟨Nat.zero_le _, Nat.zero_le _⟩).run (fun r_18 hr_18 => ?_)
                have hr_18 : r_18 = wUp an v := hr_18
                refine va_put (D := (dC, dI)) (ci := 1) (v := .long r_18) (ty := .long) (C := RX1) (T := TX1) (N := 9) hx hb hw inX1 tyX1 tyX1_ok nmX1 hown hK hP hD hS 0 rfl rfl 4 (by decide) (hw _ w_275797ba51) (fun _ h9 => h9) rfl (by decide +kernel) rfl rfl (Nat.le_of_ble_eq_true rfl) dX1_setUp_187 (fun H locs hP hD hS => ?_)
                have hP : va_P (dC, dI) vwCl [(uq, .inr (1, [.int sz, .int rd, .long bl, .long of, .long r_18, .int tk, .int td, .int om, .int oc]))] H := hP
                have hD : va_D A [(uq, .inr (1, [.int sz, .int rd, .long bl, .long of, .long r_18, .int tk, .int td, .int om, .int oc]))] := hD
                refine lv_goto (tgt := 193) hx hb dX1_setUp_190 (by decide) ?_
                have hP9 : va_P (dC, dI) vwCl [(uq, .inr (1, [.int sz, .int rd, .long bl, .long of, .long r_18, .int tk, .int td, .int om, .int oc]))] H := by exact hP.sub (ws' := [(uq, .inr (1, [.int sz, .int rd, .long bl, .long of, .long r_18, .int tk, .int td, .int om, .int oc]))]) [0] rfl
                have hD9 : va_D A [(uq, .inr (1, [.int sz, .int rd, .long bl, .long of, .long r_18, .int tk, .int td, .int om, .int oc]))] := by exact hD.sub (ws' := [(uq, .inr (1, [.int sz, .int rd, .long bl, .long of, .long r_18, .int tk, .int td, .int om, .int oc]))]) [0] (by decide) rfl
                have hK9 := hK.sub (tys' := []) [] rfl
                exact W.vret hx hb hr (fun t ht hW => ⟨⟨(sz, bl, of, r_18), rfl, (by unfold qUp; rw [if_neg (by rw [c_17]; decide), if_neg (by rw [c_17]; decide), if_neg (by rw [c_17]; decide), if_neg (by rw [c_17]; decide), if_neg (by rw [c_17]; decide), if_neg (by rw [c_17]; decide), if_neg (by rw [c_17]; decide), if_pos c_17, hr_18]), by rw [ht]; exact hP9, va_K.moved hW.alike hK9, hD9⟩, hS.F ht⟩) hS.2.2 dX1_setUp_193
              · skip
                refine lv_lookup (off := 192) (tgt := 193) hx hb dX1_setUp_1 (by decide) (show Op.lookupswitch.offset [(56, 67), (128, 102), (132, 117), (144, 132), (148, 147), (160, 162), (164, 177)] 192 (x).toInt = 192 by rw [lv_osw c_1 (by decide), lv_osw c_7 (by decide), lv_osw c_9 (by decide), lv_osw c_11 (by decide), lv_osw c_13 (by decide), lv_osw c_15 (by decide), lv_osw c_17 (by decide)]; rfl) (by decide) ?_
                have hP9 : va_P (dC, dI) vwCl [(uq, .inr (1, [.int sz, .int rd, .long bl, .long of, .long an, .int tk, .int td, .int om, .int oc]))] s.heap := by exact hP.sub (ws' := [(uq, .inr (1, [.int sz, .int rd, .long bl, .long of, .long an, .int tk, .int td, .int om, .int oc]))]) [0] rfl
                have hD9 : va_D A [(uq, .inr (1, [.int sz, .int rd, .long bl, .long of, .long an, .int tk, .int td, .int om, .int oc]))] := by exact hD.sub (ws' := [(uq, .inr (1, [.int sz, .int rd, .long bl, .long of, .long an, .int tk, .int td, .int om, .int oc]))]) [0] (by decide) rfl
                have hK9 := hK.sub (tys' := []) [] rfl
                exact W.vret hx hb hr (fun t ht hW => ⟨⟨(sz, bl, of, an), rfl, (by unfold qUp; rw [if_neg c_1, if_neg h68, if_neg c_7, if_neg c_9, if_neg c_11, if_neg c_13, if_neg c_15, if_neg c_17]), by rw [ht]; exact hP9, va_K.moved hW.alike hK9, hD9⟩, hS.F ht⟩) hS.2.2 dX1_setUp_193
set_option maxHeartbeats 4000000 in
set_option maxRecDepth 100000 in
/-- Queue.set -/
theorem q_set (l : Launch) (dC : Nat → ClassId) (dI : Nat → Nat → Nat) (uq : Nat) (sz : Int32) (rd : Int32) (bl : Int64) (of : Int64) (an : Int64) (tk : Int32) (td : Int32) (om : Int32) (oc : Int32) (x : Int32) (v : Int32) (zS : Nat) : Met l yX1_set wsX1_set ({ frames := 2, cells := 0, slots := 0, locals := 80 }) (va_Pc [.ref uq, .int x, .int v] (fun U => U.heap.size = zS ∧ va_P (dC, dI) vwCl [(uq, .inr (1, [.int sz, .int rd, .long bl, .long of, .long an, .int tk, .int td, .int om, .int oc]))] U.heap ∧ va_K (dC, dI) vwCl [] U ∧ va_D (fun _ => True) [(uq, .inr (1, [.int sz, .int rd, .long bl, .long of, .long an, .int tk, .int td, .int om, .int oc]))] ∧ ZZ (va_A [(uq, .inr (1, [.int sz, .int rd, .long bl, .long of, .long an, .int tk, .int td, .int om, .int oc]))] zS) U U.heap)) (va_Qv (fun (u : Int32 × Int32 × Int64 × Int64 × Int64) => match u with | (sz2, rd2, bl2, of2, an2) => (sz2, rd2, bl2, of2, an2) = qSet x v 0 sz rd bl of an) (fun (u : Int32 × Int32 × Int64 × Int64 × Int64) (t : State) => match u with | (sz2, rd2, bl2, of2, an2) => va_P (dC, dI) vwCl [(uq, .inr (1, [.int sz2, .int rd2, .long bl2, .long of2, .long an2, .int tk, .int td, .int om, .int oc]))] t.heap ∧ va_K (dC, dI) vwCl [] t ∧ va_D (va_A [(uq, .inr (1, [.int sz, .int rd, .long bl, .long of, .long an, .int tk, .int td, .int om, .int oc]))] zS) [(uq, .inr (1, [.int sz2, .int rd2, .long bl2, .long of2, .long an2, .int tk, .int td, .int om, .int oc]))]) (va_A [(uq, .inr (1, [.int sz, .int rd, .long bl, .long of, .long an, .int tk, .int td, .int om, .int oc]))] zS)) 0 0 (va_A [(uq, .inr (1, [.int sz, .int rd, .long bl, .long of, .long an, .int tk, .int td, .int om, .int oc]))] zS) := by
  refine Met.ofW (cc := cX1_set) (maxL := 3) (ret := (none)) (by decide) rfl ?_
  intro p e s m args below meth c s₁ B hml hv
  obtain ⟨rfl, hsz, hP, hK, hD0, hZ⟩ := hv
  have hx := B.exec
  have hb := B.bytes
  have hr := B.returns
  have hts := atoms_spec (ws := wsX1_set) B.pre
  have hw : ∀ w ∈ WW, w.before _ s = true := fun w h => hts w (List.mem_cons_of_mem _ h)
  have hown : s.vm.findClass RX1 = some m.cls := findClass_of_methodNamed B.named
  have hlocks := B.notSynchronized
  subst hsz
  have hD := hD0.self (sz := s.heap.size)
  generalize hAe : va_A [(uq, .inr (1, [.int sz, .int rd, .long bl, .long of, .long an, .int tk, .int td, .int om, .int oc]))] s.heap.size = A at hD hZ ⊢
  have hA : ∀ q : Nat, s.heap.size ≤ q → A q := fun q h => by rw [← hAe]; exact Or.inr h
  have hS : va_S A s.heap s.heap [] := va_S.rf
  have hP : va_P (dC, dI) vwCl [(uq, .inr (1, [.int sz, .int rd, .long bl, .long of, .long an, .int tk, .int td, .int om, .int oc]))] s.heap := hP
  have hl := lv_entry ([.ref uq, .int x, .int v]) (n := 3) (Nat.le_of_ble_eq_true rfl)
  rw [lg_entry_eq]
  generalize (lg_sl ([.ref uq, .int x, .int v]) ++ List.replicate (3 - (lg_sl ([.ref uq, .int x, .int v])).length) Slot.unset).toArray = ls at hl ⊢
  have hl : lv_has ls 3 [(0, .ref uq), (1, .int x), (2, .int v)] := hl
  refine lv_iload_n hx hb dX1_set_0 rfl (lv_at hl 1 rfl) ?_
  refine lv_bipush (v := 68) hx hb dX1_set_1 (by decide) ?_
  refine lv_icmp_ne (tgt := 24) hx hb dX1_set_3 (by decide) (fun c_1 => ?_) (fun c_1 => ?_)
  · skip
    refine lv_aload_n hx hb dX1_set_24 rfl (lv_at hl 0 rfl) ?_
    refine va_get (D := (dC, dI)) (ci := 1) (v := .int rd) (C := RX1) (T := TX1) (N := 9) hx hb hw inX1 hown hK hP 0 rfl rfl 1 (by decide) (hw _ w_7364a20e3e) (fun _ h9 => h9) rfl dX1_set_25 ?_
    refine lv_if_ne (tgt := 37) hx hb dX1_set_28 (by decide) (fun c_2 => ?_) (fun c_2 => ?_)
    · skip
      have hP9 : va_P (dC, dI) vwCl [(uq, .inr (1, [.int sz, .int rd, .long bl, .long of, .long an, .int tk, .int td, .int om, .int oc]))] s.heap := by exact hP.sub (ws' := [(uq, .inr (1, [.int sz, .int rd, .long bl, .long of, .long an, .int tk, .int td, .int om, .int oc]))]) [0] rfl
      have hD9 : va_D A [(uq, .inr (1, [.int sz, .int rd, .long bl, .long of, .long an, .int tk, .int td, .int om, .int oc]))] := by exact hD.sub (ws' := [(uq, .inr (1, [.int sz, .int rd, .long bl, .long of, .long an, .int tk, .int td, .int om, .int oc]))]) [0] (by decide) rfl
      have hK9 := hK.sub (tys' := []) [] rfl
      exact W.vret hx hb hr (fun t ht hW => ⟨⟨(sz, rd, bl, of, an), rfl, (by unfold qSet; rw [if_neg (fun z => z.2.elim c_2 c_1)]), by rw [ht]; exact hP9, va_K.moved hW.alike hK9, hD9⟩, hS.F ht⟩) hS.2.2 dX1_set_37
    · skip
      refine lv_aload_n hx hb dX1_set_31 rfl (lv_at hl 0 rfl) ?_
      refine lv_iload_n hx hb dX1_set_32 rfl (lv_at hl 1 rfl) ?_
      refine lv_iload_n hx hb dX1_set_33 rfl (lv_at hl 2 rfl) ?_
      have hPc := hP.sub (ws' := [(uq, .inr (1, [.int sz, .int rd, .long bl, .long of, .long an, .int tk, .int td, .int om, .int oc]))]) [0] rfl
      have hKc := hK.sub (tys' := []) [] rfl
      have hDc := hD.sub (ws' := [(uq, .inr (1, [.int sz, .int rd, .long bl, .long of, .long an, .int tk, .int td, .int om, .int oc]))]) [0] (by decide) rfl
      have hFc := va_free (wc := [(uq, .inr (1, [.int sz, .int rd, .long bl, .long of, .long an, .int tk, .int td, .int om, .int oc]))]) hD hS hA [0] rfl
      have hZc : ZZ (va_A [(uq, .inr (1, [.int sz, .int rd, .long bl, .long of, .long an, .int tk, .int td, .int om, .int oc]))] s.heap.size) s s.heap := (hZ.kept hS.2.1).narrow hFc
      refine va_callv (va_runV (As := [.int x, .int v]) (rest := []) ⟨hx, hb, hml, hown, hw⟩ (q_setUp l dC dI uq sz rd bl of an tk td om oc x v s.heap.size c_1) (cwV 2 hw (gV w_7d5040bb89 w_c9ff491ddd w_aeddf1a29b w_cf66e99dd3 w_8fa9af6fb9) rfl rfl rfl (by decide +kernel) ⟨Nat.le_of_ble_eq_true rfl, Nat.le_of_ble_eq_true rfl⟩) ⟨fun a U g mk q => by obtain ⟨q0, q1, qP, qK, qD, qZ⟩ := q; exact ⟨q0, q1, qP, va_K.moved (u := U) (U := U.calling g mk a) (Vm.Alike.refl U.vm) qK, qD, ZZ.same (u := U) (U := U.calling g mk a) rfl qZ⟩, va_recv hKc hPc (ci := 1) (q0 := 0) rfl rfl, fun U hU hW => ⟨rfl, by rw [hU], by rw [hU]; exact hPc, va_K.moved hW.alike hKc, hDc.weaken (fun _ _ _ _ => trivial), by rw [hU]; exact ZZ.warm hW hZc⟩⟩ rfl rfl hl.1 rfl (lv_room (Nat.le_of_ble_eq_true rfl)) dX1_set_34 ⟨Nat.zero_le _, Nat.zero_le _⟩) hS (fun q _ h => hFc q h) hFc (fun u t H1 locs ht hvm hw2 hB hz1 hk1 hS => ?_)
      obtain ⟨sz2_3, bl2_4, of2_5, an2_6⟩ := u
      obtain ⟨hP1, hK1, hD1⟩ := hB
      rw [ht] at hP1
      have hK1 := va_K.moved hvm.symm hK1
      try dsimp only at hw2
      obtain ⟨hP, hD⟩ := va_join (wr := []) (w1 := [(uq, .inr (1, [.int sz2_3, .int rd, .long bl2_4, .long of2_5, .long an2_6, .int tk, .int td, .int om, .int oc]))]) hP hD [0] [] rfl rfl (by decide) (by decide) hk1 hFc hP1 hD1
      generalize H1 = H at hP hS hk1 ⊢
      have hP : va_P (dC, dI) vwCl [(uq, .inr (1, [.int sz2_3, .int rd, .long bl2_4, .long of2_5, .long an2_6, .int tk, .int td, .int om, .int oc]))] H := hP
      have hD : va_D A [(uq, .inr (1, [.int sz2_3, .int rd, .long bl2_4, .long of2_5, .long an2_6, .int tk, .int td, .int om, .int oc]))] := hD
      have hw_7 : (sz2_3, rd, bl2_4, of2_5, an2_6) = qUp x v sz rd bl of an := hw2
      have hP9 : va_P (dC, dI) vwCl [(uq, .inr (1, [.int sz2_3, .int rd, .long bl2_4, .long of2_5, .long an2_6, .int tk, .int td, .int om, .int oc]))] H := by exact hP.sub (ws' := [(uq, .inr (1, [.int sz2_3, .int rd, .long bl2_4, .long of2_5, .long an2_6, .int tk, .int td, .int om, .int oc]))]) [0] rfl
      have hD9 : va_D A [(uq, .inr (1, [.int sz2_3, .int rd, .long bl2_4, .long of2_5, .long an2_6, .int tk, .int td, .int om, .int oc]))] := by exact hD.sub (ws' := [(uq, .inr (1, [.int sz2_3, .int rd, .long bl2_4, .long of2_5, .long an2_6, .int tk, .int td, .int om, .int oc]))]) [0] (by decide) rfl
      have hK9 := hK.sub (tys' := []) [] rfl
      exact W.vret hx hb hr (fun t ht hW => ⟨⟨(sz2_3, rd, bl2_4, of2_5, an2_6), rfl, (by unfold qSet; rw [if_pos ⟨rfl, Or.inl c_2⟩]; exact hw_7), by rw [ht]; exact hP9, va_K.moved hW.alike hK9, hD9⟩, hS.F ht⟩) hS.2.2 dX1_set_37
  · skip
    refine lv_aload_n hx hb dX1_set_6 rfl (lv_at hl 0 rfl) ?_
    refine lv_iload_n hx hb dX1_set_7 rfl (lv_at hl 2 rfl) ?_
    refine lv_iconst (v := 1) hx hb dX1_set_8 (by decide) ?_
    refine lv_iand hx hb dX1_set_9 ?_
    refine lv_if_eq (tgt := 17) hx hb dX1_set_10 (by decide) (fun c_8 => ?_) (fun c_8 => ?_)
    · skip
      refine lv_iconst (v := 0) hx hb dX1_set_17 (by decide) ?_
      refine va_put (D := (dC, dI)) (ci := 1) (v := .int 0) (ty := .boolean) (C := RX1) (T := TX1) (N := 9) hx hb hw inX1 tyX1 tyX1_ok nmX1 hown hK hP hD hS 0 rfl rfl 1 (by decide) (hw _ w_7364a20e3e) (fun _ h9 => h9) rfl (by decide +kernel) rfl rfl (Nat.le_of_ble_eq_true rfl) dX1_set_18 (fun H locs hP hD hS => ?_)
      have hP : va_P (dC, dI) vwCl [(uq, .inr (1, [.int sz, .int 0, .long bl, .long of, .long an, .int tk, .int td, .int om, .int oc]))] H := hP
      have hD : va_D A [(uq, .inr (1, [.int sz, .int 0, .long bl, .long of, .long an, .int tk, .int td, .int om, .int oc]))] := hD
      refine lv_goto (tgt := 37) hx hb dX1_set_21 (by decide) ?_
      have hP9 : va_P (dC, dI) vwCl [(uq, .inr (1, [.int sz, .int 0, .long bl, .long of, .long an, .int tk, .int td, .int om, .int oc]))] H := by exact hP.sub (ws' := [(uq, .inr (1, [.int sz, .int 0, .long bl, .long of, .long an, .int tk, .int td, .int om, .int oc]))]) [0] rfl
      have hD9 : va_D A [(uq, .inr (1, [.int sz, .int 0, .long bl, .long of, .long an, .int tk, .int td, .int om, .int oc]))] := by exact hD.sub (ws' := [(uq, .inr (1, [.int sz, .int 0, .long bl, .long of, .long an, .int tk, .int td, .int om, .int oc]))]) [0] (by decide) rfl
      have hK9 := hK.sub (tys' := []) [] rfl
      exact W.vret hx hb hr (fun t ht hW => ⟨⟨(sz, 0, bl, of, an), rfl, (by unfold qSet qUp; rw [if_pos ⟨rfl, Or.inr c_1⟩, if_neg (by rw [c_1]; decide), if_pos c_1, if_pos c_8]), by rw [ht]; exact hP9, va_K.moved hW.alike hK9, hD9⟩, hS.F ht⟩) hS.2.2 dX1_set_37
    · skip
      refine lv_iconst (v := 1) hx hb dX1_set_13 (by decide) ?_
      refine lv_goto (tgt := 18) hx hb dX1_set_14 (by decide) ?_
      refine va_put (D := (dC, dI)) (ci := 1) (v := .int 1) (ty := .boolean) (C := RX1) (T := TX1) (N := 9) hx hb hw inX1 tyX1 tyX1_ok nmX1 hown hK hP hD hS 0 rfl rfl 1 (by decide) (hw _ w_7364a20e3e) (fun _ h9 => h9) rfl (by decide +kernel) rfl rfl (Nat.le_of_ble_eq_true rfl) dX1_set_18 (fun H locs hP hD hS => ?_)
      have hP : va_P (dC, dI) vwCl [(uq, .inr (1, [.int sz, .int 1, .long bl, .long of, .long an, .int tk, .int td, .int om, .int oc]))] H := hP
      have hD : va_D A [(uq, .inr (1, [.int sz, .int 1, .long bl, .long of, .long an, .int tk, .int td, .int om, .int oc]))] := hD
      refine lv_goto (tgt := 37) hx hb dX1_set_21 (by decide) ?_
      have hP9 : va_P (dC, dI) vwCl [(uq, .inr (1, [.int sz, .int 1, .long bl, .long of, .long an, .int tk, .int td, .int om, .int oc]))] H := by exact hP.sub (ws' := [(uq, .inr (1, [.int sz, .int 1, .long bl, .long of, .long an, .int tk, .int td, .int om, .int oc]))]) [0] rfl
      have hD9 : va_D A [(uq, .inr (1, [.int sz, .int 1, .long bl, .long of, .long an, .int tk, .int td, .int om, .int oc]))] := by exact hD.sub (ws' := [(uq, .inr (1, [.int sz, .int 1, .long bl, .long of, .long an, .int tk, .int td, .int om, .int oc]))]) [0] (by decide) rfl
      have hK9 := hK.sub (tys' := []) [] rfl
      exact W.vret hx hb hr (fun t ht hW => ⟨⟨(sz, 1, bl, of, an), rfl, (by unfold qSet qUp; rw [if_pos ⟨rfl, Or.inr c_1⟩, if_neg (by rw [c_1]; decide), if_pos c_1, if_neg c_8]), by rw [ht]; exact hP9, va_K.moved hW.alike hK9, hD9⟩, hS.F ht⟩) hS.2.2 dX1_set_37
