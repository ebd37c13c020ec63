set_option maxHeartbeats 4000000 in
set_option maxRecDepth 100000 in
/-- the law's cell, at the script's first place -/
theorem l_cell (l : Launch) (sb L : Nat) (xs : Nat → Int32) (hL : L ≤ 3073) : Met l yL_cell wsL_cell ({ frames := 0, cells := 0, slots := 0, locals := 0 }) (va_Pc [.ref sb, .int 0] (fun U => sb < U.heap.size ∧ va_X sb L xs U U.heap)) (vp_Si (fun r => r = ceV L xs)) 0 0 (fun _ => False) := by
  refine Met.ofW (cc := cL_cell) (maxL := 2) (ret := (some .int)) (by decide) rfl ?_
  intro p e s m args below meth c s₁ B hml hv
  obtain ⟨rfl, hbl, hX⟩ := hv
  have hx := B.exec
  have hb := B.bytes
  have hr := B.returns
  have hS : va_S (fun _ => False) s.heap s.heap [] := va_S.rf
  have hbA : ¬ (fun _ : Nat => False) sb := fun h => h
  have hl := lv_entry ([.ref sb, .int 0]) (n := 2) (Nat.le_of_ble_eq_true rfl)
  rw [lg_entry_eq]
  generalize (lg_sl ([.ref sb, .int 0]) ++ List.replicate (2 - (lg_sl ([.ref sb, .int 0])).length) Slot.unset).toArray = ls at hl ⊢
  have hl : lv_has ls 2 [(0, .ref sb), (1, .int 0)] := hl
  refine lv_iload_n hx hb dL_cell_0 rfl (lv_at hl 1 rfl) ?_
  refine lv_aload_n hx hb dL_cell_1 rfl (lv_at hl 0 rfl) ?_
  refine va_slen hx hb hX hbl hbA hS dL_cell_2 ?_
  refine lv_icmp_ge (tgt := 12) hx hb dL_cell_3 (by decide) (fun c_1 => ?_) (fun c_1 => ?_)
  · have h0 : ¬ 0 < L := fun z => absurd c_1 (by rw [show Int32.ofNat L = nI L from rfl, ← nI_0, nI_leI (by omega) (by omega)]; omega)
    refine lv_iconst (v := 0) hx hb dL_cell_12 (by decide) ?_
    exact W.iret (v := 0) hx hb hr (fun t ht hW => ⟨_, rfl, (if_neg h0).symm, ht⟩) t_nil dL_cell_13
  · have h0 : 0 < L := Nat.pos_of_ne_zero (fun z => c_1 (by rw [z]; decide))
    refine lv_aload_n hx hb dL_cell_6 rfl (lv_at hl 0 rfl) ?_
    refine lv_iload_n hx hb dL_cell_7 rfl (lv_at hl 1 rfl) ?_
    refine va_sld hx hb hX hbl hbA hS (vp_in_nI (n := 0) h0 (by omega)) dL_cell_8 ?_
    refine lv_goto (tgt := 13) hx hb dL_cell_9 (by decide) ?_
    exact W.iret (v := xs (0 : Int32).toNatClampNeg) hx hb hr (fun t ht hW => ⟨_, rfl, (if_pos h0).symm, ht⟩) t_nil dL_cell_13
set_option maxHeartbeats 8000000 in
set_option maxRecDepth 100000 in
/-- THE LAW, from its entry -/
theorem ref_start {p : Program} {e : Env} {s : State} {m : MethodId} {below : List Frame} {meth : Method} {c : Code} (l : Launch) (hst : l.stackTraces = false) {sb L : Nat} {xs : Nat → Int32} (hL : L ≤ 3073) (C0 : lw_At p s m meth c sb L xs) (K : Nat) (hLK : L = 7 + 6 * K) (hkd : xs (nI (1 + 6 * K)).toNatClampNeg &&& 15 = 8) (hdf : df_8 (secN (ceV L xs)) xs (nI (1 + 6 * K)) (trc spC (secN (ceV L xs)) xs K) (trc spM (secN (ceV L xs)) xs K)) : W p l e room_1 s m #[Value.ref sb] below meth c s.heap [] 0 0 (lw_Z0 below #[Value.ref sb] s) (entryFrame m ([Value.ref sb] : List Value).toArray 8) := by
  obtain ⟨hx, hb, hr, hml, hown, hts, hX, hbl, hlocks, hgv⟩ := id C0
  have hw : ∀ w ∈ WW, w.before #[Value.ref sb] s = true := fun w h => hts w (ww_of h).1
  have hL3 : L ≤ 3073 := by omega
  have hse9 := secN_le (ceV L xs)
  obtain ⟨A, hAe⟩ : ∃ A : Nat → Prop, A = fun q : Nat => s.heap.size ≤ q := ⟨_, rfl⟩
  have hA : ∀ q : Nat, s.heap.size ≤ q → A q := fun q h => by rw [hAe]; exact h
  have hAs : ∀ q : Nat, A q → s.heap.size ≤ q := fun q h => by rw [hAe] at h; exact h
  have hbA : ¬ A sb := fun h => absurd (hAs _ h) (Nat.not_le.mpr hbl)
  have hZ : ZZ A s s.heap := zz_start hts hgv A (fun a h z => absurd (hAs _ z) (Nat.not_le.mpr h))
  obtain ⟨c0, iS0, hKn0⟩ := u_known (C := RX0) (T := TX0) (N := 1) (n := 1) hw inX0 (hw _ w_69b5e4d245)
  obtain ⟨c1, iS1, hKn1⟩ := u_known (C := RX1) (T := TX1) (N := 9) (n := 9) hw inX1 (hw _ w_bb7dc62f0c)
  obtain ⟨c2, iS2, hKn2⟩ := u_known (C := RX2) (T := TX2) (N := 5) (n := 5) hw inX2 (hw _ w_36c005349e)
  obtain ⟨c3, iS3, hKn3⟩ := u_known (C := RX3) (T := TX3) (N := 11) (n := 11) hw inX3 (hw _ w_c22586c487)
  obtain ⟨c4, iS4, hKn4⟩ := u_known (C := RX4) (T := TX4) (N := 21) (n := 21) hw inX4 (hw _ w_a154da7429)
  obtain ⟨dC, dI, hKc⟩ : ∃ (dC : Nat → ClassId) (dI : Nat → Nat → Nat), ∀ (k : Nat) (q : vw_C), vwCl[k]? = some q → u_Kn s q.1 q.2.1 q.2.2 (dC k) (dI k) := by
    refine ⟨fun k => if k = 0 then c0 else if k = 1 then c1 else if k = 2 then c2 else if k = 3 then c3 else c4, fun k => if k = 0 then iS0 else if k = 1 then iS1 else if k = 2 then iS2 else if k = 3 then iS3 else iS4, ?_⟩
    intro k q hq
    match k, hq with
    | 0, hq => cases hq; exact hKn0
    | 1, hq => cases hq; exact hKn1
    | 2, hq => cases hq; exact hKn2
    | 3, hq => cases hq; exact hKn3
    | 4, hq => cases hq; exact hKn4
    | k + 5, hq => simp [vwCl] at hq
  have hS : va_S A s.heap s.heap [] := va_S.rf
  have hK : va_K (dC, dI) vwCl [] s := ⟨hKc, fun k q h => by simp at h⟩
  have hP : va_P (dC, dI) vwCl [] s.heap := fun k q h => by simp at h
  have hD : va_D A [] := ⟨fun i j p q h => by simp at h, fun k q h => by simp at h⟩
  have hl := lv_entry ([.ref sb]) (n := 8) (Nat.le_of_ble_eq_true rfl)
  rw [lg_entry_eq]
  generalize (lg_sl ([.ref sb]) ++ List.replicate (8 - (lg_sl ([.ref sb])).length) Slot.unset).toArray = ls at hl ⊢
  have hl : lv_has ls 8 [(0, .ref sb)] := hl
  refine va_new (ci := 3) (fs := [.int 0, .null, .null, .null, .null, .int 0, .int 0, .int 0, .int 0, .int 0, .int 0]) (C := RX3) (T := TX3) (N := 11) hx hb hw inX3 tyX3 tyX3_ok hown (hw _ w_75f9a26a27) (hw _ w_c22586c487) (hw _ w_106b72596f) hK hP hD hS hA rfl (fun j hj => by rcases (show j = 0 ∨ j = 1 ∨ j = 2 ∨ j = 3 ∨ j = 4 ∨ j = 5 ∨ j = 6 ∨ j = 7 ∨ j = 8 ∨ j = 9 ∨ j = 10 by omega) with rfl | rfl | rfl | rfl | rfl | rfl | rfl | rfl | rfl | rfl | rfl <;> rfl) (by show 0 + 1 ≤ 601024; omega) (by show 0 + 11 ≤ 7293000; omega) dL_law_0 (fun qn_1 H hP hD hS => ?_)
  refine W.cs (cells' := 1) (slots' := 11) (by omega) (by omega) ?_
  have hP : va_P (dC, dI) vwCl [(qn_1, .inr (3, [.int 0, .null, .null, .null, .null, .int 0, .int 0, .int 0, .int 0, .int 0, .int 0]))] H := hP
  have hD : va_D A [(qn_1, .inr (3, [.int 0, .null, .null, .null, .null, .int 0, .int 0, .int 0, .int 0, .int 0, .int 0]))] := hD
  have hK : va_K (dC, dI) vwCl [] s := hK
  refine lv_dup hx hb dL_law_3 rfl ?_
  refine lv_aload_n hx hb dL_law_4 rfl (lv_at hl 0 rfl) ?_
  refine lv_iconst (v := 0) hx hb dL_law_5 (by decide) ?_
  refine vp_callSi (va_runS (As := [.ref sb, .int 0]) (rest := [.ref qn_1, .ref qn_1]) ⟨hx, hb, hml, hown, hw⟩ (l_cell l sb L xs hL3) (va_cwS 2 hw (gS w_ccf67f71d0 w_c38ad3b5c9 w_f850412594 w_ebad46eadd) rfl rfl rfl (by decide +kernel) ⟨Nat.le_of_ble_eq_true rfl, Nat.le_of_ble_eq_true rfl⟩) ⟨fun a U g mk q => by obtain ⟨q0, q1, qX⟩ := q; exact ⟨q0, q1, va_X.moved (u := U) (U := U.calling g mk a) (Vm.Alike.refl U.vm) qX⟩, fun U hU hW => ⟨rfl, by rw [hU]; exact Nat.lt_of_lt_of_le hbl hS.1, by rw [hU]; exact va_X.moved hW.alike (hX.kept (hS.2.1 sb hbl hbA))⟩⟩ rfl rfl hl.1 rfl (lv_room (Nat.le_of_ble_eq_true rfl)) dL_law_6 ⟨by show 1 + 0 ≤ 601024; omega, by show 11 + 0 ≤ 7293000; omega⟩).run (fun r_2 hr_2 => ?_)
  have hr_2 : r_2 = ceV L xs := hr_2
  subst hr_2
  have hPc := hP.sub (ws' := [(qn_1, .inr (3, [.int 0, .null, .null, .null, .null, .int 0, .int 0, .int 0, .int 0, .int 0, .int 0]))]) [0] rfl
  have hKc := hK.sub (tys' := []) [] rfl
  have hDc := hD.sub (ws' := [(qn_1, .inr (3, [.int 0, .null, .null, .null, .null, .int 0, .int 0, .int 0, .int 0, .int 0, .int 0]))]) [0] (by decide) rfl
  have hFc := va_free (wc := [(qn_1, .inr (3, [.int 0, .null, .null, .null, .null, .int 0, .int 0, .int 0, .int 0, .int 0, .int 0]))]) hD hS hA [0] rfl
  have hZc : ZZ (va_A [(qn_1, .inr (3, [.int 0, .null, .null, .null, .null, .int 0, .int 0, .int 0, .int 0, .int 0, .int 0]))] H.size) s H := (hZ.kept hS.2.1).narrow hFc
  refine va_callv (va_runI (As := [.int (ceV L xs)]) (rest := [.ref qn_1]) ⟨hx, hb, hml, hown, hw⟩ (d_init l dC dI qn_1 (ceV L xs) H.size) (cwI 1 hw (gW w_ee5b745435) rfl rfl rfl (hw _ w_106b72596f) (hw _ w_e300e6b5fe) (hw _ w_44227f2d6e) rfl (by decide +kernel) ⟨Nat.le_of_ble_eq_true rfl, Nat.le_of_ble_eq_true rfl⟩) ⟨fun a U g mk q => by obtain ⟨q0, q1, qP, qK, qD, qZ⟩ := q; exact ⟨q0, q1, qP, va_K.moved (u := U) (U := U.calling g mk a) (Vm.Alike.refl U.vm) qK, qD, ZZ.same (u := U) (U := U.calling g mk a) rfl qZ⟩, fun U hU hW => ⟨rfl, by rw [hU], by rw [hU]; exact hPc, va_K.moved hW.alike hKc, hDc.weaken (fun _ _ _ _ => trivial), by rw [hU]; exact ZZ.warm hW hZc⟩⟩ rfl rfl hl.1 rfl (lv_room (Nat.le_of_ble_eq_true rfl)) dL_law_9 ⟨by show 1 + 8 ≤ 601024; omega, by show 11 + (65584 + 512 * secN (ceV L xs)) ≤ 7293000; omega⟩) hS (fun q _ h => hFc q h) hFc (fun u t H1 locs ht hvm hw2 hB hz1 hk1 hS => ?_)
  obtain ⟨sc2_3, rfl⟩ : ∃ z, z = u := ⟨_, rfl⟩
  obtain ⟨b_4, b2_5, uq_6, rq_7, rp_8, rl_9, q_10, q2_11, cJ_12, cI_13, cB__14, cB2_15, hP1, hK1, hD1⟩ := hB
  rw [ht] at hP1
  have hK1 := va_K.moved hvm.symm hK1
  try dsimp only at hw2
  obtain ⟨hP, hD⟩ := va_join (wr := []) (w1 := [(qn_1, .inr (3, [.int sc2_3, .ref b_4, .ref b2_5, .ref uq_6, .ref rq_7, .int 0, .int 0, .int 0, .int 0, .int 0, .int 0])), (uq_6, .inr (1, [.int 16, .int 0, .long 0, .long 0, .long 0, .int 0, .int 0, .int 0, .int 0])), (rq_7, .inr (2, [.ref rp_8, .ref rl_9, .int 0, .int 0, .int 0])), (rp_8, .inl (cJ_12, 16, .inr (.inl (fun _ => 0)))), (rl_9, .inl (cI_13, 16, .inl (fun _ => 0))), (b_4, .inr (0, [.ref q_10])), (q_10, .inl (cB__14, 65536, .inl (cB (fun _ => 0)))), (b2_5, .inr (0, [.ref q2_11])), (q2_11, .inl (cB2_15, 512 * (secN (ceV L xs)), .inl (cB (fun _ => 0))))]) hP hD [0] [] rfl rfl (by decide) (by decide) hk1 hFc hP1 hD1
  generalize H1 = H at hP hS hk1 ⊢
  have hK : va_K (dC, dI) vwCl [(cJ_12, .long), (cI_13, .int), (cB__14, .byte), (cB2_15, .byte)] s := va_K.app hK (hK1.sub [0, 1, 2, 3] rfl)
  refine W.cs (cells' := 9) (slots' := 11 + 65584 + 512 * secN (ceV L xs)) (by omega) (by omega) ?_
  have hP : va_P (dC, dI) vwCl [(qn_1, .inr (3, [.int sc2_3, .ref b_4, .ref b2_5, .ref uq_6, .ref rq_7, .int 0, .int 0, .int 0, .int 0, .int 0, .int 0])), (uq_6, .inr (1, [.int 16, .int 0, .long 0, .long 0, .long 0, .int 0, .int 0, .int 0, .int 0])), (rq_7, .inr (2, [.ref rp_8, .ref rl_9, .int 0, .int 0, .int 0])), (rp_8, .inl (cJ_12, 16, .inr (.inl (fun _ => 0)))), (rl_9, .inl (cI_13, 16, .inl (fun _ => 0))), (b_4, .inr (0, [.ref q_10])), (q_10, .inl (cB__14, 65536, .inl (cB (fun _ => 0)))), (b2_5, .inr (0, [.ref q2_11])), (q2_11, .inl (cB2_15, 512 * (secN (ceV L xs)), .inl (cB (fun _ => 0))))] H := hP
  have hD : va_D A [(qn_1, .inr (3, [.int sc2_3, .ref b_4, .ref b2_5, .ref uq_6, .ref rq_7, .int 0, .int 0, .int 0, .int 0, .int 0, .int 0])), (uq_6, .inr (1, [.int 16, .int 0, .long 0, .long 0, .long 0, .int 0, .int 0, .int 0, .int 0])), (rq_7, .inr (2, [.ref rp_8, .ref rl_9, .int 0, .int 0, .int 0])), (rp_8, .inl (cJ_12, 16, .inr (.inl (fun _ => 0)))), (rl_9, .inl (cI_13, 16, .inl (fun _ => 0))), (b_4, .inr (0, [.ref q_10])), (q_10, .inl (cB__14, 65536, .inl (cB (fun _ => 0)))), (b2_5, .inr (0, [.ref q2_11])), (q2_11, .inl (cB2_15, 512 * (secN (ceV L xs)), .inl (cB (fun _ => 0))))] := hD
  have hw_16 : sc2_3 = nI (secN (ceV L xs)) := hw2
  refine lv_astore_n (lv' := [(1, .ref qn_1), (0, .ref sb)]) hx hb dL_law_12 rfl hl (by decide) rfl (fun ls hl => ?_)
  refine va_new (ci := 4) (fs := [.int 0, .int 0, .null, .null, .int 0, .int 0, .int 0, .int 0, .int 0, .int 0, .null, .int 0, .int 0, .int 0, .int 0, .int 0, .null, .null, .null, .int 0, .long 0]) (C := RX4) (T := TX4) (N := 21) hx hb hw inX4 tyX4 tyX4_ok hown (hw _ w_ef24bb7920) (hw _ w_a154da7429) (hw _ w_2b384744dc) hK hP hD hS hA rfl (fun j hj => by rcases (show j = 0 ∨ j = 1 ∨ j = 2 ∨ j = 3 ∨ j = 4 ∨ j = 5 ∨ j = 6 ∨ j = 7 ∨ j = 8 ∨ j = 9 ∨ j = 10 ∨ j = 11 ∨ j = 12 ∨ j = 13 ∨ j = 14 ∨ j = 15 ∨ j = 16 ∨ j = 17 ∨ j = 18 ∨ j = 19 ∨ j = 20 by omega) with rfl | rfl | rfl | rfl | rfl | rfl | rfl | rfl | rfl | rfl | rfl | rfl | rfl | rfl | rfl | rfl | rfl | rfl | rfl | rfl | rfl <;> rfl) (by show 9 + 1 ≤ 601024; omega) (by show 11 + 65584 + 512 * secN (ceV L xs) + 21 ≤ 7293000; omega) dL_law_13 (fun qn_17 H hP hD hS => ?_)
  refine W.cs (cells' := 10) (slots' := 11 + 65584 + 512 * secN (ceV L xs) + 21) (by omega) (by omega) ?_
  have hP : va_P (dC, dI) vwCl [(qn_1, .inr (3, [.int sc2_3, .ref b_4, .ref b2_5, .ref uq_6, .ref rq_7, .int 0, .int 0, .int 0, .int 0, .int 0, .int 0])), (uq_6, .inr (1, [.int 16, .int 0, .long 0, .long 0, .long 0, .int 0, .int 0, .int 0, .int 0])), (rq_7, .inr (2, [.ref rp_8, .ref rl_9, .int 0, .int 0, .int 0])), (rp_8, .inl (cJ_12, 16, .inr (.inl (fun _ => 0)))), (rl_9, .inl (cI_13, 16, .inl (fun _ => 0))), (b_4, .inr (0, [.ref q_10])), (q_10, .inl (cB__14, 65536, .inl (cB (fun _ => 0)))), (b2_5, .inr (0, [.ref q2_11])), (q2_11, .inl (cB2_15, 512 * (secN (ceV L xs)), .inl (cB (fun _ => 0)))), (qn_17, .inr (4, [.int 0, .int 0, .null, .null, .int 0, .int 0, .int 0, .int 0, .int 0, .int 0, .null, .int 0, .int 0, .int 0, .int 0, .int 0, .null, .null, .null, .int 0, .long 0]))] H := hP
  have hD : va_D A [(qn_1, .inr (3, [.int sc2_3, .ref b_4, .ref b2_5, .ref uq_6, .ref rq_7, .int 0, .int 0, .int 0, .int 0, .int 0, .int 0])), (uq_6, .inr (1, [.int 16, .int 0, .long 0, .long 0, .long 0, .int 0, .int 0, .int 0, .int 0])), (rq_7, .inr (2, [.ref rp_8, .ref rl_9, .int 0, .int 0, .int 0])), (rp_8, .inl (cJ_12, 16, .inr (.inl (fun _ => 0)))), (rl_9, .inl (cI_13, 16, .inl (fun _ => 0))), (b_4, .inr (0, [.ref q_10])), (q_10, .inl (cB__14, 65536, .inl (cB (fun _ => 0)))), (b2_5, .inr (0, [.ref q2_11])), (q2_11, .inl (cB2_15, 512 * (secN (ceV L xs)), .inl (cB (fun _ => 0)))), (qn_17, .inr (4, [.int 0, .int 0, .null, .null, .int 0, .int 0, .int 0, .int 0, .int 0, .int 0, .null, .int 0, .int 0, .int 0, .int 0, .int 0, .null, .null, .null, .int 0, .long 0]))] := hD
  have hK : va_K (dC, dI) vwCl [(cJ_12, .long), (cI_13, .int), (cB__14, .byte), (cB2_15, .byte)] s := hK
  refine lv_dup hx hb dL_law_16 rfl ?_
  refine lv_aload_n hx hb dL_law_17 rfl (lv_at hl 1 rfl) ?_
  refine lv_iconst (v := 0) hx hb dL_law_18 (by decide) ?_
  refine vp_callSi (va_runS (As := [.ref sb, .int 0]) (rest := [.ref qn_17, .ref qn_17]) ⟨hx, hb, hml, hown, hw⟩ (l_cell l sb L xs hL3) (va_cwS 2 hw (gS w_ccf67f71d0 w_c38ad3b5c9 w_f850412594 w_ebad46eadd) rfl rfl rfl (by decide +kernel) ⟨Nat.le_of_ble_eq_true rfl, Nat.le_of_ble_eq_true rfl⟩) ⟨fun a U g mk q => by obtain ⟨q0, q1, qX⟩ := q; exact ⟨q0, q1, va_X.moved (u := U) (U := U.calling g mk a) (Vm.Alike.refl U.vm) qX⟩, fun U hU hW => ⟨rfl, by rw [hU]; exact Nat.lt_of_lt_of_le hbl hS.1, by rw [hU]; exact va_X.moved hW.alike (hX.kept (hS.2.1 sb hbl hbA))⟩⟩ rfl rfl hl.1 rfl (lv_room (Nat.le_of_ble_eq_true rfl)) dL_law_19 ⟨by show 10 + 0 ≤ 601024; omega, by show 11 + 65584 + 512 * secN (ceV L xs) + 21 + 0 ≤ 7293000; omega⟩).run (fun r_18 hr_18 => ?_)
  have hr_18 : r_18 = ceV L xs := hr_18
  subst hr_18
  have hPc := hP.sub (ws' := [(qn_17, .inr (4, [.int 0, .int 0, .null, .null, .int 0, .int 0, .int 0, .int 0, .int 0, .int 0, .null, .int 0, .int 0, .int 0, .int 0, .int 0, .null, .null, .null, .int 0, .long 0]))]) [9] rfl
  have hKc := hK.sub (tys' := []) [] rfl
  have hDc := hD.sub (ws' := [(qn_17, .inr (4, [.int 0, .int 0, .null, .null, .int 0, .int 0, .int 0, .int 0, .int 0, .int 0, .null, .int 0, .int 0, .int 0, .int 0, .int 0, .null, .null, .null, .int 0, .long 0]))]) [9] (by decide) rfl
  have hFc := va_free (wc := [(qn_17, .inr (4, [.int 0, .int 0, .null, .null, .int 0, .int 0, .int 0, .int 0, .int 0, .int 0, .null, .int 0, .int 0, .int 0, .int 0, .int 0, .null, .null, .null, .int 0, .long 0]))]) hD hS hA [9] rfl
  have hZc : ZZ (va_A [(qn_17, .inr (4, [.int 0, .int 0, .null, .null, .int 0, .int 0, .int 0, .int 0, .int 0, .int 0, .null, .int 0, .int 0, .int 0, .int 0, .int 0, .null, .null, .null, .int 0, .long 0]))] H.size) s H := (hZ.kept hS.2.1).narrow hFc
  refine va_callv (va_runI (As := [.int (ceV L xs)]) (rest := [.ref qn_17]) ⟨hx, hb, hml, hown, hw⟩ (m_init l dC dI qn_17 (ceV L xs) H.size) (cwI 1 hw (gW w_e2a7be6fb8) rfl rfl rfl (hw _ w_2b384744dc) (hw _ w_8d14512d5e) (hw _ w_2b51a23556) rfl (by decide +kernel) ⟨Nat.le_of_ble_eq_true rfl, Nat.le_of_ble_eq_true rfl⟩) ⟨fun a U g mk q => by obtain ⟨q0, q1, qP, qK, qD, qZ⟩ := q; exact ⟨q0, q1, qP, va_K.moved (u := U) (U := U.calling g mk a) (Vm.Alike.refl U.vm) qK, qD, ZZ.same (u := U) (U := U.calling g mk a) rfl qZ⟩, fun U hU hW => ⟨rfl, by rw [hU], by rw [hU]; exact hPc, va_K.moved hW.alike hKc, hDc.weaken (fun _ _ _ _ => trivial), by rw [hU]; exact ZZ.warm hW hZc⟩⟩ rfl rfl hl.1 rfl (lv_room (Nat.le_of_ble_eq_true rfl)) dL_law_22 ⟨by show 10 + 6 ≤ 601024; omega, by show 11 + 65584 + 512 * secN (ceV L xs) + 21 + (139315) ≤ 7293000; omega⟩) hS (fun q _ h => hFc q h) hFc (fun u t H1 locs ht hvm hw2 hB hz1 hk1 hS => ?_)
  obtain ⟨sc2_19, rfl⟩ : ∃ z, z = u := ⟨_, rfl⟩
  obtain ⟨qm_20, qd_21, qp_22, qs_23, ql_24, qo_25, cJ_26, cZ_27, hP1, hK1, hD1⟩ := hB
  rw [ht] at hP1
  have hK1 := va_K.moved hvm.symm hK1
  try dsimp only at hw2
  obtain ⟨hP, hD⟩ := va_join (wr := [(qn_1, .inr (3, [.int sc2_3, .ref b_4, .ref b2_5, .ref uq_6, .ref rq_7, .int 0, .int 0, .int 0, .int 0, .int 0, .int 0])), (uq_6, .inr (1, [.int 16, .int 0, .long 0, .long 0, .long 0, .int 0, .int 0, .int 0, .int 0])), (rq_7, .inr (2, [.ref rp_8, .ref rl_9, .int 0, .int 0, .int 0])), (rp_8, .inl (cJ_12, 16, .inr (.inl (fun _ => 0)))), (rl_9, .inl (cI_13, 16, .inl (fun _ => 0))), (b_4, .inr (0, [.ref q_10])), (q_10, .inl (cB__14, 65536, .inl (cB (fun _ => 0)))), (b2_5, .inr (0, [.ref q2_11])), (q2_11, .inl (cB2_15, 512 * (secN (ceV L xs)), .inl (cB (fun _ => 0))))]) (w1 := [(qn_17, .inr (4, [.int 0, .int sc2_19, .ref qm_20, .ref qd_21, .int 0, .int 0, .int 16, .int 0, .int 0, .int 0, .ref qp_22, .int 0, .int 0, .int 0, .int 0, .int 0, .ref qs_23, .ref ql_24, .ref qo_25, .int 0, .long 0])), (qp_22, .inl (cJ_26, 3, .inr (.inl (pl3 0 0 0)))), (qm_20, .inl (cJ_26, 8192, .inr (.inl (mL (fun _ => 0))))), (qd_21, .inl (cJ_26, 131072, .inr (.inl (mL (fun _ => 0))))), (qs_23, .inl (cJ_26, 16, .inr (.inl (fun _ => 0)))), (ql_24, .inl (cJ_26, 16, .inr (.inl (fun _ => 0)))), (qo_25, .inl (cZ_27, 16, .inl (fun _ => 0)))]) hP hD [9] [0, 1, 2, 3, 4, 5, 6, 7, 8] rfl rfl (by decide) (by decide) hk1 hFc hP1 hD1
  generalize H1 = H at hP hS hk1 ⊢
  have hK : va_K (dC, dI) vwCl [(cJ_12, .long), (cI_13, .int), (cB__14, .byte), (cB2_15, .byte), (cJ_26, .long), (cZ_27, .boolean)] s := va_K.app hK (hK1.sub [0, 1] rfl)
  refine W.cs (cells' := 16) (slots' := 11 + 65584 + 512 * secN (ceV L xs) + 21 + 139315) (by omega) (by omega) ?_
  have hP : va_P (dC, dI) vwCl [(qn_1, .inr (3, [.int sc2_3, .ref b_4, .ref b2_5, .ref uq_6, .ref rq_7, .int 0, .int 0, .int 0, .int 0, .int 0, .int 0])), (uq_6, .inr (1, [.int 16, .int 0, .long 0, .long 0, .long 0, .int 0, .int 0, .int 0, .int 0])), (rq_7, .inr (2, [.ref rp_8, .ref rl_9, .int 0, .int 0, .int 0])), (rp_8, .inl (cJ_12, 16, .inr (.inl (fun _ => 0)))), (rl_9, .inl (cI_13, 16, .inl (fun _ => 0))), (b_4, .inr (0, [.ref q_10])), (q_10, .inl (cB__14, 65536, .inl (cB (fun _ => 0)))), (b2_5, .inr (0, [.ref q2_11])), (q2_11, .inl (cB2_15, 512 * (secN (ceV L xs)), .inl (cB (fun _ => 0)))), (qn_17, .inr (4, [.int 0, .int sc2_19, .ref qm_20, .ref qd_21, .int 0, .int 0, .int 16, .int 0, .int 0, .int 0, .ref qp_22, .int 0, .int 0, .int 0, .int 0, .int 0, .ref qs_23, .ref ql_24, .ref qo_25, .int 0, .long 0])), (qp_22, .inl (cJ_26, 3, .inr (.inl (pl3 0 0 0)))), (qm_20, .inl (cJ_26, 8192, .inr (.inl (mL (fun _ => 0))))), (qd_21, .inl (cJ_26, 131072, .inr (.inl (mL (fun _ => 0))))), (qs_23, .inl (cJ_26, 16, .inr (.inl (fun _ => 0)))), (ql_24, .inl (cJ_26, 16, .inr (.inl (fun _ => 0)))), (qo_25, .inl (cZ_27, 16, .inl (fun _ => 0)))] H := hP
  have hD : va_D A [(qn_1, .inr (3, [.int sc2_3, .ref b_4, .ref b2_5, .ref uq_6, .ref rq_7, .int 0, .int 0, .int 0, .int 0, .int 0, .int 0])), (uq_6, .inr (1, [.int 16, .int 0, .long 0, .long 0, .long 0, .int 0, .int 0, .int 0, .int 0])), (rq_7, .inr (2, [.ref rp_8, .ref rl_9, .int 0, .int 0, .int 0])), (rp_8, .inl (cJ_12, 16, .inr (.inl (fun _ => 0)))), (rl_9, .inl (cI_13, 16, .inl (fun _ => 0))), (b_4, .inr (0, [.ref q_10])), (q_10, .inl (cB__14, 65536, .inl (cB (fun _ => 0)))), (b2_5, .inr (0, [.ref q2_11])), (q2_11, .inl (cB2_15, 512 * (secN (ceV L xs)), .inl (cB (fun _ => 0)))), (qn_17, .inr (4, [.int 0, .int sc2_19, .ref qm_20, .ref qd_21, .int 0, .int 0, .int 16, .int 0, .int 0, .int 0, .ref qp_22, .int 0, .int 0, .int 0, .int 0, .int 0, .ref qs_23, .ref ql_24, .ref qo_25, .int 0, .long 0])), (qp_22, .inl (cJ_26, 3, .inr (.inl (pl3 0 0 0)))), (qm_20, .inl (cJ_26, 8192, .inr (.inl (mL (fun _ => 0))))), (qd_21, .inl (cJ_26, 131072, .inr (.inl (mL (fun _ => 0))))), (qs_23, .inl (cJ_26, 16, .inr (.inl (fun _ => 0)))), (ql_24, .inl (cJ_26, 16, .inr (.inl (fun _ => 0)))), (qo_25, .inl (cZ_27, 16, .inl (fun _ => 0)))] := hD
  have hw_28 : sc2_19 = nI (secN (ceV L xs)) := hw2
  refine lv_astore_n (lv' := [(2, .ref qn_17), (1, .ref qn_1), (0, .ref sb)]) hx hb dL_law_25 rfl hl (by decide) rfl (fun ls hl => ?_)
  refine lv_iconst (v := 1) hx hb dL_law_26 (by decide) ?_
  refine va_newa (atype := .long) (ty := .long) (N' := 1) (a0 := (1, .inr (.inl (fun _ => 0)))) hx hb (hw _ w_18c1a5862b) rfl hK hP hD hS hA (fun _ => rfl) (by decide +kernel) (by decide +kernel) (by decide +kernel) (by show 16 + 1 ≤ 601024; omega) (by show 11 + 65584 + 512 * secN (ceV L xs) + 21 + 139315 + 1 ≤ 7293000; omega) dL_law_27 (fun qa_29 cA_30 H hK hP hD hS => ?_)
  refine W.cs (cells' := 17) (slots' := 11 + 65584 + 512 * secN (ceV L xs) + 21 + 139315 + 1) (by omega) (by omega) ?_
  have hP : va_P (dC, dI) vwCl [(qn_1, .inr (3, [.int sc2_3, .ref b_4, .ref b2_5, .ref uq_6, .ref rq_7, .int 0, .int 0, .int 0, .int 0, .int 0, .int 0])), (uq_6, .inr (1, [.int 16, .int 0, .long 0, .long 0, .long 0, .int 0, .int 0, .int 0, .int 0])), (rq_7, .inr (2, [.ref rp_8, .ref rl_9, .int 0, .int 0, .int 0])), (rp_8, .inl (cJ_12, 16, .inr (.inl (fun _ => 0)))), (rl_9, .inl (cI_13, 16, .inl (fun _ => 0))), (b_4, .inr (0, [.ref q_10])), (q_10, .inl (cB__14, 65536, .inl (cB (fun _ => 0)))), (b2_5, .inr (0, [.ref q2_11])), (q2_11, .inl (cB2_15, 512 * (secN (ceV L xs)), .inl (cB (fun _ => 0)))), (qn_17, .inr (4, [.int 0, .int sc2_19, .ref qm_20, .ref qd_21, .int 0, .int 0, .int 16, .int 0, .int 0, .int 0, .ref qp_22, .int 0, .int 0, .int 0, .int 0, .int 0, .ref qs_23, .ref ql_24, .ref qo_25, .int 0, .long 0])), (qp_22, .inl (cJ_26, 3, .inr (.inl (pl3 0 0 0)))), (qm_20, .inl (cJ_26, 8192, .inr (.inl (mL (fun _ => 0))))), (qd_21, .inl (cJ_26, 131072, .inr (.inl (mL (fun _ => 0))))), (qs_23, .inl (cJ_26, 16, .inr (.inl (fun _ => 0)))), (ql_24, .inl (cJ_26, 16, .inr (.inl (fun _ => 0)))), (qo_25, .inl (cZ_27, 16, .inl (fun _ => 0))), (qa_29, .inl (cA_30, 1, .inr (.inl (fun _ => 0))))] H := hP
  have hD : va_D A [(qn_1, .inr (3, [.int sc2_3, .ref b_4, .ref b2_5, .ref uq_6, .ref rq_7, .int 0, .int 0, .int 0, .int 0, .int 0, .int 0])), (uq_6, .inr (1, [.int 16, .int 0, .long 0, .long 0, .long 0, .int 0, .int 0, .int 0, .int 0])), (rq_7, .inr (2, [.ref rp_8, .ref rl_9, .int 0, .int 0, .int 0])), (rp_8, .inl (cJ_12, 16, .inr (.inl (fun _ => 0)))), (rl_9, .inl (cI_13, 16, .inl (fun _ => 0))), (b_4, .inr (0, [.ref q_10])), (q_10, .inl (cB__14, 65536, .inl (cB (fun _ => 0)))), (b2_5, .inr (0, [.ref q2_11])), (q2_11, .inl (cB2_15, 512 * (secN (ceV L xs)), .inl (cB (fun _ => 0)))), (qn_17, .inr (4, [.int 0, .int sc2_19, .ref qm_20, .ref qd_21, .int 0, .int 0, .int 16, .int 0, .int 0, .int 0, .ref qp_22, .int 0, .int 0, .int 0, .int 0, .int 0, .ref qs_23, .ref ql_24, .ref qo_25, .int 0, .long 0])), (qp_22, .inl (cJ_26, 3, .inr (.inl (pl3 0 0 0)))), (qm_20, .inl (cJ_26, 8192, .inr (.inl (mL (fun _ => 0))))), (qd_21, .inl (cJ_26, 131072, .inr (.inl (mL (fun _ => 0))))), (qs_23, .inl (cJ_26, 16, .inr (.inl (fun _ => 0)))), (ql_24, .inl (cJ_26, 16, .inr (.inl (fun _ => 0)))), (qo_25, .inl (cZ_27, 16, .inl (fun _ => 0))), (qa_29, .inl (cA_30, 1, .inr (.inl (fun _ => 0))))] := hD
  have hK : va_K (dC, dI) vwCl [(cJ_12, .long), (cI_13, .int), (cB__14, .byte), (cB2_15, .byte), (cJ_26, .long), (cZ_27, .boolean), (cA_30, .long)] s := hK
  refine lv_astore_n (lv' := [(3, .ref qa_29), (2, .ref qn_17), (1, .ref qn_1), (0, .ref sb)]) hx hb dL_law_29 rfl hl (by decide) rfl (fun ls hl => ?_)
  refine lv_iconst (v := 1) hx hb dL_law_30 (by decide) ?_
  refine lv_istore (lv' := [(4, .int 1), (3, .ref qa_29), (2, .ref qn_17), (1, .ref qn_1), (0, .ref sb)]) hx hb dL_law_31 hl (by decide) rfl (fun ls hl => ?_)
  refine W.widen (k := 17 + 1) (n := 1253508 + 1) (by omega) (by omega) ?_
  exact ref_loop l hst hL C0 A hA hAs hZ (secN (ceV L xs)) hse9.1 K hLK hkd hdf qn_1 sc2_3 b_4 b2_5 uq_6 rq_7 rp_8 rl_9 q_10 q2_11 cJ_12 cI_13 cB__14 cB2_15 qn_17 sc2_19 qm_20 qd_21 qp_22 qs_23 ql_24 qo_25 cJ_26 cZ_27 qa_29 cA_30 hw_16 hw_28 (hK.sub [0, 1, 2, 3, 4, 5, 6] rfl) (L + 1) 1 1 0 0 0 (fun _ => 0) (fun _ => 0) (fun _ => 0) (fun _ => 0) 0 0 0 0 0 0 0 0 0 0 16 0 0 0 0 16 0 0 0 0 0 16 0 0 0 0 0 0 0 0 0 0 (fun _ => 0) (fun _ => 0) 0 0 0 (fun _ => 0) (fun _ => 0) (fun _ => 0) 16 0 0 (fun _ => 0) 0 (by omega) (by omega) (by omega) (rfl) (Or.inr (Or.inr (Or.inr (Or.inr rfl)))) (rfl) (by decide) (rfl) (by decide) (rfl) (fun _ => Nat.zero_lt_succ _) (fun _ => Nat.zero_lt_succ _) (Or.inr (Or.inr (Or.inr (Or.inr rfl)))) (rfl) (rfl) (by decide) (rfl) (by decide) (fun _ => Nat.zero_lt_succ _) (fun _ => Nat.zero_lt_succ _) (rfl) (by omega) (rfl) (rfl) _ _ (hP.sub [0, 1, 2, 3, 4, 5, 6, 7, 8, 9, 10, 11, 12, 13, 14, 15, 16] rfl) (hD.sub [0, 1, 2, 3, 4, 5, 6, 7, 8, 9, 10, 11, 12, 13, 14, 15, 16] (by decide) rfl) hS ls (lv_sub hl [0, 4, 3, 2, 1] rfl)
