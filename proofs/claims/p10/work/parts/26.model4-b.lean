set_option maxHeartbeats 4000000 in
set_option maxRecDepth 100000 in
/-- Model.areSectors -/
theorem m_areSectors (l : Launch) (dC : Nat → ClassId) (dI : Nat → Nat → Nat) (o : Nat) (cd : Int32) (sc : Int32) (qm : Nat) (qd : Nat) (ch : Int32) (fe : Int32) (sz : Int32) (rd : Int32) (ca : Int32) (sx : Int32) (qp : Nat) (co : Int32) (gi : Int32) (aw : Int32) (cg : Int32) (bk : Int32) (qs : Nat) (ql : Nat) (qo : Nat) (ax : Int32) (wi : Int64) (nn : Nat) (sec : Int64) (byv : Int64) (d : Nat) (hsc : sc = nI nn) (hnn : nn ≤ 2048) (hby : byv = lN d) (hd : d < 2 ^ 31) : Met l yX4_areSectors wsX4_areSectors ({ frames := 0, cells := 0, slots := 0, locals := 0 }) (va_Pc [.ref o, .long sec, .long byv] (fun U => va_P (dC, dI) vwCl [(o, .inr (4, [.int cd, .int sc, .ref qm, .ref qd, .int ch, .int fe, .int sz, .int rd, .int ca, .int sx, .ref qp, .int co, .int gi, .int aw, .int cg, .int bk, .ref qs, .ref ql, .ref qo, .int ax, .long wi]))] U.heap ∧ va_K (dC, dI) vwCl [] U ∧ ZZ (fun _ => False) U U.heap)) (vp_Si (fun r => r = bI (secP sec nn d))) 0 0 (fun _ => False) := by
  refine Met.ofW (cc := cX4_areSectors) (maxL := 5) (ret := (some .boolean)) (by decide) rfl ?_
  intro p e s m args below meth c s₁ B hml hv
  obtain ⟨rfl, hP, hK, hZ⟩ := hv
  have hx := B.exec
  have hb := B.bytes
  have hr := B.returns
  have hts := atoms_spec (ws := wsX4_areSectors) B.pre
  have hw : ∀ w ∈ WW, w.before _ s = true := fun w h => hts w (List.mem_cons_of_mem _ h)
  have hown : s.vm.findClass RX4 = some m.cls := findClass_of_methodNamed B.named
  have hlocks := B.notSynchronized
  have hl := lv_entry ([.ref o, .long sec, .long byv]) (n := 5) (Nat.le_of_ble_eq_true rfl)
  rw [lg_entry_eq]
  generalize (lg_sl ([.ref o, .long sec, .long byv]) ++ List.replicate (5 - (lg_sl ([.ref o, .long sec, .long byv])).length) Slot.unset).toArray = ls at hl ⊢
  have hl : lv_has ls 5 [(0, .ref o), (1, .long sec), (3, .long byv)] := hl
  refine lv_lload_n hx hb dX4_areSectors_0 rfl (lv_at hl 2 rfl) ?_
  refine lv_lconst (v := 0) hx hb dX4_areSectors_1 (by decide) ?_
  refine W.lcmp hx hb dX4_areSectors_2 ?_
  refine lv_if_le (tgt := 60) hx hb dX4_areSectors_3 (by decide) (fun c_1 => ?_) (fun c_1 => ?_)
  · skip
    refine lv_iconst (v := 0) hx hb dX4_areSectors_60 (by decide) ?_
    exact W.zret (v := 0) hx hb hr rfl (fun t ht hW => ⟨_, rfl, (by subst hby; subst hsc; rw [as_1 hd] at c_1; exact (bI_f (show ¬ (0 < d ∧ d ≤ 32768 ∧ d % 512 = 0 ∧ 0 ≤ sec.toInt ∧ sec.toInt < nn ∧ ((d / 512 : Nat) : Int) ≤ nn - sec.toInt) by omega)).symm), ht⟩) t_nil dX4_areSectors_61
  · skip
    refine lv_lload_n hx hb dX4_areSectors_6 rfl (lv_at hl 2 rfl) ?_
    refine lv_ldc2 (v := 32768) hx hb hown (hw _ w_5a71b7444e) dX4_areSectors_7 ?_
    refine W.lcmp hx hb dX4_areSectors_10 ?_
    refine lv_if_gt (tgt := 60) hx hb dX4_areSectors_11 (by decide) (fun c_2 => ?_) (fun c_2 => ?_)
    · skip
      refine lv_iconst (v := 0) hx hb dX4_areSectors_60 (by decide) ?_
      exact W.zret (v := 0) hx hb hr rfl (fun t ht hW => ⟨_, rfl, (by subst hby; subst hsc; rw [as_1 hd] at c_1; rw [as_2 hd] at c_2; exact (bI_f (show ¬ (0 < d ∧ d ≤ 32768 ∧ d % 512 = 0 ∧ 0 ≤ sec.toInt ∧ sec.toInt < nn ∧ ((d / 512 : Nat) : Int) ≤ nn - sec.toInt) by omega)).symm), ht⟩) t_nil dX4_areSectors_61
    · skip
      refine lv_lload_n hx hb dX4_areSectors_14 rfl (lv_at hl 2 rfl) ?_
      refine lv_ldc2 (v := 512) hx hb hown (hw _ w_5782e256a5) dX4_areSectors_15 ?_
      refine lv_lrem hx hb dX4_areSectors_18 (by decide) ?_
      refine lv_lconst (v := 0) hx hb dX4_areSectors_19 (by decide) ?_
      refine W.lcmp hx hb dX4_areSectors_20 ?_
      refine lv_if_ne (tgt := 60) hx hb dX4_areSectors_21 (by decide) (fun c_3 => ?_) (fun c_3 => ?_)
      · skip
        refine lv_iconst (v := 0) hx hb dX4_areSectors_60 (by decide) ?_
        exact W.zret (v := 0) hx hb hr rfl (fun t ht hW => ⟨_, rfl, (by subst hby; subst hsc; rw [as_1 hd] at c_1; rw [as_2 hd] at c_2; rw [as_3 hd] at c_3; exact (bI_f (show ¬ (0 < d ∧ d ≤ 32768 ∧ d % 512 = 0 ∧ 0 ≤ sec.toInt ∧ sec.toInt < nn ∧ ((d / 512 : Nat) : Int) ≤ nn - sec.toInt) by omega)).symm), ht⟩) t_nil dX4_areSectors_61
      · skip
        refine lv_lload_n hx hb dX4_areSectors_24 rfl (lv_at hl 1 rfl) ?_
        refine lv_lconst (v := 0) hx hb dX4_areSectors_25 (by decide) ?_
        refine W.lcmp hx hb dX4_areSectors_26 ?_
        refine lv_if_lt (tgt := 60) hx hb dX4_areSectors_27 (by decide) (fun c_4 => ?_) (fun c_4 => ?_)
        · skip
          refine lv_iconst (v := 0) hx hb dX4_areSectors_60 (by decide) ?_
          exact W.zret (v := 0) hx hb hr rfl (fun t ht hW => ⟨_, rfl, (by subst hby; subst hsc; rw [as_1 hd] at c_1; rw [as_2 hd] at c_2; rw [as_3 hd] at c_3; rw [as_4] at c_4; exact (bI_f (show ¬ (0 < d ∧ d ≤ 32768 ∧ d % 512 = 0 ∧ 0 ≤ sec.toInt ∧ sec.toInt < nn ∧ ((d / 512 : Nat) : Int) ≤ nn - sec.toInt) by omega)).symm), ht⟩) t_nil dX4_areSectors_61
        · skip
          refine lv_lload_n hx hb dX4_areSectors_30 rfl (lv_at hl 1 rfl) ?_
          refine lv_aload_n hx hb dX4_areSectors_31 rfl (lv_at hl 0 rfl) ?_
          refine va_get (D := (dC, dI)) (ci := 4) (v := .int sc) (C := RX4) (T := TX4) (N := 21) hx hb hw inX4 hown hK hP 0 rfl rfl 1 (by decide) (hw _ w_40cba09e19) (fun _ h9 => h9) rfl dX4_areSectors_32 ?_
          refine lv_i2l (v := sc.toInt64) hx hb dX4_areSectors_35 rfl ?_
          refine W.lcmp hx hb dX4_areSectors_36 ?_
          refine lv_if_ge (tgt := 60) hx hb dX4_areSectors_37 (by decide) (fun c_5 => ?_) (fun c_5 => ?_)
          · skip
            refine lv_iconst (v := 0) hx hb dX4_areSectors_60 (by decide) ?_
            exact W.zret (v := 0) hx hb hr rfl (fun t ht hW => ⟨_, rfl, (by subst hby; subst hsc; rw [as_1 hd] at c_1; rw [as_2 hd] at c_2; rw [as_3 hd] at c_3; rw [as_4] at c_4; rw [as_5 hnn] at c_5; exact (bI_f (show ¬ (0 < d ∧ d ≤ 32768 ∧ d % 512 = 0 ∧ 0 ≤ sec.toInt ∧ sec.toInt < nn ∧ ((d / 512 : Nat) : Int) ≤ nn - sec.toInt) by omega)).symm), ht⟩) t_nil dX4_areSectors_61
          · skip
            refine lv_lload_n hx hb dX4_areSectors_40 rfl (lv_at hl 2 rfl) ?_
            refine lv_ldc2 (v := 512) hx hb hown (hw _ w_5782e256a5) dX4_areSectors_41 ?_
            refine lv_ldiv hx hb dX4_areSectors_44 (by decide) ?_
            refine lv_aload_n hx hb dX4_areSectors_45 rfl (lv_at hl 0 rfl) ?_
            refine va_get (D := (dC, dI)) (ci := 4) (v := .int sc) (C := RX4) (T := TX4) (N := 21) hx hb hw inX4 hown hK hP 0 rfl rfl 1 (by decide) (hw _ w_40cba09e19) (fun _ h9 => h9) rfl dX4_areSectors_46 ?_
            refine lv_i2l (v := sc.toInt64) hx hb dX4_areSectors_49 rfl ?_
            refine lv_lload_n hx hb dX4_areSectors_50 rfl (lv_at hl 1 rfl) ?_
            refine lv_lsub hx hb dX4_areSectors_51 ?_
            refine W.lcmp hx hb dX4_areSectors_52 ?_
            refine lv_if_gt (tgt := 60) hx hb dX4_areSectors_53 (by decide) (fun c_6 => ?_) (fun c_6 => ?_)
            · skip
              refine lv_iconst (v := 0) hx hb dX4_areSectors_60 (by decide) ?_
              exact W.zret (v := 0) hx hb hr rfl (fun t ht hW => ⟨_, rfl, (by subst hby; subst hsc; rw [as_1 hd] at c_1; rw [as_2 hd] at c_2; rw [as_3 hd] at c_3; rw [as_4] at c_4; rw [as_5 hnn] at c_5; rw [as_6 hd hnn (by omega) (by omega)] at c_6; exact (bI_f (show ¬ (0 < d ∧ d ≤ 32768 ∧ d % 512 = 0 ∧ 0 ≤ sec.toInt ∧ sec.toInt < nn ∧ ((d / 512 : Nat) : Int) ≤ nn - sec.toInt) by omega)).symm), ht⟩) t_nil dX4_areSectors_61
            · skip
              refine lv_iconst (v := 1) hx hb dX4_areSectors_56 (by decide) ?_
              refine lv_goto (tgt := 61) hx hb dX4_areSectors_57 (by decide) ?_
              exact W.zret (v := 1) hx hb hr rfl (fun t ht hW => ⟨_, rfl, (by subst hby; subst hsc; rw [as_1 hd] at c_1; rw [as_2 hd] at c_2; rw [as_3 hd] at c_3; rw [as_4] at c_4; rw [as_5 hnn] at c_5; rw [as_6 hd hnn (by omega) (by omega)] at c_6; exact (bI_t (show 0 < d ∧ d ≤ 32768 ∧ d % 512 = 0 ∧ 0 ≤ sec.toInt ∧ sec.toInt < nn ∧ ((d / 512 : Nat) : Int) ≤ nn - sec.toInt by omega)).symm), ht⟩) t_nil dX4_areSectors_61
set_option maxHeartbeats 4000000 in
set_option maxRecDepth 100000 in
/-- Model.data -/
theorem m_data1 (l : Launch) (dC : Nat → ClassId) (dI : Nat → Nat → Nat) (o : Nat) (cd : Int32) (sc : Int32) (qm : Nat) (qd : Nat) (ch : Int32) (fe : Int32) (sz : Int32) (rd : Int32) (ca : Int32) (sx : Int32) (qp : Nat) (co : Int32) (gi : Int32) (aw : Int32) (cg : Int32) (bk : Int32) (qs : Nat) (ql : Nat) (qo : Nat) (ax : Int32) (wi : Int64) (cJ : ClassId) (cZ : ClassId) (gs : Nat → Int64) (gl : Nat → Int64) (go : Nat → Int32) (L : List Blk) (hrep : repM L gs gl go) (hbk : bk = nI L.length) (hL : L.length ≤ 16) : Met l yX4_data wsX4_data ({ frames := 0, cells := 0, slots := 0, locals := 0 }) (va_Pc [.ref o, .int 1] (fun U => va_P (dC, dI) vwCl [(o, .inr (4, [.int cd, .int sc, .ref qm, .ref qd, .int ch, .int fe, .int sz, .int rd, .int ca, .int sx, .ref qp, .int co, .int gi, .int aw, .int cg, .int bk, .ref qs, .ref ql, .ref qo, .int ax, .long wi])), (ql, .inl (cJ, 16, .inr (.inl gl))), (qo, .inl (cZ, 16, .inl go))] U.heap ∧ va_K (dC, dI) vwCl [(cJ, .long), (cZ, .boolean)] U ∧ ZZ (fun _ => False) U U.heap)) (vp_Sl (fun r => r = (-1 : Int64) + lN (tot (flt L.tail true)))) 0 0 (fun _ => False) := by
  refine Met.ofW (cc := cX4_data) (maxL := 5) (ret := (some .long)) (by decide) rfl ?_
  intro p e s m args below meth c s₁ B hml hv
  obtain ⟨rfl, hP, hK, hZ⟩ := hv
  have hx := B.exec
  have hb := B.bytes
  have hr := B.returns
  have hts := atoms_spec (ws := wsX4_data) B.pre
  have hw : ∀ w ∈ WW, w.before _ s = true := fun w h => hts w (List.mem_cons_of_mem _ h)
  have hown : s.vm.findClass RX4 = some m.cls := findClass_of_methodNamed B.named
  have hlocks := B.notSynchronized
  have hl := lv_entry ([.ref o, .int 1]) (n := 5) (Nat.le_of_ble_eq_true rfl)
  rw [lg_entry_eq]
  generalize (lg_sl ([.ref o, .int 1]) ++ List.replicate (5 - (lg_sl ([.ref o, .int 1])).length) Slot.unset).toArray = ls at hl ⊢
  have hl : lv_has ls 5 [(0, .ref o), (1, .int 1)] := hl
  refine lv_iload_n hx hb dX4_data_0 rfl (lv_at hl 1 rfl) ?_
  refine lv_if_eq (tgt := 10) hx hb dX4_data_1 (by decide) (fun c_1 => ?_) (fun c_1 => ?_)
  · skip
    exact absurd c_1 (by decide)
  · skip
    refine lv_ldc2 (v := (-1)) hx hb hown (hw _ w_2cff31ae2b) dX4_data_4 ?_
    refine lv_goto (tgt := 11) hx hb dX4_data_7 (by decide) ?_
    refine lv_topl (fun x_2 ex_2 => ?_)
    refine lv_lstore_n (lv' := [(2, .long x_2), (0, .ref o), (1, .int 1)]) hx hb dX4_data_11 rfl hl (by decide) rfl (fun ls hl => ?_)
    refine lv_iconst (v := 1) hx hb dX4_data_12 (by decide) ?_
    refine lv_istore (lv' := [(4, .int 1), (2, .long x_2), (0, .ref o), (1, .int 1)]) hx hb dX4_data_13 hl (by decide) rfl (fun ls hl => ?_)
    have loop : ∀ (N : Nat) (k : Nat) (y : Int64) (x : Int32) (hN : L.length - k < N) (ex : x = nI k) (hkm : k ≤ 16) (hs : y + lN (tot (flt (L.drop k) true)) = (-1 : Int64) + lN (tot (flt L.tail true))) (ls : Array Slot) (hl : lv_has ls 5 [(4, .int x), (2, .long y), (0, .ref o), (1, .int 1)]), W p l e (headSpec wsX4_data ({ frames := 0, cells := 0, slots := 0, locals := 0 })).room s m [.ref o, .int 1].toArray below meth c s.heap [] 0 0 (MQ below (vp_Sl (fun r => r = (-1 : Int64) + lN (tot (flt L.tail true)))) [.ref o, .int 1].toArray s 0 0 (fun _ => False)) (F0 m 15 ls []) := by
      intro N
      induction N with
      | zero => intro k y x hN ex hkm hs ls hl; exact absurd hN (Nat.not_lt_zero _)
      | succ N ih =>
        intro k y x hN ex hkm hs ls hl
        refine lv_iload hx hb dX4_data_15 (lv_at hl 0 rfl) ?_
        refine lv_aload_n hx hb dX4_data_17 rfl (lv_at hl 2 rfl) ?_
        refine va_get (D := (dC, dI)) (ci := 4) (v := .int bk) (C := RX4) (T := TX4) (N := 21) hx hb hw inX4 hown hK hP 0 rfl rfl 15 (by decide) (hw _ w_f0da19b997) (fun _ h9 => h9) rfl dX4_data_18 ?_
        refine lv_icmp_ge (tgt := 55) hx hb dX4_data_21 (by decide) (fun c_3 => ?_) (fun c_3 => ?_)
        · skip
          have hk0 : L.length ≤ k := by rw [ex, hbk, nI_leI (by omega) (by omega)] at c_3; omega
          refine lv_lload_n hx hb dX4_data_55 rfl (lv_at hl 1 rfl) ?_
          exact W.lret (v := y) hx hb hr (fun t ht hW => ⟨_, rfl, (by rw [← hs, List.drop_eq_nil_of_le hk0]; exact (Int64.add_zero _).symm), ht⟩) t_nil dX4_data_56
        · skip
          have hk0 : k < L.length := by rw [ex, hbk, nI_leI (by omega) (by omega)] at c_3; omega
          obtain ⟨b, hLb⟩ : ∃ b, L[k]? = some b := ⟨_, List.getElem?_eq_getElem hk0⟩
          have hgo : go x.toNatClampNeg = bI (b.2.2 = true) := by rw [ex, nI_clamp (by omega)]; exact (hrep k b hLb).2.2
          refine lv_aload_n hx hb dX4_data_24 rfl (lv_at hl 2 rfl) ?_
          refine va_get (D := (dC, dI)) (ci := 4) (v := .ref qo) (C := RX4) (T := TX4) (N := 21) hx hb hw inX4 hown hK hP 0 rfl rfl 18 (by decide) (hw _ w_3d33b1130a) (fun _ h9 => h9) rfl dX4_data_25 ?_
          refine lv_iload hx hb dX4_data_28 (lv_at hl 0 rfl) ?_
          refine va_zald hx hb hK hP 2 1 rfl rfl (by rw [ex]; exact vp_in_nI (by omega) (by omega)) dX4_data_30 ?_
          refine lv_iload_n hx hb dX4_data_31 rfl (lv_at hl 3 rfl) ?_
          refine lv_icmp_ne (tgt := 47) hx hb dX4_data_32 (by decide) (fun c_4 => ?_) (fun c_4 => ?_)
          · skip
            have hbo : ¬ b.2.2 = true := by rw [hgo] at c_4; exact fun z => c_4 (bI_n1.mpr z)
            refine lv_lload_n hx hb dX4_data_47 rfl (lv_at hl 1 rfl) ?_
            refine lv_lstore_n (lv' := [(2, .long y), (4, .int x), (0, .ref o), (1, .int 1)]) hx hb dX4_data_48 rfl hl (by decide) rfl (fun ls hl => ?_)
            obtain ⟨x_5, ex_5⟩ : ∃ y : Int32, y = x + 1 := ⟨_, rfl⟩
            refine lv_iinc (v := x_5) (lv' := [(4, .int x_5), (2, .long y), (0, .ref o), (1, .int 1)]) hx hb dX4_data_49 hl (k := 1) rfl (by rw [ex_5]; rfl) (by decide) rfl (fun ls hl => ?_)
            refine lv_goto (tgt := 15) hx hb dX4_data_52 (by decide) ?_
            exact ih (k + 1) y x_5 (by omega) (by rw [ex_5, ex]; exact nI_1 k) (by omega) (by rw [← hs, flt_step hLb true, if_neg hbo, Nat.zero_add]) ls (lv_sub hl [0, 1, 2, 3] rfl)
          · skip
            have hbo : b.2.2 = true := by rw [hgo] at c_4; exact bI_n1.mp c_4
            refine lv_lload_n hx hb dX4_data_35 rfl (lv_at hl 1 rfl) ?_
            refine lv_aload_n hx hb dX4_data_36 rfl (lv_at hl 2 rfl) ?_
            refine va_get (D := (dC, dI)) (ci := 4) (v := .ref ql) (C := RX4) (T := TX4) (N := 21) hx hb hw inX4 hown hK hP 0 rfl rfl 17 (by decide) (hw _ w_c20510a516) (fun _ h9 => h9) rfl dX4_data_37 ?_
            refine lv_iload hx hb dX4_data_40 (lv_at hl 0 rfl) ?_
            refine va_lald hx hb hK hP 1 0 rfl rfl (by rw [ex]; exact vp_in_nI (by omega) (by omega)) dX4_data_42 ?_
            refine lv_ladd hx hb dX4_data_43 ?_
            refine lv_goto (tgt := 48) hx hb dX4_data_44 (by decide) ?_
            refine lv_topl (fun x_6 ex_6 => ?_)
            refine lv_lstore_n (lv' := [(2, .long x_6), (4, .int x), (0, .ref o), (1, .int 1)]) hx hb dX4_data_48 rfl hl (by decide) rfl (fun ls hl => ?_)
            obtain ⟨x_7, ex_7⟩ : ∃ y : Int32, y = x + 1 := ⟨_, rfl⟩
            refine lv_iinc (v := x_7) (lv' := [(4, .int x_7), (2, .long x_6), (0, .ref o), (1, .int 1)]) hx hb dX4_data_49 hl (k := 1) rfl (by rw [ex_7]; rfl) (by decide) rfl (fun ls hl => ?_)
            refine lv_goto (tgt := 15) hx hb dX4_data_52 (by decide) ?_
            exact ih (k + 1) x_6 x_7 (by omega) (by rw [ex_7, ex]; exact nI_1 k) (by omega) (by rw [← hs, flt_step hLb true, if_pos hbo, ex_6, show gl x.toNatClampNeg = lN b.2.1 from (by rw [ex, nI_clamp (by omega)]; exact (hrep k b hLb).2.1), ← lN_add, Int64.add_assoc]) ls (lv_sub hl [0, 1, 2, 3] rfl)
    exact loop (L.length + 1) 1 x_2 1 (by omega) (rfl) (by decide) (by rw [List.drop_one, ex_2]) ls (lv_sub hl [0, 1, 2, 3] rfl)
set_option maxHeartbeats 4000000 in
set_option maxRecDepth 100000 in
/-- Model.data -/
theorem m_data0 (l : Launch) (dC : Nat → ClassId) (dI : Nat → Nat → Nat) (o : Nat) (cd : Int32) (sc : Int32) (qm : Nat) (qd : Nat) (ch : Int32) (fe : Int32) (sz : Int32) (rd : Int32) (ca : Int32) (sx : Int32) (qp : Nat) (co : Int32) (gi : Int32) (aw : Int32) (cg : Int32) (bk : Int32) (qs : Nat) (ql : Nat) (qo : Nat) (ax : Int32) (wi : Int64) (cJ : ClassId) (cZ : ClassId) (gs : Nat → Int64) (gl : Nat → Int64) (go : Nat → Int32) (L : List Blk) (hrep : repM L gs gl go) (hbk : bk = nI L.length) (hL : L.length ≤ 16) : Met l yX4_data wsX4_data ({ frames := 0, cells := 0, slots := 0, locals := 0 }) (va_Pc [.ref o, .int 0] (fun U => va_P (dC, dI) vwCl [(o, .inr (4, [.int cd, .int sc, .ref qm, .ref qd, .int ch, .int fe, .int sz, .int rd, .int ca, .int sx, .ref qp, .int co, .int gi, .int aw, .int cg, .int bk, .ref qs, .ref ql, .ref qo, .int ax, .long wi])), (ql, .inl (cJ, 16, .inr (.inl gl))), (qo, .inl (cZ, 16, .inl go))] U.heap ∧ va_K (dC, dI) vwCl [(cJ, .long), (cZ, .boolean)] U ∧ ZZ (fun _ => False) U U.heap)) (vp_Sl (fun r => r = (0 : Int64) + lN (tot (flt L.tail false)))) 0 0 (fun _ => False) := by
  refine Met.ofW (cc := cX4_data) (maxL := 5) (ret := (some .long)) (by decide) rfl ?_
  intro p e s m args below meth c s₁ B hml hv
  obtain ⟨rfl, hP, hK, hZ⟩ := hv
  have hx := B.exec
  have hb := B.bytes
  have hr := B.returns
  have hts := atoms_spec (ws := wsX4_data) B.pre
  have hw : ∀ w ∈ WW, w.before _ s = true := fun w h => hts w (List.mem_cons_of_mem _ h)
  have hown : s.vm.findClass RX4 = some m.cls := findClass_of_methodNamed B.named
  have hlocks := B.notSynchronized
  have hl := lv_entry ([.ref o, .int 0]) (n := 5) (Nat.le_of_ble_eq_true rfl)
  rw [lg_entry_eq]
  generalize (lg_sl ([.ref o, .int 0]) ++ List.replicate (5 - (lg_sl ([.ref o, .int 0])).length) Slot.unset).toArray = ls at hl ⊢
  have hl : lv_has ls 5 [(0, .ref o), (1, .int 0)] := hl
  refine lv_iload_n hx hb dX4_data_0 rfl (lv_at hl 1 rfl) ?_
  refine lv_if_eq (tgt := 10) hx hb dX4_data_1 (by decide) (fun c_1 => ?_) (fun c_1 => ?_)
  · skip
    refine lv_lconst (v := 0) hx hb dX4_data_10 (by decide) ?_
    refine lv_lstore_n (lv' := [(2, .long 0), (0, .ref o), (1, .int 0)]) hx hb dX4_data_11 rfl hl (by decide) rfl (fun ls hl => ?_)
    refine lv_iconst (v := 1) hx hb dX4_data_12 (by decide) ?_
    refine lv_istore (lv' := [(4, .int 1), (2, .long 0), (0, .ref o), (1, .int 0)]) hx hb dX4_data_13 hl (by decide) rfl (fun ls hl => ?_)
    have loop : ∀ (N : Nat) (k : Nat) (y : Int64) (x : Int32) (hN : L.length - k < N) (ex : x = nI k) (hkm : k ≤ 16) (hs : y + lN (tot (flt (L.drop k) false)) = (0 : Int64) + lN (tot (flt L.tail false))) (ls : Array Slot) (hl : lv_has ls 5 [(4, .int x), (2, .long y), (0, .ref o), (1, .int 0)]), W p l e (headSpec wsX4_data ({ frames := 0, cells := 0, slots := 0, locals := 0 })).room s m [.ref o, .int 0].toArray below meth c s.heap [] 0 0 (MQ below (vp_Sl (fun r => r = (0 : Int64) + lN (tot (flt L.tail false)))) [.ref o, .int 0].toArray s 0 0 (fun _ => False)) (F0 m 15 ls []) := by
      intro N
      induction N with
      | zero => intro k y x hN ex hkm hs ls hl; exact absurd hN (Nat.not_lt_zero _)
      | succ N ih =>
        intro k y x hN ex hkm hs ls hl
        refine lv_iload hx hb dX4_data_15 (lv_at hl 0 rfl) ?_
        refine lv_aload_n hx hb dX4_data_17 rfl (lv_at hl 2 rfl) ?_
        refine va_get (D := (dC, dI)) (ci := 4) (v := .int bk) (C := RX4) (T := TX4) (N := 21) hx hb hw inX4 hown hK hP 0 rfl rfl 15 (by decide) (hw _ w_f0da19b997) (fun _ h9 => h9) rfl dX4_data_18 ?_
        refine lv_icmp_ge (tgt := 55) hx hb dX4_data_21 (by decide) (fun c_2 => ?_) (fun c_2 => ?_)
        · skip
          have hk0 : L.length ≤ k := by rw [ex, hbk, nI_leI (by omega) (by omega)] at c_2; omega
          refine lv_lload_n hx hb dX4_data_55 rfl (lv_at hl 1 rfl) ?_
          exact W.lret (v := y) hx hb hr (fun t ht hW => ⟨_, rfl, (by rw [← hs, List.drop_eq_nil_of_le hk0]; exact (Int64.add_zero _).symm), ht⟩) t_nil dX4_data_56
        · skip
          have hk0 : k < L.length := by rw [ex, hbk, nI_leI (by omega) (by omega)] at c_2; omega
          obtain ⟨b, hLb⟩ : ∃ b, L[k]? = some b := ⟨_, List.getElem?_eq_getElem hk0⟩
          have hgo : go x.toNatClampNeg = bI (b.2.2 = true) := by rw [ex, nI_clamp (by omega)]; exact (hrep k b hLb).2.2
          refine lv_aload_n hx hb dX4_data_24 rfl (lv_at hl 2 rfl) ?_
          refine va_get (D := (dC, dI)) (ci := 4) (v := .ref qo) (C := RX4) (T := TX4) (N := 21) hx hb hw inX4 hown hK hP 0 rfl rfl 18 (by decide) (hw _ w_3d33b1130a) (fun _ h9 => h9) rfl dX4_data_25 ?_
          refine lv_iload hx hb dX4_data_28 (lv_at hl 0 rfl) ?_
          refine va_zald hx hb hK hP 2 1 rfl rfl (by rw [ex]; exact vp_in_nI (by omega) (by omega)) dX4_data_30 ?_
          refine lv_iload_n hx hb dX4_data_31 rfl (lv_at hl 3 rfl) ?_
          refine lv_icmp_ne (tgt := 47) hx hb dX4_data_32 (by decide) (fun c_3 => ?_) (fun c_3 => ?_)
          · skip
            have hbo : ¬ b.2.2 = false := by rw [hgo] at c_3; exact fun z => c_3 (bI_n0.mpr z)
            refine lv_lload_n hx hb dX4_data_47 rfl (lv_at hl 1 rfl) ?_
            refine lv_lstore_n (lv' := [(2, .long y), (4, .int x), (0, .ref o), (1, .int 0)]) hx hb dX4_data_48 rfl hl (by decide) rfl (fun ls hl => ?_)
            obtain ⟨x_4, ex_4⟩ : ∃ y : Int32, y = x + 1 := ⟨_, rfl⟩
            refine lv_iinc (v := x_4) (lv' := [(4, .int x_4), (2, .long y), (0, .ref o), (1, .int 0)]) hx hb dX4_data_49 hl (k := 1) rfl (by rw [ex_4]; rfl) (by decide) rfl (fun ls hl => ?_)
            refine lv_goto (tgt := 15) hx hb dX4_data_52 (by decide) ?_
            exact ih (k + 1) y x_4 (by omega) (by rw [ex_4, ex]; exact nI_1 k) (by omega) (by rw [← hs, flt_step hLb false, if_neg hbo, Nat.zero_add]) ls (lv_sub hl [0, 1, 2, 3] rfl)
          · skip
            have hbo : b.2.2 = false := by rw [hgo] at c_3; exact bI_n0.mp c_3
            refine lv_lload_n hx hb dX4_data_35 rfl (lv_at hl 1 rfl) ?_
            refine lv_aload_n hx hb dX4_data_36 rfl (lv_at hl 2 rfl) ?_
            refine va_get (D := (dC, dI)) (ci := 4) (v := .ref ql) (C := RX4) (T := TX4) (N := 21) hx hb hw inX4 hown hK hP 0 rfl rfl 17 (by decide) (hw _ w_c20510a516) (fun _ h9 => h9) rfl dX4_data_37 ?_
            refine lv_iload hx hb dX4_data_40 (lv_at hl 0 rfl) ?_
            refine va_lald hx hb hK hP 1 0 rfl rfl (by rw [ex]; exact vp_in_nI (by omega) (by omega)) dX4_data_42 ?_
            refine lv_ladd hx hb dX4_data_43 ?_
            refine lv_goto (tgt := 48) hx hb dX4_data_44 (by decide) ?_
            refine lv_topl (fun x_5 ex_5 => ?_)
            refine lv_lstore_n (lv' := [(2, .long x_5), (4, .int x), (0, .ref o), (1, .int 0)]) hx hb dX4_data_48 rfl hl (by decide) rfl (fun ls hl => ?_)
            obtain ⟨x_6, ex_6⟩ : ∃ y : Int32, y = x + 1 := ⟨_, rfl⟩
            refine lv_iinc (v := x_6) (lv' := [(4, .int x_6), (2, .long x_5), (0, .ref o), (1, .int 0)]) hx hb dX4_data_49 hl (k := 1) rfl (by rw [ex_6]; rfl) (by decide) rfl (fun ls hl => ?_)
            refine lv_goto (tgt := 15) hx hb dX4_data_52 (by decide) ?_
            exact ih (k + 1) x_5 x_6 (by omega) (by rw [ex_6, ex]; exact nI_1 k) (by omega) (by rw [← hs, flt_step hLb false, if_pos hbo, ex_5, show gl x.toNatClampNeg = lN b.2.1 from (by rw [ex, nI_clamp (by omega)]; exact (hrep k b hLb).2.1), ← lN_add, Int64.add_assoc]) ls (lv_sub hl [0, 1, 2, 3] rfl)
    exact loop (L.length + 1) 1 0 1 (by omega) (rfl) (by decide) (by rw [List.drop_one]) ls (lv_sub hl [0, 1, 2, 3] rfl)
  · skip
    exact absurd c_1 (by decide)
set_option maxHeartbeats 4000000 in
set_option maxRecDepth 100000 in
/-- Model.beginData -/
theorem m_beginData1 (l : Launch) (dC : Nat → ClassId) (dI : Nat → Nat → Nat) (o : Nat) (cd : Int32) (sc : Int32) (qm : Nat) (qd : Nat) (ch : Int32) (fe : Int32) (sz : Int32) (rd : Int32) (ca : Int32) (sx : Int32) (qp : Nat) (co : Int32) (gi : Int32) (aw : Int32) (cg : Int32) (bk : Int32) (qs : Nat) (ql : Nat) (qo : Nat) (ax : Int32) (wi : Int64) (cZ : ClassId) (go : Nat → Int32) (fi : Nat) (zS : Nat) (hf1 : 1 ≤ fi) (hf2 : fi < 16) (hfo : go fi = 1) (hfn : ∀ i, 1 ≤ i → i < fi → ¬ go i = 1) : Met l yX4_beginData wsX4_beginData ({ frames := 0, cells := 0, slots := 0, locals := 0 }) (va_Pc [.ref o, .int 1] (fun U => U.heap.size = zS ∧ va_P (dC, dI) vwCl [(o, .inr (4, [.int cd, .int sc, .ref qm, .ref qd, .int ch, .int fe, .int sz, .int rd, .int ca, .int sx, .ref qp, .int co, .int gi, .int aw, .int cg, .int bk, .ref qs, .ref ql, .ref qo, .int ax, .long wi])), (qo, .inl (cZ, 16, .inl go))] U.heap ∧ va_K (dC, dI) vwCl [(cZ, .boolean)] U ∧ va_D (fun _ => True) [(o, .inr (4, [.int cd, .int sc, .ref qm, .ref qd, .int ch, .int fe, .int sz, .int rd, .int ca, .int sx, .ref qp, .int co, .int gi, .int aw, .int cg, .int bk, .ref qs, .ref ql, .ref qo, .int ax, .long wi])), (qo, .inl (cZ, 16, .inl go))] ∧ ZZ (va_A [(o, .inr (4, [.int cd, .int sc, .ref qm, .ref qd, .int ch, .int fe, .int sz, .int rd, .int ca, .int sx, .ref qp, .int co, .int gi, .int aw, .int cg, .int bk, .ref qs, .ref ql, .ref qo, .int ax, .long wi])), (qo, .inl (cZ, 16, .inl go))] zS) U U.heap)) (va_Qv (fun (u : Int32) => match u with | ax2 => ax2 = nI fi) (fun (u : Int32) (t : State) => match u with | ax2 => va_P (dC, dI) vwCl [(o, .inr (4, [.int cd, .int sc, .ref qm, .ref qd, .int ch, .int fe, .int sz, .int rd, .int ca, .int sx, .ref qp, .int co, .int gi, .int aw, .int cg, .int bk, .ref qs, .ref ql, .ref qo, .int ax2, .long 0])), (qo, .inl (cZ, 16, .inl go))] t.heap ∧ va_K (dC, dI) vwCl [(cZ, .boolean)] t ∧ va_D (va_A [(o, .inr (4, [.int cd, .int sc, .ref qm, .ref qd, .int ch, .int fe, .int sz, .int rd, .int ca, .int sx, .ref qp, .int co, .int gi, .int aw, .int cg, .int bk, .ref qs, .ref ql, .ref qo, .int ax, .long wi])), (qo, .inl (cZ, 16, .inl go))] zS) [(o, .inr (4, [.int cd, .int sc, .ref qm, .ref qd, .int ch, .int fe, .int sz, .int rd, .int ca, .int sx, .ref qp, .int co, .int gi, .int aw, .int cg, .int bk, .ref qs, .ref ql, .ref qo, .int ax2, .long 0])), (qo, .inl (cZ, 16, .inl go))]) (va_A [(o, .inr (4, [.int cd, .int sc, .ref qm, .ref qd, .int ch, .int fe, .int sz, .int rd, .int ca, .int sx, .ref qp, .int co, .int gi, .int aw, .int cg, .int bk, .ref qs, .ref ql, .ref qo, .int ax, .long wi])), (qo, .inl (cZ, 16, .inl go))] zS)) 0 0 (va_A [(o, .inr (4, [.int cd, .int sc, .ref qm, .ref qd, .int ch, .int fe, .int sz, .int rd, .int ca, .int sx, .ref qp, .int co, .int gi, .int aw, .int cg, .int bk, .ref qs, .ref ql, .ref qo, .int ax, .long wi])), (qo, .inl (cZ, 16, .inl go))] zS) := by
  refine Met.ofW (cc := cX4_beginData) (maxL := 2) (ret := (none)) (by decide) rfl ?_
  intro p e s m args below meth c s₁ B hml hv
  obtain ⟨rfl, hsz, hP, hK, hD0, hZ⟩ := hv
  have hx := B.exec
  have hb := B.bytes
  have hr := B.returns
  have hts := atoms_spec (ws := wsX4_beginData) B.pre
  have hw : ∀ w ∈ WW, w.before _ s = true := fun w h => hts w (List.mem_cons_of_mem _ h)
  have hown : s.vm.findClass RX4 = some m.cls := findClass_of_methodNamed B.named
  have hlocks := B.notSynchronized
  subst hsz
  have hD := hD0.self (sz := s.heap.size)
  generalize hAe : va_A [(o, .inr (4, [.int cd, .int sc, .ref qm, .ref qd, .int ch, .int fe, .int sz, .int rd, .int ca, .int sx, .ref qp, .int co, .int gi, .int aw, .int cg, .int bk, .ref qs, .ref ql, .ref qo, .int ax, .long wi])), (qo, .inl (cZ, 16, .inl go))] s.heap.size = A at hD hZ ⊢
  have hA : ∀ q : Nat, s.heap.size ≤ q → A q := fun q h => by rw [← hAe]; exact Or.inr h
  have hS : va_S A s.heap s.heap [] := va_S.rf
  have hP : va_P (dC, dI) vwCl [(o, .inr (4, [.int cd, .int sc, .ref qm, .ref qd, .int ch, .int fe, .int sz, .int rd, .int ca, .int sx, .ref qp, .int co, .int gi, .int aw, .int cg, .int bk, .ref qs, .ref ql, .ref qo, .int ax, .long wi])), (qo, .inl (cZ, 16, .inl go))] s.heap := hP
  have hl := lv_entry ([.ref o, .int 1]) (n := 2) (Nat.le_of_ble_eq_true rfl)
  rw [lg_entry_eq]
  generalize (lg_sl ([.ref o, .int 1]) ++ List.replicate (2 - (lg_sl ([.ref o, .int 1])).length) Slot.unset).toArray = ls at hl ⊢
  have hl : lv_has ls 2 [(0, .ref o), (1, .int 1)] := hl
  refine lv_aload_n hx hb dX4_beginData_0 rfl (lv_at hl 0 rfl) ?_
  refine lv_iconst (v := 1) hx hb dX4_beginData_1 (by decide) ?_
  refine va_put (D := (dC, dI)) (ci := 4) (v := .int 1) (ty := .int) (C := RX4) (T := TX4) (N := 21) hx hb hw inX4 tyX4 tyX4_ok nmX4 hown hK hP hD hS 0 rfl rfl 19 (by decide) (hw _ w_00d3b01dcd) (fun _ h9 => h9) rfl (by decide +kernel) rfl rfl (Nat.le_of_ble_eq_true rfl) dX4_beginData_2 (fun H locs hP hD hS => ?_)
  have hP : va_P (dC, dI) vwCl [(o, .inr (4, [.int cd, .int sc, .ref qm, .ref qd, .int ch, .int fe, .int sz, .int rd, .int ca, .int sx, .ref qp, .int co, .int gi, .int aw, .int cg, .int bk, .ref qs, .ref ql, .ref qo, .int 1, .long wi])), (qo, .inl (cZ, 16, .inl go))] H := hP
  have hD : va_D A [(o, .inr (4, [.int cd, .int sc, .ref qm, .ref qd, .int ch, .int fe, .int sz, .int rd, .int ca, .int sx, .ref qp, .int co, .int gi, .int aw, .int cg, .int bk, .ref qs, .ref ql, .ref qo, .int 1, .long wi])), (qo, .inl (cZ, 16, .inl go))] := hD
  refine lv_aload_n hx hb dX4_beginData_5 rfl (lv_at hl 0 rfl) ?_
  refine lv_lconst (v := 0) hx hb dX4_beginData_6 (by decide) ?_
  refine va_put (D := (dC, dI)) (ci := 4) (v := .long 0) (ty := .long) (C := RX4) (T := TX4) (N := 21) hx hb hw inX4 tyX4 tyX4_ok nmX4 hown hK hP hD hS 0 rfl rfl 20 (by decide) (hw _ w_9277178bb0) (fun _ h9 => h9) rfl (by decide +kernel) rfl rfl (Nat.le_of_ble_eq_true rfl) dX4_beginData_7 (fun H locs hP hD hS => ?_)
  have hP : va_P (dC, dI) vwCl [(o, .inr (4, [.int cd, .int sc, .ref qm, .ref qd, .int ch, .int fe, .int sz, .int rd, .int ca, .int sx, .ref qp, .int co, .int gi, .int aw, .int cg, .int bk, .ref qs, .ref ql, .ref qo, .int 1, .long 0])), (qo, .inl (cZ, 16, .inl go))] H := hP
  have hD : va_D A [(o, .inr (4, [.int cd, .int sc, .ref qm, .ref qd, .int ch, .int fe, .int sz, .int rd, .int ca, .int sx, .ref qp, .int co, .int gi, .int aw, .int cg, .int bk, .ref qs, .ref ql, .ref qo, .int 1, .long 0])), (qo, .inl (cZ, 16, .inl go))] := hD
  have loop : ∀ (N : Nat) (i : Nat) (ax3 : Int32) (hN : fi - i < N) (ea : ax3 = nI i) (h1 : 1 ≤ i) (h2 : i ≤ fi) (H : Heap) (locs : List Loc) (hP : va_P (dC, dI) vwCl [(o, .inr (4, [.int cd, .int sc, .ref qm, .ref qd, .int ch, .int fe, .int sz, .int rd, .int ca, .int sx, .ref qp, .int co, .int gi, .int aw, .int cg, .int bk, .ref qs, .ref ql, .ref qo, .int ax3, .long 0])), (qo, .inl (cZ, 16, .inl go))] H) (hD : va_D A [(o, .inr (4, [.int cd, .int sc, .ref qm, .ref qd, .int ch, .int fe, .int sz, .int rd, .int ca, .int sx, .ref qp, .int co, .int gi, .int aw, .int cg, .int bk, .ref qs, .ref ql, .ref qo, .int ax3, .long 0])), (qo, .inl (cZ, 16, .inl go))]) (hS : va_S A s.heap H locs) (ls : Array Slot) (hl : lv_has ls 2 [(0, .ref o), (1, .int 1)]), W p l e (headSpec wsX4_beginData ({ frames := 0, cells := 0, slots := 0, locals := 0 })).room s m [.ref o, .int 1].toArray below meth c H locs 0 0 (MQ below (va_Qv (fun (u : Int32) => match u with | ax2 => ax2 = nI fi) (fun (u : Int32) (t : State) => match u with | ax2 => va_P (dC, dI) vwCl [(o, .inr (4, [.int cd, .int sc, .ref qm, .ref qd, .int ch, .int fe, .int sz, .int rd, .int ca, .int sx, .ref qp, .int co, .int gi, .int aw, .int cg, .int bk, .ref qs, .ref ql, .ref qo, .int ax2, .long 0])), (qo, .inl (cZ, 16, .inl go))] t.heap ∧ va_K (dC, dI) vwCl [(cZ, .boolean)] t ∧ va_D A [(o, .inr (4, [.int cd, .int sc, .ref qm, .ref qd, .int ch, .int fe, .int sz, .int rd, .int ca, .int sx, .ref qp, .int co, .int gi, .int aw, .int cg, .int bk, .ref qs, .ref ql, .ref qo, .int ax2, .long 0])), (qo, .inl (cZ, 16, .inl go))]) A) [.ref o, .int 1].toArray s 0 0 A) (F0 m 10 ls []) := by
    intro N
    induction N with
    | zero => intro i ax3 hN ea h1 h2 H locs hP hD hS ls hl; exact absurd hN (Nat.not_lt_zero _)
    | succ N ih =>
      intro i ax3 hN ea h1 h2 H locs hP hD hS ls hl
      refine lv_aload_n hx hb dX4_beginData_10 rfl (lv_at hl 0 rfl) ?_
      refine va_get (D := (dC, dI)) (ci := 4) (v := .ref qo) (C := RX4) (T := TX4) (N := 21) hx hb hw inX4 hown hK hP 0 rfl rfl 18 (by decide) (hw _ w_3d33b1130a) (fun _ h9 => h9) rfl dX4_beginData_11 ?_
      refine lv_aload_n hx hb dX4_beginData_14 rfl (lv_at hl 0 rfl) ?_
      refine va_get (D := (dC, dI)) (ci := 4) (v := .int ax3) (C := RX4) (T := TX4) (N := 21) hx hb hw inX4 hown hK hP 0 rfl rfl 19 (by decide) (hw _ w_00d3b01dcd) (fun _ h9 => h9) rfl dX4_beginData_15 ?_
      refine va_zald hx hb hK hP 1 0 rfl rfl (by rw [ea]; exact vp_in_nI (by omega) (by omega)) dX4_beginData_18 ?_
      refine lv_iload_n hx hb dX4_beginData_19 rfl (lv_at hl 1 rfl) ?_
      refine lv_icmp_eq (tgt := 36) hx hb dX4_beginData_20 (by decide) (fun c_1 => ?_) (fun c_1 => ?_)
      · skip
        have hi0 : i = fi := by rw [ea, nI_clamp (by omega)] at c_1; exact Nat.le_antisymm h2 (Nat.le_of_not_lt fun z => hfn i h1 z c_1)
        subst hi0
        have hP9 : va_P (dC, dI) vwCl [(o, .inr (4, [.int cd, .int sc, .ref qm, .ref qd, .int ch, .int fe, .int sz, .int rd, .int ca, .int sx, .ref qp, .int co, .int gi, .int aw, .int cg, .int bk, .ref qs, .ref ql, .ref qo, .int ax3, .long 0])), (qo, .inl (cZ, 16, .inl go))] H := by exact hP.sub (ws' := [(o, .inr (4, [.int cd, .int sc, .ref qm, .ref qd, .int ch, .int fe, .int sz, .int rd, .int ca, .int sx, .ref qp, .int co, .int gi, .int aw, .int cg, .int bk, .ref qs, .ref ql, .ref qo, .int ax3, .long 0])), (qo, .inl (cZ, 16, .inl go))]) [0, 1] rfl
        have hD9 : va_D A [(o, .inr (4, [.int cd, .int sc, .ref qm, .ref qd, .int ch, .int fe, .int sz, .int rd, .int ca, .int sx, .ref qp, .int co, .int gi, .int aw, .int cg, .int bk, .ref qs, .ref ql, .ref qo, .int ax3, .long 0])), (qo, .inl (cZ, 16, .inl go))] := by exact hD.sub (ws' := [(o, .inr (4, [.int cd, .int sc, .ref qm, .ref qd, .int ch, .int fe, .int sz, .int rd, .int ca, .int sx, .ref qp, .int co, .int gi, .int aw, .int cg, .int bk, .ref qs, .ref ql, .ref qo, .int ax3, .long 0])), (qo, .inl (cZ, 16, .inl go))]) [0, 1] (by decide) rfl
        have hK9 := hK.sub (tys' := [(cZ, .boolean)]) [0] rfl
        exact W.vret hx hb hr (fun t ht hW => ⟨⟨(ax3), rfl, ea, by rw [ht]; exact hP9, va_K.moved hW.alike hK9, hD9⟩, hS.F ht⟩) hS.2.2 dX4_beginData_36
      · skip
        have hi0 : i < fi := by rw [ea, nI_clamp (by omega)] at c_1; exact Nat.lt_of_le_of_ne h2 (fun z => c_1 (by rw [z]; exact hfo))
        refine lv_aload_n hx hb dX4_beginData_23 rfl (lv_at hl 0 rfl) ?_
        refine lv_dup hx hb dX4_beginData_24 rfl ?_
        refine va_get (D := (dC, dI)) (ci := 4) (v := .int ax3) (C := RX4) (T := TX4) (N := 21) hx hb hw inX4 hown hK hP 0 rfl rfl 19 (by decide) (hw _ w_00d3b01dcd) (fun _ h9 => h9) rfl dX4_beginData_25 ?_
        refine lv_iconst (v := 1) hx hb dX4_beginData_28 (by decide) ?_
        refine lv_iadd hx hb dX4_beginData_29 ?_
        refine lv_topi (fun x_2 ex_2 => ?_)
        refine va_put (D := (dC, dI)) (ci := 4) (v := .int x_2) (ty := .int) (C := RX4) (T := TX4) (N := 21) hx hb hw inX4 tyX4 tyX4_ok nmX4 hown hK hP hD hS 0 rfl rfl 19 (by decide) (hw _ w_00d3b01dcd) (fun _ h9 => h9) rfl (by decide +kernel) rfl rfl (Nat.le_of_ble_eq_true rfl) dX4_beginData_30 (fun H locs hP hD hS => ?_)
        have hP : va_P (dC, dI) vwCl [(o, .inr (4, [.int cd, .int sc, .ref qm, .ref qd, .int ch, .int fe, .int sz, .int rd, .int ca, .int sx, .ref qp, .int co, .int gi, .int aw, .int cg, .int bk, .ref qs, .ref ql, .ref qo, .int x_2, .long 0])), (qo, .inl (cZ, 16, .inl go))] H := hP
        have hD : va_D A [(o, .inr (4, [.int cd, .int sc, .ref qm, .ref qd, .int ch, .int fe, .int sz, .int rd, .int ca, .int sx, .ref qp, .int co, .int gi, .int aw, .int cg, .int bk, .ref qs, .ref ql, .ref qo, .int x_2, .long 0])), (qo, .inl (cZ, 16, .inl go))] := hD
        refine lv_goto (tgt := 10) hx hb dX4_beginData_33 (by decide) ?_
        exact ih (i + 1) x_2 (by omega) (by rw [ex_2, ea]; exact nI_1 i) (by omega) (by omega) _ _ (hP.sub [0, 1] rfl) (hD.sub [0, 1] (by decide) rfl) hS ls (lv_sub hl [0, 1] rfl)
  exact loop (fi + 1) 1 1 (by omega) (rfl) (Nat.le_refl 1) (hf1) _ _ (hP.sub [0, 1] rfl) (hD.sub [0, 1] (by decide) rfl) hS ls (lv_sub hl [0, 1] rfl)
set_option maxHeartbeats 4000000 in
set_option maxRecDepth 100000 in
/-- Model.beginData -/
theorem m_beginData0 (l : Launch) (dC : Nat → ClassId) (dI : Nat → Nat → Nat) (o : Nat) (cd : Int32) (sc : Int32) (qm : Nat) (qd : Nat) (ch : Int32) (fe : Int32) (sz : Int32) (rd : Int32) (ca : Int32) (sx : Int32) (qp : Nat) (co : Int32) (gi : Int32) (aw : Int32) (cg : Int32) (bk : Int32) (qs : Nat) (ql : Nat) (qo : Nat) (ax : Int32) (wi : Int64) (cZ : ClassId) (go : Nat → Int32) (fi : Nat) (zS : Nat) (hf1 : 1 ≤ fi) (hf2 : fi < 16) (hfo : go fi = 0) (hfn : ∀ i, 1 ≤ i → i < fi → ¬ go i = 0) : Met l yX4_beginData wsX4_beginData ({ frames := 0, cells := 0, slots := 0, locals := 0 }) (va_Pc [.ref o, .int 0] (fun U => U.heap.size = zS ∧ va_P (dC, dI) vwCl [(o, .inr (4, [.int cd, .int sc, .ref qm, .ref qd, .int ch, .int fe, .int sz, .int rd, .int ca, .int sx, .ref qp, .int co, .int gi, .int aw, .int cg, .int bk, .ref qs, .ref ql, .ref qo, .int ax, .long wi])), (qo, .inl (cZ, 16, .inl go))] U.heap ∧ va_K (dC, dI) vwCl [(cZ, .boolean)] U ∧ va_D (fun _ => True) [(o, .inr (4, [.int cd, .int sc, .ref qm, .ref qd, .int ch, .int fe, .int sz, .int rd, .int ca, .int sx, .ref qp, .int co, .int gi, .int aw, .int cg, .int bk, .ref qs, .ref ql, .ref qo, .int ax, .long wi])), (qo, .inl (cZ, 16, .inl go))] ∧ ZZ (va_A [(o, .inr (4, [.int cd, .int sc, .ref qm, .ref qd, .int ch, .int fe, .int sz, .int rd, .int ca, .int sx, .ref qp, .int co, .int gi, .int aw, .int cg, .int bk, .ref qs, .ref ql, .ref qo, .int ax, .long wi])), (qo, .inl (cZ, 16, .inl go))] zS) U U.heap)) (va_Qv (fun (u : Int32) => match u with | ax2 => ax2 = nI fi) (fun (u : Int32) (t : State) => match u with | ax2 => va_P (dC, dI) vwCl [(o, .inr (4, [.int cd, .int sc, .ref qm, .ref qd, .int ch, .int fe, .int sz, .int rd, .int ca, .int sx, .ref qp, .int co, .int gi, .int aw, .int cg, .int bk, .ref qs, .ref ql, .ref qo, .int ax2, .long 0])), (qo, .inl (cZ, 16, .inl go))] t.heap ∧ va_K (dC, dI) vwCl [(cZ, .boolean)] t ∧ va_D (va_A [(o, .inr (4, [.int cd, .int sc, .ref qm, .ref qd, .int ch, .int fe, .int sz, .int rd, .int ca, .int sx, .ref qp, .int co, .int gi, .int aw, .int cg, .int bk, .ref qs, .ref ql, .ref qo, .int ax, .long wi])), (qo, .inl (cZ, 16, .inl go))] zS) [(o, .inr (4, [.int cd, .int sc, .ref qm, .ref qd, .int ch, .int fe, .int sz, .int rd, .int ca, .int sx, .ref qp, .int co, .int gi, .int aw, .int cg, .int bk, .ref qs, .ref ql, .ref qo, .int ax2, .long 0])), (qo, .inl (cZ, 16, .inl go))]) (va_A [(o, .inr (4, [.int cd, .int sc, .ref qm, .ref qd, .int ch, .int fe, .int sz, .int rd, .int ca, .int sx, .ref qp, .int co, .int gi, .int aw, .int cg, .int bk, .ref qs, .ref ql, .ref qo, .int ax, .long wi])), (qo, .inl (cZ, 16, .inl go))] zS)) 0 0 (va_A [(o, .inr (4, [.int cd, .int sc, .ref qm, .ref qd, .int ch, .int fe, .int sz, .int rd, .int ca, .int sx, .ref qp, .int co, .int gi, .int aw, .int cg, .int bk, .ref qs, .ref ql, .ref qo, .int ax, .long wi])), (qo, .inl (cZ, 16, .inl go))] zS) := by
  refine Met.ofW (cc := cX4_beginData) (maxL := 2) (ret := (none)) (by decide) rfl ?_
  intro p e s m args below meth c s₁ B hml hv
  obtain ⟨rfl, hsz, hP, hK, hD0, hZ⟩ := hv
  have hx := B.exec
  have hb := B.bytes
  have hr := B.returns
  have hts := atoms_spec (ws := wsX4_beginData) B.pre
  have hw : ∀ w ∈ WW, w.before _ s = true := fun w h => hts w (List.mem_cons_of_mem _ h)
  have hown : s.vm.findClass RX4 = some m.cls := findClass_of_methodNamed B.named
  have hlocks := B.notSynchronized
  subst hsz
  have hD := hD0.self (sz := s.heap.size)
  generalize hAe : va_A [(o, .inr (4, [.int cd, .int sc, .ref qm, .ref qd, .int ch, .int fe, .int sz, .int rd, .int ca, .int sx, .ref qp, .int co, .int gi, .int aw, .int cg, .int bk, .ref qs, .ref ql, .ref qo, .int ax, .long wi])), (qo, .inl (cZ, 16, .inl go))] s.heap.size = A at hD hZ ⊢
  have hA : ∀ q : Nat, s.heap.size ≤ q → A q := fun q h => by rw [← hAe]; exact Or.inr h
  have hS : va_S A s.heap s.heap [] := va_S.rf
  have hP : va_P (dC, dI) vwCl [(o, .inr (4, [.int cd, .int sc, .ref qm, .ref qd, .int ch, .int fe, .int sz, .int rd, .int ca, .int sx, .ref qp, .int co, .int gi, .int aw, .int cg, .int bk, .ref qs, .ref ql, .ref qo, .int ax, .long wi])), (qo, .inl (cZ, 16, .inl go))] s.heap := hP
  have hl := lv_entry ([.ref o, .int 0]) (n := 2) (Nat.le_of_ble_eq_true rfl)
  rw [lg_entry_eq]
  generalize (lg_sl ([.ref o, .int 0]) ++ List.replicate (2 - (lg_sl ([.ref o, .int 0])).length) Slot.unset).toArray = ls at hl ⊢
  have hl : lv_has ls 2 [(0, .ref o), (1, .int 0)] := hl
  refine lv_aload_n hx hb dX4_beginData_0 rfl (lv_at hl 0 rfl) ?_
  refine lv_iconst (v := 1) hx hb dX4_beginData_1 (by decide) ?_
  refine va_put (D := (dC, dI)) (ci := 4) (v := .int 1) (ty := .int) (C := RX4) (T := TX4) (N := 21) hx hb hw inX4 tyX4 tyX4_ok nmX4 hown hK hP hD hS 0 rfl rfl 19 (by decide) (hw _ w_00d3b01dcd) (fun _ h9 => h9) rfl (by decide +kernel) rfl rfl (Nat.le_of_ble_eq_true rfl) dX4_beginData_2 (fun H locs hP hD hS => ?_)
  have hP : va_P (dC, dI) vwCl [(o, .inr (4, [.int cd, .int sc, .ref qm, .ref qd, .int ch, .int fe, .int sz, .int rd, .int ca, .int sx, .ref qp, .int co, .int gi, .int aw, .int cg, .int bk, .ref qs, .ref ql, .ref qo, .int 1, .long wi])), (qo, .inl (cZ, 16, .inl go))] H := hP
  have hD : va_D A [(o, .inr (4, [.int cd, .int sc, .ref qm, .ref qd, .int ch, .int fe, .int sz, .int rd, .int ca, .int sx, .ref qp, .int co, .int gi, .int aw, .int cg, .int bk, .ref qs, .ref ql, .ref qo, .int 1, .long wi])), (qo, .inl (cZ, 16, .inl go))] := hD
  refine lv_aload_n hx hb dX4_beginData_5 rfl (lv_at hl 0 rfl) ?_
  refine lv_lconst (v := 0) hx hb dX4_beginData_6 (by decide) ?_
  refine va_put (D := (dC, dI)) (ci := 4) (v := .long 0) (ty := .long) (C := RX4) (T := TX4) (N := 21) hx hb hw inX4 tyX4 tyX4_ok nmX4 hown hK hP hD hS 0 rfl rfl 20 (by decide) (hw _ w_9277178bb0) (fun _ h9 => h9) rfl (by decide +kernel) rfl rfl (Nat.le_of_ble_eq_true rfl) dX4_beginData_7 (fun H locs hP hD hS => ?_)
  have hP : va_P (dC, dI) vwCl [(o, .inr (4, [.int cd, .int sc, .ref qm, .ref qd, .int ch, .int fe, .int sz, .int rd, .int ca, .int sx, .ref qp, .int co, .int gi, .int aw, .int cg, .int bk, .ref qs, .ref ql, .ref qo, .int 1, .long 0])), (qo, .inl (cZ, 16, .inl go))] H := hP
  have hD : va_D A [(o, .inr (4, [.int cd, .int sc, .ref qm, .ref qd, .int ch, .int fe, .int sz, .int rd, .int ca, .int sx, .ref qp, .int co, .int gi, .int aw, .int cg, .int bk, .ref qs, .ref ql, .ref qo, .int 1, .long 0])), (qo, .inl (cZ, 16, .inl go))] := hD
  have loop : ∀ (N : Nat) (i : Nat) (ax3 : Int32) (hN : fi - i < N) (ea : ax3 = nI i) (h1 : 1 ≤ i) (h2 : i ≤ fi) (H : Heap) (locs : List Loc) (hP : va_P (dC, dI) vwCl [(o, .inr (4, [.int cd, .int sc, .ref qm, .ref qd, .int ch, .int fe, .int sz, .int rd, .int ca, .int sx, .ref qp, .int co, .int gi, .int aw, .int cg, .int bk, .ref qs, .ref ql, .ref qo, .int ax3, .long 0])), (qo, .inl (cZ, 16, .inl go))] H) (hD : va_D A [(o, .inr (4, [.int cd, .int sc, .ref qm, .ref qd, .int ch, .int fe, .int sz, .int rd, .int ca, .int sx, .ref qp, .int co, .int gi, .int aw, .int cg, .int bk, .ref qs, .ref ql, .ref qo, .int ax3, .long 0])), (qo, .inl (cZ, 16, .inl go))]) (hS : va_S A s.heap H locs) (ls : Array Slot) (hl : lv_has ls 2 [(0, .ref o), (1, .int 0)]), W p l e (headSpec wsX4_beginData ({ frames := 0, cells := 0, slots := 0, locals := 0 })).room s m [.ref o, .int 0].toArray below meth c H locs 0 0 (MQ below (va_Qv (fun (u : Int32) => match u with | ax2 => ax2 = nI fi) (fun (u : Int32) (t : State) => match u with | ax2 => va_P (dC, dI) vwCl [(o, .inr (4, [.int cd, .int sc, .ref qm, .ref qd, .int ch, .int fe, .int sz, .int rd, .int ca, .int sx, .ref qp, .int co, .int gi, .int aw, .int cg, .int bk, .ref qs, .ref ql, .ref qo, .int ax2, .long 0])), (qo, .inl (cZ, 16, .inl go))] t.heap ∧ va_K (dC, dI) vwCl [(cZ, .boolean)] t ∧ va_D A [(o, .inr (4, [.int cd, .int sc, .ref qm, .ref qd, .int ch, .int fe, .int sz, .int rd, .int ca, .int sx, .ref qp, .int co, .int gi, .int aw, .int cg, .int bk, .ref qs, .ref ql, .ref qo, .int ax2, .long 0])), (qo, .inl (cZ, 16, .inl go))]) A) [.ref o, .int 0].toArray s 0 0 A) (F0 m 10 ls []) := by
    intro N
    induction N with
    | zero => intro i ax3 hN ea h1 h2 H locs hP hD hS ls hl; exact absurd hN (Nat.not_lt_zero _)
    | succ N ih =>
      intro i ax3 hN ea h1 h2 H locs hP hD hS ls hl
      refine lv_aload_n hx hb dX4_beginData_10 rfl (lv_at hl 0 rfl) ?_
      refine va_get (D := (dC, dI)) (ci := 4) (v := .ref qo) (C := RX4) (T := TX4) (N := 21) hx hb hw inX4 hown hK hP 0 rfl rfl 18 (by decide) (hw _ w_3d33b1130a) (fun _ h9 => h9) rfl dX4_beginData_11 ?_
      refine lv_aload_n hx hb dX4_beginData_14 rfl (lv_at hl 0 rfl) ?_
      refine va_get (D := (dC, dI)) (ci := 4) (v := .int ax3) (C := RX4) (T := TX4) (N := 21) hx hb hw inX4 hown hK hP 0 rfl rfl 19 (by decide) (hw _ w_00d3b01dcd) (fun _ h9 => h9) rfl dX4_beginData_15 ?_
      refine va_zald hx hb hK hP 1 0 rfl rfl (by rw [ea]; exact vp_in_nI (by omega) (by omega)) dX4_beginData_18 ?_
      refine lv_iload_n hx hb dX4_beginData_19 rfl (lv_at hl 1 rfl) ?_
      refine lv_icmp_eq (tgt := 36) hx hb dX4_beginData_20 (by decide) (fun c_1 => ?_) (fun c_1 => ?_)
      · skip
        have hi0 : i = fi := by rw [ea, nI_clamp (by omega)] at c_1; exact Nat.le_antisymm h2 (Nat.le_of_not_lt fun z => hfn i h1 z c_1)
        subst hi0
        have hP9 : va_P (dC, dI) vwCl [(o, .inr (4, [.int cd, .int sc, .ref qm, .ref qd, .int ch, .int fe, .int sz, .int rd, .int ca, .int sx, .ref qp, .int co, .int gi, .int aw, .int cg, .int bk, .ref qs, .ref ql, .ref qo, .int ax3, .long 0])), (qo, .inl (cZ, 16, .inl go))] H := by exact hP.sub (ws' := [(o, .inr (4, [.int cd, .int sc, .ref qm, .ref qd, .int ch, .int fe, .int sz, .int rd, .int ca, .int sx, .ref qp, .int co, .int gi, .int aw, .int cg, .int bk, .ref qs, .ref ql, .ref qo, .int ax3, .long 0])), (qo, .inl (cZ, 16, .inl go))]) [0, 1] rfl
        have hD9 : va_D A [(o, .inr (4, [.int cd, .int sc, .ref qm, .ref qd, .int ch, .int fe, .int sz, .int rd, .int ca, .int sx, .ref qp, .int co, .int gi, .int aw, .int cg, .int bk, .ref qs, .ref ql, .ref qo, .int ax3, .long 0])), (qo, .inl (cZ, 16, .inl go))] := by exact hD.sub (ws' := [(o, .inr (4, [.int cd, .int sc, .ref qm, .ref qd, .int ch, .int fe, .int sz, .int rd, .int ca, .int sx, .ref qp, .int co, .int gi, .int aw, .int cg, .int bk, .ref qs, .ref ql, .ref qo, .int ax3, .long 0])), (qo, .inl (cZ, 16, .inl go))]) [0, 1] (by decide) rfl
        have hK9 := hK.sub (tys' := [(cZ, .boolean)]) [0] rfl
        exact W.vret hx hb hr (fun t ht hW => ⟨⟨(ax3), rfl, ea, by rw [ht]; exact hP9, va_K.moved hW.alike hK9, hD9⟩, hS.F ht⟩) hS.2.2 dX4_beginData_36
      · skip
        have hi0 : i < fi := by rw [ea, nI_clamp (by omega)] at c_1; exact Nat.lt_of_le_of_ne h2 (fun z => c_1 (by rw [z]; exact hfo))
        refine lv_aload_n hx hb dX4_beginData_23 rfl (lv_at hl 0 rfl) ?_
        refine lv_dup hx hb dX4_beginData_24 rfl ?_
        refine va_get (D := (dC, dI)) (ci := 4) (v := .int ax3) (C := RX4) (T := TX4) (N := 21) hx hb hw inX4 hown hK hP 0 rfl rfl 19 (by decide) (hw _ w_00d3b01dcd) (fun _ h9 => h9) rfl dX4_beginData_25 ?_
        refine lv_iconst (v := 1) hx hb dX4_beginData_28 (by decide) ?_
        refine lv_iadd hx hb dX4_beginData_29 ?_
        refine lv_topi (fun x_2 ex_2 => ?_)
        refine va_put (D := (dC, dI)) (ci := 4) (v := .int x_2) (ty := .int) (C := RX4) (T := TX4) (N := 21) hx hb hw inX4 tyX4 tyX4_ok nmX4 hown hK hP hD hS 0 rfl rfl 19 (by decide) (hw _ w_00d3b01dcd) (fun _ h9 => h9) rfl (by decide +kernel) rfl rfl (Nat.le_of_ble_eq_true rfl) dX4_beginData_30 (fun H locs hP hD hS => ?_)
        have hP : va_P (dC, dI) vwCl [(o, .inr (4, [.int cd, .int sc, .ref qm, .ref qd, .int ch, .int fe, .int sz, .int rd, .int ca, .int sx, .ref qp, .int co, .int gi, .int aw, .int cg, .int bk, .ref qs, .ref ql, .ref qo, .int x_2, .long 0])), (qo, .inl (cZ, 16, .inl go))] H := hP
        have hD : va_D A [(o, .inr (4, [.int cd, .int sc, .ref qm, .ref qd, .int ch, .int fe, .int sz, .int rd, .int ca, .int sx, .ref qp, .int co, .int gi, .int aw, .int cg, .int bk, .ref qs, .ref ql, .ref qo, .int x_2, .long 0])), (qo, .inl (cZ, 16, .inl go))] := hD
        refine lv_goto (tgt := 10) hx hb dX4_beginData_33 (by decide) ?_
        exact ih (i + 1) x_2 (by omega) (by rw [ex_2, ea]; exact nI_1 i) (by omega) (by omega) _ _ (hP.sub [0, 1] rfl) (hD.sub [0, 1] (by decide) rfl) hS ls (lv_sub hl [0, 1] rfl)
  exact loop (fi + 1) 1 1 (by omega) (rfl) (Nat.le_refl 1) (hf1) _ _ (hP.sub [0, 1] rfl) (hD.sub [0, 1] (by decide) rfl) hS ls (lv_sub hl [0, 1] rfl)
set_option maxHeartbeats 4000000 in
set_option maxRecDepth 100000 in
/-- Model.nextByte -/
theorem m_nextByte (l : Launch) (dC : Nat → ClassId) (dI : Nat → Nat → Nat) (o : Nat) (cd : Int32) (sc : Int32) (qm : Nat) (qd : Nat) (ch : Int32) (fe : Int32) (sz : Int32) (rd : Int32) (ca : Int32) (sx : Int32) (qp : Nat) (co : Int32) (gi : Int32) (aw : Int32) (cg : Int32) (bk : Int32) (qs : Nat) (ql : Nat) (qo : Nat) (ax : Int32) (wi : Int64) (cJ : ClassId) (gs : Nat → Int64) (gl : Nat → Int64) (i0 : Nat) (w0 : Nat) (R0 : List (Nat × Nat)) (zS : Nat) (ha0 : ax = nI i0) (hw0 : wi = lN w0) (hs0 : seg gs gl i0 R0) (hh0 : w0 ≤ hdl R0) (ht0 : w0 < tot R0) : Met l yX4_nextByte wsX4_nextByte ({ frames := 0, cells := 0, slots := 0, locals := 0 }) (va_Pc [.ref o] (fun U => U.heap.size = zS ∧ va_P (dC, dI) vwCl [(o, .inr (4, [.int cd, .int sc, .ref qm, .ref qd, .int ch, .int fe, .int sz, .int rd, .int ca, .int sx, .ref qp, .int co, .int gi, .int aw, .int cg, .int bk, .ref qs, .ref ql, .ref qo, .int ax, .long wi])), (ql, .inl (cJ, 16, .inr (.inl gl))), (qs, .inl (cJ, 16, .inr (.inl gs)))] U.heap ∧ va_K (dC, dI) vwCl [(cJ, .long)] U ∧ va_D (fun _ => True) [(o, .inr (4, [.int cd, .int sc, .ref qm, .ref qd, .int ch, .int fe, .int sz, .int rd, .int ca, .int sx, .ref qp, .int co, .int gi, .int aw, .int cg, .int bk, .ref qs, .ref ql, .ref qo, .int ax, .long wi])), (ql, .inl (cJ, 16, .inr (.inl gl))), (qs, .inl (cJ, 16, .inr (.inl gs)))] ∧ ZZ (va_A [(o, .inr (4, [.int cd, .int sc, .ref qm, .ref qd, .int ch, .int fe, .int sz, .int rd, .int ca, .int sx, .ref qp, .int co, .int gi, .int aw, .int cg, .int bk, .ref qs, .ref ql, .ref qo, .int ax, .long wi])), (ql, .inl (cJ, 16, .inr (.inl gl))), (qs, .inl (cJ, 16, .inr (.inl gs)))] zS) U U.heap)) (va_Ql (fun (r : Int64) (u : Int32 × Int64) => match u with | (ax2, wi2) => (∃ (i2 w2 : Nat) (R2 : List (Nat × Nat)), ax2 = nI i2 ∧ wi2 = lN w2 ∧ seg gs gl i2 R2 ∧ w2 ≤ hdl R2 ∧ w2 + (tot R0 - w0) = tot R2 + 1 ∧ ∀ d, nth R2 (w2 + d) = nth R0 (w0 + 1 + d)) ∧ thP r 1 ∧ off r = nth R0 w0) (fun (u : Int32 × Int64) (t : State) => match u with | (ax2, wi2) => va_P (dC, dI) vwCl [(o, .inr (4, [.int cd, .int sc, .ref qm, .ref qd, .int ch, .int fe, .int sz, .int rd, .int ca, .int sx, .ref qp, .int co, .int gi, .int aw, .int cg, .int bk, .ref qs, .ref ql, .ref qo, .int ax2, .long wi2])), (ql, .inl (cJ, 16, .inr (.inl gl))), (qs, .inl (cJ, 16, .inr (.inl gs)))] t.heap ∧ va_K (dC, dI) vwCl [(cJ, .long)] t ∧ va_D (va_A [(o, .inr (4, [.int cd, .int sc, .ref qm, .ref qd, .int ch, .int fe, .int sz, .int rd, .int ca, .int sx, .ref qp, .int co, .int gi, .int aw, .int cg, .int bk, .ref qs, .ref ql, .ref qo, .int ax, .long wi])), (ql, .inl (cJ, 16, .inr (.inl gl))), (qs, .inl (cJ, 16, .inr (.inl gs)))] zS) [(o, .inr (4, [.int cd, .int sc, .ref qm, .ref qd, .int ch, .int fe, .int sz, .int rd, .int ca, .int sx, .ref qp, .int co, .int gi, .int aw, .int cg, .int bk, .ref qs, .ref ql, .ref qo, .int ax2, .long wi2])), (ql, .inl (cJ, 16, .inr (.inl gl))), (qs, .inl (cJ, 16, .inr (.inl gs)))]) (va_A [(o, .inr (4, [.int cd, .int sc, .ref qm, .ref qd, .int ch, .int fe, .int sz, .int rd, .int ca, .int sx, .ref qp, .int co, .int gi, .int aw, .int cg, .int bk, .ref qs, .ref ql, .ref qo, .int ax, .long wi])), (ql, .inl (cJ, 16, .inr (.inl gl))), (qs, .inl (cJ, 16, .inr (.inl gs)))] zS)) 0 0 (va_A [(o, .inr (4, [.int cd, .int sc, .ref qm, .ref qd, .int ch, .int fe, .int sz, .int rd, .int ca, .int sx, .ref qp, .int co, .int gi, .int aw, .int cg, .int bk, .ref qs, .ref ql, .ref qo, .int ax, .long wi])), (ql, .inl (cJ, 16, .inr (.inl gl))), (qs, .inl (cJ, 16, .inr (.inl gs)))] zS) := by
  refine Met.ofW (cc := cX4_nextByte) (maxL := 1) (ret := (some .long)) (by decide) rfl ?_
  intro p e s m args below meth c s₁ B hml hv
  obtain ⟨rfl, hsz, hP, hK, hD0, hZ⟩ := hv
  have hx := B.exec
  have hb := B.bytes
  have hr := B.returns
  have hts := atoms_spec (ws := wsX4_nextByte) B.pre
  have hw : ∀ w ∈ WW, w.before _ s = true := fun w h => hts w (List.mem_cons_of_mem _ h)
  have hown : s.vm.findClass RX4 = some m.cls := findClass_of_methodNamed B.named
  have hlocks := B.notSynchronized
  subst hsz
  have hD := hD0.self (sz := s.heap.size)
  generalize hAe : va_A [(o, .inr (4, [.int cd, .int sc, .ref qm, .ref qd, .int ch, .int fe, .int sz, .int rd, .int ca, .int sx, .ref qp, .int co, .int gi, .int aw, .int cg, .int bk, .ref qs, .ref ql, .ref qo, .int ax, .long wi])), (ql, .inl (cJ, 16, .inr (.inl gl))), (qs, .inl (cJ, 16, .inr (.inl gs)))] s.heap.size = A at hD hZ ⊢
  have hA : ∀ q : Nat, s.heap.size ≤ q → A q := fun q h => by rw [← hAe]; exact Or.inr h
  have hS : va_S A s.heap s.heap [] := va_S.rf
  have hP : va_P (dC, dI) vwCl [(o, .inr (4, [.int cd, .int sc, .ref qm, .ref qd, .int ch, .int fe, .int sz, .int rd, .int ca, .int sx, .ref qp, .int co, .int gi, .int aw, .int cg, .int bk, .ref qs, .ref ql, .ref qo, .int ax, .long wi])), (ql, .inl (cJ, 16, .inr (.inl gl))), (qs, .inl (cJ, 16, .inr (.inl gs)))] s.heap := hP
  have hl := lv_entry ([.ref o]) (n := 1) (Nat.le_of_ble_eq_true rfl)
  rw [lg_entry_eq]
  generalize (lg_sl ([.ref o]) ++ List.replicate (1 - (lg_sl ([.ref o])).length) Slot.unset).toArray = ls at hl ⊢
  have hl : lv_has ls 1 [(0, .ref o)] := hl
  have loop : ∀ (N : Nat) (i : Nat) (w : Nat) (R : List (Nat × Nat)) (ax3 : Int32) (wi3 : Int64) (hN : R.length < N) (ea : ax3 = nI i) (ew : wi3 = lN w) (hseg : seg gs gl i R) (hwh : w ≤ hdl R) (hwt : w + (tot R0 - w0) = tot R) (hnt : ∀ d, nth R (w + d) = nth R0 (w0 + d)) (H : Heap) (locs : List Loc) (hP : va_P (dC, dI) vwCl [(o, .inr (4, [.int cd, .int sc, .ref qm, .ref qd, .int ch, .int fe, .int sz, .int rd, .int ca, .int sx, .ref qp, .int co, .int gi, .int aw, .int cg, .int bk, .ref qs, .ref ql, .ref qo, .int ax3, .long wi3])), (ql, .inl (cJ, 16, .inr (.inl gl))), (qs, .inl (cJ, 16, .inr (.inl gs)))] H) (hD : va_D A [(o, .inr (4, [.int cd, .int sc, .ref qm, .ref qd, .int ch, .int fe, .int sz, .int rd, .int ca, .int sx, .ref qp, .int co, .int gi, .int aw, .int cg, .int bk, .ref qs, .ref ql, .ref qo, .int ax3, .long wi3])), (ql, .inl (cJ, 16, .inr (.inl gl))), (qs, .inl (cJ, 16, .inr (.inl gs)))]) (hS : va_S A s.heap H locs) (ls : Array Slot) (hl : lv_has ls 1 [(0, .ref o)]), W p l e (headSpec wsX4_nextByte ({ frames := 0, cells := 0, slots := 0, locals := 0 })).room s m [.ref o].toArray below meth c H locs 0 0 (MQ below (va_Ql (fun (r : Int64) (u : Int32 × Int64) => match u with | (ax2, wi2) => (∃ (i2 w2 : Nat) (R2 : List (Nat × Nat)), ax2 = nI i2 ∧ wi2 = lN w2 ∧ seg gs gl i2 R2 ∧ w2 ≤ hdl R2 ∧ w2 + (tot R0 - w0) = tot R2 + 1 ∧ ∀ d, nth R2 (w2 + d) = nth R0 (w0 + 1 + d)) ∧ thP r 1 ∧ off r = nth R0 w0) (fun (u : Int32 × Int64) (t : State) => match u with | (ax2, wi2) => va_P (dC, dI) vwCl [(o, .inr (4, [.int cd, .int sc, .ref qm, .ref qd, .int ch, .int fe, .int sz, .int rd, .int ca, .int sx, .ref qp, .int co, .int gi, .int aw, .int cg, .int bk, .ref qs, .ref ql, .ref qo, .int ax2, .long wi2])), (ql, .inl (cJ, 16, .inr (.inl gl))), (qs, .inl (cJ, 16, .inr (.inl gs)))] t.heap ∧ va_K (dC, dI) vwCl [(cJ, .long)] t ∧ va_D A [(o, .inr (4, [.int cd, .int sc, .ref qm, .ref qd, .int ch, .int fe, .int sz, .int rd, .int ca, .int sx, .ref qp, .int co, .int gi, .int aw, .int cg, .int bk, .ref qs, .ref ql, .ref qo, .int ax2, .long wi2])), (ql, .inl (cJ, 16, .inr (.inl gl))), (qs, .inl (cJ, 16, .inr (.inl gs)))]) A) [.ref o].toArray s 0 0 A) (F0 m 0 ls []) := by
    intro N
    induction N with
    | zero => intro i w R ax3 wi3 hN ea ew hseg hwh hwt hnt H locs hP hD hS ls hl; exact absurd hN (Nat.not_lt_zero _)
    | succ N ih =>
      intro i w R ax3 wi3 hN ea ew hseg hwh hwt hnt H locs hP hD hS ls hl
      obtain ⟨a1, l1, R1, rfl⟩ : ∃ a1 l1 R1, R = (a1, l1) :: R1 := by
        cases R with
        | nil => rw [tot] at hwt; omega
        | cons q R1 => exact ⟨q.1, q.2, R1, rfl⟩
      obtain ⟨hi16, hof, hgl, hl6, hth⟩ := seg_hd hseg
      have hwh : w ≤ l1 := hwh
      have hgl2 : gl ax3.toNatClampNeg = lN l1 := by rw [ea, nI_clamp (by omega)]; exact hgl
      refine lv_aload_n hx hb dX4_nextByte_0 rfl (lv_at hl 0 rfl) ?_
      refine va_get (D := (dC, dI)) (ci := 4) (v := .long wi3) (C := RX4) (T := TX4) (N := 21) hx hb hw inX4 hown hK hP 0 rfl rfl 20 (by decide) (hw _ w_9277178bb0) (fun _ h9 => h9) rfl dX4_nextByte_1 ?_
      refine lv_aload_n hx hb dX4_nextByte_4 rfl (lv_at hl 0 rfl) ?_
      refine va_get (D := (dC, dI)) (ci := 4) (v := .ref ql) (C := RX4) (T := TX4) (N := 21) hx hb hw inX4 hown hK hP 0 rfl rfl 17 (by decide) (hw _ w_c20510a516) (fun _ h9 => h9) rfl dX4_nextByte_5 ?_
      refine lv_aload_n hx hb dX4_nextByte_8 rfl (lv_at hl 0 rfl) ?_
      refine va_get (D := (dC, dI)) (ci := 4) (v := .int ax3) (C := RX4) (T := TX4) (N := 21) hx hb hw inX4 hown hK hP 0 rfl rfl 19 (by decide) (hw _ w_00d3b01dcd) (fun _ h9 => h9) rfl dX4_nextByte_9 ?_
      refine va_lald hx hb hK hP 1 0 rfl rfl (by rw [ea]; exact vp_in_nI (by omega) (by omega)) dX4_nextByte_12 ?_
      refine W.lcmp hx hb dX4_nextByte_13 ?_
      refine lv_if_ne (tgt := 35) hx hb dX4_nextByte_14 (by decide) (fun c_1 => ?_) (fun c_1 => ?_)
      · skip
        have hwl : w < l1 := by rw [ew, hgl2, lce, lN_toInt (by omega), lN_toInt (by omega)] at c_1; omega
        refine lv_aload_n hx hb dX4_nextByte_35 rfl (lv_at hl 0 rfl) ?_
        refine lv_dup hx hb dX4_nextByte_36 rfl ?_
        refine va_get (D := (dC, dI)) (ci := 4) (v := .long wi3) (C := RX4) (T := TX4) (N := 21) hx hb hw inX4 hown hK hP 0 rfl rfl 20 (by decide) (hw _ w_9277178bb0) (fun _ h9 => h9) rfl dX4_nextByte_37 ?_
        refine lv_lconst (v := 1) hx hb dX4_nextByte_40 (by decide) ?_
        refine lv_ladd hx hb dX4_nextByte_41 ?_
        refine lv_topl (fun x_2 ex_2 => ?_)
        refine va_put (D := (dC, dI)) (ci := 4) (v := .long x_2) (ty := .long) (C := RX4) (T := TX4) (N := 21) hx hb hw inX4 tyX4 tyX4_ok nmX4 hown hK hP hD hS 0 rfl rfl 20 (by decide) (hw _ w_9277178bb0) (fun _ h9 => h9) rfl (by decide +kernel) rfl rfl (Nat.le_of_ble_eq_true rfl) dX4_nextByte_42 (fun H locs hP hD hS => ?_)
        have hP : va_P (dC, dI) vwCl [(o, .inr (4, [.int cd, .int sc, .ref qm, .ref qd, .int ch, .int fe, .int sz, .int rd, .int ca, .int sx, .ref qp, .int co, .int gi, .int aw, .int cg, .int bk, .ref qs, .ref ql, .ref qo, .int ax3, .long x_2])), (ql, .inl (cJ, 16, .inr (.inl gl))), (qs, .inl (cJ, 16, .inr (.inl gs)))] H := hP
        have hD : va_D A [(o, .inr (4, [.int cd, .int sc, .ref qm, .ref qd, .int ch, .int fe, .int sz, .int rd, .int ca, .int sx, .ref qp, .int co, .int gi, .int aw, .int cg, .int bk, .ref qs, .ref ql, .ref qo, .int ax3, .long x_2])), (ql, .inl (cJ, 16, .inr (.inl gl))), (qs, .inl (cJ, 16, .inr (.inl gs)))] := hD
        refine lv_aload_n hx hb dX4_nextByte_45 rfl (lv_at hl 0 rfl) ?_
        refine va_get (D := (dC, dI)) (ci := 4) (v := .ref qs) (C := RX4) (T := TX4) (N := 21) hx hb hw inX4 hown hK hP 0 rfl rfl 16 (by decide) (hw _ w_c92d01c177) (fun _ h9 => h9) rfl dX4_nextByte_46 ?_
        refine lv_aload_n hx hb dX4_nextByte_49 rfl (lv_at hl 0 rfl) ?_
        refine va_get (D := (dC, dI)) (ci := 4) (v := .int ax3) (C := RX4) (T := TX4) (N := 21) hx hb hw inX4 hown hK hP 0 rfl rfl 19 (by decide) (hw _ w_00d3b01dcd) (fun _ h9 => h9) rfl dX4_nextByte_50 ?_
        refine va_lald hx hb hK hP 2 0 rfl rfl (by rw [ea]; exact vp_in_nI (by omega) (by omega)) dX4_nextByte_53 ?_
        refine lv_aload_n hx hb dX4_nextByte_54 rfl (lv_at hl 0 rfl) ?_
        refine va_get (D := (dC, dI)) (ci := 4) (v := .long x_2) (C := RX4) (T := TX4) (N := 21) hx hb hw inX4 hown hK hP 0 rfl rfl 20 (by decide) (hw _ w_9277178bb0) (fun _ h9 => h9) rfl dX4_nextByte_55 ?_
        refine lv_ladd hx hb dX4_nextByte_58 ?_
        refine lv_lconst (v := 1) hx hb dX4_nextByte_59 (by decide) ?_
        refine lv_lsub hx hb dX4_nextByte_60 ?_
        have hP9 : va_P (dC, dI) vwCl [(o, .inr (4, [.int cd, .int sc, .ref qm, .ref qd, .int ch, .int fe, .int sz, .int rd, .int ca, .int sx, .ref qp, .int co, .int gi, .int aw, .int cg, .int bk, .ref qs, .ref ql, .ref qo, .int ax3, .long x_2])), (ql, .inl (cJ, 16, .inr (.inl gl))), (qs, .inl (cJ, 16, .inr (.inl gs)))] H := by exact hP.sub (ws' := [(o, .inr (4, [.int cd, .int sc, .ref qm, .ref qd, .int ch, .int fe, .int sz, .int rd, .int ca, .int sx, .ref qp, .int co, .int gi, .int aw, .int cg, .int bk, .ref qs, .ref ql, .ref qo, .int ax3, .long x_2])), (ql, .inl (cJ, 16, .inr (.inl gl))), (qs, .inl (cJ, 16, .inr (.inl gs)))]) [0, 1, 2] rfl
        have hD9 : va_D A [(o, .inr (4, [.int cd, .int sc, .ref qm, .ref qd, .int ch, .int fe, .int sz, .int rd, .int ca, .int sx, .ref qp, .int co, .int gi, .int aw, .int cg, .int bk, .ref qs, .ref ql, .ref qo, .int ax3, .long x_2])), (ql, .inl (cJ, 16, .inr (.inl gl))), (qs, .inl (cJ, 16, .inr (.inl gs)))] := by exact hD.sub (ws' := [(o, .inr (4, [.int cd, .int sc, .ref qm, .ref qd, .int ch, .int fe, .int sz, .int rd, .int ca, .int sx, .ref qp, .int co, .int gi, .int aw, .int cg, .int bk, .ref qs, .ref ql, .ref qo, .int ax3, .long x_2])), (ql, .inl (cJ, 16, .inr (.inl gl))), (qs, .inl (cJ, 16, .inr (.inl gs)))]) [0, 1, 2] (by decide) rfl
        have hK9 := hK.sub (tys' := [(cJ, .long)]) [0] rfl
        have q := th_in hth hl6 hwl
        have e1 : x_2 = lN (w + 1) := by rw [ex_2, ew]; exact lN_1 w
        have q2 := hnt 0
        rw [Nat.add_zero, Nat.add_zero, nth, if_pos hwl] at q2
        exact W.lret (v := ((gs ax3.toNatClampNeg) + x_2) - 1) hx hb hr (fun t ht hW => ⟨⟨_, (ax3, x_2), rfl, ⟨⟨i, w + 1, (a1, l1) :: R1, ea, e1, hseg, hwl, by omega, fun d => by rw [show w + 1 + d = w + (1 + d) by omega, hnt, Nat.add_assoc]⟩, by rw [show gs ax3.toNatClampNeg = gs i by rw [ea, nI_clamp (by omega)], e1]; exact ⟨q.1, q.2.trans (by rw [hof]; exact q2)⟩⟩, by rw [ht]; exact hP9, va_K.moved hW.alike hK9, hD9⟩, hS.F ht⟩) hS.2.2 dX4_nextByte_61
      · skip
        have hwl : w = l1 := by rw [ew, hgl2, lce, lN_toInt (by omega), lN_toInt (by omega)] at c_1; omega
        refine lv_aload_n hx hb dX4_nextByte_17 rfl (lv_at hl 0 rfl) ?_
        refine lv_dup hx hb dX4_nextByte_18 rfl ?_
        refine va_get (D := (dC, dI)) (ci := 4) (v := .int ax3) (C := RX4) (T := TX4) (N := 21) hx hb hw inX4 hown hK hP 0 rfl rfl 19 (by decide) (hw _ w_00d3b01dcd) (fun _ h9 => h9) rfl dX4_nextByte_19 ?_
        refine lv_iconst (v := 1) hx hb dX4_nextByte_22 (by decide) ?_
        refine lv_iadd hx hb dX4_nextByte_23 ?_
        refine lv_topi (fun x_3 ex_3 => ?_)
        refine va_put (D := (dC, dI)) (ci := 4) (v := .int x_3) (ty := .int) (C := RX4) (T := TX4) (N := 21) hx hb hw inX4 tyX4 tyX4_ok nmX4 hown hK hP hD hS 0 rfl rfl 19 (by decide) (hw _ w_00d3b01dcd) (fun _ h9 => h9) rfl (by decide +kernel) rfl rfl (Nat.le_of_ble_eq_true rfl) dX4_nextByte_24 (fun H locs hP hD hS => ?_)
        have hP : va_P (dC, dI) vwCl [(o, .inr (4, [.int cd, .int sc, .ref qm, .ref qd, .int ch, .int fe, .int sz, .int rd, .int ca, .int sx, .ref qp, .int co, .int gi, .int aw, .int cg, .int bk, .ref qs, .ref ql, .ref qo, .int x_3, .long wi3])), (ql, .inl (cJ, 16, .inr (.inl gl))), (qs, .inl (cJ, 16, .inr (.inl gs)))] H := hP
        have hD : va_D A [(o, .inr (4, [.int cd, .int sc, .ref qm, .ref qd, .int ch, .int fe, .int sz, .int rd, .int ca, .int sx, .ref qp, .int co, .int gi, .int aw, .int cg, .int bk, .ref qs, .ref ql, .ref qo, .int x_3, .long wi3])), (ql, .inl (cJ, 16, .inr (.inl gl))), (qs, .inl (cJ, 16, .inr (.inl gs)))] := hD
        refine lv_aload_n hx hb dX4_nextByte_27 rfl (lv_at hl 0 rfl) ?_
        refine lv_lconst (v := 0) hx hb dX4_nextByte_28 (by decide) ?_
        refine va_put (D := (dC, dI)) (ci := 4) (v := .long 0) (ty := .long) (C := RX4) (T := TX4) (N := 21) hx hb hw inX4 tyX4 tyX4_ok nmX4 hown hK hP hD hS 0 rfl rfl 20 (by decide) (hw _ w_9277178bb0) (fun _ h9 => h9) rfl (by decide +kernel) rfl rfl (Nat.le_of_ble_eq_true rfl) dX4_nextByte_29 (fun H locs hP hD hS => ?_)
        have hP : va_P (dC, dI) vwCl [(o, .inr (4, [.int cd, .int sc, .ref qm, .ref qd, .int ch, .int fe, .int sz, .int rd, .int ca, .int sx, .ref qp, .int co, .int gi, .int aw, .int cg, .int bk, .ref qs, .ref ql, .ref qo, .int x_3, .long 0])), (ql, .inl (cJ, 16, .inr (.inl gl))), (qs, .inl (cJ, 16, .inr (.inl gs)))] H := hP
        have hD : va_D A [(o, .inr (4, [.int cd, .int sc, .ref qm, .ref qd, .int ch, .int fe, .int sz, .int rd, .int ca, .int sx, .ref qp, .int co, .int gi, .int aw, .int cg, .int bk, .ref qs, .ref ql, .ref qo, .int x_3, .long 0])), (ql, .inl (cJ, 16, .inr (.inl gl))), (qs, .inl (cJ, 16, .inr (.inl gs)))] := hD
        refine lv_goto (tgt := 0) hx hb dX4_nextByte_32 (by decide) ?_
        exact ih (i + 1) 0 R1 x_3 0 (by rw [List.length_cons] at hN; omega) (by rw [ex_3, ea]; exact nI_1 i) (rfl) (seg_tl hseg) (Nat.zero_le _) (by rw [tot] at hwt; omega) (fun d => by rw [← hnt d, nth, if_neg (by omega)]; congr 1; omega) _ _ (hP.sub [0, 1, 2] rfl) (hD.sub [0, 1, 2] (by decide) rfl) hS ls (lv_sub hl [0] rfl)
  exact loop (R0.length + 1) i0 w0 R0 ax wi (Nat.lt_succ_self _) (ha0) (hw0) (hs0) (hh0) (by omega) (fun _ => rfl) _ _ (hP.sub [0, 1, 2] rfl) (hD.sub [0, 1, 2] (by decide) rfl) hS ls (lv_sub hl [0] rfl)
