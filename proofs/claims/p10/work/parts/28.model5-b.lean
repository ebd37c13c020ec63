set_option maxHeartbeats 4000000 in
set_option maxRecDepth 100000 in
/-- Model.gather -/
theorem m_gather (l : Launch) (dC : Nat → ClassId) (dI : Nat → Nat → Nat) (o : Nat) (cd : Int32) (sc : Int32) (qm : Nat) (qd : Nat) (ch : Int32) (fe : Int32) (sz : Int32) (rd : Int32) (ca : Int32) (sx : Int32) (qp : Nat) (co : Int32) (gi : Int32) (aw : Int32) (cg : Int32) (bk : Int32) (qs : Nat) (ql : Nat) (qo : Nat) (ax : Int32) (wi : Int64) (cJ : ClassId) (cZ : ClassId) (M : Nat → Nat) (bl : Int64) (of : Int64) (an : Int64) (gs : Nat → Int64) (gl : Nat → Int64) (go : Nat → Int32) (n : Nat) (k0 : Nat) (x : Int32) (zS : Nat) (hsz : sz = nI n) (hn : n ≤ 16) (hxk : x = nI k0) (hk0 : k0 < 65536) (hM : byt M) : Met l yX4_gather wsX4_gather ({ frames := 2, cells := 0, slots := 0, locals := 100 }) (va_Pc [.ref o, .int x] (fun U => U.heap.size = zS ∧ va_P (dC, dI) vwCl [(o, .inr (4, [.int cd, .int sc, .ref qm, .ref qd, .int ch, .int fe, .int sz, .int rd, .int ca, .int sx, .ref qp, .int co, .int gi, .int aw, .int cg, .int bk, .ref qs, .ref ql, .ref qo, .int ax, .long wi])), (qp, .inl (cJ, 3, .inr (.inl (pl3 bl of an)))), (qm, .inl (cJ, 8192, .inr (.inl (mL M)))), (qs, .inl (cJ, 16, .inr (.inl gs))), (ql, .inl (cJ, 16, .inr (.inl gl))), (qo, .inl (cZ, 16, .inl go))] U.heap ∧ va_K (dC, dI) vwCl [(cJ, .long), (cZ, .boolean)] U ∧ va_D (fun _ => True) [(o, .inr (4, [.int cd, .int sc, .ref qm, .ref qd, .int ch, .int fe, .int sz, .int rd, .int ca, .int sx, .ref qp, .int co, .int gi, .int aw, .int cg, .int bk, .ref qs, .ref ql, .ref qo, .int ax, .long wi])), (qp, .inl (cJ, 3, .inr (.inl (pl3 bl of an)))), (qm, .inl (cJ, 8192, .inr (.inl (mL M)))), (qs, .inl (cJ, 16, .inr (.inl gs))), (ql, .inl (cJ, 16, .inr (.inl gl))), (qo, .inl (cZ, 16, .inl go))] ∧ ZZ (va_A [(o, .inr (4, [.int cd, .int sc, .ref qm, .ref qd, .int ch, .int fe, .int sz, .int rd, .int ca, .int sx, .ref qp, .int co, .int gi, .int aw, .int cg, .int bk, .ref qs, .ref ql, .ref qo, .int ax, .long wi])), (qp, .inl (cJ, 3, .inr (.inl (pl3 bl of an)))), (qm, .inl (cJ, 8192, .inr (.inl (mL M)))), (qs, .inl (cJ, 16, .inr (.inl gs))), (ql, .inl (cJ, 16, .inr (.inl gl))), (qo, .inl (cZ, 16, .inl go))] zS) U U.heap)) (va_Qi (fun (r : Int32) (u : Int32 × (Nat → Int64) × (Nat → Int64) × (Nat → Int32)) => match u with | (bk2, gs2, gl2, go2) => r = bI (finB (gat M bl n n k0 false []) = true) ∧ ∀ L, gat M bl n n k0 false [] = some L → repM L gs2 gl2 go2 ∧ bk2 = nI L.length) (fun (u : Int32 × (Nat → Int64) × (Nat → Int64) × (Nat → Int32)) (t : State) => match u with | (bk2, gs2, gl2, go2) => va_P (dC, dI) vwCl [(o, .inr (4, [.int cd, .int sc, .ref qm, .ref qd, .int ch, .int fe, .int sz, .int rd, .int ca, .int sx, .ref qp, .int co, .int gi, .int aw, .int cg, .int bk2, .ref qs, .ref ql, .ref qo, .int ax, .long wi])), (qp, .inl (cJ, 3, .inr (.inl (pl3 bl of an)))), (qm, .inl (cJ, 8192, .inr (.inl (mL M)))), (qs, .inl (cJ, 16, .inr (.inl gs2))), (ql, .inl (cJ, 16, .inr (.inl gl2))), (qo, .inl (cZ, 16, .inl go2))] t.heap ∧ va_K (dC, dI) vwCl [(cJ, .long), (cZ, .boolean)] t ∧ va_D (va_A [(o, .inr (4, [.int cd, .int sc, .ref qm, .ref qd, .int ch, .int fe, .int sz, .int rd, .int ca, .int sx, .ref qp, .int co, .int gi, .int aw, .int cg, .int bk, .ref qs, .ref ql, .ref qo, .int ax, .long wi])), (qp, .inl (cJ, 3, .inr (.inl (pl3 bl of an)))), (qm, .inl (cJ, 8192, .inr (.inl (mL M)))), (qs, .inl (cJ, 16, .inr (.inl gs))), (ql, .inl (cJ, 16, .inr (.inl gl))), (qo, .inl (cZ, 16, .inl go))] zS) [(o, .inr (4, [.int cd, .int sc, .ref qm, .ref qd, .int ch, .int fe, .int sz, .int rd, .int ca, .int sx, .ref qp, .int co, .int gi, .int aw, .int cg, .int bk2, .ref qs, .ref ql, .ref qo, .int ax, .long wi])), (qp, .inl (cJ, 3, .inr (.inl (pl3 bl of an)))), (qm, .inl (cJ, 8192, .inr (.inl (mL M)))), (qs, .inl (cJ, 16, .inr (.inl gs2))), (ql, .inl (cJ, 16, .inr (.inl gl2))), (qo, .inl (cZ, 16, .inl go2))]) (va_A [(o, .inr (4, [.int cd, .int sc, .ref qm, .ref qd, .int ch, .int fe, .int sz, .int rd, .int ca, .int sx, .ref qp, .int co, .int gi, .int aw, .int cg, .int bk, .ref qs, .ref ql, .ref qo, .int ax, .long wi])), (qp, .inl (cJ, 3, .inr (.inl (pl3 bl of an)))), (qm, .inl (cJ, 8192, .inr (.inl (mL M)))), (qs, .inl (cJ, 16, .inr (.inl gs))), (ql, .inl (cJ, 16, .inr (.inl gl))), (qo, .inl (cZ, 16, .inl go))] zS)) 0 0 (va_A [(o, .inr (4, [.int cd, .int sc, .ref qm, .ref qd, .int ch, .int fe, .int sz, .int rd, .int ca, .int sx, .ref qp, .int co, .int gi, .int aw, .int cg, .int bk, .ref qs, .ref ql, .ref qo, .int ax, .long wi])), (qp, .inl (cJ, 3, .inr (.inl (pl3 bl of an)))), (qm, .inl (cJ, 8192, .inr (.inl (mL M)))), (qs, .inl (cJ, 16, .inr (.inl gs))), (ql, .inl (cJ, 16, .inr (.inl gl))), (qo, .inl (cZ, 16, .inl go))] zS) := by
  refine Met.ofW (cc := cX4_gather) (maxL := 8) (ret := (some .boolean)) (by decide) rfl ?_
  intro p e s m args below meth c s₁ B hml hv
  obtain ⟨rfl, hsz, hP, hK, hD0, hZ⟩ := hv
  have hx := B.exec
  have hb := B.bytes
  have hr := B.returns
  have hts := atoms_spec (ws := wsX4_gather) B.pre
  have hw : ∀ w ∈ WW, w.before _ s = true := fun w h => hts w (List.mem_cons_of_mem _ h)
  have hown : s.vm.findClass RX4 = some m.cls := findClass_of_methodNamed B.named
  have hlocks := B.notSynchronized
  subst hsz
  have hD := hD0.self (sz := s.heap.size)
  generalize hAe : va_A [(o, .inr (4, [.int cd, .int sc, .ref qm, .ref qd, .int ch, .int fe, .int sz, .int rd, .int ca, .int sx, .ref qp, .int co, .int gi, .int aw, .int cg, .int bk, .ref qs, .ref ql, .ref qo, .int ax, .long wi])), (qp, .inl (cJ, 3, .inr (.inl (pl3 bl of an)))), (qm, .inl (cJ, 8192, .inr (.inl (mL M)))), (qs, .inl (cJ, 16, .inr (.inl gs))), (ql, .inl (cJ, 16, .inr (.inl gl))), (qo, .inl (cZ, 16, .inl go))] s.heap.size = A at hD hZ ⊢
  have hA : ∀ q : Nat, s.heap.size ≤ q → A q := fun q h => by rw [← hAe]; exact Or.inr h
  have hS : va_S A s.heap s.heap [] := va_S.rf
  have hP : va_P (dC, dI) vwCl [(o, .inr (4, [.int cd, .int sc, .ref qm, .ref qd, .int ch, .int fe, .int sz, .int rd, .int ca, .int sx, .ref qp, .int co, .int gi, .int aw, .int cg, .int bk, .ref qs, .ref ql, .ref qo, .int ax, .long wi])), (qp, .inl (cJ, 3, .inr (.inl (pl3 bl of an)))), (qm, .inl (cJ, 8192, .inr (.inl (mL M)))), (qs, .inl (cJ, 16, .inr (.inl gs))), (ql, .inl (cJ, 16, .inr (.inl gl))), (qo, .inl (cZ, 16, .inl go))] s.heap := hP
  have hl := lv_entry ([.ref o, .int x]) (n := 8) (Nat.le_of_ble_eq_true rfl)
  rw [lg_entry_eq]
  generalize (lg_sl ([.ref o, .int x]) ++ List.replicate (8 - (lg_sl ([.ref o, .int x])).length) Slot.unset).toArray = ls at hl ⊢
  have hl : lv_has ls 8 [(0, .ref o), (1, .int x)] := hl
  refine lv_aload_n hx hb dX4_gather_0 rfl (lv_at hl 0 rfl) ?_
  refine lv_iconst (v := 0) hx hb dX4_gather_1 (by decide) ?_
  refine va_put (D := (dC, dI)) (ci := 4) (v := .int 0) (ty := .int) (C := RX4) (T := TX4) (N := 21) hx hb hw inX4 tyX4 tyX4_ok nmX4 hown hK hP hD hS 0 rfl rfl 15 (by decide) (hw _ w_f0da19b997) (fun _ h9 => h9) rfl (by decide +kernel) rfl rfl (Nat.le_of_ble_eq_true rfl) dX4_gather_2 (fun H locs hP hD hS => ?_)
  have hP : va_P (dC, dI) vwCl [(o, .inr (4, [.int cd, .int sc, .ref qm, .ref qd, .int ch, .int fe, .int sz, .int rd, .int ca, .int sx, .ref qp, .int co, .int gi, .int aw, .int cg, .int 0, .ref qs, .ref ql, .ref qo, .int ax, .long wi])), (qp, .inl (cJ, 3, .inr (.inl (pl3 bl of an)))), (qm, .inl (cJ, 8192, .inr (.inl (mL M)))), (qs, .inl (cJ, 16, .inr (.inl gs))), (ql, .inl (cJ, 16, .inr (.inl gl))), (qo, .inl (cZ, 16, .inl go))] H := hP
  have hD : va_D A [(o, .inr (4, [.int cd, .int sc, .ref qm, .ref qd, .int ch, .int fe, .int sz, .int rd, .int ca, .int sx, .ref qp, .int co, .int gi, .int aw, .int cg, .int 0, .ref qs, .ref ql, .ref qo, .int ax, .long wi])), (qp, .inl (cJ, 3, .inr (.inl (pl3 bl of an)))), (qm, .inl (cJ, 8192, .inr (.inl (mL M)))), (qs, .inl (cJ, 16, .inr (.inl gs))), (ql, .inl (cJ, 16, .inr (.inl gl))), (qo, .inl (cZ, 16, .inl go))] := hD
  refine lv_iload_n hx hb dX4_gather_5 rfl (lv_at hl 1 rfl) ?_
  refine lv_istore_n (lv' := [(2, .int x), (0, .ref o), (1, .int x)]) hx hb dX4_gather_6 rfl hl (by decide) rfl (fun ls hl => ?_)
  refine lv_iconst (v := 1) hx hb dX4_gather_7 (by decide) ?_
  refine lv_istore_n (lv' := [(3, .int 1), (2, .int x), (0, .ref o), (1, .int x)]) hx hb dX4_gather_8 rfl hl (by decide) rfl (fun ls hl => ?_)
  have loop : ∀ (N : Nat) (f : Nat) (k : Nat) (po : Bool) (acc : List Blk) (mo : Int32) (y : Int32) (bk3 : Int32) (gs3 : Nat → Int64) (gl3 : Nat → Int64) (go3 : Nat → Int32) (hN : (mo = 1 → f + 1 < N) ∧ 0 < N) (hmo : (mo = 1 ∧ y = nI k ∧ k < 65536 ∧ acc.length + f = n ∧ gat M bl n f k po acc = gat M bl n n k0 false []) ∨ (mo = 0 ∧ acc ≠ [] ∧ gat M bl n n k0 false [] = some acc)) (hrp : repM acc gs3 gl3 go3) (hbk : bk3 = nI acc.length) (hpo : (acc.length = 0 → po = false) ∧ (acc.length ≠ 0 → go3 (acc.length - 1) = bI (po = true))) (hal : acc.length ≤ n) (hle : ∀ b ∈ acc, b.2.1 < 4294967296) (H : Heap) (locs : List Loc) (hP : va_P (dC, dI) vwCl [(o, .inr (4, [.int cd, .int sc, .ref qm, .ref qd, .int ch, .int fe, .int sz, .int rd, .int ca, .int sx, .ref qp, .int co, .int gi, .int aw, .int cg, .int bk3, .ref qs, .ref ql, .ref qo, .int ax, .long wi])), (qp, .inl (cJ, 3, .inr (.inl (pl3 bl of an)))), (qm, .inl (cJ, 8192, .inr (.inl (mL M)))), (qs, .inl (cJ, 16, .inr (.inl gs3))), (ql, .inl (cJ, 16, .inr (.inl gl3))), (qo, .inl (cZ, 16, .inl go3))] H) (hD : va_D A [(o, .inr (4, [.int cd, .int sc, .ref qm, .ref qd, .int ch, .int fe, .int sz, .int rd, .int ca, .int sx, .ref qp, .int co, .int gi, .int aw, .int cg, .int bk3, .ref qs, .ref ql, .ref qo, .int ax, .long wi])), (qp, .inl (cJ, 3, .inr (.inl (pl3 bl of an)))), (qm, .inl (cJ, 8192, .inr (.inl (mL M)))), (qs, .inl (cJ, 16, .inr (.inl gs3))), (ql, .inl (cJ, 16, .inr (.inl gl3))), (qo, .inl (cZ, 16, .inl go3))]) (hS : va_S A s.heap H locs) (ls : Array Slot) (hl : lv_has ls 8 [(3, .int mo), (2, .int y), (0, .ref o), (1, .int x)]), W p l e (headSpec wsX4_gather ({ frames := 2, cells := 0, slots := 0, locals := 100 })).room s m [.ref o, .int x].toArray below meth c H locs 0 0 (MQ below (va_Qi (fun (r : Int32) (u : Int32 × (Nat → Int64) × (Nat → Int64) × (Nat → Int32)) => match u with | (bk2, gs2, gl2, go2) => r = bI (finB (gat M bl n n k0 false []) = true) ∧ ∀ L, gat M bl n n k0 false [] = some L → repM L gs2 gl2 go2 ∧ bk2 = nI L.length) (fun (u : Int32 × (Nat → Int64) × (Nat → Int64) × (Nat → Int32)) (t : State) => match u with | (bk2, gs2, gl2, go2) => va_P (dC, dI) vwCl [(o, .inr (4, [.int cd, .int sc, .ref qm, .ref qd, .int ch, .int fe, .int sz, .int rd, .int ca, .int sx, .ref qp, .int co, .int gi, .int aw, .int cg, .int bk2, .ref qs, .ref ql, .ref qo, .int ax, .long wi])), (qp, .inl (cJ, 3, .inr (.inl (pl3 bl of an)))), (qm, .inl (cJ, 8192, .inr (.inl (mL M)))), (qs, .inl (cJ, 16, .inr (.inl gs2))), (ql, .inl (cJ, 16, .inr (.inl gl2))), (qo, .inl (cZ, 16, .inl go2))] t.heap ∧ va_K (dC, dI) vwCl [(cJ, .long), (cZ, .boolean)] t ∧ va_D A [(o, .inr (4, [.int cd, .int sc, .ref qm, .ref qd, .int ch, .int fe, .int sz, .int rd, .int ca, .int sx, .ref qp, .int co, .int gi, .int aw, .int cg, .int bk2, .ref qs, .ref ql, .ref qo, .int ax, .long wi])), (qp, .inl (cJ, 3, .inr (.inl (pl3 bl of an)))), (qm, .inl (cJ, 8192, .inr (.inl (mL M)))), (qs, .inl (cJ, 16, .inr (.inl gs2))), (ql, .inl (cJ, 16, .inr (.inl gl2))), (qo, .inl (cZ, 16, .inl go2))]) A) [.ref o, .int x].toArray s 0 0 A) (F0 m 9 ls []) := by
    intro N
    induction N with
    | zero => intro f k po acc mo y bk3 gs3 gl3 go3 hN hmo hrp hbk hpo hal hle H locs hP hD hS ls hl; exact absurd hN.2 (Nat.lt_irrefl 0)
    | succ N ih =>
      intro f k po acc mo y bk3 gs3 gl3 go3 hN hmo hrp hbk hpo hal hle H locs hP hD hS ls hl
      refine lv_iload_n hx hb dX4_gather_9 rfl (lv_at hl 0 rfl) ?_
      refine lv_if_eq (tgt := 249) hx hb dX4_gather_10 (by decide) (fun c_1 => ?_) (fun c_1 => ?_)
      · skip
        obtain ⟨hne, hres⟩ : acc ≠ [] ∧ gat M bl n n k0 false [] = some acc := by
          rcases hmo with q | q
          · rw [c_1] at q; exact absurd q.1 (by decide)
          · exact q.2
        have hl0 : acc.length ≠ 0 := fun z => hne (List.length_eq_zero_iff.mp z)
        obtain ⟨hB, hh⟩ : ∃ b, acc[0]? = some b := ⟨_, List.getElem?_eq_getElem (by omega)⟩
        obtain ⟨tB, ht9⟩ : ∃ b, acc[acc.length - 1]? = some b := ⟨_, List.getElem?_eq_getElem (by omega)⟩
        have hhl := hle hB (List.mem_of_getElem? hh)
        have htl := hle tB (List.mem_of_getElem? ht9)
        have hg0 : go3 (0 : Int32).toNatClampNeg = bI (hB.2.2 = true) := (hrp 0 hB hh).2.2
        have hl9 : gl3 (0 : Int32).toNatClampNeg = lN hB.2.1 := (hrp 0 hB hh).2.1
        have eix : (bk3 - 1).toNatClampNeg = acc.length - 1 := by rw [hbk, nI_sub1 hl0, nI_clamp (by omega)]
        have hgt : go3 (bk3 - 1).toNatClampNeg = bI (tB.2.2 = true) := by rw [eix]; exact (hrp _ tB ht9).2.2
        have hlt : gl3 (bk3 - 1).toNatClampNeg = lN tB.2.1 := by rw [eix]; exact (hrp _ tB ht9).2.1
        refine lv_aload_n hx hb dX4_gather_249 rfl (lv_at hl 2 rfl) ?_
        refine va_get (D := (dC, dI)) (ci := 4) (v := .ref qo) (C := RX4) (T := TX4) (N := 21) hx hb hw inX4 hown hK hP 0 rfl rfl 18 (by decide) (hw _ w_3d33b1130a) (fun _ h9 => h9) rfl dX4_gather_250 ?_
        refine lv_iconst (v := 0) hx hb dX4_gather_253 (by decide) ?_
        refine va_zald hx hb hK hP 5 1 rfl rfl (vp_in_iff.mpr (by decide)) dX4_gather_254 ?_
        refine lv_if_ne (tgt := 305) hx hb dX4_gather_255 (by decide) (fun c_2 => ?_) (fun c_2 => ?_)
        · skip
          refine lv_iconst (v := 0) hx hb dX4_gather_305 (by decide) ?_
          have hP9 : va_P (dC, dI) vwCl [(o, .inr (4, [.int cd, .int sc, .ref qm, .ref qd, .int ch, .int fe, .int sz, .int rd, .int ca, .int sx, .ref qp, .int co, .int gi, .int aw, .int cg, .int bk3, .ref qs, .ref ql, .ref qo, .int ax, .long wi])), (qp, .inl (cJ, 3, .inr (.inl (pl3 bl of an)))), (qm, .inl (cJ, 8192, .inr (.inl (mL M)))), (qs, .inl (cJ, 16, .inr (.inl gs3))), (ql, .inl (cJ, 16, .inr (.inl gl3))), (qo, .inl (cZ, 16, .inl go3))] H := by exact hP.sub (ws' := [(o, .inr (4, [.int cd, .int sc, .ref qm, .ref qd, .int ch, .int fe, .int sz, .int rd, .int ca, .int sx, .ref qp, .int co, .int gi, .int aw, .int cg, .int bk3, .ref qs, .ref ql, .ref qo, .int ax, .long wi])), (qp, .inl (cJ, 3, .inr (.inl (pl3 bl of an)))), (qm, .inl (cJ, 8192, .inr (.inl (mL M)))), (qs, .inl (cJ, 16, .inr (.inl gs3))), (ql, .inl (cJ, 16, .inr (.inl gl3))), (qo, .inl (cZ, 16, .inl go3))]) [0, 1, 2, 3, 4, 5] rfl
          have hD9 : va_D A [(o, .inr (4, [.int cd, .int sc, .ref qm, .ref qd, .int ch, .int fe, .int sz, .int rd, .int ca, .int sx, .ref qp, .int co, .int gi, .int aw, .int cg, .int bk3, .ref qs, .ref ql, .ref qo, .int ax, .long wi])), (qp, .inl (cJ, 3, .inr (.inl (pl3 bl of an)))), (qm, .inl (cJ, 8192, .inr (.inl (mL M)))), (qs, .inl (cJ, 16, .inr (.inl gs3))), (ql, .inl (cJ, 16, .inr (.inl gl3))), (qo, .inl (cZ, 16, .inl go3))] := by exact hD.sub (ws' := [(o, .inr (4, [.int cd, .int sc, .ref qm, .ref qd, .int ch, .int fe, .int sz, .int rd, .int ca, .int sx, .ref qp, .int co, .int gi, .int aw, .int cg, .int bk3, .ref qs, .ref ql, .ref qo, .int ax, .long wi])), (qp, .inl (cJ, 3, .inr (.inl (pl3 bl of an)))), (qm, .inl (cJ, 8192, .inr (.inl (mL M)))), (qs, .inl (cJ, 16, .inr (.inl gs3))), (ql, .inl (cJ, 16, .inr (.inl gl3))), (qo, .inl (cZ, 16, .inl go3))]) [0, 1, 2, 3, 4, 5] (by decide) rfl
          have hK9 := hK.sub (tys' := [(cJ, .long), (cZ, .boolean)]) [0, 1] rfl
          have hen : ¬ endsB acc = true := fun z => by have q := (endsB_iff hh ht9).mp z; have z := c_2; rw [hg0] at z; have := bI_1 z; rw [q.1] at this; exact absurd this (by decide)
          exact W.zret (v := 0) hx hb hr rfl (fun t ht hW => ⟨⟨_, (bk3, gs3, gl3, go3), rfl, ⟨by rw [hres]; exact (bI_f hen).symm, fun L z => by rw [hres] at z; cases z; exact ⟨hrp, hbk⟩⟩, by rw [ht]; exact hP9, va_K.moved hW.alike hK9, hD9⟩, hS.F ht⟩) hS.2.2 dX4_gather_306
        · skip
          refine lv_aload_n hx hb dX4_gather_258 rfl (lv_at hl 2 rfl) ?_
          refine va_get (D := (dC, dI)) (ci := 4) (v := .ref ql) (C := RX4) (T := TX4) (N := 21) hx hb hw inX4 hown hK hP 0 rfl rfl 17 (by decide) (hw _ w_c20510a516) (fun _ h9 => h9) rfl dX4_gather_259 ?_
          refine lv_iconst (v := 0) hx hb dX4_gather_262 (by decide) ?_
          refine va_lald hx hb hK hP 4 0 rfl rfl (vp_in_iff.mpr (by decide)) dX4_gather_263 ?_
          refine lv_ldc2 (v := 16) hx hb hown (hw _ w_e95e0ccdaf) dX4_gather_264 ?_
          refine W.lcmp hx hb dX4_gather_267 ?_
          refine lv_if_lt (tgt := 305) hx hb dX4_gather_268 (by decide) (fun c_3 => ?_) (fun c_3 => ?_)
          · skip
            refine lv_iconst (v := 0) hx hb dX4_gather_305 (by decide) ?_
            have hP9 : va_P (dC, dI) vwCl [(o, .inr (4, [.int cd, .int sc, .ref qm, .ref qd, .int ch, .int fe, .int sz, .int rd, .int ca, .int sx, .ref qp, .int co, .int gi, .int aw, .int cg, .int bk3, .ref qs, .ref ql, .ref qo, .int ax, .long wi])), (qp, .inl (cJ, 3, .inr (.inl (pl3 bl of an)))), (qm, .inl (cJ, 8192, .inr (.inl (mL M)))), (qs, .inl (cJ, 16, .inr (.inl gs3))), (ql, .inl (cJ, 16, .inr (.inl gl3))), (qo, .inl (cZ, 16, .inl go3))] H := by exact hP.sub (ws' := [(o, .inr (4, [.int cd, .int sc, .ref qm, .ref qd, .int ch, .int fe, .int sz, .int rd, .int ca, .int sx, .ref qp, .int co, .int gi, .int aw, .int cg, .int bk3, .ref qs, .ref ql, .ref qo, .int ax, .long wi])), (qp, .inl (cJ, 3, .inr (.inl (pl3 bl of an)))), (qm, .inl (cJ, 8192, .inr (.inl (mL M)))), (qs, .inl (cJ, 16, .inr (.inl gs3))), (ql, .inl (cJ, 16, .inr (.inl gl3))), (qo, .inl (cZ, 16, .inl go3))]) [0, 1, 2, 3, 4, 5] rfl
            have hD9 : va_D A [(o, .inr (4, [.int cd, .int sc, .ref qm, .ref qd, .int ch, .int fe, .int sz, .int rd, .int ca, .int sx, .ref qp, .int co, .int gi, .int aw, .int cg, .int bk3, .ref qs, .ref ql, .ref qo, .int ax, .long wi])), (qp, .inl (cJ, 3, .inr (.inl (pl3 bl of an)))), (qm, .inl (cJ, 8192, .inr (.inl (mL M)))), (qs, .inl (cJ, 16, .inr (.inl gs3))), (ql, .inl (cJ, 16, .inr (.inl gl3))), (qo, .inl (cZ, 16, .inl go3))] := by exact hD.sub (ws' := [(o, .inr (4, [.int cd, .int sc, .ref qm, .ref qd, .int ch, .int fe, .int sz, .int rd, .int ca, .int sx, .ref qp, .int co, .int gi, .int aw, .int cg, .int bk3, .ref qs, .ref ql, .ref qo, .int ax, .long wi])), (qp, .inl (cJ, 3, .inr (.inl (pl3 bl of an)))), (qm, .inl (cJ, 8192, .inr (.inl (mL M)))), (qs, .inl (cJ, 16, .inr (.inl gs3))), (ql, .inl (cJ, 16, .inr (.inl gl3))), (qo, .inl (cZ, 16, .inl go3))]) [0, 1, 2, 3, 4, 5] (by decide) rfl
            have hK9 := hK.sub (tys' := [(cJ, .long), (cZ, .boolean)]) [0, 1] rfl
            have hen : ¬ endsB acc = true := fun z => by have q := (endsB_iff hh ht9).mp z; have z := c_3; rw [hl9, as_16 hhl] at z; have := q.2.1; omega
            exact W.zret (v := 0) hx hb hr rfl (fun t ht hW => ⟨⟨_, (bk3, gs3, gl3, go3), rfl, ⟨by rw [hres]; exact (bI_f hen).symm, fun L z => by rw [hres] at z; cases z; exact ⟨hrp, hbk⟩⟩, by rw [ht]; exact hP9, va_K.moved hW.alike hK9, hD9⟩, hS.F ht⟩) hS.2.2 dX4_gather_306
          · skip
            refine lv_aload_n hx hb dX4_gather_271 rfl (lv_at hl 2 rfl) ?_
            refine va_get (D := (dC, dI)) (ci := 4) (v := .ref qo) (C := RX4) (T := TX4) (N := 21) hx hb hw inX4 hown hK hP 0 rfl rfl 18 (by decide) (hw _ w_3d33b1130a) (fun _ h9 => h9) rfl dX4_gather_272 ?_
            refine lv_aload_n hx hb dX4_gather_275 rfl (lv_at hl 2 rfl) ?_
            refine va_get (D := (dC, dI)) (ci := 4) (v := .int bk3) (C := RX4) (T := TX4) (N := 21) hx hb hw inX4 hown hK hP 0 rfl rfl 15 (by decide) (hw _ w_f0da19b997) (fun _ h9 => h9) rfl dX4_gather_276 ?_
            refine lv_iconst (v := 1) hx hb dX4_gather_279 (by decide) ?_
            refine lv_isub hx hb dX4_gather_280 ?_
            refine va_zald hx hb hK hP 5 1 rfl rfl (by rw [hbk, nI_sub1 hl0]; exact vp_in_nI (by omega) (by omega)) dX4_gather_281 ?_
            refine lv_if_eq (tgt := 305) hx hb dX4_gather_282 (by decide) (fun c_4 => ?_) (fun c_4 => ?_)
            · skip
              refine lv_iconst (v := 0) hx hb dX4_gather_305 (by decide) ?_
              have hP9 : va_P (dC, dI) vwCl [(o, .inr (4, [.int cd, .int sc, .ref qm, .ref qd, .int ch, .int fe, .int sz, .int rd, .int ca, .int sx, .ref qp, .int co, .int gi, .int aw, .int cg, .int bk3, .ref qs, .ref ql, .ref qo, .int ax, .long wi])), (qp, .inl (cJ, 3, .inr (.inl (pl3 bl of an)))), (qm, .inl (cJ, 8192, .inr (.inl (mL M)))), (qs, .inl (cJ, 16, .inr (.inl gs3))), (ql, .inl (cJ, 16, .inr (.inl gl3))), (qo, .inl (cZ, 16, .inl go3))] H := by exact hP.sub (ws' := [(o, .inr (4, [.int cd, .int sc, .ref qm, .ref qd, .int ch, .int fe, .int sz, .int rd, .int ca, .int sx, .ref qp, .int co, .int gi, .int aw, .int cg, .int bk3, .ref qs, .ref ql, .ref qo, .int ax, .long wi])), (qp, .inl (cJ, 3, .inr (.inl (pl3 bl of an)))), (qm, .inl (cJ, 8192, .inr (.inl (mL M)))), (qs, .inl (cJ, 16, .inr (.inl gs3))), (ql, .inl (cJ, 16, .inr (.inl gl3))), (qo, .inl (cZ, 16, .inl go3))]) [0, 1, 2, 3, 4, 5] rfl
              have hD9 : va_D A [(o, .inr (4, [.int cd, .int sc, .ref qm, .ref qd, .int ch, .int fe, .int sz, .int rd, .int ca, .int sx, .ref qp, .int co, .int gi, .int aw, .int cg, .int bk3, .ref qs, .ref ql, .ref qo, .int ax, .long wi])), (qp, .inl (cJ, 3, .inr (.inl (pl3 bl of an)))), (qm, .inl (cJ, 8192, .inr (.inl (mL M)))), (qs, .inl (cJ, 16, .inr (.inl gs3))), (ql, .inl (cJ, 16, .inr (.inl gl3))), (qo, .inl (cZ, 16, .inl go3))] := by exact hD.sub (ws' := [(o, .inr (4, [.int cd, .int sc, .ref qm, .ref qd, .int ch, .int fe, .int sz, .int rd, .int ca, .int sx, .ref qp, .int co, .int gi, .int aw, .int cg, .int bk3, .ref qs, .ref ql, .ref qo, .int ax, .long wi])), (qp, .inl (cJ, 3, .inr (.inl (pl3 bl of an)))), (qm, .inl (cJ, 8192, .inr (.inl (mL M)))), (qs, .inl (cJ, 16, .inr (.inl gs3))), (ql, .inl (cJ, 16, .inr (.inl gl3))), (qo, .inl (cZ, 16, .inl go3))]) [0, 1, 2, 3, 4, 5] (by decide) rfl
              have hK9 := hK.sub (tys' := [(cJ, .long), (cZ, .boolean)]) [0, 1] rfl
              have hen : ¬ endsB acc = true := fun z => by have q := (endsB_iff hh ht9).mp z; have z := c_4; rw [hgt, bI_n0] at z; rw [q.2.2.1] at z; exact absurd z (by decide)
              exact W.zret (v := 0) hx hb hr rfl (fun t ht hW => ⟨⟨_, (bk3, gs3, gl3, go3), rfl, ⟨by rw [hres]; exact (bI_f hen).symm, fun L z => by rw [hres] at z; cases z; exact ⟨hrp, hbk⟩⟩, by rw [ht]; exact hP9, va_K.moved hW.alike hK9, hD9⟩, hS.F ht⟩) hS.2.2 dX4_gather_306
            · skip
              refine lv_aload_n hx hb dX4_gather_285 rfl (lv_at hl 2 rfl) ?_
              refine va_get (D := (dC, dI)) (ci := 4) (v := .ref ql) (C := RX4) (T := TX4) (N := 21) hx hb hw inX4 hown hK hP 0 rfl rfl 17 (by decide) (hw _ w_c20510a516) (fun _ h9 => h9) rfl dX4_gather_286 ?_
              refine lv_aload_n hx hb dX4_gather_289 rfl (lv_at hl 2 rfl) ?_
              refine va_get (D := (dC, dI)) (ci := 4) (v := .int bk3) (C := RX4) (T := TX4) (N := 21) hx hb hw inX4 hown hK hP 0 rfl rfl 15 (by decide) (hw _ w_f0da19b997) (fun _ h9 => h9) rfl dX4_gather_290 ?_
              refine lv_iconst (v := 1) hx hb dX4_gather_293 (by decide) ?_
              refine lv_isub hx hb dX4_gather_294 ?_
              refine va_lald hx hb hK hP 4 0 rfl rfl (by rw [hbk, nI_sub1 hl0]; exact vp_in_nI (by omega) (by omega)) dX4_gather_295 ?_
              refine lv_lconst (v := 0) hx hb dX4_gather_296 (by decide) ?_
              refine W.lcmp hx hb dX4_gather_297 ?_
              refine lv_if_le (tgt := 305) hx hb dX4_gather_298 (by decide) (fun c_5 => ?_) (fun c_5 => ?_)
              · skip
                refine lv_iconst (v := 0) hx hb dX4_gather_305 (by decide) ?_
                have hP9 : va_P (dC, dI) vwCl [(o, .inr (4, [.int cd, .int sc, .ref qm, .ref qd, .int ch, .int fe, .int sz, .int rd, .int ca, .int sx, .ref qp, .int co, .int gi, .int aw, .int cg, .int bk3, .ref qs, .ref ql, .ref qo, .int ax, .long wi])), (qp, .inl (cJ, 3, .inr (.inl (pl3 bl of an)))), (qm, .inl (cJ, 8192, .inr (.inl (mL M)))), (qs, .inl (cJ, 16, .inr (.inl gs3))), (ql, .inl (cJ, 16, .inr (.inl gl3))), (qo, .inl (cZ, 16, .inl go3))] H := by exact hP.sub (ws' := [(o, .inr (4, [.int cd, .int sc, .ref qm, .ref qd, .int ch, .int fe, .int sz, .int rd, .int ca, .int sx, .ref qp, .int co, .int gi, .int aw, .int cg, .int bk3, .ref qs, .ref ql, .ref qo, .int ax, .long wi])), (qp, .inl (cJ, 3, .inr (.inl (pl3 bl of an)))), (qm, .inl (cJ, 8192, .inr (.inl (mL M)))), (qs, .inl (cJ, 16, .inr (.inl gs3))), (ql, .inl (cJ, 16, .inr (.inl gl3))), (qo, .inl (cZ, 16, .inl go3))]) [0, 1, 2, 3, 4, 5] rfl
                have hD9 : va_D A [(o, .inr (4, [.int cd, .int sc, .ref qm, .ref qd, .int ch, .int fe, .int sz, .int rd, .int ca, .int sx, .ref qp, .int co, .int gi, .int aw, .int cg, .int bk3, .ref qs, .ref ql, .ref qo, .int ax, .long wi])), (qp, .inl (cJ, 3, .inr (.inl (pl3 bl of an)))), (qm, .inl (cJ, 8192, .inr (.inl (mL M)))), (qs, .inl (cJ, 16, .inr (.inl gs3))), (ql, .inl (cJ, 16, .inr (.inl gl3))), (qo, .inl (cZ, 16, .inl go3))] := by exact hD.sub (ws' := [(o, .inr (4, [.int cd, .int sc, .ref qm, .ref qd, .int ch, .int fe, .int sz, .int rd, .int ca, .int sx, .ref qp, .int co, .int gi, .int aw, .int cg, .int bk3, .ref qs, .ref ql, .ref qo, .int ax, .long wi])), (qp, .inl (cJ, 3, .inr (.inl (pl3 bl of an)))), (qm, .inl (cJ, 8192, .inr (.inl (mL M)))), (qs, .inl (cJ, 16, .inr (.inl gs3))), (ql, .inl (cJ, 16, .inr (.inl gl3))), (qo, .inl (cZ, 16, .inl go3))]) [0, 1, 2, 3, 4, 5] (by decide) rfl
                have hK9 := hK.sub (tys' := [(cJ, .long), (cZ, .boolean)]) [0, 1] rfl
                have hen : ¬ endsB acc = true := fun z => by have q := (endsB_iff hh ht9).mp z; have z := c_5; rw [hlt, as_0 htl] at z; exact z q.2.2.2
                exact W.zret (v := 0) hx hb hr rfl (fun t ht hW => ⟨⟨_, (bk3, gs3, gl3, go3), rfl, ⟨by rw [hres]; exact (bI_f hen).symm, fun L z => by rw [hres] at z; cases z; exact ⟨hrp, hbk⟩⟩, by rw [ht]; exact hP9, va_K.moved hW.alike hK9, hD9⟩, hS.F ht⟩) hS.2.2 dX4_gather_306
              · skip
                refine lv_iconst (v := 1) hx hb dX4_gather_301 (by decide) ?_
                refine lv_goto (tgt := 306) hx hb dX4_gather_302 (by decide) ?_
                have hP9 : va_P (dC, dI) vwCl [(o, .inr (4, [.int cd, .int sc, .ref qm, .ref qd, .int ch, .int fe, .int sz, .int rd, .int ca, .int sx, .ref qp, .int co, .int gi, .int aw, .int cg, .int bk3, .ref qs, .ref ql, .ref qo, .int ax, .long wi])), (qp, .inl (cJ, 3, .inr (.inl (pl3 bl of an)))), (qm, .inl (cJ, 8192, .inr (.inl (mL M)))), (qs, .inl (cJ, 16, .inr (.inl gs3))), (ql, .inl (cJ, 16, .inr (.inl gl3))), (qo, .inl (cZ, 16, .inl go3))] H := by exact hP.sub (ws' := [(o, .inr (4, [.int cd, .int sc, .ref qm, .ref qd, .int ch, .int fe, .int sz, .int rd, .int ca, .int sx, .ref qp, .int co, .int gi, .int aw, .int cg, .int bk3, .ref qs, .ref ql, .ref qo, .int ax, .long wi])), (qp, .inl (cJ, 3, .inr (.inl (pl3 bl of an)))), (qm, .inl (cJ, 8192, .inr (.inl (mL M)))), (qs, .inl (cJ, 16, .inr (.inl gs3))), (ql, .inl (cJ, 16, .inr (.inl gl3))), (qo, .inl (cZ, 16, .inl go3))]) [0, 1, 2, 3, 4, 5] rfl
                have hD9 : va_D A [(o, .inr (4, [.int cd, .int sc, .ref qm, .ref qd, .int ch, .int fe, .int sz, .int rd, .int ca, .int sx, .ref qp, .int co, .int gi, .int aw, .int cg, .int bk3, .ref qs, .ref ql, .ref qo, .int ax, .long wi])), (qp, .inl (cJ, 3, .inr (.inl (pl3 bl of an)))), (qm, .inl (cJ, 8192, .inr (.inl (mL M)))), (qs, .inl (cJ, 16, .inr (.inl gs3))), (ql, .inl (cJ, 16, .inr (.inl gl3))), (qo, .inl (cZ, 16, .inl go3))] := by exact hD.sub (ws' := [(o, .inr (4, [.int cd, .int sc, .ref qm, .ref qd, .int ch, .int fe, .int sz, .int rd, .int ca, .int sx, .ref qp, .int co, .int gi, .int aw, .int cg, .int bk3, .ref qs, .ref ql, .ref qo, .int ax, .long wi])), (qp, .inl (cJ, 3, .inr (.inl (pl3 bl of an)))), (qm, .inl (cJ, 8192, .inr (.inl (mL M)))), (qs, .inl (cJ, 16, .inr (.inl gs3))), (ql, .inl (cJ, 16, .inr (.inl gl3))), (qo, .inl (cZ, 16, .inl go3))]) [0, 1, 2, 3, 4, 5] (by decide) rfl
                have hK9 := hK.sub (tys' := [(cJ, .long), (cZ, .boolean)]) [0, 1] rfl
                have hen : endsB acc = true := (endsB_iff hh ht9).mpr ⟨by have z := c_2; rw [hg0] at z; exact bI_n0.mp z, by have z := c_3; rw [hl9, as_16 hhl] at z; omega, by have z := c_4; rw [hgt] at z; exact bI_1 z, by have z := c_5; rw [hlt, as_0 htl] at z; omega⟩
                exact W.zret (v := 1) hx hb hr rfl (fun t ht hW => ⟨⟨_, (bk3, gs3, gl3, go3), rfl, ⟨by rw [hres]; exact (bI_t hen).symm, fun L z => by rw [hres] at z; cases z; exact ⟨hrp, hbk⟩⟩, by rw [ht]; exact hP9, va_K.moved hW.alike hK9, hD9⟩, hS.F ht⟩) hS.2.2 dX4_gather_306
      · skip
        obtain ⟨hm1, ey, hk5, hlf, hs⟩ := hmo.resolve_right (fun q => c_1 q.1)
        refine lv_aload_n hx hb dX4_gather_13 rfl (lv_at hl 2 rfl) ?_
        refine va_get (D := (dC, dI)) (ci := 4) (v := .ref qp) (C := RX4) (T := TX4) (N := 21) hx hb hw inX4 hown hK hP 0 rfl rfl 10 (by decide) (hw _ w_bc7cda3a3d) (fun _ h9 => h9) rfl dX4_gather_14 ?_
        refine lv_iconst (v := 0) hx hb dX4_gather_17 (by decide) ?_
        refine va_lald hx hb hK hP 1 0 rfl rfl (vp_in_iff.mpr (by decide)) dX4_gather_18 ?_
        refine lv_ldc2 (v := 16) hx hb hown (hw _ w_e95e0ccdaf) dX4_gather_19 ?_
        refine lv_iload_n hx hb dX4_gather_22 rfl (lv_at hl 1 rfl) ?_
        refine lv_i2l (v := y.toInt64) hx hb dX4_gather_23 rfl ?_
        refine lv_lmul hx hb dX4_gather_24 ?_
        refine lv_ladd hx hb dX4_gather_25 ?_
        refine lv_topl (fun x_6 ex_6 => ?_)
        refine lv_lstore (lv' := [(4, .long x_6), (3, .int mo), (2, .int y), (0, .ref o), (1, .int x)]) hx hb dX4_gather_26 hl (by decide) rfl (fun ls hl => ?_)
        have ebl : x_6 = blA bl k := by rw [ex_6, ey, nI_l (by omega)]; rfl
        refine lv_iload_n hx hb dX4_gather_28 rfl (lv_at hl 2 rfl) ?_
        refine lv_aload_n hx hb dX4_gather_29 rfl (lv_at hl 3 rfl) ?_
        refine va_get (D := (dC, dI)) (ci := 4) (v := .int sz) (C := RX4) (T := TX4) (N := 21) hx hb hw inX4 hown hK hP 0 rfl rfl 6 (by decide) (hw _ w_19a341c1eb) (fun _ h9 => h9) rfl dX4_gather_30 ?_
        refine lv_icmp_ge (tgt := 58) hx hb dX4_gather_33 (by decide) (fun c_7 => ?_) (fun c_7 => ?_)
        · skip
          have hkn : ¬ k < n := by rw [ey, hsz, nI_leI (by omega) (by omega)] at c_7; omega
          have hnone : gat M bl n n k0 false [] = none := by
            rw [← hs]
            cases f with
            | zero => rfl
            | succ f => rw [gat, if_neg (fun z => hkn z.1)]
          refine lv_iconst (v := 0) hx hb dX4_gather_58 (by decide) ?_
          have hP9 : va_P (dC, dI) vwCl [(o, .inr (4, [.int cd, .int sc, .ref qm, .ref qd, .int ch, .int fe, .int sz, .int rd, .int ca, .int sx, .ref qp, .int co, .int gi, .int aw, .int cg, .int bk3, .ref qs, .ref ql, .ref qo, .int ax, .long wi])), (qp, .inl (cJ, 3, .inr (.inl (pl3 bl of an)))), (qm, .inl (cJ, 8192, .inr (.inl (mL M)))), (qs, .inl (cJ, 16, .inr (.inl gs3))), (ql, .inl (cJ, 16, .inr (.inl gl3))), (qo, .inl (cZ, 16, .inl go3))] H := by exact hP.sub (ws' := [(o, .inr (4, [.int cd, .int sc, .ref qm, .ref qd, .int ch, .int fe, .int sz, .int rd, .int ca, .int sx, .ref qp, .int co, .int gi, .int aw, .int cg, .int bk3, .ref qs, .ref ql, .ref qo, .int ax, .long wi])), (qp, .inl (cJ, 3, .inr (.inl (pl3 bl of an)))), (qm, .inl (cJ, 8192, .inr (.inl (mL M)))), (qs, .inl (cJ, 16, .inr (.inl gs3))), (ql, .inl (cJ, 16, .inr (.inl gl3))), (qo, .inl (cZ, 16, .inl go3))]) [0, 1, 2, 3, 4, 5] rfl
          have hD9 : va_D A [(o, .inr (4, [.int cd, .int sc, .ref qm, .ref qd, .int ch, .int fe, .int sz, .int rd, .int ca, .int sx, .ref qp, .int co, .int gi, .int aw, .int cg, .int bk3, .ref qs, .ref ql, .ref qo, .int ax, .long wi])), (qp, .inl (cJ, 3, .inr (.inl (pl3 bl of an)))), (qm, .inl (cJ, 8192, .inr (.inl (mL M)))), (qs, .inl (cJ, 16, .inr (.inl gs3))), (ql, .inl (cJ, 16, .inr (.inl gl3))), (qo, .inl (cZ, 16, .inl go3))] := by exact hD.sub (ws' := [(o, .inr (4, [.int cd, .int sc, .ref qm, .ref qd, .int ch, .int fe, .int sz, .int rd, .int ca, .int sx, .ref qp, .int co, .int gi, .int aw, .int cg, .int bk3, .ref qs, .ref ql, .ref qo, .int ax, .long wi])), (qp, .inl (cJ, 3, .inr (.inl (pl3 bl of an)))), (qm, .inl (cJ, 8192, .inr (.inl (mL M)))), (qs, .inl (cJ, 16, .inr (.inl gs3))), (ql, .inl (cJ, 16, .inr (.inl gl3))), (qo, .inl (cZ, 16, .inl go3))]) [0, 1, 2, 3, 4, 5] (by decide) rfl
          have hK9 := hK.sub (tys' := [(cJ, .long), (cZ, .boolean)]) [0, 1] rfl
          exact W.zret (v := 0) hx hb hr rfl (fun t ht hW => ⟨⟨_, (bk3, gs3, gl3, go3), rfl, ⟨by rw [hnone]; exact (bI_f finB_n).symm, fun L z => by rw [hnone] at z; cases z⟩, by rw [ht]; exact hP9, va_K.moved hW.alike hK9, hD9⟩, hS.F ht⟩) hS.2.2 dX4_gather_59
        · skip
          have hkn : k < n := by rw [ey, hsz, nI_leI (by omega) (by omega)] at c_7; omega
          refine lv_aload_n hx hb dX4_gather_36 rfl (lv_at hl 3 rfl) ?_
          refine va_get (D := (dC, dI)) (ci := 4) (v := .int bk3) (C := RX4) (T := TX4) (N := 21) hx hb hw inX4 hown hK hP 0 rfl rfl 15 (by decide) (hw _ w_f0da19b997) (fun _ h9 => h9) rfl dX4_gather_37 ?_
          refine lv_aload_n hx hb dX4_gather_40 rfl (lv_at hl 3 rfl) ?_
          refine va_get (D := (dC, dI)) (ci := 4) (v := .int sz) (C := RX4) (T := TX4) (N := 21) hx hb hw inX4 hown hK hP 0 rfl rfl 6 (by decide) (hw _ w_19a341c1eb) (fun _ h9 => h9) rfl dX4_gather_41 ?_
          refine lv_icmp_eq (tgt := 58) hx hb dX4_gather_44 (by decide) (fun c_8 => ?_) (fun c_8 => ?_)
          · skip
            have hf0 : f = 0 := by rw [hbk, hsz, nI_eq (by omega) (by omega)] at c_8; omega
            have hnone : gat M bl n n k0 false [] = none := by rw [← hs, hf0]; rfl
            refine lv_iconst (v := 0) hx hb dX4_gather_58 (by decide) ?_
            have hP9 : va_P (dC, dI) vwCl [(o, .inr (4, [.int cd, .int sc, .ref qm, .ref qd, .int ch, .int fe, .int sz, .int rd, .int ca, .int sx, .ref qp, .int co, .int gi, .int aw, .int cg, .int bk3, .ref qs, .ref ql, .ref qo, .int ax, .long wi])), (qp, .inl (cJ, 3, .inr (.inl (pl3 bl of an)))), (qm, .inl (cJ, 8192, .inr (.inl (mL M)))), (qs, .inl (cJ, 16, .inr (.inl gs3))), (ql, .inl (cJ, 16, .inr (.inl gl3))), (qo, .inl (cZ, 16, .inl go3))] H := by exact hP.sub (ws' := [(o, .inr (4, [.int cd, .int sc, .ref qm, .ref qd, .int ch, .int fe, .int sz, .int rd, .int ca, .int sx, .ref qp, .int co, .int gi, .int aw, .int cg, .int bk3, .ref qs, .ref ql, .ref qo, .int ax, .long wi])), (qp, .inl (cJ, 3, .inr (.inl (pl3 bl of an)))), (qm, .inl (cJ, 8192, .inr (.inl (mL M)))), (qs, .inl (cJ, 16, .inr (.inl gs3))), (ql, .inl (cJ, 16, .inr (.inl gl3))), (qo, .inl (cZ, 16, .inl go3))]) [0, 1, 2, 3, 4, 5] rfl
            have hD9 : va_D A [(o, .inr (4, [.int cd, .int sc, .ref qm, .ref qd, .int ch, .int fe, .int sz, .int rd, .int ca, .int sx, .ref qp, .int co, .int gi, .int aw, .int cg, .int bk3, .ref qs, .ref ql, .ref qo, .int ax, .long wi])), (qp, .inl (cJ, 3, .inr (.inl (pl3 bl of an)))), (qm, .inl (cJ, 8192, .inr (.inl (mL M)))), (qs, .inl (cJ, 16, .inr (.inl gs3))), (ql, .inl (cJ, 16, .inr (.inl gl3))), (qo, .inl (cZ, 16, .inl go3))] := by exact hD.sub (ws' := [(o, .inr (4, [.int cd, .int sc, .ref qm, .ref qd, .int ch, .int fe, .int sz, .int rd, .int ca, .int sx, .ref qp, .int co, .int gi, .int aw, .int cg, .int bk3, .ref qs, .ref ql, .ref qo, .int ax, .long wi])), (qp, .inl (cJ, 3, .inr (.inl (pl3 bl of an)))), (qm, .inl (cJ, 8192, .inr (.inl (mL M)))), (qs, .inl (cJ, 16, .inr (.inl gs3))), (ql, .inl (cJ, 16, .inr (.inl gl3))), (qo, .inl (cZ, 16, .inl go3))]) [0, 1, 2, 3, 4, 5] (by decide) rfl
            have hK9 := hK.sub (tys' := [(cJ, .long), (cZ, .boolean)]) [0, 1] rfl
            exact W.zret (v := 0) hx hb hr rfl (fun t ht hW => ⟨⟨_, (bk3, gs3, gl3, go3), rfl, ⟨by rw [hnone]; exact (bI_f finB_n).symm, fun L z => by rw [hnone] at z; cases z⟩, by rw [ht]; exact hP9, va_K.moved hW.alike hK9, hD9⟩, hS.F ht⟩) hS.2.2 dX4_gather_59
          · skip
            obtain ⟨f, rfl⟩ : ∃ g, f = g + 1 := ⟨f - 1, by rw [hbk, hsz, nI_eq (by omega) (by omega)] at c_8; omega⟩
            refine lv_lload hx hb dX4_gather_47 (lv_at hl 0 rfl) ?_
            refine lv_ldc2 (v := 16) hx hb hown (hw _ w_e95e0ccdaf) dX4_gather_49 ?_
            have hPc := hP.sub (ws' := []) [] rfl
            have hKc := hK.sub (tys' := []) [] rfl
            have hZc := (hZ.kept hS.2.1).narrow (B := fun _ => False) (fun _ h => h.elim)
            refine vp_callSi (va_runS (As := [.long x_6, .long 16]) (rest := []) ⟨hx, hb, hml, hown, hw⟩ (m_isThere l dC dI x_6 16) (va_cwS 2 hw (gS w_e4da178cff w_3b07a2b4f7 w_2b384744dc w_a857523ad5) rfl rfl rfl (by decide +kernel) ⟨Nat.le_of_ble_eq_true rfl, Nat.le_of_ble_eq_true rfl⟩) ⟨fun a U g mk q => by obtain ⟨q0, qP, qK, qZ⟩ := q; exact ⟨q0, qP, va_K.moved (u := U) (U := U.calling g mk a) (Vm.Alike.refl U.vm) qK, ZZ.same (u := U) (U := U.calling g mk a) rfl qZ⟩, fun U hU hW => ⟨rfl, by rw [hU]; exact hPc, va_K.moved hW.alike hKc, by rw [hU]; exact ZZ.warm hW hZc⟩⟩ rfl rfl hl.1 rfl (lv_room (Nat.le_of_ble_eq_true rfl)) dX4_gather_52 ⟨Nat.zero_le _, Nat.zero_le _⟩).run (fun r_9 hr_9 => ?_)
            have hr_9 : r_9 = bI (thP x_6 16) := hr_9
            refine lv_if_ne (tgt := 60) hx hb dX4_gather_55 (by decide) (fun c_10 => ?_) (fun c_10 => ?_)
            · skip
              have b_11 : (thP x_6 16) := bI_1 (by rw [← hr_9]; exact c_10)
              have hth : thP (blA bl k) (lN 16) := by rw [← ebl]; exact b_11
              refine lv_aload_n hx hb dX4_gather_60 rfl (lv_at hl 3 rfl) ?_
              refine lv_lload hx hb dX4_gather_61 (lv_at hl 0 rfl) ?_
              refine lv_ldc2 (v := 12) hx hb hown (hw _ w_d146e80881) dX4_gather_63 ?_
              refine lv_ladd hx hb dX4_gather_66 ?_
              refine lv_iconst (v := 2) hx hb dX4_gather_67 (by decide) ?_
              have hPc := hP.sub (ws' := [(o, .inr (4, [.int cd, .int sc, .ref qm, .ref qd, .int ch, .int fe, .int sz, .int rd, .int ca, .int sx, .ref qp, .int co, .int gi, .int aw, .int cg, .int bk3, .ref qs, .ref ql, .ref qo, .int ax, .long wi])), (qm, .inl (cJ, 8192, .inr (.inl (mL M))))]) [0, 2] rfl
              have hKc := hK.sub (tys' := [(cJ, .long)]) [0] rfl
              have hZc := (hZ.kept hS.2.1).narrow (B := fun _ => False) (fun _ h => h.elim)
              refine vp_callSl (va_runV (As := [.long (x_6 + 12), .int 2]) (rest := []) ⟨hx, hb, hml, hown, hw⟩ (m_number l dC dI o cd sc qm qd ch fe sz rd ca sx qp co gi aw cg bk3 qs ql qo ax wi cJ M (x_6 + 12) 2 2 (off (blA bl k) + 12) rfl (by decide) (by rw [ebl]; exact (off_plus hth (show 12 < 16 by decide) (by decide)).1) (by have := (off_0 hth (by decide) (by decide)).2; omega) hM) (cwV 2 hw (gV w_b394cd0f6f w_fab48a5191 w_cc770dbe30 w_2b384744dc w_c1a5c9b18f) rfl rfl rfl (by decide +kernel) ⟨Nat.le_of_ble_eq_true rfl, Nat.le_of_ble_eq_true rfl⟩) ⟨fun a U g mk q => by obtain ⟨q0, qP, qK, qZ⟩ := q; exact ⟨q0, qP, va_K.moved (u := U) (U := U.calling g mk a) (Vm.Alike.refl U.vm) qK, ZZ.same (u := U) (U := U.calling g mk a) rfl qZ⟩, va_recv hKc hPc (ci := 4) (q0 := 0) rfl rfl, fun U hU hW => ⟨rfl, by rw [hU]; exact hPc, va_K.moved hW.alike hKc, by rw [hU]; exact ZZ.warm hW hZc⟩⟩ rfl rfl hl.1 rfl (lv_room (Nat.le_of_ble_eq_true rfl)) dX4_gather_68 ⟨Nat.zero_le _, Nat.zero_le _⟩).run (fun r_12 hr_12 => ?_)
              have hr_12 : r_12 = lN (nbs M (off (blA bl k) + 12) 2) := hr_12
              refine lv_l2i (v := r_12.toInt32) hx hb dX4_gather_71 rfl ?_
              refine lv_topi (fun x_13 ex_13 => ?_)
              refine lv_istore (lv' := [(6, .int x_13), (4, .long x_6), (3, .int mo), (2, .int y), (0, .ref o), (1, .int x)]) hx hb dX4_gather_72 hl (by decide) rfl (fun ls hl => ?_)
              have emk : x_13 = nI (nbs M (off (blA bl k) + 12) 2) := by rw [ex_13, hr_12, lN_i]
              have hmk : nbs M (off (blA bl k) + 12) 2 < 65536 := nbs_lt hM _ 2
              refine lv_aload_n hx hb dX4_gather_74 rfl (lv_at hl 4 rfl) ?_
              refine va_get (D := (dC, dI)) (ci := 4) (v := .ref qs) (C := RX4) (T := TX4) (N := 21) hx hb hw inX4 hown hK hP 0 rfl rfl 16 (by decide) (hw _ w_c92d01c177) (fun _ h9 => h9) rfl dX4_gather_75 ?_
              refine lv_aload_n hx hb dX4_gather_78 rfl (lv_at hl 4 rfl) ?_
              refine va_get (D := (dC, dI)) (ci := 4) (v := .int bk3) (C := RX4) (T := TX4) (N := 21) hx hb hw inX4 hown hK hP 0 rfl rfl 15 (by decide) (hw _ w_f0da19b997) (fun _ h9 => h9) rfl dX4_gather_79 ?_
              refine lv_aload_n hx hb dX4_gather_82 rfl (lv_at hl 4 rfl) ?_
              refine lv_lload hx hb dX4_gather_83 (lv_at hl 1 rfl) ?_
              refine lv_bipush (v := 8) hx hb dX4_gather_85 (by decide) ?_
              have hPc := hP.sub (ws' := [(o, .inr (4, [.int cd, .int sc, .ref qm, .ref qd, .int ch, .int fe, .int sz, .int rd, .int ca, .int sx, .ref qp, .int co, .int gi, .int aw, .int cg, .int bk3, .ref qs, .ref ql, .ref qo, .int ax, .long wi])), (qm, .inl (cJ, 8192, .inr (.inl (mL M))))]) [0, 2] rfl
              have hKc := hK.sub (tys' := [(cJ, .long)]) [0] rfl
              have hZc := (hZ.kept hS.2.1).narrow (B := fun _ => False) (fun _ h => h.elim)
              refine vp_callSl (va_runV (As := [.long x_6, .int 8]) (rest := [.int bk3, .ref qs]) ⟨hx, hb, hml, hown, hw⟩ (m_number l dC dI o cd sc qm qd ch fe sz rd ca sx qp co gi aw cg bk3 qs ql qo ax wi cJ M x_6 8 8 (off (blA bl k)) rfl (by decide) (by rw [ebl]; exact (off_0 hth (by decide) (by decide)).1) (by have := (off_0 hth (by decide) (by decide)).2; omega) hM) (cwV 2 hw (gV w_b394cd0f6f w_fab48a5191 w_cc770dbe30 w_2b384744dc w_c1a5c9b18f) rfl rfl rfl (by decide +kernel) ⟨Nat.le_of_ble_eq_true rfl, Nat.le_of_ble_eq_true rfl⟩) ⟨fun a U g mk q => by obtain ⟨q0, qP, qK, qZ⟩ := q; exact ⟨q0, qP, va_K.moved (u := U) (U := U.calling g mk a) (Vm.Alike.refl U.vm) qK, ZZ.same (u := U) (U := U.calling g mk a) rfl qZ⟩, va_recv hKc hPc (ci := 4) (q0 := 0) rfl rfl, fun U hU hW => ⟨rfl, by rw [hU]; exact hPc, va_K.moved hW.alike hKc, by rw [hU]; exact ZZ.warm hW hZc⟩⟩ rfl rfl hl.1 rfl (lv_room (Nat.le_of_ble_eq_true rfl)) dX4_gather_87 ⟨Nat.zero_le _, Nat.zero_le _⟩).run (fun r_14 hr_14 => ?_)
              have hr_14 : r_14 = lN (nbs M (off (blA bl k)) 8) := hr_14
              refine va_last hx hb hK hP hD hS 3 0 rfl rfl (by rw [hbk]; exact vp_in_nI (by omega) (by omega)) dX4_gather_90 (fun H locs hP hD hS => ?_)
              have hP : va_P (dC, dI) vwCl [(o, .inr (4, [.int cd, .int sc, .ref qm, .ref qd, .int ch, .int fe, .int sz, .int rd, .int ca, .int sx, .ref qp, .int co, .int gi, .int aw, .int cg, .int bk3, .ref qs, .ref ql, .ref qo, .int ax, .long wi])), (qp, .inl (cJ, 3, .inr (.inl (pl3 bl of an)))), (qm, .inl (cJ, 8192, .inr (.inl (mL M)))), (qs, .inl (cJ, 16, .inr (.inl (vp_updL gs3 bk3.toNatClampNeg r_14)))), (ql, .inl (cJ, 16, .inr (.inl gl3))), (qo, .inl (cZ, 16, .inl go3))] H := hP
              have hD : va_D A [(o, .inr (4, [.int cd, .int sc, .ref qm, .ref qd, .int ch, .int fe, .int sz, .int rd, .int ca, .int sx, .ref qp, .int co, .int gi, .int aw, .int cg, .int bk3, .ref qs, .ref ql, .ref qo, .int ax, .long wi])), (qp, .inl (cJ, 3, .inr (.inl (pl3 bl of an)))), (qm, .inl (cJ, 8192, .inr (.inl (mL M)))), (qs, .inl (cJ, 16, .inr (.inl (vp_updL gs3 bk3.toNatClampNeg r_14)))), (ql, .inl (cJ, 16, .inr (.inl gl3))), (qo, .inl (cZ, 16, .inl go3))] := hD
              obtain ⟨gs4, egs⟩ : ∃ g : Nat → Int64, g = vp_updL gs3 acc.length (lN (nbs M (off (blA bl k)) 8)) := ⟨_, rfl⟩
              have er_15 : vp_updL gs3 bk3.toNatClampNeg r_14 = gs4 := by rw [egs, hr_14, hbk, nI_clamp (by omega)]
              rw [er_15] at hP hD
              have hP : va_P (dC, dI) vwCl [(o, .inr (4, [.int cd, .int sc, .ref qm, .ref qd, .int ch, .int fe, .int sz, .int rd, .int ca, .int sx, .ref qp, .int co, .int gi, .int aw, .int cg, .int bk3, .ref qs, .ref ql, .ref qo, .int ax, .long wi])), (qp, .inl (cJ, 3, .inr (.inl (pl3 bl of an)))), (qm, .inl (cJ, 8192, .inr (.inl (mL M)))), (qs, .inl (cJ, 16, .inr (.inl gs4))), (ql, .inl (cJ, 16, .inr (.inl gl3))), (qo, .inl (cZ, 16, .inl go3))] H := hP
              have hD : va_D A [(o, .inr (4, [.int cd, .int sc, .ref qm, .ref qd, .int ch, .int fe, .int sz, .int rd, .int ca, .int sx, .ref qp, .int co, .int gi, .int aw, .int cg, .int bk3, .ref qs, .ref ql, .ref qo, .int ax, .long wi])), (qp, .inl (cJ, 3, .inr (.inl (pl3 bl of an)))), (qm, .inl (cJ, 8192, .inr (.inl (mL M)))), (qs, .inl (cJ, 16, .inr (.inl gs4))), (ql, .inl (cJ, 16, .inr (.inl gl3))), (qo, .inl (cZ, 16, .inl go3))] := hD
              refine lv_aload_n hx hb dX4_gather_91 rfl (lv_at hl 4 rfl) ?_
              refine va_get (D := (dC, dI)) (ci := 4) (v := .ref ql) (C := RX4) (T := TX4) (N := 21) hx hb hw inX4 hown hK hP 0 rfl rfl 17 (by decide) (hw _ w_c20510a516) (fun _ h9 => h9) rfl dX4_gather_92 ?_
              refine lv_aload_n hx hb dX4_gather_95 rfl (lv_at hl 4 rfl) ?_
              refine va_get (D := (dC, dI)) (ci := 4) (v := .int bk3) (C := RX4) (T := TX4) (N := 21) hx hb hw inX4 hown hK hP 0 rfl rfl 15 (by decide) (hw _ w_f0da19b997) (fun _ h9 => h9) rfl dX4_gather_96 ?_
              refine lv_aload_n hx hb dX4_gather_99 rfl (lv_at hl 4 rfl) ?_
              refine lv_lload hx hb dX4_gather_100 (lv_at hl 1 rfl) ?_
              refine lv_ldc2 (v := 8) hx hb hown (hw _ w_155b6b2939) dX4_gather_102 ?_
              refine lv_ladd hx hb dX4_gather_105 ?_
              refine lv_iconst (v := 4) hx hb dX4_gather_106 (by decide) ?_
              have hPc := hP.sub (ws' := [(o, .inr (4, [.int cd, .int sc, .ref qm, .ref qd, .int ch, .int fe, .int sz, .int rd, .int ca, .int sx, .ref qp, .int co, .int gi, .int aw, .int cg, .int bk3, .ref qs, .ref ql, .ref qo, .int ax, .long wi])), (qm, .inl (cJ, 8192, .inr (.inl (mL M))))]) [0, 2] rfl
              have hKc := hK.sub (tys' := [(cJ, .long)]) [0] rfl
              have hZc := (hZ.kept hS.2.1).narrow (B := fun _ => False) (fun _ h => h.elim)
              refine vp_callSl (va_runV (As := [.long (x_6 + 8), .int 4]) (rest := [.int bk3, .ref ql]) ⟨hx, hb, hml, hown, hw⟩ (m_number l dC dI o cd sc qm qd ch fe sz rd ca sx qp co gi aw cg bk3 qs ql qo ax wi cJ M (x_6 + 8) 4 4 (off (blA bl k) + 8) rfl (by decide) (by rw [ebl]; exact (off_plus hth (show 8 < 16 by decide) (by decide)).1) (by have := (off_0 hth (by decide) (by decide)).2; omega) hM) (cwV 2 hw (gV w_b394cd0f6f w_fab48a5191 w_cc770dbe30 w_2b384744dc w_c1a5c9b18f) rfl rfl rfl (by decide +kernel) ⟨Nat.le_of_ble_eq_true rfl, Nat.le_of_ble_eq_true rfl⟩) ⟨fun a U g mk q => by obtain ⟨q0, qP, qK, qZ⟩ := q; exact ⟨q0, qP, va_K.moved (u := U) (U := U.calling g mk a) (Vm.Alike.refl U.vm) qK, ZZ.same (u := U) (U := U.calling g mk a) rfl qZ⟩, va_recv hKc hPc (ci := 4) (q0 := 0) rfl rfl, fun U hU hW => ⟨rfl, by rw [hU]; exact hPc, va_K.moved hW.alike hKc, by rw [hU]; exact ZZ.warm hW hZc⟩⟩ rfl rfl hl.1 rfl (lv_room (Nat.le_of_ble_eq_true rfl)) dX4_gather_107 ⟨Nat.zero_le _, Nat.zero_le _⟩).run (fun r_16 hr_16 => ?_)
              have hr_16 : r_16 = lN (nbs M (off (blA bl k) + 8) 4) := hr_16
              refine va_last hx hb hK hP hD hS 4 0 rfl rfl (by rw [hbk]; exact vp_in_nI (by omega) (by omega)) dX4_gather_110 (fun H locs hP hD hS => ?_)
              have hP : va_P (dC, dI) vwCl [(o, .inr (4, [.int cd, .int sc, .ref qm, .ref qd, .int ch, .int fe, .int sz, .int rd, .int ca, .int sx, .ref qp, .int co, .int gi, .int aw, .int cg, .int bk3, .ref qs, .ref ql, .ref qo, .int ax, .long wi])), (qp, .inl (cJ, 3, .inr (.inl (pl3 bl of an)))), (qm, .inl (cJ, 8192, .inr (.inl (mL M)))), (qs, .inl (cJ, 16, .inr (.inl gs4))), (ql, .inl (cJ, 16, .inr (.inl (vp_updL gl3 bk3.toNatClampNeg r_16)))), (qo, .inl (cZ, 16, .inl go3))] H := hP
              have hD : va_D A [(o, .inr (4, [.int cd, .int sc, .ref qm, .ref qd, .int ch, .int fe, .int sz, .int rd, .int ca, .int sx, .ref qp, .int co, .int gi, .int aw, .int cg, .int bk3, .ref qs, .ref ql, .ref qo, .int ax, .long wi])), (qp, .inl (cJ, 3, .inr (.inl (pl3 bl of an)))), (qm, .inl (cJ, 8192, .inr (.inl (mL M)))), (qs, .inl (cJ, 16, .inr (.inl gs4))), (ql, .inl (cJ, 16, .inr (.inl (vp_updL gl3 bk3.toNatClampNeg r_16)))), (qo, .inl (cZ, 16, .inl go3))] := hD
              obtain ⟨gl4, egl⟩ : ∃ g : Nat → Int64, g = vp_updL gl3 acc.length (lN (nbs M (off (blA bl k) + 8) 4)) := ⟨_, rfl⟩
              have er_17 : vp_updL gl3 bk3.toNatClampNeg r_16 = gl4 := by rw [egl, hr_16, hbk, nI_clamp (by omega)]
              rw [er_17] at hP hD
              have hP : va_P (dC, dI) vwCl [(o, .inr (4, [.int cd, .int sc, .ref qm, .ref qd, .int ch, .int fe, .int sz, .int rd, .int ca, .int sx, .ref qp, .int co, .int gi, .int aw, .int cg, .int bk3, .ref qs, .ref ql, .ref qo, .int ax, .long wi])), (qp, .inl (cJ, 3, .inr (.inl (pl3 bl of an)))), (qm, .inl (cJ, 8192, .inr (.inl (mL M)))), (qs, .inl (cJ, 16, .inr (.inl gs4))), (ql, .inl (cJ, 16, .inr (.inl gl4))), (qo, .inl (cZ, 16, .inl go3))] H := hP
              have hD : va_D A [(o, .inr (4, [.int cd, .int sc, .ref qm, .ref qd, .int ch, .int fe, .int sz, .int rd, .int ca, .int sx, .ref qp, .int co, .int gi, .int aw, .int cg, .int bk3, .ref qs, .ref ql, .ref qo, .int ax, .long wi])), (qp, .inl (cJ, 3, .inr (.inl (pl3 bl of an)))), (qm, .inl (cJ, 8192, .inr (.inl (mL M)))), (qs, .inl (cJ, 16, .inr (.inl gs4))), (ql, .inl (cJ, 16, .inr (.inl gl4))), (qo, .inl (cZ, 16, .inl go3))] := hD
              refine lv_aload_n hx hb dX4_gather_111 rfl (lv_at hl 4 rfl) ?_
              refine va_get (D := (dC, dI)) (ci := 4) (v := .ref qo) (C := RX4) (T := TX4) (N := 21) hx hb hw inX4 hown hK hP 0 rfl rfl 18 (by decide) (hw _ w_3d33b1130a) (fun _ h9 => h9) rfl dX4_gather_112 ?_
              refine lv_aload_n hx hb dX4_gather_115 rfl (lv_at hl 4 rfl) ?_
              refine va_get (D := (dC, dI)) (ci := 4) (v := .int bk3) (C := RX4) (T := TX4) (N := 21) hx hb hw inX4 hown hK hP 0 rfl rfl 15 (by decide) (hw _ w_f0da19b997) (fun _ h9 => h9) rfl dX4_gather_116 ?_
              refine lv_iload hx hb dX4_gather_119 (lv_at hl 0 rfl) ?_
              refine lv_iconst (v := 2) hx hb dX4_gather_121 (by decide) ?_
              refine lv_iand hx hb dX4_gather_122 ?_
              refine lv_if_eq (tgt := 130) hx hb dX4_gather_123 (by decide) (fun c_18 => ?_) (fun c_18 => ?_)
              · skip
                have hop : ¬ nbs M (off (blA bl k) + 12) 2 / 2 % 2 = 1 := (mk_2 hmk).mp (by rw [← emk]; exact c_18)
                refine lv_iconst (v := 0) hx hb dX4_gather_130 (by decide) ?_
                refine va_zast hx hb hK hP hD hS 5 1 rfl rfl (by rw [hbk]; exact vp_in_nI (by omega) (by omega)) dX4_gather_131 (fun H locs hP hD hS => ?_)
                have hP : va_P (dC, dI) vwCl [(o, .inr (4, [.int cd, .int sc, .ref qm, .ref qd, .int ch, .int fe, .int sz, .int rd, .int ca, .int sx, .ref qp, .int co, .int gi, .int aw, .int cg, .int bk3, .ref qs, .ref ql, .ref qo, .int ax, .long wi])), (qp, .inl (cJ, 3, .inr (.inl (pl3 bl of an)))), (qm, .inl (cJ, 8192, .inr (.inl (mL M)))), (qs, .inl (cJ, 16, .inr (.inl gs4))), (ql, .inl (cJ, 16, .inr (.inl gl4))), (qo, .inl (cZ, 16, .inl (upd go3 bk3.toNatClampNeg (vp_nar .boolean 0))))] H := hP
                have hD : va_D A [(o, .inr (4, [.int cd, .int sc, .ref qm, .ref qd, .int ch, .int fe, .int sz, .int rd, .int ca, .int sx, .ref qp, .int co, .int gi, .int aw, .int cg, .int bk3, .ref qs, .ref ql, .ref qo, .int ax, .long wi])), (qp, .inl (cJ, 3, .inr (.inl (pl3 bl of an)))), (qm, .inl (cJ, 8192, .inr (.inl (mL M)))), (qs, .inl (cJ, 16, .inr (.inl gs4))), (ql, .inl (cJ, 16, .inr (.inl gl4))), (qo, .inl (cZ, 16, .inl (upd go3 bk3.toNatClampNeg (vp_nar .boolean 0))))] := hD
                obtain ⟨go4, ego⟩ : ∃ g : Nat → Int32, g = upd go3 acc.length (bI (decide (nbs M (off (blA bl k) + 12) 2 / 2 % 2 = 1) = true)) := ⟨_, rfl⟩
                have er_19 : upd go3 bk3.toNatClampNeg (vp_nar .boolean 0) = go4 := by rw [ego, hbk, nI_clamp (by omega), show vp_nar .boolean 0 = 0 from rfl, bI_f (by simp [hop])]
                rw [er_19] at hP hD
                have hP : va_P (dC, dI) vwCl [(o, .inr (4, [.int cd, .int sc, .ref qm, .ref qd, .int ch, .int fe, .int sz, .int rd, .int ca, .int sx, .ref qp, .int co, .int gi, .int aw, .int cg, .int bk3, .ref qs, .ref ql, .ref qo, .int ax, .long wi])), (qp, .inl (cJ, 3, .inr (.inl (pl3 bl of an)))), (qm, .inl (cJ, 8192, .inr (.inl (mL M)))), (qs, .inl (cJ, 16, .inr (.inl gs4))), (ql, .inl (cJ, 16, .inr (.inl gl4))), (qo, .inl (cZ, 16, .inl go4))] H := hP
                have hD : va_D A [(o, .inr (4, [.int cd, .int sc, .ref qm, .ref qd, .int ch, .int fe, .int sz, .int rd, .int ca, .int sx, .ref qp, .int co, .int gi, .int aw, .int cg, .int bk3, .ref qs, .ref ql, .ref qo, .int ax, .long wi])), (qp, .inl (cJ, 3, .inr (.inl (pl3 bl of an)))), (qm, .inl (cJ, 8192, .inr (.inl (mL M)))), (qs, .inl (cJ, 16, .inr (.inl gs4))), (ql, .inl (cJ, 16, .inr (.inl gl4))), (qo, .inl (cZ, 16, .inl go4))] := hD
                have hrp4 : repM (acc ++ [(lN (nbs M (off (blA bl k)) 8), nbs M (off (blA bl k) + 8) 4, decide (nbs M (off (blA bl k) + 12) 2 / 2 % 2 = 1))]) gs4 gl4 go4 := by rw [egs, egl, ego]; exact repM_add hrp _ _ _
                have hg2 : go4 bk3.toNatClampNeg = 0 := by rw [ego, hbk, nI_clamp (by omega), pk_us, bI_f (by simp [hop])]
                have hix : bk3.toNatClampNeg = acc.length := by rw [hbk, nI_clamp (by omega)]
                refine lv_aload_n hx hb dX4_gather_132 rfl (lv_at hl 4 rfl) ?_
                refine va_get (D := (dC, dI)) (ci := 4) (v := .int bk3) (C := RX4) (T := TX4) (N := 21) hx hb hw inX4 hown hK hP 0 rfl rfl 15 (by decide) (hw _ w_f0da19b997) (fun _ h9 => h9) rfl dX4_gather_133 ?_
                refine lv_if_le (tgt := 169) hx hb dX4_gather_136 (by decide) (fun c_20 => ?_) (fun c_20 => ?_)
                · skip
                  have hl0 : acc.length = 0 := Nat.eq_zero_of_not_pos fun z => nI_nle z (by omega) (by rw [← hbk]; exact c_20)
                  have hcb : ¬ (po = true ∧ ¬ nbs M (off (blA bl k) + 12) 2 / 2 % 2 = 1) := fun z => by rw [hpo.1 hl0] at z; exact absurd z.1 (by decide)
                  refine lv_iconst (v := 0) hx hb dX4_gather_169 (by decide) ?_
                  refine lv_istore (lv' := [(7, .int 0), (6, .int x_13), (4, .long x_6), (3, .int mo), (2, .int y), (0, .ref o), (1, .int x)]) hx hb dX4_gather_170 hl (by decide) rfl (fun ls hl => ?_)
                  refine lv_iload hx hb dX4_gather_172 (lv_at hl 1 rfl) ?_
                  refine lv_iconst (v := 4) hx hb dX4_gather_174 (by decide) ?_
                  refine lv_iand hx hb dX4_gather_175 ?_
                  refine lv_if_ne (tgt := 208) hx hb dX4_gather_176 (by decide) (fun c_21 => ?_) (fun c_21 => ?_)
                  · skip
                    have hnone : gat M bl n n k0 false [] = none := by rw [← hs, gat, if_pos ⟨hkn, hth⟩, if_pos (Or.inl (Decidable.byContradiction fun z => c_21 (by rw [emk]; exact (mk_4 hmk).mpr z)))]
                    refine lv_iconst (v := 0) hx hb dX4_gather_208 (by decide) ?_
                    have hP9 : va_P (dC, dI) vwCl [(o, .inr (4, [.int cd, .int sc, .ref qm, .ref qd, .int ch, .int fe, .int sz, .int rd, .int ca, .int sx, .ref qp, .int co, .int gi, .int aw, .int cg, .int bk3, .ref qs, .ref ql, .ref qo, .int ax, .long wi])), (qp, .inl (cJ, 3, .inr (.inl (pl3 bl of an)))), (qm, .inl (cJ, 8192, .inr (.inl (mL M)))), (qs, .inl (cJ, 16, .inr (.inl gs4))), (ql, .inl (cJ, 16, .inr (.inl gl4))), (qo, .inl (cZ, 16, .inl go4))] H := by exact hP.sub (ws' := [(o, .inr (4, [.int cd, .int sc, .ref qm, .ref qd, .int ch, .int fe, .int sz, .int rd, .int ca, .int sx, .ref qp, .int co, .int gi, .int aw, .int cg, .int bk3, .ref qs, .ref ql, .ref qo, .int ax, .long wi])), (qp, .inl (cJ, 3, .inr (.inl (pl3 bl of an)))), (qm, .inl (cJ, 8192, .inr (.inl (mL M)))), (qs, .inl (cJ, 16, .inr (.inl gs4))), (ql, .inl (cJ, 16, .inr (.inl gl4))), (qo, .inl (cZ, 16, .inl go4))]) [0, 1, 2, 3, 4, 5] rfl
                    have hD9 : va_D A [(o, .inr (4, [.int cd, .int sc, .ref qm, .ref qd, .int ch, .int fe, .int sz, .int rd, .int ca, .int sx, .ref qp, .int co, .int gi, .int aw, .int cg, .int bk3, .ref qs, .ref ql, .ref qo, .int ax, .long wi])), (qp, .inl (cJ, 3, .inr (.inl (pl3 bl of an)))), (qm, .inl (cJ, 8192, .inr (.inl (mL M)))), (qs, .inl (cJ, 16, .inr (.inl gs4))), (ql, .inl (cJ, 16, .inr (.inl gl4))), (qo, .inl (cZ, 16, .inl go4))] := by exact hD.sub (ws' := [(o, .inr (4, [.int cd, .int sc, .ref qm, .ref qd, .int ch, .int fe, .int sz, .int rd, .int ca, .int sx, .ref qp, .int co, .int gi, .int aw, .int cg, .int bk3, .ref qs, .ref ql, .ref qo, .int ax, .long wi])), (qp, .inl (cJ, 3, .inr (.inl (pl3 bl of an)))), (qm, .inl (cJ, 8192, .inr (.inl (mL M)))), (qs, .inl (cJ, 16, .inr (.inl gs4))), (ql, .inl (cJ, 16, .inr (.inl gl4))), (qo, .inl (cZ, 16, .inl go4))]) [0, 1, 2, 3, 4, 5] (by decide) rfl
                    have hK9 := hK.sub (tys' := [(cJ, .long), (cZ, .boolean)]) [0, 1] rfl
                    exact W.zret (v := 0) hx hb hr rfl (fun t ht hW => ⟨⟨_, (bk3, gs4, gl4, go4), rfl, ⟨by rw [hnone]; exact (bI_f finB_n).symm, fun L z => by rw [hnone] at z; cases z⟩, by rw [ht]; exact hP9, va_K.moved hW.alike hK9, hD9⟩, hS.F ht⟩) hS.2.2 dX4_gather_209
                  · skip
                    have hn4 : ¬ nbs M (off (blA bl k) + 12) 2 / 4 % 2 = 1 := (mk_4 hmk).mp (by rw [← emk]; exact c_21)
                    refine lv_iload hx hb dX4_gather_179 (lv_at hl 0 rfl) ?_
                    refine lv_if_ne (tgt := 208) hx hb dX4_gather_181 (by decide) (fun c_22 => ?_) (fun c_22 => ?_)
                    · skip
                      exact absurd c_22 (by decide)
                    · skip
                      refine lv_aload_n hx hb dX4_gather_184 rfl (lv_at hl 5 rfl) ?_
                      refine va_get (D := (dC, dI)) (ci := 4) (v := .ref qs) (C := RX4) (T := TX4) (N := 21) hx hb hw inX4 hown hK hP 0 rfl rfl 16 (by decide) (hw _ w_c92d01c177) (fun _ h9 => h9) rfl dX4_gather_185 ?_
                      refine lv_aload_n hx hb dX4_gather_188 rfl (lv_at hl 5 rfl) ?_
                      refine va_get (D := (dC, dI)) (ci := 4) (v := .int bk3) (C := RX4) (T := TX4) (N := 21) hx hb hw inX4 hown hK hP 0 rfl rfl 15 (by decide) (hw _ w_f0da19b997) (fun _ h9 => h9) rfl dX4_gather_189 ?_
                      refine va_lald hx hb hK hP 3 0 rfl rfl (by rw [hbk]; exact vp_in_nI (by omega) (by omega)) dX4_gather_192 ?_
                      refine lv_aload_n hx hb dX4_gather_193 rfl (lv_at hl 5 rfl) ?_
                      refine va_get (D := (dC, dI)) (ci := 4) (v := .ref ql) (C := RX4) (T := TX4) (N := 21) hx hb hw inX4 hown hK hP 0 rfl rfl 17 (by decide) (hw _ w_c20510a516) (fun _ h9 => h9) rfl dX4_gather_194 ?_
                      refine lv_aload_n hx hb dX4_gather_197 rfl (lv_at hl 5 rfl) ?_
                      refine va_get (D := (dC, dI)) (ci := 4) (v := .int bk3) (C := RX4) (T := TX4) (N := 21) hx hb hw inX4 hown hK hP 0 rfl rfl 15 (by decide) (hw _ w_f0da19b997) (fun _ h9 => h9) rfl dX4_gather_198 ?_
                      refine va_lald hx hb hK hP 4 0 rfl rfl (by rw [hbk]; exact vp_in_nI (by omega) (by omega)) dX4_gather_201 ?_
                      have hPc := hP.sub (ws' := []) [] rfl
                      have hKc := hK.sub (tys' := []) [] rfl
                      have hZc := (hZ.kept hS.2.1).narrow (B := fun _ => False) (fun _ h => h.elim)
                      refine vp_callSi (va_runS (As := [.long (gs4 bk3.toNatClampNeg), .long (gl4 bk3.toNatClampNeg)]) (rest := []) ⟨hx, hb, hml, hown, hw⟩ (m_isThere l dC dI (gs4 bk3.toNatClampNeg) (gl4 bk3.toNatClampNeg)) (va_cwS 2 hw (gS w_e4da178cff w_3b07a2b4f7 w_2b384744dc w_a857523ad5) rfl rfl rfl (by decide +kernel) ⟨Nat.le_of_ble_eq_true rfl, Nat.le_of_ble_eq_true rfl⟩) ⟨fun a U g mk q => by obtain ⟨q0, qP, qK, qZ⟩ := q; exact ⟨q0, qP, va_K.moved (u := U) (U := U.calling g mk a) (Vm.Alike.refl U.vm) qK, ZZ.same (u := U) (U := U.calling g mk a) rfl qZ⟩, fun U hU hW => ⟨rfl, by rw [hU]; exact hPc, va_K.moved hW.alike hKc, by rw [hU]; exact ZZ.warm hW hZc⟩⟩ rfl rfl hl.1 rfl (lv_room (Nat.le_of_ble_eq_true rfl)) dX4_gather_202 ⟨Nat.zero_le _, Nat.zero_le _⟩).run (fun r_23 hr_23 => ?_)
                      have hr_23 : r_23 = bI (thP (gs4 bk3.toNatClampNeg) (gl4 bk3.toNatClampNeg)) := hr_23
                      refine lv_if_ne (tgt := 210) hx hb dX4_gather_205 (by decide) (fun c_24 => ?_) (fun c_24 => ?_)
                      · skip
                        have b_25 : (thP (gs4 bk3.toNatClampNeg) (gl4 bk3.toNatClampNeg)) := bI_1 (by rw [← hr_23]; exact c_24)
                        have ev : gs4 bk3.toNatClampNeg = lN (nbs M (off (blA bl k)) 8) ∧ gl4 bk3.toNatClampNeg = lN (nbs M (off (blA bl k) + 8) 4) := by rw [hix, egs, egl, pk_uLs, pk_uLs]; exact ⟨rfl, rfl⟩
                        have hno : ¬ (nbs M (off (blA bl k) + 12) 2 / 4 % 2 = 1 ∨ (po = true ∧ ¬ nbs M (off (blA bl k) + 12) 2 / 2 % 2 = 1) ∨ ¬ thP (lN (nbs M (off (blA bl k)) 8)) (lN (nbs M (off (blA bl k) + 8) 4))) := by
                          rintro (z | z | z)
                          · exact hn4 z
                          · exact hcb z
                          · exact z (by have := b_25; rw [ev.1, ev.2] at this; exact this)
                        refine lv_iload hx hb dX4_gather_210 (lv_at hl 1 rfl) ?_
                        refine lv_iconst (v := 1) hx hb dX4_gather_212 (by decide) ?_
                        refine lv_iand hx hb dX4_gather_213 ?_
                        refine lv_if_eq (tgt := 221) hx hb dX4_gather_214 (by decide) (fun c_26 => ?_) (fun c_26 => ?_)
                        · skip
                          have hmr : ¬ nbs M (off (blA bl k) + 12) 2 % 2 = 1 := (mk_1 hmk).mp (by rw [← emk]; exact c_26)
                          refine lv_iconst (v := 0) hx hb dX4_gather_221 (by decide) ?_
                          refine lv_istore_n (lv' := [(3, .int 0), (7, .int 0), (6, .int x_13), (4, .long x_6), (2, .int y), (0, .ref o), (1, .int x)]) hx hb dX4_gather_222 rfl hl (by decide) rfl (fun ls hl => ?_)
                          refine lv_aload_n hx hb dX4_gather_223 rfl (lv_at hl 5 rfl) ?_
                          refine lv_lload hx hb dX4_gather_224 (lv_at hl 3 rfl) ?_
                          refine lv_ldc2 (v := 14) hx hb hown (hw _ w_aa6d76f0d0) dX4_gather_226 ?_
                          refine lv_ladd hx hb dX4_gather_229 ?_
                          refine lv_iconst (v := 2) hx hb dX4_gather_230 (by decide) ?_
                          have hPc := hP.sub (ws' := [(o, .inr (4, [.int cd, .int sc, .ref qm, .ref qd, .int ch, .int fe, .int sz, .int rd, .int ca, .int sx, .ref qp, .int co, .int gi, .int aw, .int cg, .int bk3, .ref qs, .ref ql, .ref qo, .int ax, .long wi])), (qm, .inl (cJ, 8192, .inr (.inl (mL M))))]) [0, 2] rfl
                          have hKc := hK.sub (tys' := [(cJ, .long)]) [0] rfl
                          have hZc := (hZ.kept hS.2.1).narrow (B := fun _ => False) (fun _ h => h.elim)
                          refine vp_callSl (va_runV (As := [.long (x_6 + 14), .int 2]) (rest := []) ⟨hx, hb, hml, hown, hw⟩ (m_number l dC dI o cd sc qm qd ch fe sz rd ca sx qp co gi aw cg bk3 qs ql qo ax wi cJ M (x_6 + 14) 2 2 (off (blA bl k) + 14) rfl (by decide) (by rw [ebl]; exact (off_plus hth (show 14 < 16 by decide) (by decide)).1) (by have := (off_0 hth (by decide) (by decide)).2; omega) hM) (cwV 2 hw (gV w_b394cd0f6f w_fab48a5191 w_cc770dbe30 w_2b384744dc w_c1a5c9b18f) rfl rfl rfl (by decide +kernel) ⟨Nat.le_of_ble_eq_true rfl, Nat.le_of_ble_eq_true rfl⟩) ⟨fun a U g mk q => by obtain ⟨q0, qP, qK, qZ⟩ := q; exact ⟨q0, qP, va_K.moved (u := U) (U := U.calling g mk a) (Vm.Alike.refl U.vm) qK, ZZ.same (u := U) (U := U.calling g mk a) rfl qZ⟩, va_recv hKc hPc (ci := 4) (q0 := 0) rfl rfl, fun U hU hW => ⟨rfl, by rw [hU]; exact hPc, va_K.moved hW.alike hKc, by rw [hU]; exact ZZ.warm hW hZc⟩⟩ rfl rfl hl.1 rfl (lv_room (Nat.le_of_ble_eq_true rfl)) dX4_gather_231 ⟨Nat.zero_le _, Nat.zero_le _⟩).run (fun r_27 hr_27 => ?_)
                          have hr_27 : r_27 = lN (nbs M (off (blA bl k) + 14) 2) := hr_27
                          refine lv_l2i (v := r_27.toInt32) hx hb dX4_gather_234 rfl ?_
                          refine lv_topi (fun x_28 ex_28 => ?_)
                          refine lv_istore_n (lv' := [(2, .int x_28), (3, .int 0), (7, .int 0), (6, .int x_13), (4, .long x_6), (0, .ref o), (1, .int x)]) hx hb dX4_gather_235 rfl hl (by decide) rfl (fun ls hl => ?_)
                          refine lv_aload_n hx hb dX4_gather_236 rfl (lv_at hl 5 rfl) ?_
                          refine lv_dup hx hb dX4_gather_237 rfl ?_
                          refine va_get (D := (dC, dI)) (ci := 4) (v := .int bk3) (C := RX4) (T := TX4) (N := 21) hx hb hw inX4 hown hK hP 0 rfl rfl 15 (by decide) (hw _ w_f0da19b997) (fun _ h9 => h9) rfl dX4_gather_238 ?_
                          refine lv_iconst (v := 1) hx hb dX4_gather_241 (by decide) ?_
                          refine lv_iadd hx hb dX4_gather_242 ?_
                          refine lv_topi (fun x_29 ex_29 => ?_)
                          refine va_put (D := (dC, dI)) (ci := 4) (v := .int x_29) (ty := .int) (C := RX4) (T := TX4) (N := 21) hx hb hw inX4 tyX4 tyX4_ok nmX4 hown hK hP hD hS 0 rfl rfl 15 (by decide) (hw _ w_f0da19b997) (fun _ h9 => h9) rfl (by decide +kernel) rfl rfl (Nat.le_of_ble_eq_true rfl) dX4_gather_243 (fun H locs hP hD hS => ?_)
                          have hP : va_P (dC, dI) vwCl [(o, .inr (4, [.int cd, .int sc, .ref qm, .ref qd, .int ch, .int fe, .int sz, .int rd, .int ca, .int sx, .ref qp, .int co, .int gi, .int aw, .int cg, .int x_29, .ref qs, .ref ql, .ref qo, .int ax, .long wi])), (qp, .inl (cJ, 3, .inr (.inl (pl3 bl of an)))), (qm, .inl (cJ, 8192, .inr (.inl (mL M)))), (qs, .inl (cJ, 16, .inr (.inl gs4))), (ql, .inl (cJ, 16, .inr (.inl gl4))), (qo, .inl (cZ, 16, .inl go4))] H := hP
                          have hD : va_D A [(o, .inr (4, [.int cd, .int sc, .ref qm, .ref qd, .int ch, .int fe, .int sz, .int rd, .int ca, .int sx, .ref qp, .int co, .int gi, .int aw, .int cg, .int x_29, .ref qs, .ref ql, .ref qo, .int ax, .long wi])), (qp, .inl (cJ, 3, .inr (.inl (pl3 bl of an)))), (qm, .inl (cJ, 8192, .inr (.inl (mL M)))), (qs, .inl (cJ, 16, .inr (.inl gs4))), (ql, .inl (cJ, 16, .inr (.inl gl4))), (qo, .inl (cZ, 16, .inl go4))] := hD
                          refine lv_goto (tgt := 9) hx hb dX4_gather_246 (by decide) ?_
                          exact ih f (nbs M (off (blA bl k) + 14) 2) (decide (nbs M (off (blA bl k) + 12) 2 / 2 % 2 = 1)) (acc ++ [(lN (nbs M (off (blA bl k)) 8), nbs M (off (blA bl k) + 8) 4, decide (nbs M (off (blA bl k) + 12) 2 / 2 % 2 = 1))]) 0 x_28 x_29 gs4 gl4 go4 (⟨fun z => absurd z (by decide), by have := hN.1 hm1; omega⟩) (Or.inr ⟨rfl, by simp, by rw [← hs, gat, if_pos ⟨hkn, hth⟩, if_neg hno, if_neg hmr]⟩) (hrp4) (by rw [ex_29, hbk, List.length_append]; exact nI_1 _) (⟨fun z => by simp at z, fun _ => by rw [List.length_append, ego]; exact pk_us⟩) (by rw [List.length_append]; show acc.length + 1 ≤ n; omega) (fun b hb => (List.mem_append.mp hb).elim (hle b) (fun z => by rw [List.mem_singleton.mp z]; exact nbs_lt hM _ 4)) _ _ (hP.sub [0, 1, 2, 3, 4, 5] rfl) (hD.sub [0, 1, 2, 3, 4, 5] (by decide) rfl) hS ls (lv_sub hl [1, 0, 5, 6] rfl)
                        · skip
                          have hmr : nbs M (off (blA bl k) + 12) 2 % 2 = 1 := Decidable.byContradiction fun z => c_26 (by rw [emk]; exact (mk_1 hmk).mpr z)
                          refine lv_iconst (v := 1) hx hb dX4_gather_217 (by decide) ?_
                          refine lv_goto (tgt := 222) hx hb dX4_gather_218 (by decide) ?_
                          refine lv_istore_n (lv' := [(3, .int 1), (7, .int 0), (6, .int x_13), (4, .long x_6), (2, .int y), (0, .ref o), (1, .int x)]) hx hb dX4_gather_222 rfl hl (by decide) rfl (fun ls hl => ?_)
                          refine lv_aload_n hx hb dX4_gather_223 rfl (lv_at hl 5 rfl) ?_
                          refine lv_lload hx hb dX4_gather_224 (lv_at hl 3 rfl) ?_
                          refine lv_ldc2 (v := 14) hx hb hown (hw _ w_aa6d76f0d0) dX4_gather_226 ?_
                          refine lv_ladd hx hb dX4_gather_229 ?_
                          refine lv_iconst (v := 2) hx hb dX4_gather_230 (by decide) ?_
                          have hPc := hP.sub (ws' := [(o, .inr (4, [.int cd, .int sc, .ref qm, .ref qd, .int ch, .int fe, .int sz, .int rd, .int ca, .int sx, .ref qp, .int co, .int gi, .int aw, .int cg, .int bk3, .ref qs, .ref ql, .ref qo, .int ax, .long wi])), (qm, .inl (cJ, 8192, .inr (.inl (mL M))))]) [0, 2] rfl
                          have hKc := hK.sub (tys' := [(cJ, .long)]) [0] rfl
                          have hZc := (hZ.kept hS.2.1).narrow (B := fun _ => False) (fun _ h => h.elim)
                          refine vp_callSl (va_runV (As := [.long (x_6 + 14), .int 2]) (rest := []) ⟨hx, hb, hml, hown, hw⟩ (m_number l dC dI o cd sc qm qd ch fe sz rd ca sx qp co gi aw cg bk3 qs ql qo ax wi cJ M (x_6 + 14) 2 2 (off (blA bl k) + 14) rfl (by decide) (by rw [ebl]; exact (off_plus hth (show 14 < 16 by decide) (by decide)).1) (by have := (off_0 hth (by decide) (by decide)).2; omega) hM) (cwV 2 hw (gV w_b394cd0f6f w_fab48a5191 w_cc770dbe30 w_2b384744dc w_c1a5c9b18f) rfl rfl rfl (by decide +kernel) ⟨Nat.le_of_ble_eq_true rfl, Nat.le_of_ble_eq_true rfl⟩) ⟨fun a U g mk q => by obtain ⟨q0, qP, qK, qZ⟩ := q; exact ⟨q0, qP, va_K.moved (u := U) (U := U.calling g mk a) (Vm.Alike.refl U.vm) qK, ZZ.same (u := U) (U := U.calling g mk a) rfl qZ⟩, va_recv hKc hPc (ci := 4) (q0 := 0) rfl rfl, fun U hU hW => ⟨rfl, by rw [hU]; exact hPc, va_K.moved hW.alike hKc, by rw [hU]; exact ZZ.warm hW hZc⟩⟩ rfl rfl hl.1 rfl (lv_room (Nat.le_of_ble_eq_true rfl)) dX4_gather_231 ⟨Nat.zero_le _, Nat.zero_le _⟩).run (fun r_30 hr_30 => ?_)
                          have hr_30 : r_30 = lN (nbs M (off (blA bl k) + 14) 2) := hr_30
                          refine lv_l2i (v := r_30.toInt32) hx hb dX4_gather_234 rfl ?_
                          refine lv_topi (fun x_31 ex_31 => ?_)
                          refine lv_istore_n (lv' := [(2, .int x_31), (3, .int 1), (7, .int 0), (6, .int x_13), (4, .long x_6), (0, .ref o), (1, .int x)]) hx hb dX4_gather_235 rfl hl (by decide) rfl (fun ls hl => ?_)
                          refine lv_aload_n hx hb dX4_gather_236 rfl (lv_at hl 5 rfl) ?_
                          refine lv_dup hx hb dX4_gather_237 rfl ?_
                          refine va_get (D := (dC, dI)) (ci := 4) (v := .int bk3) (C := RX4) (T := TX4) (N := 21) hx hb hw inX4 hown hK hP 0 rfl rfl 15 (by decide) (hw _ w_f0da19b997) (fun _ h9 => h9) rfl dX4_gather_238 ?_
                          refine lv_iconst (v := 1) hx hb dX4_gather_241 (by decide) ?_
                          refine lv_iadd hx hb dX4_gather_242 ?_
                          refine lv_topi (fun x_32 ex_32 => ?_)
                          refine va_put (D := (dC, dI)) (ci := 4) (v := .int x_32) (ty := .int) (C := RX4) (T := TX4) (N := 21) hx hb hw inX4 tyX4 tyX4_ok nmX4 hown hK hP hD hS 0 rfl rfl 15 (by decide) (hw _ w_f0da19b997) (fun _ h9 => h9) rfl (by decide +kernel) rfl rfl (Nat.le_of_ble_eq_true rfl) dX4_gather_243 (fun H locs hP hD hS => ?_)
                          have hP : va_P (dC, dI) vwCl [(o, .inr (4, [.int cd, .int sc, .ref qm, .ref qd, .int ch, .int fe, .int sz, .int rd, .int ca, .int sx, .ref qp, .int co, .int gi, .int aw, .int cg, .int x_32, .ref qs, .ref ql, .ref qo, .int ax, .long wi])), (qp, .inl (cJ, 3, .inr (.inl (pl3 bl of an)))), (qm, .inl (cJ, 8192, .inr (.inl (mL M)))), (qs, .inl (cJ, 16, .inr (.inl gs4))), (ql, .inl (cJ, 16, .inr (.inl gl4))), (qo, .inl (cZ, 16, .inl go4))] H := hP
                          have hD : va_D A [(o, .inr (4, [.int cd, .int sc, .ref qm, .ref qd, .int ch, .int fe, .int sz, .int rd, .int ca, .int sx, .ref qp, .int co, .int gi, .int aw, .int cg, .int x_32, .ref qs, .ref ql, .ref qo, .int ax, .long wi])), (qp, .inl (cJ, 3, .inr (.inl (pl3 bl of an)))), (qm, .inl (cJ, 8192, .inr (.inl (mL M)))), (qs, .inl (cJ, 16, .inr (.inl gs4))), (ql, .inl (cJ, 16, .inr (.inl gl4))), (qo, .inl (cZ, 16, .inl go4))] := hD
                          refine lv_goto (tgt := 9) hx hb dX4_gather_246 (by decide) ?_
                          exact ih f (nbs M (off (blA bl k) + 14) 2) (decide (nbs M (off (blA bl k) + 12) 2 / 2 % 2 = 1)) (acc ++ [(lN (nbs M (off (blA bl k)) 8), nbs M (off (blA bl k) + 8) 4, decide (nbs M (off (blA bl k) + 12) 2 / 2 % 2 = 1))]) 1 x_31 x_32 gs4 gl4 go4 (⟨fun _ => by have := hN.1 hm1; omega, by have := hN.1 hm1; omega⟩) (Or.inl ⟨rfl, by rw [ex_31, hr_30, lN_i], nbs_lt hM _ 2, by rw [List.length_append]; show acc.length + 1 + f = n; omega, by rw [← hs, gat, if_pos ⟨hkn, hth⟩, if_neg hno, if_pos hmr]⟩) (hrp4) (by rw [ex_32, hbk, List.length_append]; exact nI_1 _) (⟨fun z => by simp at z, fun _ => by rw [List.length_append, ego]; exact pk_us⟩) (by rw [List.length_append]; show acc.length + 1 ≤ n; omega) (fun b hb => (List.mem_append.mp hb).elim (hle b) (fun z => by rw [List.mem_singleton.mp z]; exact nbs_lt hM _ 4)) _ _ (hP.sub [0, 1, 2, 3, 4, 5] rfl) (hD.sub [0, 1, 2, 3, 4, 5] (by decide) rfl) hS ls (lv_sub hl [1, 0, 5, 6] rfl)
                      · skip
                        have b_33 : ¬ (thP (gs4 bk3.toNatClampNeg) (gl4 bk3.toNatClampNeg)) := bI_0 (by rw [← hr_23]; exact c_24)
                        have ev : gs4 bk3.toNatClampNeg = lN (nbs M (off (blA bl k)) 8) ∧ gl4 bk3.toNatClampNeg = lN (nbs M (off (blA bl k) + 8) 4) := by rw [hix, egs, egl, pk_uLs, pk_uLs]; exact ⟨rfl, rfl⟩
                        have hnone : gat M bl n n k0 false [] = none := by rw [← hs, gat, if_pos ⟨hkn, hth⟩, if_pos (Or.inr (Or.inr (by have := b_33; rw [ev.1, ev.2] at this; exact this)))]
                        refine lv_iconst (v := 0) hx hb dX4_gather_208 (by decide) ?_
                        have hP9 : va_P (dC, dI) vwCl [(o, .inr (4, [.int cd, .int sc, .ref qm, .ref qd, .int ch, .int fe, .int sz, .int rd, .int ca, .int sx, .ref qp, .int co, .int gi, .int aw, .int cg, .int bk3, .ref qs, .ref ql, .ref qo, .int ax, .long wi])), (qp, .inl (cJ, 3, .inr (.inl (pl3 bl of an)))), (qm, .inl (cJ, 8192, .inr (.inl (mL M)))), (qs, .inl (cJ, 16, .inr (.inl gs4))), (ql, .inl (cJ, 16, .inr (.inl gl4))), (qo, .inl (cZ, 16, .inl go4))] H := by exact hP.sub (ws' := [(o, .inr (4, [.int cd, .int sc, .ref qm, .ref qd, .int ch, .int fe, .int sz, .int rd, .int ca, .int sx, .ref qp, .int co, .int gi, .int aw, .int cg, .int bk3, .ref qs, .ref ql, .ref qo, .int ax, .long wi])), (qp, .inl (cJ, 3, .inr (.inl (pl3 bl of an)))), (qm, .inl (cJ, 8192, .inr (.inl (mL M)))), (qs, .inl (cJ, 16, .inr (.inl gs4))), (ql, .inl (cJ, 16, .inr (.inl gl4))), (qo, .inl (cZ, 16, .inl go4))]) [0, 1, 2, 3, 4, 5] rfl
                        have hD9 : va_D A [(o, .inr (4, [.int cd, .int sc, .ref qm, .ref qd, .int ch, .int fe, .int sz, .int rd, .int ca, .int sx, .ref qp, .int co, .int gi, .int aw, .int cg, .int bk3, .ref qs, .ref ql, .ref qo, .int ax, .long wi])), (qp, .inl (cJ, 3, .inr (.inl (pl3 bl of an)))), (qm, .inl (cJ, 8192, .inr (.inl (mL M)))), (qs, .inl (cJ, 16, .inr (.inl gs4))), (ql, .inl (cJ, 16, .inr (.inl gl4))), (qo, .inl (cZ, 16, .inl go4))] := by exact hD.sub (ws' := [(o, .inr (4, [.int cd, .int sc, .ref qm, .ref qd, .int ch, .int fe, .int sz, .int rd, .int ca, .int sx, .ref qp, .int co, .int gi, .int aw, .int cg, .int bk3, .ref qs, .ref ql, .ref qo, .int ax, .long wi])), (qp, .inl (cJ, 3, .inr (.inl (pl3 bl of an)))), (qm, .inl (cJ, 8192, .inr (.inl (mL M)))), (qs, .inl (cJ, 16, .inr (.inl gs4))), (ql, .inl (cJ, 16, .inr (.inl gl4))), (qo, .inl (cZ, 16, .inl go4))]) [0, 1, 2, 3, 4, 5] (by decide) rfl
                        have hK9 := hK.sub (tys' := [(cJ, .long), (cZ, .boolean)]) [0, 1] rfl
                        exact W.zret (v := 0) hx hb hr rfl (fun t ht hW => ⟨⟨_, (bk3, gs4, gl4, go4), rfl, ⟨by rw [hnone]; exact (bI_f finB_n).symm, fun L z => by rw [hnone] at z; cases z⟩, by rw [ht]; exact hP9, va_K.moved hW.alike hK9, hD9⟩, hS.F ht⟩) hS.2.2 dX4_gather_209
                · skip
                  have hl0 : acc.length ≠ 0 := fun z => c_20 (by rw [hbk, z]; decide)
                  have hg1 : go4 (bk3 - 1).toNatClampNeg = bI (po = true) := by rw [hbk, nI_sub1 hl0, nI_clamp (by omega), ego, pk_un (by omega)]; exact hpo.2 hl0
                  refine lv_aload_n hx hb dX4_gather_139 rfl (lv_at hl 4 rfl) ?_
                  refine va_get (D := (dC, dI)) (ci := 4) (v := .ref qo) (C := RX4) (T := TX4) (N := 21) hx hb hw inX4 hown hK hP 0 rfl rfl 18 (by decide) (hw _ w_3d33b1130a) (fun _ h9 => h9) rfl dX4_gather_140 ?_
                  refine lv_aload_n hx hb dX4_gather_143 rfl (lv_at hl 4 rfl) ?_
                  refine va_get (D := (dC, dI)) (ci := 4) (v := .int bk3) (C := RX4) (T := TX4) (N := 21) hx hb hw inX4 hown hK hP 0 rfl rfl 15 (by decide) (hw _ w_f0da19b997) (fun _ h9 => h9) rfl dX4_gather_144 ?_
                  refine lv_iconst (v := 1) hx hb dX4_gather_147 (by decide) ?_
                  refine lv_isub hx hb dX4_gather_148 ?_
                  refine va_zald hx hb hK hP 5 1 rfl rfl (by rw [hbk, nI_sub1 hl0]; exact vp_in_nI (by omega) (by omega)) dX4_gather_149 ?_
                  refine lv_if_eq (tgt := 169) hx hb dX4_gather_150 (by decide) (fun c_34 => ?_) (fun c_34 => ?_)
                  · skip
                    have hcb : ¬ (po = true ∧ ¬ nbs M (off (blA bl k) + 12) 2 / 2 % 2 = 1) := fun z => by rw [hg1, bI_n0] at c_34; rw [c_34] at z; exact absurd z.1 (by decide)
                    refine lv_iconst (v := 0) hx hb dX4_gather_169 (by decide) ?_
                    refine lv_istore (lv' := [(7, .int 0), (6, .int x_13), (4, .long x_6), (3, .int mo), (2, .int y), (0, .ref o), (1, .int x)]) hx hb dX4_gather_170 hl (by decide) rfl (fun ls hl => ?_)
                    refine lv_iload hx hb dX4_gather_172 (lv_at hl 1 rfl) ?_
                    refine lv_iconst (v := 4) hx hb dX4_gather_174 (by decide) ?_
                    refine lv_iand hx hb dX4_gather_175 ?_
                    refine lv_if_ne (tgt := 208) hx hb dX4_gather_176 (by decide) (fun c_35 => ?_) (fun c_35 => ?_)
                    · skip
                      have hnone : gat M bl n n k0 false [] = none := by rw [← hs, gat, if_pos ⟨hkn, hth⟩, if_pos (Or.inl (Decidable.byContradiction fun z => c_35 (by rw [emk]; exact (mk_4 hmk).mpr z)))]
                      refine lv_iconst (v := 0) hx hb dX4_gather_208 (by decide) ?_
                      have hP9 : va_P (dC, dI) vwCl [(o, .inr (4, [.int cd, .int sc, .ref qm, .ref qd, .int ch, .int fe, .int sz, .int rd, .int ca, .int sx, .ref qp, .int co, .int gi, .int aw, .int cg, .int bk3, .ref qs, .ref ql, .ref qo, .int ax, .long wi])), (qp, .inl (cJ, 3, .inr (.inl (pl3 bl of an)))), (qm, .inl (cJ, 8192, .inr (.inl (mL M)))), (qs, .inl (cJ, 16, .inr (.inl gs4))), (ql, .inl (cJ, 16, .inr (.inl gl4))), (qo, .inl (cZ, 16, .inl go4))] H := by exact hP.sub (ws' := [(o, .inr (4, [.int cd, .int sc, .ref qm, .ref qd, .int ch, .int fe, .int sz, .int rd, .int ca, .int sx, .ref qp, .int co, .int gi, .int aw, .int cg, .int bk3, .ref qs, .ref ql, .ref qo, .int ax, .long wi])), (qp, .inl (cJ, 3, .inr (.inl (pl3 bl of an)))), (qm, .inl (cJ, 8192, .inr (.inl (mL M)))), (qs, .inl (cJ, 16, .inr (.inl gs4))), (ql, .inl (cJ, 16, .inr (.inl gl4))), (qo, .inl (cZ, 16, .inl go4))]) [0, 1, 2, 3, 4, 5] rfl
                      have hD9 : va_D A [(o, .inr (4, [.int cd, .int sc, .ref qm, .ref qd, .int ch, .int fe, .int sz, .int rd, .int ca, .int sx, .ref qp, .int co, .int gi, .int aw, .int cg, .int bk3, .ref qs, .ref ql, .ref qo, .int ax, .long wi])), (qp, .inl (cJ, 3, .inr (.inl (pl3 bl of an)))), (qm, .inl (cJ, 8192, .inr (.inl (mL M)))), (qs, .inl (cJ, 16, .inr (.inl gs4))), (ql, .inl (cJ, 16, .inr (.inl gl4))), (qo, .inl (cZ, 16, .inl go4))] := by exact hD.sub (ws' := [(o, .inr (4, [.int cd, .int sc, .ref qm, .ref qd, .int ch, .int fe, .int sz, .int rd, .int ca, .int sx, .ref qp, .int co, .int gi, .int aw, .int cg, .int bk3, .ref qs, .ref ql, .ref qo, .int ax, .long wi])), (qp, .inl (cJ, 3, .inr (.inl (pl3 bl of an)))), (qm, .inl (cJ, 8192, .inr (.inl (mL M)))), (qs, .inl (cJ, 16, .inr (.inl gs4))), (ql, .inl (cJ, 16, .inr (.inl gl4))), (qo, .inl (cZ, 16, .inl go4))]) [0, 1, 2, 3, 4, 5] (by decide) rfl
                      have hK9 := hK.sub (tys' := [(cJ, .long), (cZ, .boolean)]) [0, 1] rfl
                      exact W.zret (v := 0) hx hb hr rfl (fun t ht hW => ⟨⟨_, (bk3, gs4, gl4, go4), rfl, ⟨by rw [hnone]; exact (bI_f finB_n).symm, fun L z => by rw [hnone] at z; cases z⟩, by rw [ht]; exact hP9, va_K.moved hW.alike hK9, hD9⟩, hS.F ht⟩) hS.2.2 dX4_gather_209
                    · skip
                      have hn4 : ¬ nbs M (off (blA bl k) + 12) 2 / 4 % 2 = 1 := (mk_4 hmk).mp (by rw [← emk]; exact c_35)
                      refine lv_iload hx hb dX4_gather_179 (lv_at hl 0 rfl) ?_
                      refine lv_if_ne (tgt := 208) hx hb dX4_gather_181 (by decide) (fun c_36 => ?_) (fun c_36 => ?_)
                      · skip
                        exact absurd c_36 (by decide)
                      · skip
                        refine lv_aload_n hx hb dX4_gather_184 rfl (lv_at hl 5 rfl) ?_
                        refine va_get (D := (dC, dI)) (ci := 4) (v := .ref qs) (C := RX4) (T := TX4) (N := 21) hx hb hw inX4 hown hK hP 0 rfl rfl 16 (by decide) (hw _ w_c92d01c177) (fun _ h9 => h9) rfl dX4_gather_185 ?_
                        refine lv_aload_n hx hb dX4_gather_188 rfl (lv_at hl 5 rfl) ?_
                        refine va_get (D := (dC, dI)) (ci := 4) (v := .int bk3) (C := RX4) (T := TX4) (N := 21) hx hb hw inX4 hown hK hP 0 rfl rfl 15 (by decide) (hw _ w_f0da19b997) (fun _ h9 => h9) rfl dX4_gather_189 ?_
                        refine va_lald hx hb hK hP 3 0 rfl rfl (by rw [hbk]; exact vp_in_nI (by omega) (by omega)) dX4_gather_192 ?_
                        refine lv_aload_n hx hb dX4_gather_193 rfl (lv_at hl 5 rfl) ?_
                        refine va_get (D := (dC, dI)) (ci := 4) (v := .ref ql) (C := RX4) (T := TX4) (N := 21) hx hb hw inX4 hown hK hP 0 rfl rfl 17 (by decide) (hw _ w_c20510a516) (fun _ h9 => h9) rfl dX4_gather_194 ?_
                        refine lv_aload_n hx hb dX4_gather_197 rfl (lv_at hl 5 rfl) ?_
                        refine va_get (D := (dC, dI)) (ci := 4) (v := .int bk3) (C := RX4) (T := TX4) (N := 21) hx hb hw inX4 hown hK hP 0 rfl rfl 15 (by decide) (hw _ w_f0da19b997) (fun _ h9 => h9) rfl dX4_gather_198 ?_
                        refine va_lald hx hb hK hP 4 0 rfl rfl (by rw [hbk]; exact vp_in_nI (by omega) (by omega)) dX4_gather_201 ?_
                        have hPc := hP.sub (ws' := []) [] rfl
                        have hKc := hK.sub (tys' := []) [] rfl
                        have hZc := (hZ.kept hS.2.1).narrow (B := fun _ => False) (fun _ h => h.elim)
                        refine vp_callSi (va_runS (As := [.long (gs4 bk3.toNatClampNeg), .long (gl4 bk3.toNatClampNeg)]) (rest := []) ⟨hx, hb, hml, hown, hw⟩ (m_isThere l dC dI (gs4 bk3.toNatClampNeg) (gl4 bk3.toNatClampNeg)) (va_cwS 2 hw (gS w_e4da178cff w_3b07a2b4f7 w_2b384744dc w_a857523ad5) rfl rfl rfl (by decide +kernel) ⟨Nat.le_of_ble_eq_true rfl, Nat.le_of_ble_eq_true rfl⟩) ⟨fun a U g mk q => by obtain ⟨q0, qP, qK, qZ⟩ := q; exact ⟨q0, qP, va_K.moved (u := U) (U := U.calling g mk a) (Vm.Alike.refl U.vm) qK, ZZ.same (u := U) (U := U.calling g mk a) rfl qZ⟩, fun U hU hW => ⟨rfl, by rw [hU]; exact hPc, va_K.moved hW.alike hKc, by rw [hU]; exact ZZ.warm hW hZc⟩⟩ rfl rfl hl.1 rfl (lv_room (Nat.le_of_ble_eq_true rfl)) dX4_gather_202 ⟨Nat.zero_le _, Nat.zero_le _⟩).run (fun r_37 hr_37 => ?_)
                        have hr_37 : r_37 = bI (thP (gs4 bk3.toNatClampNeg) (gl4 bk3.toNatClampNeg)) := hr_37
                        refine lv_if_ne (tgt := 210) hx hb dX4_gather_205 (by decide) (fun c_38 => ?_) (fun c_38 => ?_)
                        · skip
                          have b_39 : (thP (gs4 bk3.toNatClampNeg) (gl4 bk3.toNatClampNeg)) := bI_1 (by rw [← hr_37]; exact c_38)
                          have ev : gs4 bk3.toNatClampNeg = lN (nbs M (off (blA bl k)) 8) ∧ gl4 bk3.toNatClampNeg = lN (nbs M (off (blA bl k) + 8) 4) := by rw [hix, egs, egl, pk_uLs, pk_uLs]; exact ⟨rfl, rfl⟩
                          have hno : ¬ (nbs M (off (blA bl k) + 12) 2 / 4 % 2 = 1 ∨ (po = true ∧ ¬ nbs M (off (blA bl k) + 12) 2 / 2 % 2 = 1) ∨ ¬ thP (lN (nbs M (off (blA bl k)) 8)) (lN (nbs M (off (blA bl k) + 8) 4))) := by
                            rintro (z | z | z)
                            · exact hn4 z
                            · exact hcb z
                            · exact z (by have := b_39; rw [ev.1, ev.2] at this; exact this)
                          refine lv_iload hx hb dX4_gather_210 (lv_at hl 1 rfl) ?_
                          refine lv_iconst (v := 1) hx hb dX4_gather_212 (by decide) ?_
                          refine lv_iand hx hb dX4_gather_213 ?_
                          refine lv_if_eq (tgt := 221) hx hb dX4_gather_214 (by decide) (fun c_40 => ?_) (fun c_40 => ?_)
                          · skip
                            have hmr : ¬ nbs M (off (blA bl k) + 12) 2 % 2 = 1 := (mk_1 hmk).mp (by rw [← emk]; exact c_40)
                            refine lv_iconst (v := 0) hx hb dX4_gather_221 (by decide) ?_
                            refine lv_istore_n (lv' := [(3, .int 0), (7, .int 0), (6, .int x_13), (4, .long x_6), (2, .int y), (0, .ref o), (1, .int x)]) hx hb dX4_gather_222 rfl hl (by decide) rfl (fun ls hl => ?_)
                            refine lv_aload_n hx hb dX4_gather_223 rfl (lv_at hl 5 rfl) ?_
                            refine lv_lload hx hb dX4_gather_224 (lv_at hl 3 rfl) ?_
                            refine lv_ldc2 (v := 14) hx hb hown (hw _ w_aa6d76f0d0) dX4_gather_226 ?_
                            refine lv_ladd hx hb dX4_gather_229 ?_
                            refine lv_iconst (v := 2) hx hb dX4_gather_230 (by decide) ?_
                            have hPc := hP.sub (ws' := [(o, .inr (4, [.int cd, .int sc, .ref qm, .ref qd, .int ch, .int fe, .int sz, .int rd, .int ca, .int sx, .ref qp, .int co, .int gi, .int aw, .int cg, .int bk3, .ref qs, .ref ql, .ref qo, .int ax, .long wi])), (qm, .inl (cJ, 8192, .inr (.inl (mL M))))]) [0, 2] rfl
                            have hKc := hK.sub (tys' := [(cJ, .long)]) [0] rfl
                            have hZc := (hZ.kept hS.2.1).narrow (B := fun _ => False) (fun _ h => h.elim)
                            refine vp_callSl (va_runV (As := [.long (x_6 + 14), .int 2]) (rest := []) ⟨hx, hb, hml, hown, hw⟩ (m_number l dC dI o cd sc qm qd ch fe sz rd ca sx qp co gi aw cg bk3 qs ql qo ax wi cJ M (x_6 + 14) 2 2 (off (blA bl k) + 14) rfl (by decide) (by rw [ebl]; exact (off_plus hth (show 14 < 16 by decide) (by decide)).1) (by have := (off_0 hth (by decide) (by decide)).2; omega) hM) (cwV 2 hw (gV w_b394cd0f6f w_fab48a5191 w_cc770dbe30 w_2b384744dc w_c1a5c9b18f) rfl rfl rfl (by decide +kernel) ⟨Nat.le_of_ble_eq_true rfl, Nat.le_of_ble_eq_true rfl⟩) ⟨fun a U g mk q => by obtain ⟨q0, qP, qK, qZ⟩ := q; exact ⟨q0, qP, va_K.moved (u := U) (U := U.calling g mk a) (Vm.Alike.refl U.vm) qK, ZZ.same (u := U) (U := U.calling g mk a) rfl qZ⟩, va_recv hKc hPc (ci := 4) (q0 := 0) rfl rfl, fun U hU hW => ⟨rfl, by rw [hU]; exact hPc, va_K.moved hW.alike hKc, by rw [hU]; exact ZZ.warm hW hZc⟩⟩ rfl rfl hl.1 rfl (lv_room (Nat.le_of_ble_eq_true rfl)) dX4_gather_231 ⟨Nat.zero_le _, Nat.zero_le _⟩).run (fun r_41 hr_41 => ?_)
                            have hr_41 : r_41 = lN (nbs M (off (blA bl k) + 14) 2) := hr_41
                            refine lv_l2i (v := r_41.toInt32) hx hb dX4_gather_234 rfl ?_
                            refine lv_topi (fun x_42 ex_42 => ?_)
                            refine lv_istore_n (lv' := [(2, .int x_42), (3, .int 0), (7, .int 0), (6, .int x_13), (4, .long x_6), (0, .ref o), (1, .int x)]) hx hb dX4_gather_235 rfl hl (by decide) rfl (fun ls hl => ?_)
                            refine lv_aload_n hx hb dX4_gather_236 rfl (lv_at hl 5 rfl) ?_
                            refine lv_dup hx hb dX4_gather_237 rfl ?_
                            refine va_get (D := (dC, dI)) (ci := 4) (v := .int bk3) (C := RX4) (T := TX4) (N := 21) hx hb hw inX4 hown hK hP 0 rfl rfl 15 (by decide) (hw _ w_f0da19b997) (fun _ h9 => h9) rfl dX4_gather_238 ?_
                            refine lv_iconst (v := 1) hx hb dX4_gather_241 (by decide) ?_
                            refine lv_iadd hx hb dX4_gather_242 ?_
                            refine lv_topi (fun x_43 ex_43 => ?_)
                            refine va_put (D := (dC, dI)) (ci := 4) (v := .int x_43) (ty := .int) (C := RX4) (T := TX4) (N := 21) hx hb hw inX4 tyX4 tyX4_ok nmX4 hown hK hP hD hS 0 rfl rfl 15 (by decide) (hw _ w_f0da19b997) (fun _ h9 => h9) rfl (by decide +kernel) rfl rfl (Nat.le_of_ble_eq_true rfl) dX4_gather_243 (fun H locs hP hD hS => ?_)
                            have hP : va_P (dC, dI) vwCl [(o, .inr (4, [.int cd, .int sc, .ref qm, .ref qd, .int ch, .int fe, .int sz, .int rd, .int ca, .int sx, .ref qp, .int co, .int gi, .int aw, .int cg, .int x_43, .ref qs, .ref ql, .ref qo, .int ax, .long wi])), (qp, .inl (cJ, 3, .inr (.inl (pl3 bl of an)))), (qm, .inl (cJ, 8192, .inr (.inl (mL M)))), (qs, .inl (cJ, 16, .inr (.inl gs4))), (ql, .inl (cJ, 16, .inr (.inl gl4))), (qo, .inl (cZ, 16, .inl go4))] H := hP
                            have hD : va_D A [(o, .inr (4, [.int cd, .int sc, .ref qm, .ref qd, .int ch, .int fe, .int sz, .int rd, .int ca, .int sx, .ref qp, .int co, .int gi, .int aw, .int cg, .int x_43, .ref qs, .ref ql, .ref qo, .int ax, .long wi])), (qp, .inl (cJ, 3, .inr (.inl (pl3 bl of an)))), (qm, .inl (cJ, 8192, .inr (.inl (mL M)))), (qs, .inl (cJ, 16, .inr (.inl gs4))), (ql, .inl (cJ, 16, .inr (.inl gl4))), (qo, .inl (cZ, 16, .inl go4))] := hD
                            refine lv_goto (tgt := 9) hx hb dX4_gather_246 (by decide) ?_
                            exact ih f (nbs M (off (blA bl k) + 14) 2) (decide (nbs M (off (blA bl k) + 12) 2 / 2 % 2 = 1)) (acc ++ [(lN (nbs M (off (blA bl k)) 8), nbs M (off (blA bl k) + 8) 4, decide (nbs M (off (blA bl k) + 12) 2 / 2 % 2 = 1))]) 0 x_42 x_43 gs4 gl4 go4 (⟨fun z => absurd z (by decide), by have := hN.1 hm1; omega⟩) (Or.inr ⟨rfl, by simp, by rw [← hs, gat, if_pos ⟨hkn, hth⟩, if_neg hno, if_neg hmr]⟩) (hrp4) (by rw [ex_43, hbk, List.length_append]; exact nI_1 _) (⟨fun z => by simp at z, fun _ => by rw [List.length_append, ego]; exact pk_us⟩) (by rw [List.length_append]; show acc.length + 1 ≤ n; omega) (fun b hb => (List.mem_append.mp hb).elim (hle b) (fun z => by rw [List.mem_singleton.mp z]; exact nbs_lt hM _ 4)) _ _ (hP.sub [0, 1, 2, 3, 4, 5] rfl) (hD.sub [0, 1, 2, 3, 4, 5] (by decide) rfl) hS ls (lv_sub hl [1, 0, 5, 6] rfl)
                          · skip
                            have hmr : nbs M (off (blA bl k) + 12) 2 % 2 = 1 := Decidable.byContradiction fun z => c_40 (by rw [emk]; exact (mk_1 hmk).mpr z)
                            refine lv_iconst (v := 1) hx hb dX4_gather_217 (by decide) ?_
                            refine lv_goto (tgt := 222) hx hb dX4_gather_218 (by decide) ?_
                            refine lv_istore_n (lv' := [(3, .int 1), (7, .int 0), (6, .int x_13), (4, .long x_6), (2, .int y), (0, .ref o), (1, .int x)]) hx hb dX4_gather_222 rfl hl (by decide) rfl (fun ls hl => ?_)
                            refine lv_aload_n hx hb dX4_gather_223 rfl (lv_at hl 5 rfl) ?_
                            refine lv_lload hx hb dX4_gather_224 (lv_at hl 3 rfl) ?_
                            refine lv_ldc2 (v := 14) hx hb hown (hw _ w_aa6d76f0d0) dX4_gather_226 ?_
                            refine lv_ladd hx hb dX4_gather_229 ?_
                            refine lv_iconst (v := 2) hx hb dX4_gather_230 (by decide) ?_
                            have hPc := hP.sub (ws' := [(o, .inr (4, [.int cd, .int sc, .ref qm, .ref qd, .int ch, .int fe, .int sz, .int rd, .int ca, .int sx, .ref qp, .int co, .int gi, .int aw, .int cg, .int bk3, .ref qs, .ref ql, .ref qo, .int ax, .long wi])), (qm, .inl (cJ, 8192, .inr (.inl (mL M))))]) [0, 2] rfl
                            have hKc := hK.sub (tys' := [(cJ, .long)]) [0] rfl
                            have hZc := (hZ.kept hS.2.1).narrow (B := fun _ => False) (fun _ h => h.elim)
                            refine vp_callSl (va_runV (As := [.long (x_6 + 14), .int 2]) (rest := []) ⟨hx, hb, hml, hown, hw⟩ (m_number l dC dI o cd sc qm qd ch fe sz rd ca sx qp co gi aw cg bk3 qs ql qo ax wi cJ M (x_6 + 14) 2 2 (off (blA bl k) + 14) rfl (by decide) (by rw [ebl]; exact (off_plus hth (show 14 < 16 by decide) (by decide)).1) (by have := (off_0 hth (by decide) (by decide)).2; omega) hM) (cwV 2 hw (gV w_b394cd0f6f w_fab48a5191 w_cc770dbe30 w_2b384744dc w_c1a5c9b18f) rfl rfl rfl (by decide +kernel) ⟨Nat.le_of_ble_eq_true rfl, Nat.le_of_ble_eq_true rfl⟩) ⟨fun a U g mk q => by obtain ⟨q0, qP, qK, qZ⟩ := q; exact ⟨q0, qP, va_K.moved (u := U) (U := U.calling g mk a) (Vm.Alike.refl U.vm) qK, ZZ.same (u := U) (U := U.calling g mk a) rfl qZ⟩, va_recv hKc hPc (ci := 4) (q0 := 0) rfl rfl, fun U hU hW => ⟨rfl, by rw [hU]; exact hPc, va_K.moved hW.alike hKc, by rw [hU]; exact ZZ.warm hW hZc⟩⟩ rfl rfl hl.1 rfl (lv_room (Nat.le_of_ble_eq_true rfl)) dX4_gather_231 ⟨Nat.zero_le _, Nat.zero_le _⟩).run (fun r_44 hr_44 => ?_)
                            have hr_44 : r_44 = lN (nbs M (off (blA bl k) + 14) 2) := hr_44
                            refine lv_l2i (v := r_44.toInt32) hx hb dX4_gather_234 rfl ?_
                            refine lv_topi (fun x_45 ex_45 => ?_)
                            refine lv_istore_n (lv' := [(2, .int x_45), (3, .int 1), (7, .int 0), (6, .int x_13), (4, .long x_6), (0, .ref o), (1, .int x)]) hx hb dX4_gather_235 rfl hl (by decide) rfl (fun ls hl => ?_)
                            refine lv_aload_n hx hb dX4_gather_236 rfl (lv_at hl 5 rfl) ?_
                            refine lv_dup hx hb dX4_gather_237 rfl ?_
                            refine va_get (D := (dC, dI)) (ci := 4) (v := .int bk3) (C := RX4) (T := TX4) (N := 21) hx hb hw inX4 hown hK hP 0 rfl rfl 15 (by decide) (hw _ w_f0da19b997) (fun _ h9 => h9) rfl dX4_gather_238 ?_
                            refine lv_iconst (v := 1) hx hb dX4_gather_241 (by decide) ?_
                            refine lv_iadd hx hb dX4_gather_242 ?_
                            refine lv_topi (fun x_46 ex_46 => ?_)
                            refine va_put (D := (dC, dI)) (ci := 4) (v := .int x_46) (ty := .int) (C := RX4) (T := TX4) (N := 21) hx hb hw inX4 tyX4 tyX4_ok nmX4 hown hK hP hD hS 0 rfl rfl 15 (by decide) (hw _ w_f0da19b997) (fun _ h9 => h9) rfl (by decide +kernel) rfl rfl (Nat.le_of_ble_eq_true rfl) dX4_gather_243 (fun H locs hP hD hS => ?_)
                            have hP : va_P (dC, dI) vwCl [(o, .inr (4, [.int cd, .int sc, .ref qm, .ref qd, .int ch, .int fe, .int sz, .int rd, .int ca, .int sx, .ref qp, .int co, .int gi, .int aw, .int cg, .int x_46, .ref qs, .ref ql, .ref qo, .int ax, .long wi])), (qp, .inl (cJ, 3, .inr (.inl (pl3 bl of an)))), (qm, .inl (cJ, 8192, .inr (.inl (mL M)))), (qs, .inl (cJ, 16, .inr (.inl gs4))), (ql, .inl (cJ, 16, .inr (.inl gl4))), (qo, .inl (cZ, 16, .inl go4))] H := hP
                            have hD : va_D A [(o, .inr (4, [.int cd, .int sc, .ref qm, .ref qd, .int ch, .int fe, .int sz, .int rd, .int ca, .int sx, .ref qp, .int co, .int gi, .int aw, .int cg, .int x_46, .ref qs, .ref ql, .ref qo, .int ax, .long wi])), (qp, .inl (cJ, 3, .inr (.inl (pl3 bl of an)))), (qm, .inl (cJ, 8192, .inr (.inl (mL M)))), (qs, .inl (cJ, 16, .inr (.inl gs4))), (ql, .inl (cJ, 16, .inr (.inl gl4))), (qo, .inl (cZ, 16, .inl go4))] := hD
                            refine lv_goto (tgt := 9) hx hb dX4_gather_246 (by decide) ?_
                            exact ih f (nbs M (off (blA bl k) + 14) 2) (decide (nbs M (off (blA bl k) + 12) 2 / 2 % 2 = 1)) (acc ++ [(lN (nbs M (off (blA bl k)) 8), nbs M (off (blA bl k) + 8) 4, decide (nbs M (off (blA bl k) + 12) 2 / 2 % 2 = 1))]) 1 x_45 x_46 gs4 gl4 go4 (⟨fun _ => by have := hN.1 hm1; omega, by have := hN.1 hm1; omega⟩) (Or.inl ⟨rfl, by rw [ex_45, hr_44, lN_i], nbs_lt hM _ 2, by rw [List.length_append]; show acc.length + 1 + f = n; omega, by rw [← hs, gat, if_pos ⟨hkn, hth⟩, if_neg hno, if_pos hmr]⟩) (hrp4) (by rw [ex_46, hbk, List.length_append]; exact nI_1 _) (⟨fun z => by simp at z, fun _ => by rw [List.length_append, ego]; exact pk_us⟩) (by rw [List.length_append]; show acc.length + 1 ≤ n; omega) (fun b hb => (List.mem_append.mp hb).elim (hle b) (fun z => by rw [List.mem_singleton.mp z]; exact nbs_lt hM _ 4)) _ _ (hP.sub [0, 1, 2, 3, 4, 5] rfl) (hD.sub [0, 1, 2, 3, 4, 5] (by decide) rfl) hS ls (lv_sub hl [1, 0, 5, 6] rfl)
                        · skip
                          have b_47 : ¬ (thP (gs4 bk3.toNatClampNeg) (gl4 bk3.toNatClampNeg)) := bI_0 (by rw [← hr_37]; exact c_38)
                          have ev : gs4 bk3.toNatClampNeg = lN (nbs M (off (blA bl k)) 8) ∧ gl4 bk3.toNatClampNeg = lN (nbs M (off (blA bl k) + 8) 4) := by rw [hix, egs, egl, pk_uLs, pk_uLs]; exact ⟨rfl, rfl⟩
                          have hnone : gat M bl n n k0 false [] = none := by rw [← hs, gat, if_pos ⟨hkn, hth⟩, if_pos (Or.inr (Or.inr (by have := b_47; rw [ev.1, ev.2] at this; exact this)))]
                          refine lv_iconst (v := 0) hx hb dX4_gather_208 (by decide) ?_
                          have hP9 : va_P (dC, dI) vwCl [(o, .inr (4, [.int cd, .int sc, .ref qm, .ref qd, .int ch, .int fe, .int sz, .int rd, .int ca, .int sx, .ref qp, .int co, .int gi, .int aw, .int cg, .int bk3, .ref qs, .ref ql, .ref qo, .int ax, .long wi])), (qp, .inl (cJ, 3, .inr (.inl (pl3 bl of an)))), (qm, .inl (cJ, 8192, .inr (.inl (mL M)))), (qs, .inl (cJ, 16, .inr (.inl gs4))), (ql, .inl (cJ, 16, .inr (.inl gl4))), (qo, .inl (cZ, 16, .inl go4))] H := by exact hP.sub (ws' := [(o, .inr (4, [.int cd, .int sc, .ref qm, .ref qd, .int ch, .int fe, .int sz, .int rd, .int ca, .int sx, .ref qp, .int co, .int gi, .int aw, .int cg, .int bk3, .ref qs, .ref ql, .ref qo, .int ax, .long wi])), (qp, .inl (cJ, 3, .inr (.inl (pl3 bl of an)))), (qm, .inl (cJ, 8192, .inr (.inl (mL M)))), (qs, .inl (cJ, 16, .inr (.inl gs4))), (ql, .inl (cJ, 16, .inr (.inl gl4))), (qo, .inl (cZ, 16, .inl go4))]) [0, 1, 2, 3, 4, 5] rfl
                          have hD9 : va_D A [(o, .inr (4, [.int cd, .int sc, .ref qm, .ref qd, .int ch, .int fe, .int sz, .int rd, .int ca, .int sx, .ref qp, .int co, .int gi, .int aw, .int cg, .int bk3, .ref qs, .ref ql, .ref qo, .int ax, .long wi])), (qp, .inl (cJ, 3, .inr (.inl (pl3 bl of an)))), (qm, .inl (cJ, 8192, .inr (.inl (mL M)))), (qs, .inl (cJ, 16, .inr (.inl gs4))), (ql, .inl (cJ, 16, .inr (.inl gl4))), (qo, .inl (cZ, 16, .inl go4))] := by exact hD.sub (ws' := [(o, .inr (4, [.int cd, .int sc, .ref qm, .ref qd, .int ch, .int fe, .int sz, .int rd, .int ca, .int sx, .ref qp, .int co, .int gi, .int aw, .int cg, .int bk3, .ref qs, .ref ql, .ref qo, .int ax, .long wi])), (qp, .inl (cJ, 3, .inr (.inl (pl3 bl of an)))), (qm, .inl (cJ, 8192, .inr (.inl (mL M)))), (qs, .inl (cJ, 16, .inr (.inl gs4))), (ql, .inl (cJ, 16, .inr (.inl gl4))), (qo, .inl (cZ, 16, .inl go4))]) [0, 1, 2, 3, 4, 5] (by decide) rfl
                          have hK9 := hK.sub (tys' := [(cJ, .long), (cZ, .boolean)]) [0, 1] rfl
                          exact W.zret (v := 0) hx hb hr rfl (fun t ht hW => ⟨⟨_, (bk3, gs4, gl4, go4), rfl, ⟨by rw [hnone]; exact (bI_f finB_n).symm, fun L z => by rw [hnone] at z; cases z⟩, by rw [ht]; exact hP9, va_K.moved hW.alike hK9, hD9⟩, hS.F ht⟩) hS.2.2 dX4_gather_209
                  · skip
                    have hpt : po = true := by rw [hg1] at c_34; exact bI_1 c_34
                    refine lv_aload_n hx hb dX4_gather_153 rfl (lv_at hl 4 rfl) ?_
                    refine va_get (D := (dC, dI)) (ci := 4) (v := .ref qo) (C := RX4) (T := TX4) (N := 21) hx hb hw inX4 hown hK hP 0 rfl rfl 18 (by decide) (hw _ w_3d33b1130a) (fun _ h9 => h9) rfl dX4_gather_154 ?_
                    refine lv_aload_n hx hb dX4_gather_157 rfl (lv_at hl 4 rfl) ?_
                    refine va_get (D := (dC, dI)) (ci := 4) (v := .int bk3) (C := RX4) (T := TX4) (N := 21) hx hb hw inX4 hown hK hP 0 rfl rfl 15 (by decide) (hw _ w_f0da19b997) (fun _ h9 => h9) rfl dX4_gather_158 ?_
                    refine va_zald hx hb hK hP 5 1 rfl rfl (by rw [hbk]; exact vp_in_nI (by omega) (by omega)) dX4_gather_161 ?_
                    refine lv_if_ne (tgt := 169) hx hb dX4_gather_162 (by decide) (fun c_48 => ?_) (fun c_48 => ?_)
                    · skip
                      exact absurd hg2 c_48
                    · skip
                      refine lv_iconst (v := 1) hx hb dX4_gather_165 (by decide) ?_
                      refine lv_goto (tgt := 170) hx hb dX4_gather_166 (by decide) ?_
                      refine lv_istore (lv' := [(7, .int 1), (6, .int x_13), (4, .long x_6), (3, .int mo), (2, .int y), (0, .ref o), (1, .int x)]) hx hb dX4_gather_170 hl (by decide) rfl (fun ls hl => ?_)
                      refine lv_iload hx hb dX4_gather_172 (lv_at hl 1 rfl) ?_
                      refine lv_iconst (v := 4) hx hb dX4_gather_174 (by decide) ?_
                      refine lv_iand hx hb dX4_gather_175 ?_
                      refine lv_if_ne (tgt := 208) hx hb dX4_gather_176 (by decide) (fun c_49 => ?_) (fun c_49 => ?_)
                      · skip
                        have hnone : gat M bl n n k0 false [] = none := by rw [← hs, gat, if_pos ⟨hkn, hth⟩, if_pos (Or.inl (Decidable.byContradiction fun z => c_49 (by rw [emk]; exact (mk_4 hmk).mpr z)))]
                        refine lv_iconst (v := 0) hx hb dX4_gather_208 (by decide) ?_
                        have hP9 : va_P (dC, dI) vwCl [(o, .inr (4, [.int cd, .int sc, .ref qm, .ref qd, .int ch, .int fe, .int sz, .int rd, .int ca, .int sx, .ref qp, .int co, .int gi, .int aw, .int cg, .int bk3, .ref qs, .ref ql, .ref qo, .int ax, .long wi])), (qp, .inl (cJ, 3, .inr (.inl (pl3 bl of an)))), (qm, .inl (cJ, 8192, .inr (.inl (mL M)))), (qs, .inl (cJ, 16, .inr (.inl gs4))), (ql, .inl (cJ, 16, .inr (.inl gl4))), (qo, .inl (cZ, 16, .inl go4))] H := by exact hP.sub (ws' := [(o, .inr (4, [.int cd, .int sc, .ref qm, .ref qd, .int ch, .int fe, .int sz, .int rd, .int ca, .int sx, .ref qp, .int co, .int gi, .int aw, .int cg, .int bk3, .ref qs, .ref ql, .ref qo, .int ax, .long wi])), (qp, .inl (cJ, 3, .inr (.inl (pl3 bl of an)))), (qm, .inl (cJ, 8192, .inr (.inl (mL M)))), (qs, .inl (cJ, 16, .inr (.inl gs4))), (ql, .inl (cJ, 16, .inr (.inl gl4))), (qo, .inl (cZ, 16, .inl go4))]) [0, 1, 2, 3, 4, 5] rfl
                        have hD9 : va_D A [(o, .inr (4, [.int cd, .int sc, .ref qm, .ref qd, .int ch, .int fe, .int sz, .int rd, .int ca, .int sx, .ref qp, .int co, .int gi, .int aw, .int cg, .int bk3, .ref qs, .ref ql, .ref qo, .int ax, .long wi])), (qp, .inl (cJ, 3, .inr (.inl (pl3 bl of an)))), (qm, .inl (cJ, 8192, .inr (.inl (mL M)))), (qs, .inl (cJ, 16, .inr (.inl gs4))), (ql, .inl (cJ, 16, .inr (.inl gl4))), (qo, .inl (cZ, 16, .inl go4))] := by exact hD.sub (ws' := [(o, .inr (4, [.int cd, .int sc, .ref qm, .ref qd, .int ch, .int fe, .int sz, .int rd, .int ca, .int sx, .ref qp, .int co, .int gi, .int aw, .int cg, .int bk3, .ref qs, .ref ql, .ref qo, .int ax, .long wi])), (qp, .inl (cJ, 3, .inr (.inl (pl3 bl of an)))), (qm, .inl (cJ, 8192, .inr (.inl (mL M)))), (qs, .inl (cJ, 16, .inr (.inl gs4))), (ql, .inl (cJ, 16, .inr (.inl gl4))), (qo, .inl (cZ, 16, .inl go4))]) [0, 1, 2, 3, 4, 5] (by decide) rfl
                        have hK9 := hK.sub (tys' := [(cJ, .long), (cZ, .boolean)]) [0, 1] rfl
                        exact W.zret (v := 0) hx hb hr rfl (fun t ht hW => ⟨⟨_, (bk3, gs4, gl4, go4), rfl, ⟨by rw [hnone]; exact (bI_f finB_n).symm, fun L z => by rw [hnone] at z; cases z⟩, by rw [ht]; exact hP9, va_K.moved hW.alike hK9, hD9⟩, hS.F ht⟩) hS.2.2 dX4_gather_209
                      · skip
                        have hn4 : ¬ nbs M (off (blA bl k) + 12) 2 / 4 % 2 = 1 := (mk_4 hmk).mp (by rw [← emk]; exact c_49)
                        refine lv_iload hx hb dX4_gather_179 (lv_at hl 0 rfl) ?_
                        refine lv_if_ne (tgt := 208) hx hb dX4_gather_181 (by decide) (fun c_50 => ?_) (fun c_50 => ?_)
                        · skip
                          have hnone : gat M bl n n k0 false [] = none := by rw [← hs, gat, if_pos ⟨hkn, hth⟩, if_pos (Or.inr (Or.inl ⟨hpt, hop⟩))]
                          refine lv_iconst (v := 0) hx hb dX4_gather_208 (by decide) ?_
                          have hP9 : va_P (dC, dI) vwCl [(o, .inr (4, [.int cd, .int sc, .ref qm, .ref qd, .int ch, .int fe, .int sz, .int rd, .int ca, .int sx, .ref qp, .int co, .int gi, .int aw, .int cg, .int bk3, .ref qs, .ref ql, .ref qo, .int ax, .long wi])), (qp, .inl (cJ, 3, .inr (.inl (pl3 bl of an)))), (qm, .inl (cJ, 8192, .inr (.inl (mL M)))), (qs, .inl (cJ, 16, .inr (.inl gs4))), (ql, .inl (cJ, 16, .inr (.inl gl4))), (qo, .inl (cZ, 16, .inl go4))] H := by exact hP.sub (ws' := [(o, .inr (4, [.int cd, .int sc, .ref qm, .ref qd, .int ch, .int fe, .int sz, .int rd, .int ca, .int sx, .ref qp, .int co, .int gi, .int aw, .int cg, .int bk3, .ref qs, .ref ql, .ref qo, .int ax, .long wi])), (qp, .inl (cJ, 3, .inr (.inl (pl3 bl of an)))), (qm, .inl (cJ, 8192, .inr (.inl (mL M)))), (qs, .inl (cJ, 16, .inr (.inl gs4))), (ql, .inl (cJ, 16, .inr (.inl gl4))), (qo, .inl (cZ, 16, .inl go4))]) [0, 1, 2, 3, 4, 5] rfl
                          have hD9 : va_D A [(o, .inr (4, [.int cd, .int sc, .ref qm, .ref qd, .int ch, .int fe, .int sz, .int rd, .int ca, .int sx, .ref qp, .int co, .int gi, .int aw, .int cg, .int bk3, .ref qs, .ref ql, .ref qo, .int ax, .long wi])), (qp, .inl (cJ, 3, .inr (.inl (pl3 bl of an)))), (qm, .inl (cJ, 8192, .inr (.inl (mL M)))), (qs, .inl (cJ, 16, .inr (.inl gs4))), (ql, .inl (cJ, 16, .inr (.inl gl4))), (qo, .inl (cZ, 16, .inl go4))] := by exact hD.sub (ws' := [(o, .inr (4, [.int cd, .int sc, .ref qm, .ref qd, .int ch, .int fe, .int sz, .int rd, .int ca, .int sx, .ref qp, .int co, .int gi, .int aw, .int cg, .int bk3, .ref qs, .ref ql, .ref qo, .int ax, .long wi])), (qp, .inl (cJ, 3, .inr (.inl (pl3 bl of an)))), (qm, .inl (cJ, 8192, .inr (.inl (mL M)))), (qs, .inl (cJ, 16, .inr (.inl gs4))), (ql, .inl (cJ, 16, .inr (.inl gl4))), (qo, .inl (cZ, 16, .inl go4))]) [0, 1, 2, 3, 4, 5] (by decide) rfl
                          have hK9 := hK.sub (tys' := [(cJ, .long), (cZ, .boolean)]) [0, 1] rfl
                          exact W.zret (v := 0) hx hb hr rfl (fun t ht hW => ⟨⟨_, (bk3, gs4, gl4, go4), rfl, ⟨by rw [hnone]; exact (bI_f finB_n).symm, fun L z => by rw [hnone] at z; cases z⟩, by rw [ht]; exact hP9, va_K.moved hW.alike hK9, hD9⟩, hS.F ht⟩) hS.2.2 dX4_gather_209
                        · skip
                          exact absurd c_50 (by decide)
              · skip
                have hop : nbs M (off (blA bl k) + 12) 2 / 2 % 2 = 1 := Decidable.byContradiction fun z => c_18 (by rw [emk]; exact (mk_2 hmk).mpr z)
                refine lv_iconst (v := 1) hx hb dX4_gather_126 (by decide) ?_
                refine lv_goto (tgt := 131) hx hb dX4_gather_127 (by decide) ?_
                refine va_zast hx hb hK hP hD hS 5 1 rfl rfl (by rw [hbk]; exact vp_in_nI (by omega) (by omega)) dX4_gather_131 (fun H locs hP hD hS => ?_)
                have hP : va_P (dC, dI) vwCl [(o, .inr (4, [.int cd, .int sc, .ref qm, .ref qd, .int ch, .int fe, .int sz, .int rd, .int ca, .int sx, .ref qp, .int co, .int gi, .int aw, .int cg, .int bk3, .ref qs, .ref ql, .ref qo, .int ax, .long wi])), (qp, .inl (cJ, 3, .inr (.inl (pl3 bl of an)))), (qm, .inl (cJ, 8192, .inr (.inl (mL M)))), (qs, .inl (cJ, 16, .inr (.inl gs4))), (ql, .inl (cJ, 16, .inr (.inl gl4))), (qo, .inl (cZ, 16, .inl (upd go3 bk3.toNatClampNeg (vp_nar .boolean 1))))] H := hP
                have hD : va_D A [(o, .inr (4, [.int cd, .int sc, .ref qm, .ref qd, .int ch, .int fe, .int sz, .int rd, .int ca, .int sx, .ref qp, .int co, .int gi, .int aw, .int cg, .int bk3, .ref qs, .ref ql, .ref qo, .int ax, .long wi])), (qp, .inl (cJ, 3, .inr (.inl (pl3 bl of an)))), (qm, .inl (cJ, 8192, .inr (.inl (mL M)))), (qs, .inl (cJ, 16, .inr (.inl gs4))), (ql, .inl (cJ, 16, .inr (.inl gl4))), (qo, .inl (cZ, 16, .inl (upd go3 bk3.toNatClampNeg (vp_nar .boolean 1))))] := hD
                obtain ⟨go4, ego⟩ : ∃ g : Nat → Int32, g = upd go3 acc.length (bI (decide (nbs M (off (blA bl k) + 12) 2 / 2 % 2 = 1) = true)) := ⟨_, rfl⟩
                have er_51 : upd go3 bk3.toNatClampNeg (vp_nar .boolean 1) = go4 := by rw [ego, hbk, nI_clamp (by omega), show vp_nar .boolean 1 = 1 from rfl, bI_t (by simp [hop])]
                rw [er_51] at hP hD
                have hP : va_P (dC, dI) vwCl [(o, .inr (4, [.int cd, .int sc, .ref qm, .ref qd, .int ch, .int fe, .int sz, .int rd, .int ca, .int sx, .ref qp, .int co, .int gi, .int aw, .int cg, .int bk3, .ref qs, .ref ql, .ref qo, .int ax, .long wi])), (qp, .inl (cJ, 3, .inr (.inl (pl3 bl of an)))), (qm, .inl (cJ, 8192, .inr (.inl (mL M)))), (qs, .inl (cJ, 16, .inr (.inl gs4))), (ql, .inl (cJ, 16, .inr (.inl gl4))), (qo, .inl (cZ, 16, .inl go4))] H := hP
                have hD : va_D A [(o, .inr (4, [.int cd, .int sc, .ref qm, .ref qd, .int ch, .int fe, .int sz, .int rd, .int ca, .int sx, .ref qp, .int co, .int gi, .int aw, .int cg, .int bk3, .ref qs, .ref ql, .ref qo, .int ax, .long wi])), (qp, .inl (cJ, 3, .inr (.inl (pl3 bl of an)))), (qm, .inl (cJ, 8192, .inr (.inl (mL M)))), (qs, .inl (cJ, 16, .inr (.inl gs4))), (ql, .inl (cJ, 16, .inr (.inl gl4))), (qo, .inl (cZ, 16, .inl go4))] := hD
                have hrp4 : repM (acc ++ [(lN (nbs M (off (blA bl k)) 8), nbs M (off (blA bl k) + 8) 4, decide (nbs M (off (blA bl k) + 12) 2 / 2 % 2 = 1))]) gs4 gl4 go4 := by rw [egs, egl, ego]; exact repM_add hrp _ _ _
                have hg2 : go4 bk3.toNatClampNeg = 1 := by rw [ego, hbk, nI_clamp (by omega), pk_us, bI_t (by simp [hop])]
                have hix : bk3.toNatClampNeg = acc.length := by rw [hbk, nI_clamp (by omega)]
                refine lv_aload_n hx hb dX4_gather_132 rfl (lv_at hl 4 rfl) ?_
                refine va_get (D := (dC, dI)) (ci := 4) (v := .int bk3) (C := RX4) (T := TX4) (N := 21) hx hb hw inX4 hown hK hP 0 rfl rfl 15 (by decide) (hw _ w_f0da19b997) (fun _ h9 => h9) rfl dX4_gather_133 ?_
                refine lv_if_le (tgt := 169) hx hb dX4_gather_136 (by decide) (fun c_52 => ?_) (fun c_52 => ?_)
                · skip
                  have hl0 : acc.length = 0 := Nat.eq_zero_of_not_pos fun z => nI_nle z (by omega) (by rw [← hbk]; exact c_52)
                  have hcb : ¬ (po = true ∧ ¬ nbs M (off (blA bl k) + 12) 2 / 2 % 2 = 1) := fun z => by rw [hpo.1 hl0] at z; exact absurd z.1 (by decide)
                  refine lv_iconst (v := 0) hx hb dX4_gather_169 (by decide) ?_
                  refine lv_istore (lv' := [(7, .int 0), (6, .int x_13), (4, .long x_6), (3, .int mo), (2, .int y), (0, .ref o), (1, .int x)]) hx hb dX4_gather_170 hl (by decide) rfl (fun ls hl => ?_)
                  refine lv_iload hx hb dX4_gather_172 (lv_at hl 1 rfl) ?_
                  refine lv_iconst (v := 4) hx hb dX4_gather_174 (by decide) ?_
                  refine lv_iand hx hb dX4_gather_175 ?_
                  refine lv_if_ne (tgt := 208) hx hb dX4_gather_176 (by decide) (fun c_53 => ?_) (fun c_53 => ?_)
                  · skip
                    have hnone : gat M bl n n k0 false [] = none := by rw [← hs, gat, if_pos ⟨hkn, hth⟩, if_pos (Or.inl (Decidable.byContradiction fun z => c_53 (by rw [emk]; exact (mk_4 hmk).mpr z)))]
                    refine lv_iconst (v := 0) hx hb dX4_gather_208 (by decide) ?_
                    have hP9 : va_P (dC, dI) vwCl [(o, .inr (4, [.int cd, .int sc, .ref qm, .ref qd, .int ch, .int fe, .int sz, .int rd, .int ca, .int sx, .ref qp, .int co, .int gi, .int aw, .int cg, .int bk3, .ref qs, .ref ql, .ref qo, .int ax, .long wi])), (qp, .inl (cJ, 3, .inr (.inl (pl3 bl of an)))), (qm, .inl (cJ, 8192, .inr (.inl (mL M)))), (qs, .inl (cJ, 16, .inr (.inl gs4))), (ql, .inl (cJ, 16, .inr (.inl gl4))), (qo, .inl (cZ, 16, .inl go4))] H := by exact hP.sub (ws' := [(o, .inr (4, [.int cd, .int sc, .ref qm, .ref qd, .int ch, .int fe, .int sz, .int rd, .int ca, .int sx, .ref qp, .int co, .int gi, .int aw, .int cg, .int bk3, .ref qs, .ref ql, .ref qo, .int ax, .long wi])), (qp, .inl (cJ, 3, .inr (.inl (pl3 bl of an)))), (qm, .inl (cJ, 8192, .inr (.inl (mL M)))), (qs, .inl (cJ, 16, .inr (.inl gs4))), (ql, .inl (cJ, 16, .inr (.inl gl4))), (qo, .inl (cZ, 16, .inl go4))]) [0, 1, 2, 3, 4, 5] rfl
                    have hD9 : va_D A [(o, .inr (4, [.int cd, .int sc, .ref qm, .ref qd, .int ch, .int fe, .int sz, .int rd, .int ca, .int sx, .ref qp, .int co, .int gi, .int aw, .int cg, .int bk3, .ref qs, .ref ql, .ref qo, .int ax, .long wi])), (qp, .inl (cJ, 3, .inr (.inl (pl3 bl of an)))), (qm, .inl (cJ, 8192, .inr (.inl (mL M)))), (qs, .inl (cJ, 16, .inr (.inl gs4))), (ql, .inl (cJ, 16, .inr (.inl gl4))), (qo, .inl (cZ, 16, .inl go4))] := by exact hD.sub (ws' := [(o, .inr (4, [.int cd, .int sc, .ref qm, .ref qd, .int ch, .int fe, .int sz, .int rd, .int ca, .int sx, .ref qp, .int co, .int gi, .int aw, .int cg, .int bk3, .ref qs, .ref ql, .ref qo, .int ax, .long wi])), (qp, .inl (cJ, 3, .inr (.inl (pl3 bl of an)))), (qm, .inl (cJ, 8192, .inr (.inl (mL M)))), (qs, .inl (cJ, 16, .inr (.inl gs4))), (ql, .inl (cJ, 16, .inr (.inl gl4))), (qo, .inl (cZ, 16, .inl go4))]) [0, 1, 2, 3, 4, 5] (by decide) rfl
                    have hK9 := hK.sub (tys' := [(cJ, .long), (cZ, .boolean)]) [0, 1] rfl
                    exact W.zret (v := 0) hx hb hr rfl (fun t ht hW => ⟨⟨_, (bk3, gs4, gl4, go4), rfl, ⟨by rw [hnone]; exact (bI_f finB_n).symm, fun L z => by rw [hnone] at z; cases z⟩, by rw [ht]; exact hP9, va_K.moved hW.alike hK9, hD9⟩, hS.F ht⟩) hS.2.2 dX4_gather_209
                  · skip
                    have hn4 : ¬ nbs M (off (blA bl k) + 12) 2 / 4 % 2 = 1 := (mk_4 hmk).mp (by rw [← emk]; exact c_53)
                    refine lv_iload hx hb dX4_gather_179 (lv_at hl 0 rfl) ?_
                    refine lv_if_ne (tgt := 208) hx hb dX4_gather_181 (by decide) (fun c_54 => ?_) (fun c_54 => ?_)
                    · skip
                      exact absurd c_54 (by decide)
                    · skip
                      refine lv_aload_n hx hb dX4_gather_184 rfl (lv_at hl 5 rfl) ?_
                      refine va_get (D := (dC, dI)) (ci := 4) (v := .ref qs) (C := RX4) (T := TX4) (N := 21) hx hb hw inX4 hown hK hP 0 rfl rfl 16 (by decide) (hw _ w_c92d01c177) (fun _ h9 => h9) rfl dX4_gather_185 ?_
                      refine lv_aload_n hx hb dX4_gather_188 rfl (lv_at hl 5 rfl) ?_
                      refine va_get (D := (dC, dI)) (ci := 4) (v := .int bk3) (C := RX4) (T := TX4) (N := 21) hx hb hw inX4 hown hK hP 0 rfl rfl 15 (by decide) (hw _ w_f0da19b997) (fun _ h9 => h9) rfl dX4_gather_189 ?_
                      refine va_lald hx hb hK hP 3 0 rfl rfl (by rw [hbk]; exact vp_in_nI (by omega) (by omega)) dX4_gather_192 ?_
                      refine lv_aload_n hx hb dX4_gather_193 rfl (lv_at hl 5 rfl) ?_
                      refine va_get (D := (dC, dI)) (ci := 4) (v := .ref ql) (C := RX4) (T := TX4) (N := 21) hx hb hw inX4 hown hK hP 0 rfl rfl 17 (by decide) (hw _ w_c20510a516) (fun _ h9 => h9) rfl dX4_gather_194 ?_
                      refine lv_aload_n hx hb dX4_gather_197 rfl (lv_at hl 5 rfl) ?_
                      refine va_get (D := (dC, dI)) (ci := 4) (v := .int bk3) (C := RX4) (T := TX4) (N := 21) hx hb hw inX4 hown hK hP 0 rfl rfl 15 (by decide) (hw _ w_f0da19b997) (fun _ h9 => h9) rfl dX4_gather_198 ?_
                      refine va_lald hx hb hK hP 4 0 rfl rfl (by rw [hbk]; exact vp_in_nI (by omega) (by omega)) dX4_gather_201 ?_
                      have hPc := hP.sub (ws' := []) [] rfl
                      have hKc := hK.sub (tys' := []) [] rfl
                      have hZc := (hZ.kept hS.2.1).narrow (B := fun _ => False) (fun _ h => h.elim)
                      refine vp_callSi (va_runS (As := [.long (gs4 bk3.toNatClampNeg), .long (gl4 bk3.toNatClampNeg)]) (rest := []) ⟨hx, hb, hml, hown, hw⟩ (m_isThere l dC dI (gs4 bk3.toNatClampNeg) (gl4 bk3.toNatClampNeg)) (va_cwS 2 hw (gS w_e4da178cff w_3b07a2b4f7 w_2b384744dc w_a857523ad5) rfl rfl rfl (by decide +kernel) ⟨Nat.le_of_ble_eq_true rfl, Nat.le_of_ble_eq_true rfl⟩) ⟨fun a U g mk q => by obtain ⟨q0, qP, qK, qZ⟩ := q; exact ⟨q0, qP, va_K.moved (u := U) (U := U.calling g mk a) (Vm.Alike.refl U.vm) qK, ZZ.same (u := U) (U := U.calling g mk a) rfl qZ⟩, fun U hU hW => ⟨rfl, by rw [hU]; exact hPc, va_K.moved hW.alike hKc, by rw [hU]; exact ZZ.warm hW hZc⟩⟩ rfl rfl hl.1 rfl (lv_room (Nat.le_of_ble_eq_true rfl)) dX4_gather_202 ⟨Nat.zero_le _, Nat.zero_le _⟩).run (fun r_55 hr_55 => ?_)
                      have hr_55 : r_55 = bI (thP (gs4 bk3.toNatClampNeg) (gl4 bk3.toNatClampNeg)) := hr_55
                      refine lv_if_ne (tgt := 210) hx hb dX4_gather_205 (by decide) (fun c_56 => ?_) (fun c_56 => ?_)
                      · skip
                        have b_57 : (thP (gs4 bk3.toNatClampNeg) (gl4 bk3.toNatClampNeg)) := bI_1 (by rw [← hr_55]; exact c_56)
                        have ev : gs4 bk3.toNatClampNeg = lN (nbs M (off (blA bl k)) 8) ∧ gl4 bk3.toNatClampNeg = lN (nbs M (off (blA bl k) + 8) 4) := by rw [hix, egs, egl, pk_uLs, pk_uLs]; exact ⟨rfl, rfl⟩
                        have hno : ¬ (nbs M (off (blA bl k) + 12) 2 / 4 % 2 = 1 ∨ (po = true ∧ ¬ nbs M (off (blA bl k) + 12) 2 / 2 % 2 = 1) ∨ ¬ thP (lN (nbs M (off (blA bl k)) 8)) (lN (nbs M (off (blA bl k) + 8) 4))) := by
                          rintro (z | z | z)
                          · exact hn4 z
                          · exact hcb z
                          · exact z (by have := b_57; rw [ev.1, ev.2] at this; exact this)
                        refine lv_iload hx hb dX4_gather_210 (lv_at hl 1 rfl) ?_
                        refine lv_iconst (v := 1) hx hb dX4_gather_212 (by decide) ?_
                        refine lv_iand hx hb dX4_gather_213 ?_
                        refine lv_if_eq (tgt := 221) hx hb dX4_gather_214 (by decide) (fun c_58 => ?_) (fun c_58 => ?_)
                        · skip
                          have hmr : ¬ nbs M (off (blA bl k) + 12) 2 % 2 = 1 := (mk_1 hmk).mp (by rw [← emk]; exact c_58)
                          refine lv_iconst (v := 0) hx hb dX4_gather_221 (by decide) ?_
                          refine lv_istore_n (lv' := [(3, .int 0), (7, .int 0), (6, .int x_13), (4, .long x_6), (2, .int y), (0, .ref o), (1, .int x)]) hx hb dX4_gather_222 rfl hl (by decide) rfl (fun ls hl => ?_)
                          refine lv_aload_n hx hb dX4_gather_223 rfl (lv_at hl 5 rfl) ?_
                          refine lv_lload hx hb dX4_gather_224 (lv_at hl 3 rfl) ?_
                          refine lv_ldc2 (v := 14) hx hb hown (hw _ w_aa6d76f0d0) dX4_gather_226 ?_
                          refine lv_ladd hx hb dX4_gather_229 ?_
                          refine lv_iconst (v := 2) hx hb dX4_gather_230 (by decide) ?_
                          have hPc := hP.sub (ws' := [(o, .inr (4, [.int cd, .int sc, .ref qm, .ref qd, .int ch, .int fe, .int sz, .int rd, .int ca, .int sx, .ref qp, .int co, .int gi, .int aw, .int cg, .int bk3, .ref qs, .ref ql, .ref qo, .int ax, .long wi])), (qm, .inl (cJ, 8192, .inr (.inl (mL M))))]) [0, 2] rfl
                          have hKc := hK.sub (tys' := [(cJ, .long)]) [0] rfl
                          have hZc := (hZ.kept hS.2.1).narrow (B := fun _ => False) (fun _ h => h.elim)
                          refine vp_callSl (va_runV (As := [.long (x_6 + 14), .int 2]) (rest := []) ⟨hx, hb, hml, hown, hw⟩ (m_number l dC dI o cd sc qm qd ch fe sz rd ca sx qp co gi aw cg bk3 qs ql qo ax wi cJ M (x_6 + 14) 2 2 (off (blA bl k) + 14) rfl (by decide) (by rw [ebl]; exact (off_plus hth (show 14 < 16 by decide) (by decide)).1) (by have := (off_0 hth (by decide) (by decide)).2; omega) hM) (cwV 2 hw (gV w_b394cd0f6f w_fab48a5191 w_cc770dbe30 w_2b384744dc w_c1a5c9b18f) rfl rfl rfl (by decide +kernel) ⟨Nat.le_of_ble_eq_true rfl, Nat.le_of_ble_eq_true rfl⟩) ⟨fun a U g mk q => by obtain ⟨q0, qP, qK, qZ⟩ := q; exact ⟨q0, qP, va_K.moved (u := U) (U := U.calling g mk a) (Vm.Alike.refl U.vm) qK, ZZ.same (u := U) (U := U.calling g mk a) rfl qZ⟩, va_recv hKc hPc (ci := 4) (q0 := 0) rfl rfl, fun U hU hW => ⟨rfl, by rw [hU]; exact hPc, va_K.moved hW.alike hKc, by rw [hU]; exact ZZ.warm hW hZc⟩⟩ rfl rfl hl.1 rfl (lv_room (Nat.le_of_ble_eq_true rfl)) dX4_gather_231 ⟨Nat.zero_le _, Nat.zero_le _⟩).run (fun r_59 hr_59 => ?_)
                          have hr_59 : r_59 = lN (nbs M (off (blA bl k) + 14) 2) := hr_59
                          refine lv_l2i (v := r_59.toInt32) hx hb dX4_gather_234 rfl ?_
                          refine lv_topi (fun x_60 ex_60 => ?_)
                          refine lv_istore_n (lv' := [(2, .int x_60), (3, .int 0), (7, .int 0), (6, .int x_13), (4, .long x_6), (0, .ref o), (1, .int x)]) hx hb dX4_gather_235 rfl hl (by decide) rfl (fun ls hl => ?_)
                          refine lv_aload_n hx hb dX4_gather_236 rfl (lv_at hl 5 rfl) ?_
                          refine lv_dup hx hb dX4_gather_237 rfl ?_
                          refine va_get (D := (dC, dI)) (ci := 4) (v := .int bk3) (C := RX4) (T := TX4) (N := 21) hx hb hw inX4 hown hK hP 0 rfl rfl 15 (by decide) (hw _ w_f0da19b997) (fun _ h9 => h9) rfl dX4_gather_238 ?_
                          refine lv_iconst (v := 1) hx hb dX4_gather_241 (by decide) ?_
                          refine lv_iadd hx hb dX4_gather_242 ?_
                          refine lv_topi (fun x_61 ex_61 => ?_)
                          refine va_put (D := (dC, dI)) (ci := 4) (v := .int x_61) (ty := .int) (C := RX4) (T := TX4) (N := 21) hx hb hw inX4 tyX4 tyX4_ok nmX4 hown hK hP hD hS 0 rfl rfl 15 (by decide) (hw _ w_f0da19b997) (fun _ h9 => h9) rfl (by decide +kernel) rfl rfl (Nat.le_of_ble_eq_true rfl) dX4_gather_243 (fun H locs hP hD hS => ?_)
                          have hP : va_P (dC, dI) vwCl [(o, .inr (4, [.int cd, .int sc, .ref qm, .ref qd, .int ch, .int fe, .int sz, .int rd, .int ca, .int sx, .ref qp, .int co, .int gi, .int aw, .int cg, .int x_61, .ref qs, .ref ql, .ref qo, .int ax, .long wi])), (qp, .inl (cJ, 3, .inr (.inl (pl3 bl of an)))), (qm, .inl (cJ, 8192, .inr (.inl (mL M)))), (qs, .inl (cJ, 16, .inr (.inl gs4))), (ql, .inl (cJ, 16, .inr (.inl gl4))), (qo, .inl (cZ, 16, .inl go4))] H := hP
                          have hD : va_D A [(o, .inr (4, [.int cd, .int sc, .ref qm, .ref qd, .int ch, .int fe, .int sz, .int rd, .int ca, .int sx, .ref qp, .int co, .int gi, .int aw, .int cg, .int x_61, .ref qs, .ref ql, .ref qo, .int ax, .long wi])), (qp, .inl (cJ, 3, .inr (.inl (pl3 bl of an)))), (qm, .inl (cJ, 8192, .inr (.inl (mL M)))), (qs, .inl (cJ, 16, .inr (.inl gs4))), (ql, .inl (cJ, 16, .inr (.inl gl4))), (qo, .inl (cZ, 16, .inl go4))] := hD
                          refine lv_goto (tgt := 9) hx hb dX4_gather_246 (by decide) ?_
                          exact ih f (nbs M (off (blA bl k) + 14) 2) (decide (nbs M (off (blA bl k) + 12) 2 / 2 % 2 = 1)) (acc ++ [(lN (nbs M (off (blA bl k)) 8), nbs M (off (blA bl k) + 8) 4, decide (nbs M (off (blA bl k) + 12) 2 / 2 % 2 = 1))]) 0 x_60 x_61 gs4 gl4 go4 (⟨fun z => absurd z (by decide), by have := hN.1 hm1; omega⟩) (Or.inr ⟨rfl, by simp, by rw [← hs, gat, if_pos ⟨hkn, hth⟩, if_neg hno, if_neg hmr]⟩) (hrp4) (by rw [ex_61, hbk, List.length_append]; exact nI_1 _) (⟨fun z => by simp at z, fun _ => by rw [List.length_append, ego]; exact pk_us⟩) (by rw [List.length_append]; show acc.length + 1 ≤ n; omega) (fun b hb => (List.mem_append.mp hb).elim (hle b) (fun z => by rw [List.mem_singleton.mp z]; exact nbs_lt hM _ 4)) _ _ (hP.sub [0, 1, 2, 3, 4, 5] rfl) (hD.sub [0, 1, 2, 3, 4, 5] (by decide) rfl) hS ls (lv_sub hl [1, 0, 5, 6] rfl)
                        · skip
                          have hmr : nbs M (off (blA bl k) + 12) 2 % 2 = 1 := Decidable.byContradiction fun z => c_58 (by rw [emk]; exact (mk_1 hmk).mpr z)
                          refine lv_iconst (v := 1) hx hb dX4_gather_217 (by decide) ?_
                          refine lv_goto (tgt := 222) hx hb dX4_gather_218 (by decide) ?_
                          refine lv_istore_n (lv' := [(3, .int 1), (7, .int 0), (6, .int x_13), (4, .long x_6), (2, .int y), (0, .ref o), (1, .int x)]) hx hb dX4_gather_222 rfl hl (by decide) rfl (fun ls hl => ?_)
                          refine lv_aload_n hx hb dX4_gather_223 rfl (lv_at hl 5 rfl) ?_
                          refine lv_lload hx hb dX4_gather_224 (lv_at hl 3 rfl) ?_
                          refine lv_ldc2 (v := 14) hx hb hown (hw _ w_aa6d76f0d0) dX4_gather_226 ?_
                          refine lv_ladd hx hb dX4_gather_229 ?_
                          refine lv_iconst (v := 2) hx hb dX4_gather_230 (by decide) ?_
                          have hPc := hP.sub (ws' := [(o, .inr (4, [.int cd, .int sc, .ref qm, .ref qd, .int ch, .int fe, .int sz, .int rd, .int ca, .int sx, .ref qp, .int co, .int gi, .int aw, .int cg, .int bk3, .ref qs, .ref ql, .ref qo, .int ax, .long wi])), (qm, .inl (cJ, 8192, .inr (.inl (mL M))))]) [0, 2] rfl
                          have hKc := hK.sub (tys' := [(cJ, .long)]) [0] rfl
                          have hZc := (hZ.kept hS.2.1).narrow (B := fun _ => False) (fun _ h => h.elim)
                          refine vp_callSl (va_runV (As := [.long (x_6 + 14), .int 2]) (rest := []) ⟨hx, hb, hml, hown, hw⟩ (m_number l dC dI o cd sc qm qd ch fe sz rd ca sx qp co gi aw cg bk3 qs ql qo ax wi cJ M (x_6 + 14) 2 2 (off (blA bl k) + 14) rfl (by decide) (by rw [ebl]; exact (off_plus hth (show 14 < 16 by decide) (by decide)).1) (by have := (off_0 hth (by decide) (by decide)).2; omega) hM) (cwV 2 hw (gV w_b394cd0f6f w_fab48a5191 w_cc770dbe30 w_2b384744dc w_c1a5c9b18f) rfl rfl rfl (by decide +kernel) ⟨Nat.le_of_ble_eq_true rfl, Nat.le_of_ble_eq_true rfl⟩) ⟨fun a U g mk q => by obtain ⟨q0, qP, qK, qZ⟩ := q; exact ⟨q0, qP, va_K.moved (u := U) (U := U.calling g mk a) (Vm.Alike.refl U.vm) qK, ZZ.same (u := U) (U := U.calling g mk a) rfl qZ⟩, va_recv hKc hPc (ci := 4) (q0 := 0) rfl rfl, fun U hU hW => ⟨rfl, by rw [hU]; exact hPc, va_K.moved hW.alike hKc, by rw [hU]; exact ZZ.warm hW hZc⟩⟩ rfl rfl hl.1 rfl (lv_room (Nat.le_of_ble_eq_true rfl)) dX4_gather_231 ⟨Nat.zero_le _, Nat.zero_le _⟩).run (fun r_62 hr_62 => ?_)
                          have hr_62 : r_62 = lN (nbs M (off (blA bl k) + 14) 2) := hr_62
                          refine lv_l2i (v := r_62.toInt32) hx hb dX4_gather_234 rfl ?_
                          refine lv_topi (fun x_63 ex_63 => ?_)
                          refine lv_istore_n (lv' := [(2, .int x_63), (3, .int 1), (7, .int 0), (6, .int x_13), (4, .long x_6), (0, .ref o), (1, .int x)]) hx hb dX4_gather_235 rfl hl (by decide) rfl (fun ls hl => ?_)
                          refine lv_aload_n hx hb dX4_gather_236 rfl (lv_at hl 5 rfl) ?_
                          refine lv_dup hx hb dX4_gather_237 rfl ?_
                          refine va_get (D := (dC, dI)) (ci := 4) (v := .int bk3) (C := RX4) (T := TX4) (N := 21) hx hb hw inX4 hown hK hP 0 rfl rfl 15 (by decide) (hw _ w_f0da19b997) (fun _ h9 => h9) rfl dX4_gather_238 ?_
                          refine lv_iconst (v := 1) hx hb dX4_gather_241 (by decide) ?_
                          refine lv_iadd hx hb dX4_gather_242 ?_
                          refine lv_topi (fun x_64 ex_64 => ?_)
                          refine va_put (D := (dC, dI)) (ci := 4) (v := .int x_64) (ty := .int) (C := RX4) (T := TX4) (N := 21) hx hb hw inX4 tyX4 tyX4_ok nmX4 hown hK hP hD hS 0 rfl rfl 15 (by decide) (hw _ w_f0da19b997) (fun _ h9 => h9) rfl (by decide +kernel) rfl rfl (Nat.le_of_ble_eq_true rfl) dX4_gather_243 (fun H locs hP hD hS => ?_)
                          have hP : va_P (dC, dI) vwCl [(o, .inr (4, [.int cd, .int sc, .ref qm, .ref qd, .int ch, .int fe, .int sz, .int rd, .int ca, .int sx, .ref qp, .int co, .int gi, .int aw, .int cg, .int x_64, .ref qs, .ref ql, .ref qo, .int ax, .long wi])), (qp, .inl (cJ, 3, .inr (.inl (pl3 bl of an)))), (qm, .inl (cJ, 8192, .inr (.inl (mL M)))), (qs, .inl (cJ, 16, .inr (.inl gs4))), (ql, .inl (cJ, 16, .inr (.inl gl4))), (qo, .inl (cZ, 16, .inl go4))] H := hP
                          have hD : va_D A [(o, .inr (4, [.int cd, .int sc, .ref qm, .ref qd, .int ch, .int fe, .int sz, .int rd, .int ca, .int sx, .ref qp, .int co, .int gi, .int aw, .int cg, .int x_64, .ref qs, .ref ql, .ref qo, .int ax, .long wi])), (qp, .inl (cJ, 3, .inr (.inl (pl3 bl of an)))), (qm, .inl (cJ, 8192, .inr (.inl (mL M)))), (qs, .inl (cJ, 16, .inr (.inl gs4))), (ql, .inl (cJ, 16, .inr (.inl gl4))), (qo, .inl (cZ, 16, .inl go4))] := hD
                          refine lv_goto (tgt := 9) hx hb dX4_gather_246 (by decide) ?_
                          exact ih f (nbs M (off (blA bl k) + 14) 2) (decide (nbs M (off (blA bl k) + 12) 2 / 2 % 2 = 1)) (acc ++ [(lN (nbs M (off (blA bl k)) 8), nbs M (off (blA bl k) + 8) 4, decide (nbs M (off (blA bl k) + 12) 2 / 2 % 2 = 1))]) 1 x_63 x_64 gs4 gl4 go4 (⟨fun _ => by have := hN.1 hm1; omega, by have := hN.1 hm1; omega⟩) (Or.inl ⟨rfl, by rw [ex_63, hr_62, lN_i], nbs_lt hM _ 2, by rw [List.length_append]; show acc.length + 1 + f = n; omega, by rw [← hs, gat, if_pos ⟨hkn, hth⟩, if_neg hno, if_pos hmr]⟩) (hrp4) (by rw [ex_64, hbk, List.length_append]; exact nI_1 _) (⟨fun z => by simp at z, fun _ => by rw [List.length_append, ego]; exact pk_us⟩) (by rw [List.length_append]; show acc.length + 1 ≤ n; omega) (fun b hb => (List.mem_append.mp hb).elim (hle b) (fun z => by rw [List.mem_singleton.mp z]; exact nbs_lt hM _ 4)) _ _ (hP.sub [0, 1, 2, 3, 4, 5] rfl) (hD.sub [0, 1, 2, 3, 4, 5] (by decide) rfl) hS ls (lv_sub hl [1, 0, 5, 6] rfl)
                      · skip
                        have b_65 : ¬ (thP (gs4 bk3.toNatClampNeg) (gl4 bk3.toNatClampNeg)) := bI_0 (by rw [← hr_55]; exact c_56)
                        have ev : gs4 bk3.toNatClampNeg = lN (nbs M (off (blA bl k)) 8) ∧ gl4 bk3.toNatClampNeg = lN (nbs M (off (blA bl k) + 8) 4) := by rw [hix, egs, egl, pk_uLs, pk_uLs]; exact ⟨rfl, rfl⟩
                        have hnone : gat M bl n n k0 false [] = none := by rw [← hs, gat, if_pos ⟨hkn, hth⟩, if_pos (Or.inr (Or.inr (by have := b_65; rw [ev.1, ev.2] at this; exact this)))]
                        refine lv_iconst (v := 0) hx hb dX4_gather_208 (by decide) ?_
                        have hP9 : va_P (dC, dI) vwCl [(o, .inr (4, [.int cd, .int sc, .ref qm, .ref qd, .int ch, .int fe, .int sz, .int rd, .int ca, .int sx, .ref qp, .int co, .int gi, .int aw, .int cg, .int bk3, .ref qs, .ref ql, .ref qo, .int ax, .long wi])), (qp, .inl (cJ, 3, .inr (.inl (pl3 bl of an)))), (qm, .inl (cJ, 8192, .inr (.inl (mL M)))), (qs, .inl (cJ, 16, .inr (.inl gs4))), (ql, .inl (cJ, 16, .inr (.inl gl4))), (qo, .inl (cZ, 16, .inl go4))] H := by exact hP.sub (ws' := [(o, .inr (4, [.int cd, .int sc, .ref qm, .ref qd, .int ch, .int fe, .int sz, .int rd, .int ca, .int sx, .ref qp, .int co, .int gi, .int aw, .int cg, .int bk3, .ref qs, .ref ql, .ref qo, .int ax, .long wi])), (qp, .inl (cJ, 3, .inr (.inl (pl3 bl of an)))), (qm, .inl (cJ, 8192, .inr (.inl (mL M)))), (qs, .inl (cJ, 16, .inr (.inl gs4))), (ql, .inl (cJ, 16, .inr (.inl gl4))), (qo, .inl (cZ, 16, .inl go4))]) [0, 1, 2, 3, 4, 5] rfl
                        have hD9 : va_D A [(o, .inr (4, [.int cd, .int sc, .ref qm, .ref qd, .int ch, .int fe, .int sz, .int rd, .int ca, .int sx, .ref qp, .int co, .int gi, .int aw, .int cg, .int bk3, .ref qs, .ref ql, .ref qo, .int ax, .long wi])), (qp, .inl (cJ, 3, .inr (.inl (pl3 bl of an)))), (qm, .inl (cJ, 8192, .inr (.inl (mL M)))), (qs, .inl (cJ, 16, .inr (.inl gs4))), (ql, .inl (cJ, 16, .inr (.inl gl4))), (qo, .inl (cZ, 16, .inl go4))] := by exact hD.sub (ws' := [(o, .inr (4, [.int cd, .int sc, .ref qm, .ref qd, .int ch, .int fe, .int sz, .int rd, .int ca, .int sx, .ref qp, .int co, .int gi, .int aw, .int cg, .int bk3, .ref qs, .ref ql, .ref qo, .int ax, .long wi])), (qp, .inl (cJ, 3, .inr (.inl (pl3 bl of an)))), (qm, .inl (cJ, 8192, .inr (.inl (mL M)))), (qs, .inl (cJ, 16, .inr (.inl gs4))), (ql, .inl (cJ, 16, .inr (.inl gl4))), (qo, .inl (cZ, 16, .inl go4))]) [0, 1, 2, 3, 4, 5] (by decide) rfl
                        have hK9 := hK.sub (tys' := [(cJ, .long), (cZ, .boolean)]) [0, 1] rfl
                        exact W.zret (v := 0) hx hb hr rfl (fun t ht hW => ⟨⟨_, (bk3, gs4, gl4, go4), rfl, ⟨by rw [hnone]; exact (bI_f finB_n).symm, fun L z => by rw [hnone] at z; cases z⟩, by rw [ht]; exact hP9, va_K.moved hW.alike hK9, hD9⟩, hS.F ht⟩) hS.2.2 dX4_gather_209
                · skip
                  have hl0 : acc.length ≠ 0 := fun z => c_52 (by rw [hbk, z]; decide)
                  have hg1 : go4 (bk3 - 1).toNatClampNeg = bI (po = true) := by rw [hbk, nI_sub1 hl0, nI_clamp (by omega), ego, pk_un (by omega)]; exact hpo.2 hl0
                  refine lv_aload_n hx hb dX4_gather_139 rfl (lv_at hl 4 rfl) ?_
                  refine va_get (D := (dC, dI)) (ci := 4) (v := .ref qo) (C := RX4) (T := TX4) (N := 21) hx hb hw inX4 hown hK hP 0 rfl rfl 18 (by decide) (hw _ w_3d33b1130a) (fun _ h9 => h9) rfl dX4_gather_140 ?_
                  refine lv_aload_n hx hb dX4_gather_143 rfl (lv_at hl 4 rfl) ?_
                  refine va_get (D := (dC, dI)) (ci := 4) (v := .int bk3) (C := RX4) (T := TX4) (N := 21) hx hb hw inX4 hown hK hP 0 rfl rfl 15 (by decide) (hw _ w_f0da19b997) (fun _ h9 => h9) rfl dX4_gather_144 ?_
                  refine lv_iconst (v := 1) hx hb dX4_gather_147 (by decide) ?_
                  refine lv_isub hx hb dX4_gather_148 ?_
                  refine va_zald hx hb hK hP 5 1 rfl rfl (by rw [hbk, nI_sub1 hl0]; exact vp_in_nI (by omega) (by omega)) dX4_gather_149 ?_
                  refine lv_if_eq (tgt := 169) hx hb dX4_gather_150 (by decide) (fun c_66 => ?_) (fun c_66 => ?_)
                  · skip
                    have hcb : ¬ (po = true ∧ ¬ nbs M (off (blA bl k) + 12) 2 / 2 % 2 = 1) := fun z => by rw [hg1, bI_n0] at c_66; rw [c_66] at z; exact absurd z.1 (by decide)
                    refine lv_iconst (v := 0) hx hb dX4_gather_169 (by decide) ?_
                    refine lv_istore (lv' := [(7, .int 0), (6, .int x_13), (4, .long x_6), (3, .int mo), (2, .int y), (0, .ref o), (1, .int x)]) hx hb dX4_gather_170 hl (by decide) rfl (fun ls hl => ?_)
                    refine lv_iload hx hb dX4_gather_172 (lv_at hl 1 rfl) ?_
                    refine lv_iconst (v := 4) hx hb dX4_gather_174 (by decide) ?_
                    refine lv_iand hx hb dX4_gather_175 ?_
                    refine lv_if_ne (tgt := 208) hx hb dX4_gather_176 (by decide) (fun c_67 => ?_) (fun c_67 => ?_)
                    · skip
                      have hnone : gat M bl n n k0 false [] = none := by rw [← hs, gat, if_pos ⟨hkn, hth⟩, if_pos (Or.inl (Decidable.byContradiction fun z => c_67 (by rw [emk]; exact (mk_4 hmk).mpr z)))]
                      refine lv_iconst (v := 0) hx hb dX4_gather_208 (by decide) ?_
                      have hP9 : va_P (dC, dI) vwCl [(o, .inr (4, [.int cd, .int sc, .ref qm, .ref qd, .int ch, .int fe, .int sz, .int rd, .int ca, .int sx, .ref qp, .int co, .int gi, .int aw, .int cg, .int bk3, .ref qs, .ref ql, .ref qo, .int ax, .long wi])), (qp, .inl (cJ, 3, .inr (.inl (pl3 bl of an)))), (qm, .inl (cJ, 8192, .inr (.inl (mL M)))), (qs, .inl (cJ, 16, .inr (.inl gs4))), (ql, .inl (cJ, 16, .inr (.inl gl4))), (qo, .inl (cZ, 16, .inl go4))] H := by exact hP.sub (ws' := [(o, .inr (4, [.int cd, .int sc, .ref qm, .ref qd, .int ch, .int fe, .int sz, .int rd, .int ca, .int sx, .ref qp, .int co, .int gi, .int aw, .int cg, .int bk3, .ref qs, .ref ql, .ref qo, .int ax, .long wi])), (qp, .inl (cJ, 3, .inr (.inl (pl3 bl of an)))), (qm, .inl (cJ, 8192, .inr (.inl (mL M)))), (qs, .inl (cJ, 16, .inr (.inl gs4))), (ql, .inl (cJ, 16, .inr (.inl gl4))), (qo, .inl (cZ, 16, .inl go4))]) [0, 1, 2, 3, 4, 5] rfl
                      have hD9 : va_D A [(o, .inr (4, [.int cd, .int sc, .ref qm, .ref qd, .int ch, .int fe, .int sz, .int rd, .int ca, .int sx, .ref qp, .int co, .int gi, .int aw, .int cg, .int bk3, .ref qs, .ref ql, .ref qo, .int ax, .long wi])), (qp, .inl (cJ, 3, .inr (.inl (pl3 bl of an)))), (qm, .inl (cJ, 8192, .inr (.inl (mL M)))), (qs, .inl (cJ, 16, .inr (.inl gs4))), (ql, .inl (cJ, 16, .inr (.inl gl4))), (qo, .inl (cZ, 16, .inl go4))] := by exact hD.sub (ws' := [(o, .inr (4, [.int cd, .int sc, .ref qm, .ref qd, .int ch, .int fe, .int sz, .int rd, .int ca, .int sx, .ref qp, .int co, .int gi, .int aw, .int cg, .int bk3, .ref qs, .ref ql, .ref qo, .int ax, .long wi])), (qp, .inl (cJ, 3, .inr (.inl (pl3 bl of an)))), (qm, .inl (cJ, 8192, .inr (.inl (mL M)))), (qs, .inl (cJ, 16, .inr (.inl gs4))), (ql, .inl (cJ, 16, .inr (.inl gl4))), (qo, .inl (cZ, 16, .inl go4))]) [0, 1, 2, 3, 4, 5] (by decide) rfl
                      have hK9 := hK.sub (tys' := [(cJ, .long), (cZ, .boolean)]) [0, 1] rfl
                      exact W.zret (v := 0) hx hb hr rfl (fun t ht hW => ⟨⟨_, (bk3, gs4, gl4, go4), rfl, ⟨by rw [hnone]; exact (bI_f finB_n).symm, fun L z => by rw [hnone] at z; cases z⟩, by rw [ht]; exact hP9, va_K.moved hW.alike hK9, hD9⟩, hS.F ht⟩) hS.2.2 dX4_gather_209
                    · skip
                      have hn4 : ¬ nbs M (off (blA bl k) + 12) 2 / 4 % 2 = 1 := (mk_4 hmk).mp (by rw [← emk]; exact c_67)
                      refine lv_iload hx hb dX4_gather_179 (lv_at hl 0 rfl) ?_
                      refine lv_if_ne (tgt := 208) hx hb dX4_gather_181 (by decide) (fun c_68 => ?_) (fun c_68 => ?_)
                      · skip
                        exact absurd c_68 (by decide)
                      · skip
                        refine lv_aload_n hx hb dX4_gather_184 rfl (lv_at hl 5 rfl) ?_
                        refine va_get (D := (dC, dI)) (ci := 4) (v := .ref qs) (C := RX4) (T := TX4) (N := 21) hx hb hw inX4 hown hK hP 0 rfl rfl 16 (by decide) (hw _ w_c92d01c177) (fun _ h9 => h9) rfl dX4_gather_185 ?_
                        refine lv_aload_n hx hb dX4_gather_188 rfl (lv_at hl 5 rfl) ?_
                        refine va_get (D := (dC, dI)) (ci := 4) (v := .int bk3) (C := RX4) (T := TX4) (N := 21) hx hb hw inX4 hown hK hP 0 rfl rfl 15 (by decide) (hw _ w_f0da19b997) (fun _ h9 => h9) rfl dX4_gather_189 ?_
                        refine va_lald hx hb hK hP 3 0 rfl rfl (by rw [hbk]; exact vp_in_nI (by omega) (by omega)) dX4_gather_192 ?_
                        refine lv_aload_n hx hb dX4_gather_193 rfl (lv_at hl 5 rfl) ?_
                        refine va_get (D := (dC, dI)) (ci := 4) (v := .ref ql) (C := RX4) (T := TX4) (N := 21) hx hb hw inX4 hown hK hP 0 rfl rfl 17 (by decide) (hw _ w_c20510a516) (fun _ h9 => h9) rfl dX4_gather_194 ?_
                        refine lv_aload_n hx hb dX4_gather_197 rfl (lv_at hl 5 rfl) ?_
                        refine va_get (D := (dC, dI)) (ci := 4) (v := .int bk3) (C := RX4) (T := TX4) (N := 21) hx hb hw inX4 hown hK hP 0 rfl rfl 15 (by decide) (hw _ w_f0da19b997) (fun _ h9 => h9) rfl dX4_gather_198 ?_
                        refine va_lald hx hb hK hP 4 0 rfl rfl (by rw [hbk]; exact vp_in_nI (by omega) (by omega)) dX4_gather_201 ?_
                        have hPc := hP.sub (ws' := []) [] rfl
                        have hKc := hK.sub (tys' := []) [] rfl
                        have hZc := (hZ.kept hS.2.1).narrow (B := fun _ => False) (fun _ h => h.elim)
                        refine vp_callSi (va_runS (As := [.long (gs4 bk3.toNatClampNeg), .long (gl4 bk3.toNatClampNeg)]) (rest := []) ⟨hx, hb, hml, hown, hw⟩ (m_isThere l dC dI (gs4 bk3.toNatClampNeg) (gl4 bk3.toNatClampNeg)) (va_cwS 2 hw (gS w_e4da178cff w_3b07a2b4f7 w_2b384744dc w_a857523ad5) rfl rfl rfl (by decide +kernel) ⟨Nat.le_of_ble_eq_true rfl, Nat.le_of_ble_eq_true rfl⟩) ⟨fun a U g mk q => by obtain ⟨q0, qP, qK, qZ⟩ := q; exact ⟨q0, qP, va_K.moved (u := U) (U := U.calling g mk a) (Vm.Alike.refl U.vm) qK, ZZ.same (u := U) (U := U.calling g mk a) rfl qZ⟩, fun U hU hW => ⟨rfl, by rw [hU]; exact hPc, va_K.moved hW.alike hKc, by rw [hU]; exact ZZ.warm hW hZc⟩⟩ rfl rfl hl.1 rfl (lv_room (Nat.le_of_ble_eq_true rfl)) dX4_gather_202 ⟨Nat.zero_le _, Nat.zero_le _⟩).run (fun r_69 hr_69 => ?_)
                        have hr_69 : r_69 = bI (thP (gs4 bk3.toNatClampNeg) (gl4 bk3.toNatClampNeg)) := hr_69
                        refine lv_if_ne (tgt := 210) hx hb dX4_gather_205 (by decide) (fun c_70 => ?_) (fun c_70 => ?_)
                        · skip
                          have b_71 : (thP (gs4 bk3.toNatClampNeg) (gl4 bk3.toNatClampNeg)) := bI_1 (by rw [← hr_69]; exact c_70)
                          have ev : gs4 bk3.toNatClampNeg = lN (nbs M (off (blA bl k)) 8) ∧ gl4 bk3.toNatClampNeg = lN (nbs M (off (blA bl k) + 8) 4) := by rw [hix, egs, egl, pk_uLs, pk_uLs]; exact ⟨rfl, rfl⟩
                          have hno : ¬ (nbs M (off (blA bl k) + 12) 2 / 4 % 2 = 1 ∨ (po = true ∧ ¬ nbs M (off (blA bl k) + 12) 2 / 2 % 2 = 1) ∨ ¬ thP (lN (nbs M (off (blA bl k)) 8)) (lN (nbs M (off (blA bl k) + 8) 4))) := by
                            rintro (z | z | z)
                            · exact hn4 z
                            · exact hcb z
                            · exact z (by have := b_71; rw [ev.1, ev.2] at this; exact this)
                          refine lv_iload hx hb dX4_gather_210 (lv_at hl 1 rfl) ?_
                          refine lv_iconst (v := 1) hx hb dX4_gather_212 (by decide) ?_
                          refine lv_iand hx hb dX4_gather_213 ?_
                          refine lv_if_eq (tgt := 221) hx hb dX4_gather_214 (by decide) (fun c_72 => ?_) (fun c_72 => ?_)
                          · skip
                            have hmr : ¬ nbs M (off (blA bl k) + 12) 2 % 2 = 1 := (mk_1 hmk).mp (by rw [← emk]; exact c_72)
                            refine lv_iconst (v := 0) hx hb dX4_gather_221 (by decide) ?_
                            refine lv_istore_n (lv' := [(3, .int 0), (7, .int 0), (6, .int x_13), (4, .long x_6), (2, .int y), (0, .ref o), (1, .int x)]) hx hb dX4_gather_222 rfl hl (by decide) rfl (fun ls hl => ?_)
                            refine lv_aload_n hx hb dX4_gather_223 rfl (lv_at hl 5 rfl) ?_
                            refine lv_lload hx hb dX4_gather_224 (lv_at hl 3 rfl) ?_
                            refine lv_ldc2 (v := 14) hx hb hown (hw _ w_aa6d76f0d0) dX4_gather_226 ?_
                            refine lv_ladd hx hb dX4_gather_229 ?_
                            refine lv_iconst (v := 2) hx hb dX4_gather_230 (by decide) ?_
                            have hPc := hP.sub (ws' := [(o, .inr (4, [.int cd, .int sc, .ref qm, .ref qd, .int ch, .int fe, .int sz, .int rd, .int ca, .int sx, .ref qp, .int co, .int gi, .int aw, .int cg, .int bk3, .ref qs, .ref ql, .ref qo, .int ax, .long wi])), (qm, .inl (cJ, 8192, .inr (.inl (mL M))))]) [0, 2] rfl
                            have hKc := hK.sub (tys' := [(cJ, .long)]) [0] rfl
                            have hZc := (hZ.kept hS.2.1).narrow (B := fun _ => False) (fun _ h => h.elim)
                            refine vp_callSl (va_runV (As := [.long (x_6 + 14), .int 2]) (rest := []) ⟨hx, hb, hml, hown, hw⟩ (m_number l dC dI o cd sc qm qd ch fe sz rd ca sx qp co gi aw cg bk3 qs ql qo ax wi cJ M (x_6 + 14) 2 2 (off (blA bl k) + 14) rfl (by decide) (by rw [ebl]; exact (off_plus hth (show 14 < 16 by decide) (by decide)).1) (by have := (off_0 hth (by decide) (by decide)).2; omega) hM) (cwV 2 hw (gV w_b394cd0f6f w_fab48a5191 w_cc770dbe30 w_2b384744dc w_c1a5c9b18f) rfl rfl rfl (by decide +kernel) ⟨Nat.le_of_ble_eq_true rfl, Nat.le_of_ble_eq_true rfl⟩) ⟨fun a U g mk q => by obtain ⟨q0, qP, qK, qZ⟩ := q; exact ⟨q0, qP, va_K.moved (u := U) (U := U.calling g mk a) (Vm.Alike.refl U.vm) qK, ZZ.same (u := U) (U := U.calling g mk a) rfl qZ⟩, va_recv hKc hPc (ci := 4) (q0 := 0) rfl rfl, fun U hU hW => ⟨rfl, by rw [hU]; exact hPc, va_K.moved hW.alike hKc, by rw [hU]; exact ZZ.warm hW hZc⟩⟩ rfl rfl hl.1 rfl (lv_room (Nat.le_of_ble_eq_true rfl)) dX4_gather_231 ⟨Nat.zero_le _, Nat.zero_le _⟩).run (fun r_73 hr_73 => ?_)
                            have hr_73 : r_73 = lN (nbs M (off (blA bl k) + 14) 2) := hr_73
                            refine lv_l2i (v := r_73.toInt32) hx hb dX4_gather_234 rfl ?_
                            refine lv_topi (fun x_74 ex_74 => ?_)
                            refine lv_istore_n (lv' := [(2, .int x_74), (3, .int 0), (7, .int 0), (6, .int x_13), (4, .long x_6), (0, .ref o), (1, .int x)]) hx hb dX4_gather_235 rfl hl (by decide) rfl (fun ls hl => ?_)
                            refine lv_aload_n hx hb dX4_gather_236 rfl (lv_at hl 5 rfl) ?_
                            refine lv_dup hx hb dX4_gather_237 rfl ?_
                            refine va_get (D := (dC, dI)) (ci := 4) (v := .int bk3) (C := RX4) (T := TX4) (N := 21) hx hb hw inX4 hown hK hP 0 rfl rfl 15 (by decide) (hw _ w_f0da19b997) (fun _ h9 => h9) rfl dX4_gather_238 ?_
                            refine lv_iconst (v := 1) hx hb dX4_gather_241 (by decide) ?_
                            refine lv_iadd hx hb dX4_gather_242 ?_
                            refine lv_topi (fun x_75 ex_75 => ?_)
                            refine va_put (D := (dC, dI)) (ci := 4) (v := .int x_75) (ty := .int) (C := RX4) (T := TX4) (N := 21) hx hb hw inX4 tyX4 tyX4_ok nmX4 hown hK hP hD hS 0 rfl rfl 15 (by decide) (hw _ w_f0da19b997) (fun _ h9 => h9) rfl (by decide +kernel) rfl rfl (Nat.le_of_ble_eq_true rfl) dX4_gather_243 (fun H locs hP hD hS => ?_)
                            have hP : va_P (dC, dI) vwCl [(o, .inr (4, [.int cd, .int sc, .ref qm, .ref qd, .int ch, .int fe, .int sz, .int rd, .int ca, .int sx, .ref qp, .int co, .int gi, .int aw, .int cg, .int x_75, .ref qs, .ref ql, .ref qo, .int ax, .long wi])), (qp, .inl (cJ, 3, .inr (.inl (pl3 bl of an)))), (qm, .inl (cJ, 8192, .inr (.inl (mL M)))), (qs, .inl (cJ, 16, .inr (.inl gs4))), (ql, .inl (cJ, 16, .inr (.inl gl4))), (qo, .inl (cZ, 16, .inl go4))] H := hP
                            have hD : va_D A [(o, .inr (4, [.int cd, .int sc, .ref qm, .ref qd, .int ch, .int fe, .int sz, .int rd, .int ca, .int sx, .ref qp, .int co, .int gi, .int aw, .int cg, .int x_75, .ref qs, .ref ql, .ref qo, .int ax, .long wi])), (qp, .inl (cJ, 3, .inr (.inl (pl3 bl of an)))), (qm, .inl (cJ, 8192, .inr (.inl (mL M)))), (qs, .inl (cJ, 16, .inr (.inl gs4))), (ql, .inl (cJ, 16, .inr (.inl gl4))), (qo, .inl (cZ, 16, .inl go4))] := hD
                            refine lv_goto (tgt := 9) hx hb dX4_gather_246 (by decide) ?_
                            exact ih f (nbs M (off (blA bl k) + 14) 2) (decide (nbs M (off (blA bl k) + 12) 2 / 2 % 2 = 1)) (acc ++ [(lN (nbs M (off (blA bl k)) 8), nbs M (off (blA bl k) + 8) 4, decide (nbs M (off (blA bl k) + 12) 2 / 2 % 2 = 1))]) 0 x_74 x_75 gs4 gl4 go4 (⟨fun z => absurd z (by decide), by have := hN.1 hm1; omega⟩) (Or.inr ⟨rfl, by simp, by rw [← hs, gat, if_pos ⟨hkn, hth⟩, if_neg hno, if_neg hmr]⟩) (hrp4) (by rw [ex_75, hbk, List.length_append]; exact nI_1 _) (⟨fun z => by simp at z, fun _ => by rw [List.length_append, ego]; exact pk_us⟩) (by rw [List.length_append]; show acc.length + 1 ≤ n; omega) (fun b hb => (List.mem_append.mp hb).elim (hle b) (fun z => by rw [List.mem_singleton.mp z]; exact nbs_lt hM _ 4)) _ _ (hP.sub [0, 1, 2, 3, 4, 5] rfl) (hD.sub [0, 1, 2, 3, 4, 5] (by decide) rfl) hS ls (lv_sub hl [1, 0, 5, 6] rfl)
                          · skip
                            have hmr : nbs M (off (blA bl k) + 12) 2 % 2 = 1 := Decidable.byContradiction fun z => c_72 (by rw [emk]; exact (mk_1 hmk).mpr z)
                            refine lv_iconst (v := 1) hx hb dX4_gather_217 (by decide) ?_
                            refine lv_goto (tgt := 222) hx hb dX4_gather_218 (by decide) ?_
                            refine lv_istore_n (lv' := [(3, .int 1), (7, .int 0), (6, .int x_13), (4, .long x_6), (2, .int y), (0, .ref o), (1, .int x)]) hx hb dX4_gather_222 rfl hl (by decide) rfl (fun ls hl => ?_)
                            refine lv_aload_n hx hb dX4_gather_223 rfl (lv_at hl 5 rfl) ?_
                            refine lv_lload hx hb dX4_gather_224 (lv_at hl 3 rfl) ?_
                            refine lv_ldc2 (v := 14) hx hb hown (hw _ w_aa6d76f0d0) dX4_gather_226 ?_
                            refine lv_ladd hx hb dX4_gather_229 ?_
                            refine lv_iconst (v := 2) hx hb dX4_gather_230 (by decide) ?_
                            have hPc := hP.sub (ws' := [(o, .inr (4, [.int cd, .int sc, .ref qm, .ref qd, .int ch, .int fe, .int sz, .int rd, .int ca, .int sx, .ref qp, .int co, .int gi, .int aw, .int cg, .int bk3, .ref qs, .ref ql, .ref qo, .int ax, .long wi])), (qm, .inl (cJ, 8192, .inr (.inl (mL M))))]) [0, 2] rfl
                            have hKc := hK.sub (tys' := [(cJ, .long)]) [0] rfl
                            have hZc := (hZ.kept hS.2.1).narrow (B := fun _ => False) (fun _ h => h.elim)
                            refine vp_callSl (va_runV (As := [.long (x_6 + 14), .int 2]) (rest := []) ⟨hx, hb, hml, hown, hw⟩ (m_number l dC dI o cd sc qm qd ch fe sz rd ca sx qp co gi aw cg bk3 qs ql qo ax wi cJ M (x_6 + 14) 2 2 (off (blA bl k) + 14) rfl (by decide) (by rw [ebl]; exact (off_plus hth (show 14 < 16 by decide) (by decide)).1) (by have := (off_0 hth (by decide) (by decide)).2; omega) hM) (cwV 2 hw (gV w_b394cd0f6f w_fab48a5191 w_cc770dbe30 w_2b384744dc w_c1a5c9b18f) rfl rfl rfl (by decide +kernel) ⟨Nat.le_of_ble_eq_true rfl, Nat.le_of_ble_eq_true rfl⟩) ⟨fun a U g mk q => by obtain ⟨q0, qP, qK, qZ⟩ := q; exact ⟨q0, qP, va_K.moved (u := U) (U := U.calling g mk a) (Vm.Alike.refl U.vm) qK, ZZ.same (u := U) (U := U.calling g mk a) rfl qZ⟩, va_recv hKc hPc (ci := 4) (q0 := 0) rfl rfl, fun U hU hW => ⟨rfl, by rw [hU]; exact hPc, va_K.moved hW.alike hKc, by rw [hU]; exact ZZ.warm hW hZc⟩⟩ rfl rfl hl.1 rfl (lv_room (Nat.le_of_ble_eq_true rfl)) dX4_gather_231 ⟨Nat.zero_le _, Nat.zero_le _⟩).run (fun r_76 hr_76 => ?_)
                            have hr_76 : r_76 = lN (nbs M (off (blA bl k) + 14) 2) := hr_76
                            refine lv_l2i (v := r_76.toInt32) hx hb dX4_gather_234 rfl ?_
                            refine lv_topi (fun x_77 ex_77 => ?_)
                            refine lv_istore_n (lv' := [(2, .int x_77), (3, .int 1), (7, .int 0), (6, .int x_13), (4, .long x_6), (0, .ref o), (1, .int x)]) hx hb dX4_gather_235 rfl hl (by decide) rfl (fun ls hl => ?_)
                            refine lv_aload_n hx hb dX4_gather_236 rfl (lv_at hl 5 rfl) ?_
                            refine lv_dup hx hb dX4_gather_237 rfl ?_
                            refine va_get (D := (dC, dI)) (ci := 4) (v := .int bk3) (C := RX4) (T := TX4) (N := 21) hx hb hw inX4 hown hK hP 0 rfl rfl 15 (by decide) (hw _ w_f0da19b997) (fun _ h9 => h9) rfl dX4_gather_238 ?_
                            refine lv_iconst (v := 1) hx hb dX4_gather_241 (by decide) ?_
                            refine lv_iadd hx hb dX4_gather_242 ?_
                            refine lv_topi (fun x_78 ex_78 => ?_)
                            refine va_put (D := (dC, dI)) (ci := 4) (v := .int x_78) (ty := .int) (C := RX4) (T := TX4) (N := 21) hx hb hw inX4 tyX4 tyX4_ok nmX4 hown hK hP hD hS 0 rfl rfl 15 (by decide) (hw _ w_f0da19b997) (fun _ h9 => h9) rfl (by decide +kernel) rfl rfl (Nat.le_of_ble_eq_true rfl) dX4_gather_243 (fun H locs hP hD hS => ?_)
                            have hP : va_P (dC, dI) vwCl [(o, .inr (4, [.int cd, .int sc, .ref qm, .ref qd, .int ch, .int fe, .int sz, .int rd, .int ca, .int sx, .ref qp, .int co, .int gi, .int aw, .int cg, .int x_78, .ref qs, .ref ql, .ref qo, .int ax, .long wi])), (qp, .inl (cJ, 3, .inr (.inl (pl3 bl of an)))), (qm, .inl (cJ, 8192, .inr (.inl (mL M)))), (qs, .inl (cJ, 16, .inr (.inl gs4))), (ql, .inl (cJ, 16, .inr (.inl gl4))), (qo, .inl (cZ, 16, .inl go4))] H := hP
                            have hD : va_D A [(o, .inr (4, [.int cd, .int sc, .ref qm, .ref qd, .int ch, .int fe, .int sz, .int rd, .int ca, .int sx, .ref qp, .int co, .int gi, .int aw, .int cg, .int x_78, .ref qs, .ref ql, .ref qo, .int ax, .long wi])), (qp, .inl (cJ, 3, .inr (.inl (pl3 bl of an)))), (qm, .inl (cJ, 8192, .inr (.inl (mL M)))), (qs, .inl (cJ, 16, .inr (.inl gs4))), (ql, .inl (cJ, 16, .inr (.inl gl4))), (qo, .inl (cZ, 16, .inl go4))] := hD
                            refine lv_goto (tgt := 9) hx hb dX4_gather_246 (by decide) ?_
                            exact ih f (nbs M (off (blA bl k) + 14) 2) (decide (nbs M (off (blA bl k) + 12) 2 / 2 % 2 = 1)) (acc ++ [(lN (nbs M (off (blA bl k)) 8), nbs M (off (blA bl k) + 8) 4, decide (nbs M (off (blA bl k) + 12) 2 / 2 % 2 = 1))]) 1 x_77 x_78 gs4 gl4 go4 (⟨fun _ => by have := hN.1 hm1; omega, by have := hN.1 hm1; omega⟩) (Or.inl ⟨rfl, by rw [ex_77, hr_76, lN_i], nbs_lt hM _ 2, by rw [List.length_append]; show acc.length + 1 + f = n; omega, by rw [← hs, gat, if_pos ⟨hkn, hth⟩, if_neg hno, if_pos hmr]⟩) (hrp4) (by rw [ex_78, hbk, List.length_append]; exact nI_1 _) (⟨fun z => by simp at z, fun _ => by rw [List.length_append, ego]; exact pk_us⟩) (by rw [List.length_append]; show acc.length + 1 ≤ n; omega) (fun b hb => (List.mem_append.mp hb).elim (hle b) (fun z => by rw [List.mem_singleton.mp z]; exact nbs_lt hM _ 4)) _ _ (hP.sub [0, 1, 2, 3, 4, 5] rfl) (hD.sub [0, 1, 2, 3, 4, 5] (by decide) rfl) hS ls (lv_sub hl [1, 0, 5, 6] rfl)
                        · skip
                          have b_79 : ¬ (thP (gs4 bk3.toNatClampNeg) (gl4 bk3.toNatClampNeg)) := bI_0 (by rw [← hr_69]; exact c_70)
                          have ev : gs4 bk3.toNatClampNeg = lN (nbs M (off (blA bl k)) 8) ∧ gl4 bk3.toNatClampNeg = lN (nbs M (off (blA bl k) + 8) 4) := by rw [hix, egs, egl, pk_uLs, pk_uLs]; exact ⟨rfl, rfl⟩
                          have hnone : gat M bl n n k0 false [] = none := by rw [← hs, gat, if_pos ⟨hkn, hth⟩, if_pos (Or.inr (Or.inr (by have := b_79; rw [ev.1, ev.2] at this; exact this)))]
                          refine lv_iconst (v := 0) hx hb dX4_gather_208 (by decide) ?_
                          have hP9 : va_P (dC, dI) vwCl [(o, .inr (4, [.int cd, .int sc, .ref qm, .ref qd, .int ch, .int fe, .int sz, .int rd, .int ca, .int sx, .ref qp, .int co, .int gi, .int aw, .int cg, .int bk3, .ref qs, .ref ql, .ref qo, .int ax, .long wi])), (qp, .inl (cJ, 3, .inr (.inl (pl3 bl of an)))), (qm, .inl (cJ, 8192, .inr (.inl (mL M)))), (qs, .inl (cJ, 16, .inr (.inl gs4))), (ql, .inl (cJ, 16, .inr (.inl gl4))), (qo, .inl (cZ, 16, .inl go4))] H := by exact hP.sub (ws' := [(o, .inr (4, [.int cd, .int sc, .ref qm, .ref qd, .int ch, .int fe, .int sz, .int rd, .int ca, .int sx, .ref qp, .int co, .int gi, .int aw, .int cg, .int bk3, .ref qs, .ref ql, .ref qo, .int ax, .long wi])), (qp, .inl (cJ, 3, .inr (.inl (pl3 bl of an)))), (qm, .inl (cJ, 8192, .inr (.inl (mL M)))), (qs, .inl (cJ, 16, .inr (.inl gs4))), (ql, .inl (cJ, 16, .inr (.inl gl4))), (qo, .inl (cZ, 16, .inl go4))]) [0, 1, 2, 3, 4, 5] rfl
                          have hD9 : va_D A [(o, .inr (4, [.int cd, .int sc, .ref qm, .ref qd, .int ch, .int fe, .int sz, .int rd, .int ca, .int sx, .ref qp, .int co, .int gi, .int aw, .int cg, .int bk3, .ref qs, .ref ql, .ref qo, .int ax, .long wi])), (qp, .inl (cJ, 3, .inr (.inl (pl3 bl of an)))), (qm, .inl (cJ, 8192, .inr (.inl (mL M)))), (qs, .inl (cJ, 16, .inr (.inl gs4))), (ql, .inl (cJ, 16, .inr (.inl gl4))), (qo, .inl (cZ, 16, .inl go4))] := by exact hD.sub (ws' := [(o, .inr (4, [.int cd, .int sc, .ref qm, .ref qd, .int ch, .int fe, .int sz, .int rd, .int ca, .int sx, .ref qp, .int co, .int gi, .int aw, .int cg, .int bk3, .ref qs, .ref ql, .ref qo, .int ax, .long wi])), (qp, .inl (cJ, 3, .inr (.inl (pl3 bl of an)))), (qm, .inl (cJ, 8192, .inr (.inl (mL M)))), (qs, .inl (cJ, 16, .inr (.inl gs4))), (ql, .inl (cJ, 16, .inr (.inl gl4))), (qo, .inl (cZ, 16, .inl go4))]) [0, 1, 2, 3, 4, 5] (by decide) rfl
                          have hK9 := hK.sub (tys' := [(cJ, .long), (cZ, .boolean)]) [0, 1] rfl
                          exact W.zret (v := 0) hx hb hr rfl (fun t ht hW => ⟨⟨_, (bk3, gs4, gl4, go4), rfl, ⟨by rw [hnone]; exact (bI_f finB_n).symm, fun L z => by rw [hnone] at z; cases z⟩, by rw [ht]; exact hP9, va_K.moved hW.alike hK9, hD9⟩, hS.F ht⟩) hS.2.2 dX4_gather_209
                  · skip
                    have hpt : po = true := by rw [hg1] at c_66; exact bI_1 c_66
                    refine lv_aload_n hx hb dX4_gather_153 rfl (lv_at hl 4 rfl) ?_
                    refine va_get (D := (dC, dI)) (ci := 4) (v := .ref qo) (C := RX4) (T := TX4) (N := 21) hx hb hw inX4 hown hK hP 0 rfl rfl 18 (by decide) (hw _ w_3d33b1130a) (fun _ h9 => h9) rfl dX4_gather_154 ?_
                    refine lv_aload_n hx hb dX4_gather_157 rfl (lv_at hl 4 rfl) ?_
                    refine va_get (D := (dC, dI)) (ci := 4) (v := .int bk3) (C := RX4) (T := TX4) (N := 21) hx hb hw inX4 hown hK hP 0 rfl rfl 15 (by decide) (hw _ w_f0da19b997) (fun _ h9 => h9) rfl dX4_gather_158 ?_
                    refine va_zald hx hb hK hP 5 1 rfl rfl (by rw [hbk]; exact vp_in_nI (by omega) (by omega)) dX4_gather_161 ?_
                    refine lv_if_ne (tgt := 169) hx hb dX4_gather_162 (by decide) (fun c_80 => ?_) (fun c_80 => ?_)
                    · skip
                      have hcb : ¬ (po = true ∧ ¬ nbs M (off (blA bl k) + 12) 2 / 2 % 2 = 1) := fun z => z.2 hop
                      refine lv_iconst (v := 0) hx hb dX4_gather_169 (by decide) ?_
                      refine lv_istore (lv' := [(7, .int 0), (6, .int x_13), (4, .long x_6), (3, .int mo), (2, .int y), (0, .ref o), (1, .int x)]) hx hb dX4_gather_170 hl (by decide) rfl (fun ls hl => ?_)
                      refine lv_iload hx hb dX4_gather_172 (lv_at hl 1 rfl) ?_
                      refine lv_iconst (v := 4) hx hb dX4_gather_174 (by decide) ?_
                      refine lv_iand hx hb dX4_gather_175 ?_
                      refine lv_if_ne (tgt := 208) hx hb dX4_gather_176 (by decide) (fun c_81 => ?_) (fun c_81 => ?_)
                      · skip
                        have hnone : gat M bl n n k0 false [] = none := by rw [← hs, gat, if_pos ⟨hkn, hth⟩, if_pos (Or.inl (Decidable.byContradiction fun z => c_81 (by rw [emk]; exact (mk_4 hmk).mpr z)))]
                        refine lv_iconst (v := 0) hx hb dX4_gather_208 (by decide) ?_
                        have hP9 : va_P (dC, dI) vwCl [(o, .inr (4, [.int cd, .int sc, .ref qm, .ref qd, .int ch, .int fe, .int sz, .int rd, .int ca, .int sx, .ref qp, .int co, .int gi, .int aw, .int cg, .int bk3, .ref qs, .ref ql, .ref qo, .int ax, .long wi])), (qp, .inl (cJ, 3, .inr (.inl (pl3 bl of an)))), (qm, .inl (cJ, 8192, .inr (.inl (mL M)))), (qs, .inl (cJ, 16, .inr (.inl gs4))), (ql, .inl (cJ, 16, .inr (.inl gl4))), (qo, .inl (cZ, 16, .inl go4))] H := by exact hP.sub (ws' := [(o, .inr (4, [.int cd, .int sc, .ref qm, .ref qd, .int ch, .int fe, .int sz, .int rd, .int ca, .int sx, .ref qp, .int co, .int gi, .int aw, .int cg, .int bk3, .ref qs, .ref ql, .ref qo, .int ax, .long wi])), (qp, .inl (cJ, 3, .inr (.inl (pl3 bl of an)))), (qm, .inl (cJ, 8192, .inr (.inl (mL M)))), (qs, .inl (cJ, 16, .inr (.inl gs4))), (ql, .inl (cJ, 16, .inr (.inl gl4))), (qo, .inl (cZ, 16, .inl go4))]) [0, 1, 2, 3, 4, 5] rfl
                        have hD9 : va_D A [(o, .inr (4, [.int cd, .int sc, .ref qm, .ref qd, .int ch, .int fe, .int sz, .int rd, .int ca, .int sx, .ref qp, .int co, .int gi, .int aw, .int cg, .int bk3, .ref qs, .ref ql, .ref qo, .int ax, .long wi])), (qp, .inl (cJ, 3, .inr (.inl (pl3 bl of an)))), (qm, .inl (cJ, 8192, .inr (.inl (mL M)))), (qs, .inl (cJ, 16, .inr (.inl gs4))), (ql, .inl (cJ, 16, .inr (.inl gl4))), (qo, .inl (cZ, 16, .inl go4))] := by exact hD.sub (ws' := [(o, .inr (4, [.int cd, .int sc, .ref qm, .ref qd, .int ch, .int fe, .int sz, .int rd, .int ca, .int sx, .ref qp, .int co, .int gi, .int aw, .int cg, .int bk3, .ref qs, .ref ql, .ref qo, .int ax, .long wi])), (qp, .inl (cJ, 3, .inr (.inl (pl3 bl of an)))), (qm, .inl (cJ, 8192, .inr (.inl (mL M)))), (qs, .inl (cJ, 16, .inr (.inl gs4))), (ql, .inl (cJ, 16, .inr (.inl gl4))), (qo, .inl (cZ, 16, .inl go4))]) [0, 1, 2, 3, 4, 5] (by decide) rfl
                        have hK9 := hK.sub (tys' := [(cJ, .long), (cZ, .boolean)]) [0, 1] rfl
                        exact W.zret (v := 0) hx hb hr rfl (fun t ht hW => ⟨⟨_, (bk3, gs4, gl4, go4), rfl, ⟨by rw [hnone]; exact (bI_f finB_n).symm, fun L z => by rw [hnone] at z; cases z⟩, by rw [ht]; exact hP9, va_K.moved hW.alike hK9, hD9⟩, hS.F ht⟩) hS.2.2 dX4_gather_209
                      · skip
                        have hn4 : ¬ nbs M (off (blA bl k) + 12) 2 / 4 % 2 = 1 := (mk_4 hmk).mp (by rw [← emk]; exact c_81)
                        refine lv_iload hx hb dX4_gather_179 (lv_at hl 0 rfl) ?_
                        refine lv_if_ne (tgt := 208) hx hb dX4_gather_181 (by decide) (fun c_82 => ?_) (fun c_82 => ?_)
                        · skip
                          exact absurd c_82 (by decide)
                        · skip
                          refine lv_aload_n hx hb dX4_gather_184 rfl (lv_at hl 5 rfl) ?_
                          refine va_get (D := (dC, dI)) (ci := 4) (v := .ref qs) (C := RX4) (T := TX4) (N := 21) hx hb hw inX4 hown hK hP 0 rfl rfl 16 (by decide) (hw _ w_c92d01c177) (fun _ h9 => h9) rfl dX4_gather_185 ?_
                          refine lv_aload_n hx hb dX4_gather_188 rfl (lv_at hl 5 rfl) ?_
                          refine va_get (D := (dC, dI)) (ci := 4) (v := .int bk3) (C := RX4) (T := TX4) (N := 21) hx hb hw inX4 hown hK hP 0 rfl rfl 15 (by decide) (hw _ w_f0da19b997) (fun _ h9 => h9) rfl dX4_gather_189 ?_
                          refine va_lald hx hb hK hP 3 0 rfl rfl (by rw [hbk]; exact vp_in_nI (by omega) (by omega)) dX4_gather_192 ?_
                          refine lv_aload_n hx hb dX4_gather_193 rfl (lv_at hl 5 rfl) ?_
                          refine va_get (D := (dC, dI)) (ci := 4) (v := .ref ql) (C := RX4) (T := TX4) (N := 21) hx hb hw inX4 hown hK hP 0 rfl rfl 17 (by decide) (hw _ w_c20510a516) (fun _ h9 => h9) rfl dX4_gather_194 ?_
                          refine lv_aload_n hx hb dX4_gather_197 rfl (lv_at hl 5 rfl) ?_
                          refine va_get (D := (dC, dI)) (ci := 4) (v := .int bk3) (C := RX4) (T := TX4) (N := 21) hx hb hw inX4 hown hK hP 0 rfl rfl 15 (by decide) (hw _ w_f0da19b997) (fun _ h9 => h9) rfl dX4_gather_198 ?_
                          refine va_lald hx hb hK hP 4 0 rfl rfl (by rw [hbk]; exact vp_in_nI (by omega) (by omega)) dX4_gather_201 ?_
                          have hPc := hP.sub (ws' := []) [] rfl
                          have hKc := hK.sub (tys' := []) [] rfl
                          have hZc := (hZ.kept hS.2.1).narrow (B := fun _ => False) (fun _ h => h.elim)
                          refine vp_callSi (va_runS (As := [.long (gs4 bk3.toNatClampNeg), .long (gl4 bk3.toNatClampNeg)]) (rest := []) ⟨hx, hb, hml, hown, hw⟩ (m_isThere l dC dI (gs4 bk3.toNatClampNeg) (gl4 bk3.toNatClampNeg)) (va_cwS 2 hw (gS w_e4da178cff w_3b07a2b4f7 w_2b384744dc w_a857523ad5) rfl rfl rfl (by decide +kernel) ⟨Nat.le_of_ble_eq_true rfl, Nat.le_of_ble_eq_true rfl⟩) ⟨fun a U g mk q => by obtain ⟨q0, qP, qK, qZ⟩ := q; exact ⟨q0, qP, va_K.moved (u := U) (U := U.calling g mk a) (Vm.Alike.refl U.vm) qK, ZZ.same (u := U) (U := U.calling g mk a) rfl qZ⟩, fun U hU hW => ⟨rfl, by rw [hU]; exact hPc, va_K.moved hW.alike hKc, by rw [hU]; exact ZZ.warm hW hZc⟩⟩ rfl rfl hl.1 rfl (lv_room (Nat.le_of_ble_eq_true rfl)) dX4_gather_202 ⟨Nat.zero_le _, Nat.zero_le _⟩).run (fun r_83 hr_83 => ?_)
                          have hr_83 : r_83 = bI (thP (gs4 bk3.toNatClampNeg) (gl4 bk3.toNatClampNeg)) := hr_83
                          refine lv_if_ne (tgt := 210) hx hb dX4_gather_205 (by decide) (fun c_84 => ?_) (fun c_84 => ?_)
                          · skip
                            have b_85 : (thP (gs4 bk3.toNatClampNeg) (gl4 bk3.toNatClampNeg)) := bI_1 (by rw [← hr_83]; exact c_84)
                            have ev : gs4 bk3.toNatClampNeg = lN (nbs M (off (blA bl k)) 8) ∧ gl4 bk3.toNatClampNeg = lN (nbs M (off (blA bl k) + 8) 4) := by rw [hix, egs, egl, pk_uLs, pk_uLs]; exact ⟨rfl, rfl⟩
                            have hno : ¬ (nbs M (off (blA bl k) + 12) 2 / 4 % 2 = 1 ∨ (po = true ∧ ¬ nbs M (off (blA bl k) + 12) 2 / 2 % 2 = 1) ∨ ¬ thP (lN (nbs M (off (blA bl k)) 8)) (lN (nbs M (off (blA bl k) + 8) 4))) := by
                              rintro (z | z | z)
                              · exact hn4 z
                              · exact hcb z
                              · exact z (by have := b_85; rw [ev.1, ev.2] at this; exact this)
                            refine lv_iload hx hb dX4_gather_210 (lv_at hl 1 rfl) ?_
                            refine lv_iconst (v := 1) hx hb dX4_gather_212 (by decide) ?_
                            refine lv_iand hx hb dX4_gather_213 ?_
                            refine lv_if_eq (tgt := 221) hx hb dX4_gather_214 (by decide) (fun c_86 => ?_) (fun c_86 => ?_)
                            · skip
                              have hmr : ¬ nbs M (off (blA bl k) + 12) 2 % 2 = 1 := (mk_1 hmk).mp (by rw [← emk]; exact c_86)
                              refine lv_iconst (v := 0) hx hb dX4_gather_221 (by decide) ?_
                              refine lv_istore_n (lv' := [(3, .int 0), (7, .int 0), (6, .int x_13), (4, .long x_6), (2, .int y), (0, .ref o), (1, .int x)]) hx hb dX4_gather_222 rfl hl (by decide) rfl (fun ls hl => ?_)
                              refine lv_aload_n hx hb dX4_gather_223 rfl (lv_at hl 5 rfl) ?_
                              refine lv_lload hx hb dX4_gather_224 (lv_at hl 3 rfl) ?_
                              refine lv_ldc2 (v := 14) hx hb hown (hw _ w_aa6d76f0d0) dX4_gather_226 ?_
                              refine lv_ladd hx hb dX4_gather_229 ?_
                              refine lv_iconst (v := 2) hx hb dX4_gather_230 (by decide) ?_
                              have hPc := hP.sub (ws' := [(o, .inr (4, [.int cd, .int sc, .ref qm, .ref qd, .int ch, .int fe, .int sz, .int rd, .int ca, .int sx, .ref qp, .int co, .int gi, .int aw, .int cg, .int bk3, .ref qs, .ref ql, .ref qo, .int ax, .long wi])), (qm, .inl (cJ, 8192, .inr (.inl (mL M))))]) [0, 2] rfl
                              have hKc := hK.sub (tys' := [(cJ, .long)]) [0] rfl
                              have hZc := (hZ.kept hS.2.1).narrow (B := fun _ => False) (fun _ h => h.elim)
                              refine vp_callSl (va_runV (As := [.long (x_6 + 14), .int 2]) (rest := []) ⟨hx, hb, hml, hown, hw⟩ (m_number l dC dI o cd sc qm qd ch fe sz rd ca sx qp co gi aw cg bk3 qs ql qo ax wi cJ M (x_6 + 14) 2 2 (off (blA bl k) + 14) rfl (by decide) (by rw [ebl]; exact (off_plus hth (show 14 < 16 by decide) (by decide)).1) (by have := (off_0 hth (by decide) (by decide)).2; omega) hM) (cwV 2 hw (gV w_b394cd0f6f w_fab48a5191 w_cc770dbe30 w_2b384744dc w_c1a5c9b18f) rfl rfl rfl (by decide +kernel) ⟨Nat.le_of_ble_eq_true rfl, Nat.le_of_ble_eq_true rfl⟩) ⟨fun a U g mk q => by obtain ⟨q0, qP, qK, qZ⟩ := q; exact ⟨q0, qP, va_K.moved (u := U) (U := U.calling g mk a) (Vm.Alike.refl U.vm) qK, ZZ.same (u := U) (U := U.calling g mk a) rfl qZ⟩, va_recv hKc hPc (ci := 4) (q0 := 0) rfl rfl, fun U hU hW => ⟨rfl, by rw [hU]; exact hPc, va_K.moved hW.alike hKc, by rw [hU]; exact ZZ.warm hW hZc⟩⟩ rfl rfl hl.1 rfl (lv_room (Nat.le_of_ble_eq_true rfl)) dX4_gather_231 ⟨Nat.zero_le _, Nat.zero_le _⟩).run (fun r_87 hr_87 => ?_)
                              have hr_87 : r_87 = lN (nbs M (off (blA bl k) + 14) 2) := hr_87
                              refine lv_l2i (v := r_87.toInt32) hx hb dX4_gather_234 rfl ?_
                              refine lv_topi (fun x_88 ex_88 => ?_)
                              refine lv_istore_n (lv' := [(2, .int x_88), (3, .int 0), (7, .int 0), (6, .int x_13), (4, .long x_6), (0, .ref o), (1, .int x)]) hx hb dX4_gather_235 rfl hl (by decide) rfl (fun ls hl => ?_)
                              refine lv_aload_n hx hb dX4_gather_236 rfl (lv_at hl 5 rfl) ?_
                              refine lv_dup hx hb dX4_gather_237 rfl ?_
                              refine va_get (D := (dC, dI)) (ci := 4) (v := .int bk3) (C := RX4) (T := TX4) (N := 21) hx hb hw inX4 hown hK hP 0 rfl rfl 15 (by decide) (hw _ w_f0da19b997) (fun _ h9 => h9) rfl dX4_gather_238 ?_
                              refine lv_iconst (v := 1) hx hb dX4_gather_241 (by decide) ?_
                              refine lv_iadd hx hb dX4_gather_242 ?_
                              refine lv_topi (fun x_89 ex_89 => ?_)
                              refine va_put (D := (dC, dI)) (ci := 4) (v := .int x_89) (ty := .int) (C := RX4) (T := TX4) (N := 21) hx hb hw inX4 tyX4 tyX4_ok nmX4 hown hK hP hD hS 0 rfl rfl 15 (by decide) (hw _ w_f0da19b997) (fun _ h9 => h9) rfl (by decide +kernel) rfl rfl (Nat.le_of_ble_eq_true rfl) dX4_gather_243 (fun H locs hP hD hS => ?_)
                              have hP : va_P (dC, dI) vwCl [(o, .inr (4, [.int cd, .int sc, .ref qm, .ref qd, .int ch, .int fe, .int sz, .int rd, .int ca, .int sx, .ref qp, .int co, .int gi, .int aw, .int cg, .int x_89, .ref qs, .ref ql, .ref qo, .int ax, .long wi])), (qp, .inl (cJ, 3, .inr (.inl (pl3 bl of an)))), (qm, .inl (cJ, 8192, .inr (.inl (mL M)))), (qs, .inl (cJ, 16, .inr (.inl gs4))), (ql, .inl (cJ, 16, .inr (.inl gl4))), (qo, .inl (cZ, 16, .inl go4))] H := hP
                              have hD : va_D A [(o, .inr (4, [.int cd, .int sc, .ref qm, .ref qd, .int ch, .int fe, .int sz, .int rd, .int ca, .int sx, .ref qp, .int co, .int gi, .int aw, .int cg, .int x_89, .ref qs, .ref ql, .ref qo, .int ax, .long wi])), (qp, .inl (cJ, 3, .inr (.inl (pl3 bl of an)))), (qm, .inl (cJ, 8192, .inr (.inl (mL M)))), (qs, .inl (cJ, 16, .inr (.inl gs4))), (ql, .inl (cJ, 16, .inr (.inl gl4))), (qo, .inl (cZ, 16, .inl go4))] := hD
                              refine lv_goto (tgt := 9) hx hb dX4_gather_246 (by decide) ?_
                              exact ih f (nbs M (off (blA bl k) + 14) 2) (decide (nbs M (off (blA bl k) + 12) 2 / 2 % 2 = 1)) (acc ++ [(lN (nbs M (off (blA bl k)) 8), nbs M (off (blA bl k) + 8) 4, decide (nbs M (off (blA bl k) + 12) 2 / 2 % 2 = 1))]) 0 x_88 x_89 gs4 gl4 go4 (⟨fun z => absurd z (by decide), by have := hN.1 hm1; omega⟩) (Or.inr ⟨rfl, by simp, by rw [← hs, gat, if_pos ⟨hkn, hth⟩, if_neg hno, if_neg hmr]⟩) (hrp4) (by rw [ex_89, hbk, List.length_append]; exact nI_1 _) (⟨fun z => by simp at z, fun _ => by rw [List.length_append, ego]; exact pk_us⟩) (by rw [List.length_append]; show acc.length + 1 ≤ n; omega) (fun b hb => (List.mem_append.mp hb).elim (hle b) (fun z => by rw [List.mem_singleton.mp z]; exact nbs_lt hM _ 4)) _ _ (hP.sub [0, 1, 2, 3, 4, 5] rfl) (hD.sub [0, 1, 2, 3, 4, 5] (by decide) rfl) hS ls (lv_sub hl [1, 0, 5, 6] rfl)
                            · skip
                              have hmr : nbs M (off (blA bl k) + 12) 2 % 2 = 1 := Decidable.byContradiction fun z => c_86 (by rw [emk]; exact (mk_1 hmk).mpr z)
                              refine lv_iconst (v := 1) hx hb dX4_gather_217 (by decide) ?_
                              refine lv_goto (tgt := 222) hx hb dX4_gather_218 (by decide) ?_
                              refine lv_istore_n (lv' := [(3, .int 1), (7, .int 0), (6, .int x_13), (4, .long x_6), (2, .int y), (0, .ref o), (1, .int x)]) hx hb dX4_gather_222 rfl hl (by decide) rfl (fun ls hl => ?_)
                              refine lv_aload_n hx hb dX4_gather_223 rfl (lv_at hl 5 rfl) ?_
                              refine lv_lload hx hb dX4_gather_224 (lv_at hl 3 rfl) ?_
                              refine lv_ldc2 (v := 14) hx hb hown (hw _ w_aa6d76f0d0) dX4_gather_226 ?_
                              refine lv_ladd hx hb dX4_gather_229 ?_
                              refine lv_iconst (v := 2) hx hb dX4_gather_230 (by decide) ?_
                              have hPc := hP.sub (ws' := [(o, .inr (4, [.int cd, .int sc, .ref qm, .ref qd, .int ch, .int fe, .int sz, .int rd, .int ca, .int sx, .ref qp, .int co, .int gi, .int aw, .int cg, .int bk3, .ref qs, .ref ql, .ref qo, .int ax, .long wi])), (qm, .inl (cJ, 8192, .inr (.inl (mL M))))]) [0, 2] rfl
                              have hKc := hK.sub (tys' := [(cJ, .long)]) [0] rfl
                              have hZc := (hZ.kept hS.2.1).narrow (B := fun _ => False) (fun _ h => h.elim)
                              refine vp_callSl (va_runV (As := [.long (x_6 + 14), .int 2]) (rest := []) ⟨hx, hb, hml, hown, hw⟩ (m_number l dC dI o cd sc qm qd ch fe sz rd ca sx qp co gi aw cg bk3 qs ql qo ax wi cJ M (x_6 + 14) 2 2 (off (blA bl k) + 14) rfl (by decide) (by rw [ebl]; exact (off_plus hth (show 14 < 16 by decide) (by decide)).1) (by have := (off_0 hth (by decide) (by decide)).2; omega) hM) (cwV 2 hw (gV w_b394cd0f6f w_fab48a5191 w_cc770dbe30 w_2b384744dc w_c1a5c9b18f) rfl rfl rfl (by decide +kernel) ⟨Nat.le_of_ble_eq_true rfl, Nat.le_of_ble_eq_true rfl⟩) ⟨fun a U g mk q => by obtain ⟨q0, qP, qK, qZ⟩ := q; exact ⟨q0, qP, va_K.moved (u := U) (U := U.calling g mk a) (Vm.Alike.refl U.vm) qK, ZZ.same (u := U) (U := U.calling g mk a) rfl qZ⟩, va_recv hKc hPc (ci := 4) (q0 := 0) rfl rfl, fun U hU hW => ⟨rfl, by rw [hU]; exact hPc, va_K.moved hW.alike hKc, by rw [hU]; exact ZZ.warm hW hZc⟩⟩ rfl rfl hl.1 rfl (lv_room (Nat.le_of_ble_eq_true rfl)) dX4_gather_231 ⟨Nat.zero_le _, Nat.zero_le _⟩).run (fun r_90 hr_90 => ?_)
                              have hr_90 : r_90 = lN (nbs M (off (blA bl k) + 14) 2) := hr_90
                              refine lv_l2i (v := r_90.toInt32) hx hb dX4_gather_234 rfl ?_
                              refine lv_topi (fun x_91 ex_91 => ?_)
                              refine lv_istore_n (lv' := [(2, .int x_91), (3, .int 1), (7, .int 0), (6, .int x_13), (4, .long x_6), (0, .ref o), (1, .int x)]) hx hb dX4_gather_235 rfl hl (by decide) rfl (fun ls hl => ?_)
                              refine lv_aload_n hx hb dX4_gather_236 rfl (lv_at hl 5 rfl) ?_
                              refine lv_dup hx hb dX4_gather_237 rfl ?_
                              refine va_get (D := (dC, dI)) (ci := 4) (v := .int bk3) (C := RX4) (T := TX4) (N := 21) hx hb hw inX4 hown hK hP 0 rfl rfl 15 (by decide) (hw _ w_f0da19b997) (fun _ h9 => h9) rfl dX4_gather_238 ?_
                              refine lv_iconst (v := 1) hx hb dX4_gather_241 (by decide) ?_
                              refine lv_iadd hx hb dX4_gather_242 ?_
                              refine lv_topi (fun x_92 ex_92 => ?_)
                              refine va_put (D := (dC, dI)) (ci := 4) (v := .int x_92) (ty := .int) (C := RX4) (T := TX4) (N := 21) hx hb hw inX4 tyX4 tyX4_ok nmX4 hown hK hP hD hS 0 rfl rfl 15 (by decide) (hw _ w_f0da19b997) (fun _ h9 => h9) rfl (by decide +kernel) rfl rfl (Nat.le_of_ble_eq_true rfl) dX4_gather_243 (fun H locs hP hD hS => ?_)
                              have hP : va_P (dC, dI) vwCl [(o, .inr (4, [.int cd, .int sc, .ref qm, .ref qd, .int ch, .int fe, .int sz, .int rd, .int ca, .int sx, .ref qp, .int co, .int gi, .int aw, .int cg, .int x_92, .ref qs, .ref ql, .ref qo, .int ax, .long wi])), (qp, .inl (cJ, 3, .inr (.inl (pl3 bl of an)))), (qm, .inl (cJ, 8192, .inr (.inl (mL M)))), (qs, .inl (cJ, 16, .inr (.inl gs4))), (ql, .inl (cJ, 16, .inr (.inl gl4))), (qo, .inl (cZ, 16, .inl go4))] H := hP
                              have hD : va_D A [(o, .inr (4, [.int cd, .int sc, .ref qm, .ref qd, .int ch, .int fe, .int sz, .int rd, .int ca, .int sx, .ref qp, .int co, .int gi, .int aw, .int cg, .int x_92, .ref qs, .ref ql, .ref qo, .int ax, .long wi])), (qp, .inl (cJ, 3, .inr (.inl (pl3 bl of an)))), (qm, .inl (cJ, 8192, .inr (.inl (mL M)))), (qs, .inl (cJ, 16, .inr (.inl gs4))), (ql, .inl (cJ, 16, .inr (.inl gl4))), (qo, .inl (cZ, 16, .inl go4))] := hD
                              refine lv_goto (tgt := 9) hx hb dX4_gather_246 (by decide) ?_
                              exact ih f (nbs M (off (blA bl k) + 14) 2) (decide (nbs M (off (blA bl k) + 12) 2 / 2 % 2 = 1)) (acc ++ [(lN (nbs M (off (blA bl k)) 8), nbs M (off (blA bl k) + 8) 4, decide (nbs M (off (blA bl k) + 12) 2 / 2 % 2 = 1))]) 1 x_91 x_92 gs4 gl4 go4 (⟨fun _ => by have := hN.1 hm1; omega, by have := hN.1 hm1; omega⟩) (Or.inl ⟨rfl, by rw [ex_91, hr_90, lN_i], nbs_lt hM _ 2, by rw [List.length_append]; show acc.length + 1 + f = n; omega, by rw [← hs, gat, if_pos ⟨hkn, hth⟩, if_neg hno, if_pos hmr]⟩) (hrp4) (by rw [ex_92, hbk, List.length_append]; exact nI_1 _) (⟨fun z => by simp at z, fun _ => by rw [List.length_append, ego]; exact pk_us⟩) (by rw [List.length_append]; show acc.length + 1 ≤ n; omega) (fun b hb => (List.mem_append.mp hb).elim (hle b) (fun z => by rw [List.mem_singleton.mp z]; exact nbs_lt hM _ 4)) _ _ (hP.sub [0, 1, 2, 3, 4, 5] rfl) (hD.sub [0, 1, 2, 3, 4, 5] (by decide) rfl) hS ls (lv_sub hl [1, 0, 5, 6] rfl)
                          · skip
                            have b_93 : ¬ (thP (gs4 bk3.toNatClampNeg) (gl4 bk3.toNatClampNeg)) := bI_0 (by rw [← hr_83]; exact c_84)
                            have ev : gs4 bk3.toNatClampNeg = lN (nbs M (off (blA bl k)) 8) ∧ gl4 bk3.toNatClampNeg = lN (nbs M (off (blA bl k) + 8) 4) := by rw [hix, egs, egl, pk_uLs, pk_uLs]; exact ⟨rfl, rfl⟩
                            have hnone : gat M bl n n k0 false [] = none := by rw [← hs, gat, if_pos ⟨hkn, hth⟩, if_pos (Or.inr (Or.inr (by have := b_93; rw [ev.1, ev.2] at this; exact this)))]
                            refine lv_iconst (v := 0) hx hb dX4_gather_208 (by decide) ?_
                            have hP9 : va_P (dC, dI) vwCl [(o, .inr (4, [.int cd, .int sc, .ref qm, .ref qd, .int ch, .int fe, .int sz, .int rd, .int ca, .int sx, .ref qp, .int co, .int gi, .int aw, .int cg, .int bk3, .ref qs, .ref ql, .ref qo, .int ax, .long wi])), (qp, .inl (cJ, 3, .inr (.inl (pl3 bl of an)))), (qm, .inl (cJ, 8192, .inr (.inl (mL M)))), (qs, .inl (cJ, 16, .inr (.inl gs4))), (ql, .inl (cJ, 16, .inr (.inl gl4))), (qo, .inl (cZ, 16, .inl go4))] H := by exact hP.sub (ws' := [(o, .inr (4, [.int cd, .int sc, .ref qm, .ref qd, .int ch, .int fe, .int sz, .int rd, .int ca, .int sx, .ref qp, .int co, .int gi, .int aw, .int cg, .int bk3, .ref qs, .ref ql, .ref qo, .int ax, .long wi])), (qp, .inl (cJ, 3, .inr (.inl (pl3 bl of an)))), (qm, .inl (cJ, 8192, .inr (.inl (mL M)))), (qs, .inl (cJ, 16, .inr (.inl gs4))), (ql, .inl (cJ, 16, .inr (.inl gl4))), (qo, .inl (cZ, 16, .inl go4))]) [0, 1, 2, 3, 4, 5] rfl
                            have hD9 : va_D A [(o, .inr (4, [.int cd, .int sc, .ref qm, .ref qd, .int ch, .int fe, .int sz, .int rd, .int ca, .int sx, .ref qp, .int co, .int gi, .int aw, .int cg, .int bk3, .ref qs, .ref ql, .ref qo, .int ax, .long wi])), (qp, .inl (cJ, 3, .inr (.inl (pl3 bl of an)))), (qm, .inl (cJ, 8192, .inr (.inl (mL M)))), (qs, .inl (cJ, 16, .inr (.inl gs4))), (ql, .inl (cJ, 16, .inr (.inl gl4))), (qo, .inl (cZ, 16, .inl go4))] := by exact hD.sub (ws' := [(o, .inr (4, [.int cd, .int sc, .ref qm, .ref qd, .int ch, .int fe, .int sz, .int rd, .int ca, .int sx, .ref qp, .int co, .int gi, .int aw, .int cg, .int bk3, .ref qs, .ref ql, .ref qo, .int ax, .long wi])), (qp, .inl (cJ, 3, .inr (.inl (pl3 bl of an)))), (qm, .inl (cJ, 8192, .inr (.inl (mL M)))), (qs, .inl (cJ, 16, .inr (.inl gs4))), (ql, .inl (cJ, 16, .inr (.inl gl4))), (qo, .inl (cZ, 16, .inl go4))]) [0, 1, 2, 3, 4, 5] (by decide) rfl
                            have hK9 := hK.sub (tys' := [(cJ, .long), (cZ, .boolean)]) [0, 1] rfl
                            exact W.zret (v := 0) hx hb hr rfl (fun t ht hW => ⟨⟨_, (bk3, gs4, gl4, go4), rfl, ⟨by rw [hnone]; exact (bI_f finB_n).symm, fun L z => by rw [hnone] at z; cases z⟩, by rw [ht]; exact hP9, va_K.moved hW.alike hK9, hD9⟩, hS.F ht⟩) hS.2.2 dX4_gather_209
                    · skip
                      exact absurd (hg2.symm.trans c_80) (by decide)
            · skip
              have b_94 : ¬ (thP x_6 16) := bI_0 (by rw [← hr_9]; exact c_10)
              have hnone : gat M bl n n k0 false [] = none := by rw [← hs, gat, if_neg (fun z => b_94 (by rw [ebl]; exact z.2))]
              refine lv_iconst (v := 0) hx hb dX4_gather_58 (by decide) ?_
              have hP9 : va_P (dC, dI) vwCl [(o, .inr (4, [.int cd, .int sc, .ref qm, .ref qd, .int ch, .int fe, .int sz, .int rd, .int ca, .int sx, .ref qp, .int co, .int gi, .int aw, .int cg, .int bk3, .ref qs, .ref ql, .ref qo, .int ax, .long wi])), (qp, .inl (cJ, 3, .inr (.inl (pl3 bl of an)))), (qm, .inl (cJ, 8192, .inr (.inl (mL M)))), (qs, .inl (cJ, 16, .inr (.inl gs3))), (ql, .inl (cJ, 16, .inr (.inl gl3))), (qo, .inl (cZ, 16, .inl go3))] H := by exact hP.sub (ws' := [(o, .inr (4, [.int cd, .int sc, .ref qm, .ref qd, .int ch, .int fe, .int sz, .int rd, .int ca, .int sx, .ref qp, .int co, .int gi, .int aw, .int cg, .int bk3, .ref qs, .ref ql, .ref qo, .int ax, .long wi])), (qp, .inl (cJ, 3, .inr (.inl (pl3 bl of an)))), (qm, .inl (cJ, 8192, .inr (.inl (mL M)))), (qs, .inl (cJ, 16, .inr (.inl gs3))), (ql, .inl (cJ, 16, .inr (.inl gl3))), (qo, .inl (cZ, 16, .inl go3))]) [0, 1, 2, 3, 4, 5] rfl
              have hD9 : va_D A [(o, .inr (4, [.int cd, .int sc, .ref qm, .ref qd, .int ch, .int fe, .int sz, .int rd, .int ca, .int sx, .ref qp, .int co, .int gi, .int aw, .int cg, .int bk3, .ref qs, .ref ql, .ref qo, .int ax, .long wi])), (qp, .inl (cJ, 3, .inr (.inl (pl3 bl of an)))), (qm, .inl (cJ, 8192, .inr (.inl (mL M)))), (qs, .inl (cJ, 16, .inr (.inl gs3))), (ql, .inl (cJ, 16, .inr (.inl gl3))), (qo, .inl (cZ, 16, .inl go3))] := by exact hD.sub (ws' := [(o, .inr (4, [.int cd, .int sc, .ref qm, .ref qd, .int ch, .int fe, .int sz, .int rd, .int ca, .int sx, .ref qp, .int co, .int gi, .int aw, .int cg, .int bk3, .ref qs, .ref ql, .ref qo, .int ax, .long wi])), (qp, .inl (cJ, 3, .inr (.inl (pl3 bl of an)))), (qm, .inl (cJ, 8192, .inr (.inl (mL M)))), (qs, .inl (cJ, 16, .inr (.inl gs3))), (ql, .inl (cJ, 16, .inr (.inl gl3))), (qo, .inl (cZ, 16, .inl go3))]) [0, 1, 2, 3, 4, 5] (by decide) rfl
              have hK9 := hK.sub (tys' := [(cJ, .long), (cZ, .boolean)]) [0, 1] rfl
              exact W.zret (v := 0) hx hb hr rfl (fun t ht hW => ⟨⟨_, (bk3, gs3, gl3, go3), rfl, ⟨by rw [hnone]; exact (bI_f finB_n).symm, fun L z => by rw [hnone] at z; cases z⟩, by rw [ht]; exact hP9, va_K.moved hW.alike hK9, hD9⟩, hS.F ht⟩) hS.2.2 dX4_gather_59
  exact loop (n + 2) n k0 false ([]) 1 x 0 gs gl go (⟨fun _ => by omega, by omega⟩) (Or.inl ⟨rfl, hxk, hk0, by simp, rfl⟩) (repM_nil) (rfl) (⟨fun _ => rfl, fun z => absurd rfl z⟩) (Nat.zero_le _) (fun b hb => absurd hb List.not_mem_nil) _ _ (hP.sub [0, 1, 2, 3, 4, 5] rfl) (hD.sub [0, 1, 2, 3, 4, 5] (by decide) rfl) hS ls (lv_sub hl [0, 1, 2, 3] rfl)
