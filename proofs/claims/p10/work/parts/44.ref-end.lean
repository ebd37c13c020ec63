/-! the claim fails at a script whose last call is answered otherwise -/
set_option maxHeartbeats 4000000 in
theorem ref_walk (l : Launch) (hst : l.stackTraces = false) (b : Addr) (xs : List Int32) (K : Nat) (hLK : xs.length = 7 + 6 * K) (hkd : (fun j => xs.getD j 0) (nI (1 + 6 * K)).toNatClampNeg &&& 15 = 8) (hdf : df_8 (secN (ceV xs.length (fun j => xs.getD j 0))) (fun j => xs.getD j 0) (nI (1 + 6 * K)) (trc spC (secN (ceV xs.length (fun j => xs.getD j 0))) (fun j => xs.getD j 0) K) (trc spM (secN (ceV xs.length (fun j => xs.getD j 0))) (fun j => xs.getD j 0) K)) : MetFree l x (headSpec (Jvm.Cond.code x code maxLocals ret :: tables_1) room_1) (lw_P b xs) (fun _ _ _ _ _ => True) lw_Q0 := by
  refine MetFree.of_bodyS (code := code) (maxLocals := maxLocals) (ret := ret) (by decide) ?_ ?_
  · intro args s m h hn
    obtain ⟨meth, c, h1, h2, h3, h4, h5, h6, -, -⟩ := Cond.code_spec hn (atoms_spec (ws := Jvm.Cond.code x code maxLocals ret :: tables_1) h _ List.mem_cons_self)
    exact ⟨meth, c, h1, h2, h3, h4, h5, h6⟩
  · intro p e s m args below meth c s₁ B hml0 hP _
    obtain ⟨rfl, hx, hbd, hgv⟩ := hP
    obtain ⟨scr, harrAt, hlist, hof, hsmall⟩ := hx
    obtain ⟨hcb, hkn, -, -⟩ := State.arrayAt?_spec harrAt
    have hown : s.vm.findClass R_law = some m.cls := findClass_of_methodNamed B.named
    have hts0 : ∀ c ∈ (Jvm.Cond.code x code maxLocals ret :: tables_1), c.before #[Value.ref b] s = true := atoms_spec (ws := Jvm.Cond.code x code maxLocals ret :: tables_1) B.pre
    have hts : ∀ w ∈ lw_tbl, w.before #[Value.ref b] s = true := k2_hts_sels lw_privs (fun w hw => hts0 w (List.mem_cons_of_mem _ hw)) lw_privs_ok
    have hml : c.maxLocals = 8 := B.maxLocals_eq (hts0 _ List.mem_cons_self)
    have X₀ : Stand p l e room_1 s m #[Value.ref b] below meth c s₁ [] 0 0 := Stand.of_body B
    have hh0 : s₁.heap = s.heap := by rw [B.state]; rfl
    have hsz : scr.slots.size = xs.length := by rw [← Array.length_toList, hlist, List.length_map]
    have hval : ∀ j : Nat, j < xs.length → scr.slots[j]? = some (.int (xs.getD j 0)) := fun j hj => by
      rw [← Array.getElem?_toList, hlist]
      simp [hj]
    have hbl : b < s.heap.size := (Array.getElem?_eq_some_iff.mp hcb).1
    have hX : va_X b xs.length (fun j => xs.getD j 0) s s.heap := ⟨scr, hcb, hof, hkn, hsz, hval⟩
    have K : W p l e room_1 s m #[Value.ref b] below meth c s₁.heap [] 0 0 (lw_Z0 below #[Value.ref b] s) (entryFrame m ([Value.ref b] : List Value).toArray 8) := by
      rw [hh0]
      exact ref_start l hst hbd ⟨B.exec, B.bytes, B.returns, hml, hown, hts, hX, hbl, B.notSynchronized, hgv⟩ K hLK hkd hdf
    obtain ⟨t, a1, o, b1, b2, b3⟩ := K s₁ rfl X₀
    exact ⟨t, o, a1, b1, b2, b3⟩
/-- if the claim held, no start of the Statement could have such a script: there the law answers 0, whatever else holds of the start -/
theorem ref_false (xs : List Int32) (hN : xs.length ≤ 3073) (K : Nat) (hLK : xs.length = 7 + 6 * K) (hkd : (fun j => xs.getD j 0) (nI (1 + 6 * K)).toNatClampNeg &&& 15 = 8) (hdf : df_8 (secN (ceV xs.length (fun j => xs.getD j 0))) (fun j => xs.getD j 0) (nI (1 + 6 * K)) (trc spC (secN (ceV xs.length (fun j => xs.getD j 0))) (fun j => xs.getD j 0) K) (trc spM (secN (ceV xs.length (fun j => xs.getD j 0))) (fun j => xs.getD j 0) K)) (hC : Claimed_1_2) {l : Launch} {p : Program} {e : Env} {s : State} {m : MethodId} {args : Array Value} {below : List Frame} (hfl : l.flags = flags0)
    (hA : AtStart classFile x code maxLocals ret World_1 tables_1 room_1 Calls_1 rest_1 Pre_1 l p e s m args below) (b : Addr) (ha : args = #[Value.ref b]) (hx : s.IntsAt b xs) : False := by
  obtain ⟨hL, hW, had, -, hcas, hclk, hfr, hfit, hheap, happ, hcalls, hrest, hpre⟩ := hA
  have hst : l.stackTraces = false := by unfold Launch.stackTraces; rw [hfl]; decide
  obtain ⟨k, o, h1, h2, h3, hQ, -⟩ := ref_walk l hst b xs K hLK hkd hdf p e had hcas hclk s m args below hfr ((Spec.applies_iff_loose hfr).mp happ).1 ⟨ha, hx, hN, hpre⟩ trivial
  obtain ⟨k2, o2, g1, g2, g3, hpost⟩ := hC l hfl hL hW p e had hcas hclk s m args below hfr hfit hheap happ ⟨hcalls, hrest, hpre⟩
  have hk : k = k2 := by
    rcases Nat.lt_trichotomy k k2 with h | h | h
    · exact absurd (g1 k h) h3.not_within
    · exact h
    · exact absurd (h1 k2 h) g3.not_within
  subst hk
  have ho := h3.outcome_unique g3
  subst ho
  subst hQ
  have hp := hpost.1
  have hv : postC limb_1_2 p.tables e args s (.returned (some (.int 0))) (stepsAlone p.tables e k s) = ((some (decide ((0 : Int32) = 1)) == some true) = true) := rfl
  rw [hv] at hp
  exact absurd hp (by decide)
