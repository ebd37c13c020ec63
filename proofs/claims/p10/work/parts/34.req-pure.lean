/-! the class's rows of blocks -/
def repC (L : List Blk) (ps : Nat → Int64) (lg : Nat → Int32) : Prop := ∀ (i : Nat) (b : Blk), L[i]? = some b → ps i = b.1 - 2147483648 ∧ lg i = nI b.2.1
theorem repC_nil {ps : Nat → Int64} {lg : Nat → Int32} : repC [] ps lg := fun i b h => by simp at h
theorem repC_add {L : List Blk} {ps : Nat → Int64} {lg : Nat → Int32} (h : repC L ps lg) (a : Int64) (n : Nat) (ob : Bool) : repC (L ++ [(a, n, ob)]) (vp_updL ps L.length (a - 2147483648)) (upd lg L.length (nI n)) := by
  intro i b hb
  rcases Nat.lt_trichotomy i L.length with q | q | q
  · rw [List.getElem?_append_left q] at hb
    have := h i b hb
    rw [pk_uLn (by omega), pk_un (by omega)]
    exact this
  · subst q
    rw [List.getElem?_append_right (Nat.le_refl _), Nat.sub_self] at hb
    cases hb
    rw [pk_uLs, pk_us]
    exact ⟨rfl, rfl⟩
  · rw [List.getElem?_eq_none (by rw [List.length_append]; show L.length + 1 ≤ i; omega)] at hb
    cases hb
theorem ho_th2 {a ct : Int64} (h0 : 0 < ct.toInt) : hoP 65536 (a - 2147483648) ct ↔ thP a ct := by
  have hr := i64_rng a
  by_cases h : -9223372036854775808 ≤ a.toInt - 2147483648
  · have e : (a - 2147483648).toInt = a.toInt - 2147483648 := by rw [l_sub (by rw [lS]; omega) (by rw [lS]; omega), lS]
    show (0 ≤ (a - 2147483648).toInt ∧ 0 ≤ ct.toInt ∧ (a - 2147483648).toInt + ct.toInt ≤ 65536) ↔ (ct.toInt = 0 ∨ (2147483648 ≤ a.toInt ∧ a.toInt < 2147549184 ∧ ct.toInt ≤ 2147549184 - a.toInt))
    rw [e]; omega
  · have e : (a - 2147483648).toInt = a.toInt - 2147483648 + 18446744073709551616 := by
      rw [Int64.toInt_sub, lS, Int.bmod_def]
      omega
    show (0 ≤ (a - 2147483648).toInt ∧ 0 ≤ ct.toInt ∧ (a - 2147483648).toInt + ct.toInt ≤ 65536) ↔ (ct.toInt = 0 ∨ (2147483648 ≤ a.toInt ∧ a.toInt < 2147549184 ∧ ct.toInt ≤ 2147549184 - a.toInt))
    rw [e]; omega
theorem ix_in {k : Nat} (hk : k < 16) : ¬ nI k < 0 ∧ ¬ nI 16 ≤ nI k ∧ vp_in (nI k) 16 ∧ (nI k).toNatClampNeg = k := ⟨nI_pos (by omega), by rw [nI_leI (by omega) (by omega)]; omega, vp_in_nI hk (by decide), nI_clamp (by omega)⟩
theorem rqC_hd {C O : List Blk} {ps : Nat → Int64} {lg : Nat → Int32} (h : rqOK C O) (hr : repC (C ++ O) ps lg) : ps 0 = lN (hdO C) ∧ ps 0 + 8 = lN (hdO C + 8) ∧ hdO C + 16 ≤ 65536 := by
  obtain ⟨hC, hO, hl, hb, ⟨hB, T, rfl, h16⟩, -⟩ := h
  have q := (hr 0 hB rfl).1
  have q2 := hb hB (by simp)
  have q3 := off_0 q2.1 (by omega) q2.2
  have q4 := off_plus q2.1 (show 8 < hB.2.1 by omega) q2.2
  rw [q]
  refine ⟨q3.1, ?_, by have := q3.2; show off hB.1 + 16 ≤ 65536; omega⟩
  rw [sh2]; exact q4.1
theorem rqC_last {C O : List Blk} {ps : Nat → Int64} {lg : Nat → Int32} (h : rqOK C O) (hr : repC (C ++ O) ps lg) : ∃ k, k < 16 ∧ (C ++ O).length = k + 1 ∧ ps k + (lg k).toInt64 - 1 = lN (rpl O) ∧ rpl O + 1 ≤ 65536 := by
  obtain ⟨hC, hO, hl, hb, -, ⟨I, t, rfl, ht⟩⟩ := h
  have hlen : (C ++ (I ++ [t])).length = (C ++ I).length + 1 := by simp; omega
  have hg : (C ++ (I ++ [t]))[(C ++ I).length]? = some t := by
    rw [← List.append_assoc, List.getElem?_append_right (Nat.le_refl _), Nat.sub_self]; rfl
  have q := hr _ t hg
  have q2 := hb t (List.mem_of_getElem? hg)
  refine ⟨(C ++ I).length, by omega, hlen, ?_⟩
  rw [q.1, q.2, nI_l (by omega)]
  have e : t.2.1 = (t.2.1 - 1) + 1 := by omega
  have q3 := th_in (w := t.2.1 - 1) q2.1 q2.2 (by omega)
  rw [← e] at q3
  have q4 := off_0 (ct := 1) q3.1 (by decide) (by decide)
  have er : rpl (I ++ [t]) = off t.1 + (t.2.1 - 1) := by unfold rpl; rw [List.getLast?_append]; rfl
  rw [er, ← q3.2]
  refine ⟨?_, q4.2⟩
  rw [← q4.1, sh2, Int64.sub_eq_add_neg, Int64.sub_eq_add_neg, Int64.sub_eq_add_neg, Int64.sub_eq_add_neg, Int64.add_assoc, Int64.add_assoc, Int64.add_comm (-2147483648)]
  simp only [Int64.add_assoc]
/-- a block is not taken -/
abbrev tkN (mk m c0 : Nat) (ad : Int64) (ln : Nat) : Prop := mk / 4 % 2 = 1 ∨ (¬ mk / 2 % 2 = 1 ∧ c0 < m) ∨ ¬ thP ad (lN ln)
theorem th_0 {a : Int64} {ln : Nat} (h : ln < 4294967296) (hz : lg_cmp (lN ln) 0 = 0) : thP a (lN ln) := Or.inl (by rw [lce, l0] at hz; exact hz)
theorem ln_pos {ln : Nat} (h : ln < 4294967296) (hz : ¬ lg_cmp (lN ln) 0 = 0) : 0 < (lN ln).toInt := by
  rw [lce, l0, pk_lT (by omega)] at hz; rw [pk_lT (by omega)]; omega
