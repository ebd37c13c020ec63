/-! the class's data -/
theorem tot_c (b : Blk) (T : List Blk) : tot (mS (b :: T)) = b.2.1 + tot (mS T) := rfl
theorem drop_1 {X : List Blk} {k : Nat} {b : Blk} (h : X[k]? = some b) : X.drop k = b :: X.drop (k + 1) := by
  obtain ⟨hk, rfl⟩ := List.getElem?_eq_some_iff.mp h
  exact List.drop_eq_getElem_cons hk
theorem rqC_cl {C O : List Blk} {ps : Nat → Int64} {lg : Nat → Int32} (h : rqOK C O) (hr : repC (C ++ O) ps lg) {k : Nat} (hk : k < C.length) : ∃ b, C[k]? = some b ∧ C.drop k = b :: C.drop (k + 1) ∧ lg k = nI b.2.1 ∧ ps k = b.1 - 2147483648 ∧ thP b.1 (lN b.2.1) ∧ b.2.1 ≤ 65536 := by
  obtain ⟨hC, hO, hl, hb, -⟩ := h
  have e : C[k]? = some C[k] := List.getElem?_eq_getElem hk
  have e2 : (C ++ O)[k]? = some C[k] := by rw [List.getElem?_append_left hk]; exact e
  have q := hr k _ e2
  have q2 := hb _ (List.mem_of_getElem? e2)
  exact ⟨C[k], e, drop_1 e, q.2, q.1, q2.1, q2.2⟩
theorem rqC_len {C O : List Blk} (h : rqOK C O) : 1 ≤ C.length ∧ 1 ≤ O.length ∧ C.length + O.length ≤ 16 ∧ (C ++ O).length = C.length + O.length := by
  obtain ⟨hC, hO, hl, hb, ⟨b, T, rfl, -⟩, ⟨I, t, rfl, -⟩⟩ := h
  exact ⟨Nat.succ_le_succ (Nat.zero_le _), by rw [List.length_append]; exact Nat.le_add_left _ _, by rw [List.length_append] at hl; exact hl, List.length_append⟩
/-- the data of the open block j -/
def oln (O : List Blk) (j : Nat) (b : Blk) : Nat := if j + 1 = O.length then b.2.1 - 1 else b.2.1
theorem rqC_op {C O : List Blk} {ps : Nat → Int64} {lg : Nat → Int32} (h : rqOK C O) (hr : repC (C ++ O) ps lg) {j : Nat} (hj : j < O.length) : ∃ b, O[j]? = some b ∧ O.drop j = b :: O.drop (j + 1) ∧ (if C.length + j + 1 = (C ++ O).length then lg (C.length + j) - 1 else lg (C.length + j)) = nI (oln O j b) ∧ ps (C.length + j) = b.1 - 2147483648 ∧ thP b.1 (lN b.2.1) ∧ b.2.1 ≤ 65536 ∧ (j + 1 = O.length → 0 < b.2.1) ∧ oln O j b ≤ b.2.1 := by
  obtain ⟨hC, hO, hl, hb, -, ⟨I, t, hI, ht⟩⟩ := h
  have e : O[j]? = some O[j] := List.getElem?_eq_getElem hj
  have e2 : (C ++ O)[C.length + j]? = some O[j] := by rw [List.getElem?_append_right (by omega), Nat.add_sub_cancel_left]; exact e
  have q := hr _ _ e2
  have q2 := hb _ (List.mem_of_getElem? e2)
  have q3 : j + 1 = O.length → 0 < (O[j]).2.1 := by
    intro z
    have : O[j]? = some t := by
      rw [hI, List.getElem?_append_right (by rw [hI, List.length_append] at z; simp at z; omega)]
      rw [hI, List.length_append] at z
      simp at z
      rw [show j - I.length = 0 by omega]; rfl
    rw [e] at this
    injection this with this
    rw [this]; exact ht
  refine ⟨O[j], e, drop_1 e, ?_, q.1, q2.1, q2.2, q3, ?_⟩
  · unfold oln
    by_cases z : j + 1 = O.length
    · rw [if_pos (by rw [List.length_append]; omega), if_pos z, q.2, nI_sub1 (by have := q3 z; omega)]
    · rw [if_neg (by rw [List.length_append]; omega), if_neg z, q.2]
  · unfold oln; split <;> omega
/-- the data before the open block j are a bytes -/
def opA (O : List Blk) (j a : Nat) : Prop := (j < O.length ∧ a + tot (mS (O.drop j)) = tot (mS O)) ∨ (j = O.length ∧ a = tot (mS O) - 1)
theorem opA_0 {O : List Blk} (h : 1 ≤ O.length) : opA O 0 0 := Or.inl ⟨by omega, by rw [Nat.zero_add, List.drop_zero]⟩
theorem opA_1 {O : List Blk} {j a : Nat} {b : Blk} (hj : j < O.length) (hd : O.drop j = b :: O.drop (j + 1)) (hp : j + 1 = O.length → 0 < b.2.1) (h : opA O j a) : opA O (j + 1) (a + oln O j b) := by
  rcases h with ⟨-, h⟩ | ⟨h, -⟩
  · rw [hd, tot_c] at h
    by_cases z : j + 1 = O.length
    · refine Or.inr ⟨z, ?_⟩
      have := hp z
      rw [z, List.drop_length] at h
      have e : tot (mS []) = 0 := rfl
      unfold oln; rw [if_pos z]; omega
    · refine Or.inl ⟨by omega, ?_⟩
      unfold oln; rw [if_neg z]; omega
  · omega
