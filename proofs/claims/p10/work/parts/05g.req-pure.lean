/-! sectors, sums of lengths, walking through stretches -/
theorem as_1 {d : Nat} (hd : d < 2 ^ 31) : lg_cmp (lN d) 0 ≤ 0 ↔ ¬ 0 < d := by rw [lcle, lN_toInt hd, l0]; omega
theorem as_2 {d : Nat} (hd : d < 2 ^ 31) : 0 < lg_cmp (lN d) 32768 ↔ 32768 < d := by rw [lcg, lN_toInt hd, show (32768 : Int64).toInt = 32768 by decide]; omega
theorem as_3 {d : Nat} (hd : d < 2 ^ 31) : lg_cmp (lN d - lN d / 512 * 512) 0 = 0 ↔ d % 512 = 0 := by
  rw [lce, show (512 : Int64) = lN 512 from rfl, pk_lRem (by omega) (by decide) (by decide), lN_toInt (by omega), l0]; omega
theorem as_4 {x : Int64} : lg_cmp x 0 < 0 ↔ x.toInt < 0 := by rw [lcl, l0]
theorem as_5 {x : Int64} {n : Nat} (hn : n ≤ 2048) : 0 ≤ lg_cmp x (nI n).toInt64 ↔ (n : Int) ≤ x.toInt := by rw [lcge, nIl (by omega)]
theorem as_6 {d n : Nat} (hd : d < 2 ^ 31) (hn : n ≤ 2048) {x : Int64} (h1 : 0 ≤ x.toInt) (h2 : x.toInt < n) : 0 < lg_cmp (lN d / 512) ((nI n).toInt64 - x) ↔ (n : Int) - x.toInt < ((d / 512 : Nat) : Int) := by
  rw [lcg, show (512 : Int64) = lN 512 from rfl, pk_lDiv (by omega) (by decide) (by decide), lN_toInt (by omega), l_sub (by rw [nIl (by omega)]; omega) (by rw [nIl (by omega)]; omega), nIl (by omega)]
/-- the reference's rows hold the blocks L -/
def repM (L : List Blk) (gs gl : Nat → Int64) (go : Nat → Int32) : Prop := ∀ (i : Nat) (b : Blk), L[i]? = some b → gs i = b.1 ∧ gl i = lN b.2.1 ∧ go i = bI (b.2.2 = true)
def flt (L : List Blk) (ob : Bool) : List (Nat × Nat) := (L.filter (fun b => b.2.2 == ob)).map str
theorem flt_step {L : List Blk} {k : Nat} {b : Blk} (h : L[k]? = some b) (ob : Bool) : tot (flt (L.drop k) ob) = (if b.2.2 = ob then b.2.1 else 0) + tot (flt (L.drop (k + 1)) ob) := by
  obtain ⟨hk, hb⟩ := List.getElem?_eq_some_iff.mp h
  rw [List.drop_eq_getElem_cons hk, hb]
  unfold flt
  rw [List.filter_cons]
  by_cases e : b.2.2 = ob
  · rw [if_pos (by simp [e]), if_pos e]; rfl
  · rw [if_neg (by simp [e]), if_neg e, Nat.zero_add]
theorem bI_n1 {x : Bool} : bI (x = true) = 1 ↔ x = true := by cases x <;> decide
theorem bI_n0 {x : Bool} : bI (x = true) = 0 ↔ x = false := by cases x <;> decide
def hdl : List (Nat × Nat) → Nat
  | [] => 0
  | (_, l) :: _ => l
def seg (gs gl : Nat → Int64) (i : Nat) (R : List (Nat × Nat)) : Prop := i + R.length ≤ 16 ∧ ∀ (j : Nat) (p : Nat × Nat), R[j]? = some p → off (gs (i + j)) = p.1 ∧ gl (i + j) = lN p.2 ∧ p.2 ≤ 65536 ∧ thP (gs (i + j)) (lN p.2)
theorem seg_tl {gs gl : Nat → Int64} {i a l : Nat} {R : List (Nat × Nat)} (h : seg gs gl i ((a, l) :: R)) : seg gs gl (i + 1) R := by
  refine ⟨by have := h.1; rw [List.length_cons] at this; omega, fun j p hj => ?_⟩
  have := h.2 (j + 1) p (by rw [List.getElem?_cons_succ]; exact hj)
  rw [show i + 1 + j = i + (j + 1) by omega]; exact this
theorem seg_hd {gs gl : Nat → Int64} {i a l : Nat} {R : List (Nat × Nat)} (h : seg gs gl i ((a, l) :: R)) : i < 16 ∧ off (gs i) = a ∧ gl i = lN l ∧ l ≤ 65536 ∧ thP (gs i) (lN l) := by
  have := h.2 0 (a, l) rfl
  rw [Nat.add_zero] at this
  have h1 := h.1
  rw [List.length_cons] at h1
  exact ⟨by omega, this⟩
theorem th_in {a : Int64} {l w : Nat} (h : thP a (lN l)) (hl : l ≤ 65536) (hw : w < l) : thP (a + lN (w + 1) - 1) 1 ∧ off (a + lN (w + 1) - 1) = off a + w := by
  have e : (lN l).toInt = l := lN_toInt (by omega)
  rcases h with h | ⟨h1, h2, h3⟩
  · omega
  · have e1 : (lN (w + 1)).toInt = ((w + 1 : Nat) : Int) := lN_toInt (by omega)
    have e2 : (a + lN (w + 1)).toInt = a.toInt + (w + 1 : Nat) := by rw [l_add (by rw [e1]; omega) (by rw [e1]; omega), e1]
    have e3 : (a + lN (w + 1) - 1).toInt = a.toInt + w := by rw [l_sub (by rw [e2, l1]; omega) (by rw [e2, l1]; omega), e2, l1]; omega
    refine ⟨Or.inr ⟨by rw [e3]; omega, by rw [e3]; omega, by rw [e3, l1]; omega⟩, ?_⟩
    unfold off
    rw [e3]; omega
