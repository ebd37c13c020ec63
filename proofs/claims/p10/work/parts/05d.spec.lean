/-! what calls answer and do, in words that class and reference share -/
theorem nar_bI {p : Prop} [Decidable p] : narrow .boolean (.int (bI p)) = .int (bI p) := by
  unfold bI; split <;> rfl
/-- what load and store say of their arguments: 1 a wrong size, 2 not in memory, 0 fine -/
def ldc (a : Int64) (x : Int32) : Int32 := if szP x then (if thP a x.toInt64 then 0 else 2) else 1
theorem mem_ok {a : Int64} {x : Int32} (hs : szP x) (ht : thP a x.toInt64) : ∃ j : Nat, x = nI j ∧ 1 ≤ j ∧ j ≤ 8 ∧ a - 2147483648 = lN (off a) ∧ off a + j ≤ 65536 ∧ x.toInt.toNat = j := by
  obtain ⟨j, h1, h2, h3, h4⟩ := szP_j hs
  rw [h4] at ht
  have hj : (lN j).toInt = j := lN_toInt (by omega)
  have h5 := off_ok ht (by rw [hj]; omega)
  refine ⟨j, h1, h2, h3, h5.1, by have := h5.2; rw [hj] at this; omega, ?_⟩
  rw [h1, nI_toInt (by omega)]; rfl
/-- memory behind a store -/
def stM (M : Nat → Nat) (a : Int64) (x : Int32) (w : Nat) : Nat → Nat := if ldc a x = 0 then pbs M (off a) w x.toInt.toNat else M
/-- no place of the disk -/
abbrev npP (x : Int32) (n : Nat) : Prop := x.toInt < 0 ∨ 512 * (n : Int) ≤ x.toInt
/-- no register -/
abbrev noP (x : Int32) : Prop := x.toInt < 0 ∨ 508 < x.toInt ∨ x.toInt % 4 ≠ 0
theorem i0 : (0 : Int32).toInt = 0 := by decide
theorem m512 {n : Nat} : (512 : Int32) * nI n = nI (512 * n) := pk_mul 512 n
theorem np_1 {x : Int32} (n : Nat) (h : x < 0) : npP x n := Or.inl (by rw [Int32.lt_iff_toInt_lt, i0] at h; exact h)
theorem np_2 {x : Int32} {n : Nat} (hn : n ≤ 2048) (h : ¬ x < 512 * nI n) : npP x n := Or.inr (by
  rw [m512, Int32.lt_iff_toInt_lt, nI_toInt (by omega)] at h; omega)
theorem np_3 {x : Int32} {n : Nat} (hn : n ≤ 2048) (h1 : ¬ x < 0) (h : x < 512 * nI n) : ¬ npP x n := by
  rw [Int32.lt_iff_toInt_lt, i0] at h1
  rw [m512, Int32.lt_iff_toInt_lt, nI_toInt (by omega)] at h
  omega
theorem np_i {x : Int32} {n : Nat} (h : ¬ npP x n) : x = nI x.toInt.toNat ∧ x.toInt.toNat < 512 * n := by
  refine ⟨Int32.toInt_inj.mp ?_, by omega⟩
  have := i32_rng x
  rw [nI_toInt (by omega)]; omega
theorem i508 : (508 : Int32).toInt = 508 := by decide
theorem no_1 {x : Int32} (h : x < 0) : noP x := Or.inl (by rw [Int32.lt_iff_toInt_lt, i0] at h; exact h)
theorem no_2 {x : Int32} (h : 508 < x) : noP x := Or.inr (Or.inl (by rw [Int32.lt_iff_toInt_lt, i508] at h; exact h))
theorem rm4 {x : Int32} (h1 : ¬ x < 0) (h2 : ¬ 508 < x) : (x - x / 4 * 4 = 0) ↔ x.toInt % 4 = 0 := by
  obtain ⟨j, hj, rfl⟩ := nI_of h1
  rw [show (4 : Int32) = nI 4 from rfl, pk_rem hj (by decide) (by decide), nI_toInt hj, show (0 : Int32) = nI 0 from rfl, nI_eq (by omega) (by decide)]
  omega
theorem an3 {x : Int32} (h1 : ¬ x < 0) (h2 : ¬ 508 < x) : (x &&& 3 = 0) ↔ x.toInt % 4 = 0 := by
  obtain ⟨j, hj, rfl⟩ := nI_of h1
  rw [pk_andN (by omega) (m := 3) 2 (by decide), nI_toInt hj, show (0 : Int32) = nI 0 from rfl, nI_eq (by omega) (by decide)]
  omega
theorem no_3 {x : Int32} (h1 : ¬ x < 0) (h2 : ¬ 508 < x) (h3 : ¬ x - x / 4 * 4 = 0) : noP x := Or.inr (Or.inr (fun q => h3 ((rm4 h1 h2).mpr q)))
theorem no_4 {x : Int32} (h1 : ¬ x < 0) (h2 : ¬ 508 < x) (h3 : x - x / 4 * 4 = 0) : ¬ noP x := by
  have q := (rm4 h1 h2).mp h3
  rw [Int32.lt_iff_toInt_lt, i0] at h1
  rw [Int32.lt_iff_toInt_lt, i508] at h2
  omega
/-- what a register reads -/
def rdS (x fe ch rd ca sx sc : Int32) : Int32 := if x = 0 then 1953655158 else if x = 4 then 2 else if x = 8 then 2 else if x = 16 then (if fe = 0 then 512 else if fe = 1 then 1 else 0) else if x = 52 then (if ch = 0 then 16 else 0) else if x = 68 then (if rd = 0 then 0 else if ch = 0 then 1 else 0) else if x = 96 then ca else if x = 112 then sx else if x = 256 then sc else 0
