/-! the queue's registers -/
def pl3 (b o a : Int64) : Nat → Int64 := fun j => if j = 0 then b else if j = 1 then o else if j = 2 then a else 0
theorem pl3_0 (b o a x : Int64) : vp_updL (pl3 b o a) 0 x = pl3 x o a := by
  funext j; unfold vp_updL pl3; split <;> simp_all
theorem pl3_1 (b o a x : Int64) : vp_updL (pl3 b o a) 1 x = pl3 b x a := by
  funext j; unfold vp_updL pl3; by_cases h : j = 1 <;> simp_all
theorem pl3_2 (b o a x : Int64) : vp_updL (pl3 b o a) 2 x = pl3 b o x := by
  funext j; unfold vp_updL pl3; by_cases h : j = 2 <;> simp_all
theorem pl3_z : (fun _ => 0 : Nat → Int64) = pl3 0 0 0 := by
  funext j; unfold pl3; split <;> (try split) <;> (try split) <;> rfl
theorem hi32 {n : Nat} (hn : n < 2 ^ 64) : n &&& (2 ^ 64 - 2 ^ 32) = n / 2 ^ 32 * 2 ^ 32 := by
  apply Nat.eq_of_testBit_eq
  intro i
  rw [Nat.testBit_and, show 2 ^ 64 - 2 ^ 32 = 2 ^ 64 - ((2 ^ 32 - 1) + 1) by decide, Nat.testBit_two_pow_sub_succ (by decide), Nat.testBit_two_pow_sub_one, Nat.mul_comm, Nat.testBit_two_pow_mul, Nat.testBit_div_two_pow]
  by_cases h : 32 ≤ i
  · by_cases h2 : i < 64
    · simp [h, h2, Nat.not_lt.mpr h]
    · have : n.testBit i = false := Nat.testBit_lt_two_pow (Nat.lt_of_lt_of_le hn (Nat.pow_le_pow_right (by decide) (by omega)))
      simp [h, this]
  · simp [h, Nat.lt_of_not_le h]
/-- the lower, the upper half of an address put anew -/
theorem wLo_m (a : Int64) (k : Int32) : ((a.toUInt64 >>> ((32 : Int32).toInt64.toUInt64 &&& Int64.toUInt64 63)).toInt64 <<< ((32 : Int32).toInt64 &&& 63)) ||| (k.toInt64 &&& 4294967295) = wLo a k := by
  obtain ⟨n, hn, rfl⟩ := wb_of a
  have h1 := wb_shr hn (show 32 < 64 by decide)
  have h2 := wb_shl (n / 2 ^ 32) (show 32 < 64 by decide)
  rw [show (nI 32) = (32 : Int32) from rfl] at h1 h2
  unfold wLo
  rw [h1, h2, show (-4294967296 : Int64) = lN (2 ^ 64 - 2 ^ 32) by decide, wb_and hn (by decide), hi32 hn]
theorem par_m (v : Int32) : (v - v / 2 * 2 = 0) ↔ (v &&& 1 = 0) := by
  have h1 : (v - v / 2 * 2).toInt = v.toInt.tmod 2 := rem_toInt v 2
  have h2 : v &&& 1 = nI (v.toBitVec.toNat % 2) := pk_and v (m := 1) 1 (by decide)
  have h3 : (v.toInt : Int) % 2 = ((v.toBitVec.toNat % 2 : Nat) : Int) := by
    show v.toBitVec.toInt % 2 = _
    rw [BitVec.toInt_eq_toNat_cond]
    split <;> omega
  rw [h2, show (0 : Int32) = nI 0 from rfl, nI_eq (by omega) (by decide), ← Int32.toInt_inj, h1, nI_toInt (by decide)]
  constructor
  · intro h
    have h4 : v.toInt % 2 = 0 := by
      have e := Int.tmod_add_mul_tdiv v.toInt 2
      rw [h] at e
      omega
    omega
  · intro h
    have h4 : v.toInt % 2 = 0 := by omega
    have e : (2 : Int) ∣ v.toInt := Int.dvd_of_emod_eq_zero h4
    exact Int.tmod_eq_zero_of_dvd e
abbrev QT : Type := Int32 × Int32 × Int64 × Int64 × Int64
/-- a register of the queue written: size, ready, where blocks, offers and answers are -/
def qUp (x v sz rd : Int32) (bl of an : Int64) : QT :=
  if x = 56 then (if v = 1 ∨ v = 2 ∨ v = 4 ∨ v = 8 ∨ v = 16 then v else sz, rd, bl, of, an)
  else if x = 68 then (sz, if v &&& 1 = 0 then 0 else 1, bl, of, an)
  else if x = 128 then (sz, rd, wLo bl v, of, an) else if x = 132 then (sz, rd, wUp bl v, of, an)
  else if x = 144 then (sz, rd, bl, wLo of v, an) else if x = 148 then (sz, rd, bl, wUp of v, an)
  else if x = 160 then (sz, rd, bl, of, wLo an v) else if x = 164 then (sz, rd, bl, of, wUp an v)
  else (sz, rd, bl, of, an)
def qSet (x v ch sz rd : Int32) (bl of an : Int64) : QT := if ch = 0 ∧ (rd = 0 ∨ x = 68) then qUp x v sz rd bl of an else (sz, rd, bl, of, an)
