/-! numbers and bytes: what the class's rows of bytes are, in words of their own -/
def bI (p : Prop) [Decidable p] : Int32 := if p then 1 else 0
theorem bI_t {p : Prop} [Decidable p] (h : p) : bI p = 1 := if_pos h
theorem bI_f {p : Prop} [Decidable p] (h : ¬ p) : bI p = 0 := if_neg h
theorem bI_0 {p : Prop} [Decidable p] (h : bI p = 0) : ¬ p := fun q => by rw [bI_t q] at h; exact absurd h (by decide)
theorem bI_1 {p : Prop} [Decidable p] (h : ¬ bI p = 0) : p := Decidable.byContradiction fun q => h (bI_f q)
theorem l0 : (0 : Int64).toInt = 0 := by decide
theorem l1 : (1 : Int64).toInt = 1 := by decide
theorem lcl {x y : Int64} : lg_cmp x y < 0 ↔ x.toInt < y.toInt := (lg_cmp_lt x y).trans Int64.lt_iff_toInt_lt
theorem lcg {x y : Int64} : 0 < lg_cmp x y ↔ y.toInt < x.toInt := (lg_cmp_gt x y).trans Int64.lt_iff_toInt_lt
theorem nIl {n : Nat} (h : n < 2 ^ 31) : (nI n).toInt64.toInt = n := by rw [Int32.toInt_toInt64, nI_toInt h]
theorem i64_rng (x : Int64) : -9223372036854775808 ≤ x.toInt ∧ x.toInt < 9223372036854775808 := ⟨Int64.le_toInt x, Int64.toInt_lt x⟩
theorem i32_rng (x : Int32) : -2147483648 ≤ x.toInt ∧ x.toInt < 2147483648 := ⟨Int32.le_toInt x, Int32.toInt_lt x⟩
theorem l_sub {x y : Int64} (h1 : -9223372036854775808 ≤ x.toInt - y.toInt) (h2 : x.toInt - y.toInt < 9223372036854775808) : (x - y).toInt = x.toInt - y.toInt := by
  rw [Int64.toInt_sub, Int.bmod_eq_of_le (by omega) (by omega)]
theorem l_add {x y : Int64} (h1 : -9223372036854775808 ≤ x.toInt + y.toInt) (h2 : x.toInt + y.toInt < 9223372036854775808) : (x + y).toInt = x.toInt + y.toInt := by
  rw [Int64.toInt_add, Int.bmod_eq_of_le (by omega) (by omega)]
theorem i_sub {x y : Int32} (h1 : -2147483648 ≤ x.toInt - y.toInt) (h2 : x.toInt - y.toInt < 2147483648) : (x - y).toInt = x.toInt - y.toInt := by
  rw [Int32.toInt_sub, Int.bmod_eq_of_le (by omega) (by omega)]
theorem i_add {x y : Int32} (h1 : -2147483648 ≤ x.toInt + y.toInt) (h2 : x.toInt + y.toInt < 2147483648) : (x + y).toInt = x.toInt + y.toInt := by
  rw [Int32.toInt_add, Int.bmod_eq_of_le (by omega) (by omega)]
theorem l2i_toInt {x : Int64} (h1 : -2147483648 ≤ x.toInt) (h2 : x.toInt < 2147483648) : x.toInt32.toInt = x.toInt := by
  rw [Int64.toInt_toInt32, Int.bmod_eq_of_le (by omega) (by omega)]
/-- count bytes from place on lie in a row of n -/
abbrev hoP (n : Nat) (p c : Int64) : Prop := 0 ≤ p.toInt ∧ 0 ≤ c.toInt ∧ p.toInt + c.toInt ≤ n
theorem ho_n1 {n : Nat} {p c : Int64} (h : lg_cmp p 0 < 0) : ¬ hoP n p c := fun q => by have := lcl.mp h; rw [l0] at this; omega
theorem ho_n2 {n : Nat} {p c : Int64} (h : lg_cmp c 0 < 0) : ¬ hoP n p c := fun q => by have := lcl.mp h; rw [l0] at this; omega
theorem ho_n3 {n : Nat} (hn : n < 2 ^ 31) {p c : Int64} (h : 0 < lg_cmp c (nI n).toInt64) : ¬ hoP n p c := fun q => by have := lcg.mp h; rw [nIl hn] at this; omega
theorem ho_n4 {n : Nat} (hn : n < 2 ^ 31) {p c : Int64} (h2 : ¬ lg_cmp c 0 < 0) (h : 0 < lg_cmp p ((nI n).toInt64 - c)) : ¬ hoP n p c := fun q => by
  have := lcg.mp h
  rw [lcl, l0] at h2
  rw [l_sub (by rw [nIl hn]; have := i64_rng c; omega) (by rw [nIl hn]; omega), nIl hn] at this
  omega
theorem ho_y {n : Nat} (hn : n < 2 ^ 31) {p c : Int64} (h1 : ¬ lg_cmp p 0 < 0) (h2 : ¬ lg_cmp c 0 < 0) (h3 : ¬ 0 < lg_cmp c (nI n).toInt64) (h4 : ¬ 0 < lg_cmp p ((nI n).toInt64 - c)) : hoP n p c := by
  rw [lcl, l0] at h1 h2
  rw [lcg, nIl hn] at h3
  rw [lcg, l_sub (by rw [nIl hn]; have := i64_rng c; omega) (by rw [nIl hn]; omega), nIl hn] at h4
  omega
/-- the byte at a place, 0 where there is none -/
def atS (n : Nat) (f : Nat → Int32) (p : Int64) : Int32 := if hoP n p 1 then f p.toInt.toNat &&& 255 else 0
def putS (n : Nat) (f : Nat → Int32) (p : Int64) (v : Int32) : Nat → Int32 := if hoP n p 1 then upd f p.toInt.toNat v.toInt8.toInt32 else f
theorem ho_in {n : Nat} (hn : n < 2 ^ 31) {p c : Int64} (hc : 0 < c.toInt) (h : hoP n p c) : vp_in p.toInt32 n ∧ p.toInt32.toNatClampNeg = p.toInt.toNat := by
  have e : p.toInt32.toInt = p.toInt := l2i_toInt (by omega) (by omega)
  refine ⟨vp_in_iff.mpr (by rw [e]; omega), ?_⟩
  show p.toInt32.toInt.toNat = _
  rw [e]
theorem ho_cl {n : Nat} (hn : n < 2 ^ 31) {p c : Int64} (h : hoP n p c) : p.toInt32.toNatClampNeg = p.toInt.toNat ∧ ¬ p.toInt32 < 0 := by
  have e : p.toInt32.toInt = p.toInt := l2i_toInt (by omega) (by omega)
  refine ⟨by show p.toInt32.toInt.toNat = _; rw [e], ?_⟩
  rw [Int32.lt_iff_toInt_lt, e]
  show ¬ p.toInt < 0
  omega
/-- k bytes from place on, the highest first, behind a -/
def numF (n : Nat) (f : Nat → Int32) (p : Int64) : Nat → Int64 → Int64
  | 0, a => a
  | k + 1, a => numF n f p k ((a <<< ((8 : Int32).toInt64 &&& 63)) ||| (atS n f (p + (nI k).toInt64)).toInt64)
/-- the bytes k .. k + r - 1 of a number are put, v what is left of it -/
def putF (n : Nat) (p : Int64) : Nat → Nat → Int64 → (Nat → Int32) → (Nat → Int32)
  | 0, _, _, f => f
  | r + 1, k, v, f => putF n p r (k + 1) (v.toUInt64 >>> ((8 : Int32).toInt64.toUInt64 &&& Int64.toUInt64 63)).toInt64 (putS n f (p + (nI k).toInt64) v.toInt32)
theorem num_end {k : Nat} (hk : k ≤ 8) (h : nI k - 1 < 0) : k = 0 := by
  cases k with
  | zero => rfl
  | succ k => rw [nI_pred] at h; exact absurd h (nI_pos (by omega))
theorem num_more {k : Nat} (hk : k ≤ 8) (h : ¬ nI k - 1 < 0) : ∃ k0, k = k0 + 1 := by
  cases k with
  | zero => exact absurd (by decide) h
  | succ k => exact ⟨k, rfl⟩
/-! the queue's places -/
def blP (bl : Int64) (k : Int32) : Int64 := bl - 2147483648 + 16 * k.toInt64
def ofP (of : Int64) (tk sz : Int32) : Int64 := of - 2147483648 + 4 + 2 * (tk &&& (sz - 1)).toInt64
def anP (an : Int64) (td sz : Int32) : Int64 := an - 2147483648 + 4 + 8 * (td &&& (sz - 1)).toInt64
def acP (an : Int64) : Int64 := an - 2147483648 + 2
def wLo (a : Int64) (k : Int32) : Int64 := (a &&& (-4294967296)) ||| (k.toInt64 &&& 4294967295)
def wUp (a : Int64) (k : Int32) : Int64 := (k.toInt64 <<< ((32 : Int32).toInt64 &&& 63)) ||| (a &&& 4294967295)
