/-! numbers in memory, put and taken; places that are there -/
def pbs (M : Nat → Nat) (o w : Nat) : Nat → (Nat → Nat)
  | 0 => M
  | k + 1 => va_up (pbs M o w k) (o + k) (w / 2 ^ (8 * k) % 256)
theorem byt_pbs {M : Nat → Nat} (hM : byt M) (o w k : Nat) : byt (pbs M o w k) := by
  induction k with
  | zero => exact hM
  | succ k ih => exact byt_up ih _ (Nat.mod_lt _ (by decide))
theorem num_step (v b k n : Nat) : (256 * v + b) * 2 ^ (8 * k) + n = v * 2 ^ (8 * (k + 1)) + (n + b * 2 ^ (8 * k)) := by
  rw [p8, Nat.add_mul, Nat.mul_comm 256 v, Nat.mul_assoc]
  omega
theorem l256 (v : Nat) {b : Nat} (hb : b < 256) : (256 : Int64) * lN v + (nI b).toInt64 = lN (256 * v + b) := by
  rw [nI_l (by omega), ← lN_add, ← lN_mul]
  rfl
theorem lsh {w k : Nat} (hw : w < 2 ^ 64) (hk : k < 8) : (((lN w).toUInt64 >>> ((8 * nI k).toInt64.toUInt64 &&& Int64.toUInt64 63)).toInt64).toInt32 = nI (w / 2 ^ (8 * k)) := by
  rw [m8, wb_shr hw (by omega), lN_i]
theorem nI_256 (n : Nat) : (nI n).toBitVec.toNat % 256 = n % 256 := by
  show n % 2 ^ 32 % 256 = _
  omega
theorem lce {x y : Int64} : lg_cmp x y = 0 ↔ x.toInt = y.toInt := (lg_cmp_eq x y).trans ⟨fun h => by rw [h], fun h => Int64.toInt_inj.mp h⟩
theorem lcge {x y : Int64} : 0 ≤ lg_cmp x y ↔ y.toInt ≤ x.toInt := (lg_cmp_ge x y).trans Int64.le_iff_toInt_le
theorem lcle {x y : Int64} : lg_cmp x y ≤ 0 ↔ x.toInt ≤ y.toInt := (lg_cmp_le x y).trans Int64.le_iff_toInt_le
theorem lS : (2147483648 : Int64).toInt = 2147483648 := by decide
theorem lE : (2147549184 : Int64).toInt = 2147549184 := by decide
/-- ct bytes from a on are in memory -/
abbrev thP (a ct : Int64) : Prop := ct.toInt = 0 ∨ (2147483648 ≤ a.toInt ∧ a.toInt < 2147549184 ∧ ct.toInt ≤ 2147549184 - a.toInt)
theorem th_y0 {a ct : Int64} (h : lg_cmp ct 0 = 0) : thP a ct := Or.inl (by rw [lce, l0] at h; exact h)
theorem th_sub {a : Int64} (h1 : 2147483648 ≤ a.toInt) (h2 : a.toInt < 2147549184) : (2147549184 - a).toInt = 2147549184 - a.toInt := by
  rw [l_sub (by rw [lE]; omega) (by rw [lE]; omega), lE]
theorem th_y {a ct : Int64} (h2 : ¬ lg_cmp a 2147483648 < 0) (h3 : ¬ 0 ≤ lg_cmp a 2147549184) (h4 : ¬ 0 < lg_cmp ct (2147549184 - a)) : thP a ct := by
  rw [lcl, lS] at h2
  rw [lcge, lE] at h3
  rw [lcg, th_sub (by omega) (by omega)] at h4
  exact Or.inr ⟨by omega, by omega, by omega⟩
theorem th_n2 {a ct : Int64} (h1 : ¬ lg_cmp ct 0 = 0) (h2 : lg_cmp a 2147483648 < 0) : ¬ thP a ct := by
  rw [lce, l0] at h1
  rw [lcl, lS] at h2
  rintro (h | h)
  · exact h1 h
  · omega
theorem th_n3 {a ct : Int64} (h1 : ¬ lg_cmp ct 0 = 0) (h3 : 0 ≤ lg_cmp a 2147549184) : ¬ thP a ct := by
  rw [lce, l0] at h1
  rw [lcge, lE] at h3
  rintro (h | h)
  · exact h1 h
  · omega
theorem th_n4 {a ct : Int64} (h1 : ¬ lg_cmp ct 0 = 0) (h2 : ¬ lg_cmp a 2147483648 < 0) (h3 : ¬ 0 ≤ lg_cmp a 2147549184) (h4 : 0 < lg_cmp ct (2147549184 - a)) : ¬ thP a ct := by
  rw [lce, l0] at h1
  rw [lcl, lS] at h2
  rw [lcge, lE] at h3
  rw [lcg, th_sub (by omega) (by omega)] at h4
  rintro (h | h)
  · exact h1 h
  · omega
/-- where an address lies in memory -/
def off (a : Int64) : Nat := (a.toInt - 2147483648).toNat
theorem off_ok {a ct : Int64} (h : thP a ct) (hc : 0 < ct.toInt) : a - 2147483648 = lN (off a) ∧ (off a : Int) + ct.toInt ≤ 65536 := by
  rcases h with h | ⟨h1, h2, h3⟩
  · omega
  · have e : (a - 2147483648).toInt = a.toInt - 2147483648 := by rw [l_sub (by rw [lS]; omega) (by rw [lS]; omega), lS]
    have eo : (off a : Int) = a.toInt - 2147483648 := Int.toNat_of_nonneg (by omega)
    refine ⟨Int64.toInt_inj.mp ?_, by omega⟩
    rw [e, lN_toInt (by omega), eo]
/-- the sizes that there are -/
abbrev szP (x : Int32) : Prop := x = 1 ∨ x = 2 ∨ x = 4 ∨ x = 8
theorem szP_j {x : Int32} (h : szP x) : ∃ j : Nat, x = nI j ∧ 1 ≤ j ∧ j ≤ 8 ∧ x.toInt64 = lN j := by
  rcases h with rfl | rfl | rfl | rfl
  · exact ⟨1, rfl, by omega, by omega, rfl⟩
  · exact ⟨2, rfl, by omega, by omega, rfl⟩
  · exact ⟨4, rfl, by omega, by omega, rfl⟩
  · exact ⟨8, rfl, by omega, by omega, rfl⟩
