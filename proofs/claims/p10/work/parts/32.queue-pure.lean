/-! the class's queue -/
theorem ho_th {a ct : Int64} (h0 : 0 < ct.toInt) (h1 : ct.toInt ≤ 65536) : hoP 65536 (a - 2147483648) ct ↔ thP a ct := by
  have hr := i64_rng a
  by_cases h : -9223372036854775808 ≤ a.toInt - 2147483648
  · have e : (a - 2147483648).toInt = a.toInt - 2147483648 := by rw [l_sub (by rw [lS]; omega) (by rw [lS]; omega), lS]
    show (0 ≤ (a - 2147483648).toInt ∧ 0 ≤ ct.toInt ∧ (a - 2147483648).toInt + ct.toInt ≤ 65536) ↔ (ct.toInt = 0 ∨ (2147483648 ≤ a.toInt ∧ a.toInt < 2147549184 ∧ ct.toInt ≤ 2147549184 - a.toInt))
    rw [e]; omega
  · have e : (a - 2147483648).toInt = a.toInt - 2147483648 + 18446744073709551616 := by
      rw [Int64.toInt_sub, lS, Int.bmod_def]
      omega
    show (0 ≤ (a - 2147483648).toInt ∧ 0 ≤ ct.toInt ∧ (a - 2147483648).toInt + ct.toInt ≤ 65536) ↔ (ct.toInt = 0 ∨ (2147483648 ≤ a.toInt ∧ a.toInt < 2147549184 ∧ ct.toInt ≤ 2147549184 - a.toInt))
    rw [e]; omega
def pw (n : Nat) : Prop := n = 1 ∨ n = 2 ∨ n = 4 ∨ n = 8 ∨ n = 16
theorem pw_le {n : Nat} (h : pw n) : 0 < n ∧ n ≤ 16 := by unfold pw at h; omega
theorem slot_ok {n k : Nat} (h : pw n) (hk : k < 65536) : nI k &&& (nI n - 1) = nI (k % n) := by
  rcases h with rfl | rfl | rfl | rfl | rfl
  · exact pk_andN (by omega) (m := nI 1 - 1) 0 (by decide)
  · exact pk_andN (by omega) (m := nI 2 - 1) 1 (by decide)
  · exact pk_andN (by omega) (m := nI 4 - 1) 2 (by decide)
  · exact pk_andN (by omega) (m := nI 8 - 1) 3 (by decide)
  · exact pk_andN (by omega) (m := nI 16 - 1) 4 (by decide)
theorem sh3 (a b c : Int64) : a - 2147483648 + b + c = (a + b + c) - 2147483648 := by
  rw [Int64.sub_eq_add_neg, Int64.sub_eq_add_neg, Int64.add_assoc, Int64.add_assoc, Int64.add_assoc, Int64.add_comm (-2147483648), Int64.add_assoc, ← Int64.add_assoc a]
theorem sh2 (a b : Int64) : a - 2147483648 + b = (a + b) - 2147483648 := by
  rw [Int64.sub_eq_add_neg, Int64.sub_eq_add_neg, Int64.add_assoc, Int64.add_assoc, Int64.add_comm (-2147483648)]
theorem ofP_ok {of : Int64} {tk sz : Int32} {cn n : Nat} (h : pw n) (hc : cn < 65536) (e1 : tk = nI cn) (e2 : sz = nI n) : ofP of tk sz = ofA of cn n - 2147483648 := by
  have := pw_le h
  unfold ofP ofA
  rw [e1, e2, slot_ok h hc, nI_l (Nat.lt_of_lt_of_le (Nat.mod_lt _ this.1) (by omega)), sh3]
theorem anP_ok {an : Int64} {td sz : Int32} {gn n : Nat} (h : pw n) (hc : gn < 65536) (e1 : td = nI gn) (e2 : sz = nI n) : anP an td sz = anA an gn n - 2147483648 := by
  have := pw_le h
  unfold anP anA
  rw [e1, e2, slot_ok h hc, nI_l (Nat.lt_of_lt_of_le (Nat.mod_lt _ this.1) (by omega)), sh3]
theorem acP_ok (an : Int64) : acP an = (an + 2) - 2147483648 := sh2 an 2
theorem blP_ok (bl : Int64) {k : Nat} (hk : k < 2 ^ 31) : blP bl (nI k) = blA bl k - 2147483648 := by
  unfold blP blA
  rw [nI_l hk, sh2]
theorem inc_ok {k : Nat} (h : k < 65536) : (nI k + 1) &&& 65535 = nI ((k + 1) % 65536) := by
  rw [nI_1]; exact pk_andN (by omega) (m := 65535) 16 (by decide)
