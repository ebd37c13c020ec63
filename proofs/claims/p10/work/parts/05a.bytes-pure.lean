/-! bytes: M gives the byte of each place, 0 .. 255; a number of k of them, lowest first -/
def nbs (M : Nat → Nat) (p : Nat) : Nat → Nat
  | 0 => 0
  | k + 1 => nbs M p k + M (p + k) * 2 ^ (8 * k)
def byt (M : Nat → Nat) : Prop := ∀ i, M i < 256
theorem p8 (k : Nat) : 2 ^ (8 * (k + 1)) = 256 * 2 ^ (8 * k) := by
  rw [show 8 * (k + 1) = 8 * k + 8 by omega, Nat.pow_add, Nat.mul_comm]
theorem p8_pos (k : Nat) : 0 < 2 ^ (8 * k) := Nat.pos_of_ne_zero (by simp)
theorem nbs_lt {M : Nat → Nat} (hM : byt M) (p k : Nat) : nbs M p k < 2 ^ (8 * k) := by
  induction k with
  | zero => simp [nbs]
  | succ k ih =>
    have h := hM (p + k)
    have h2 : M (p + k) * 2 ^ (8 * k) ≤ 255 * 2 ^ (8 * k) := Nat.mul_le_mul_right _ (by omega)
    rw [nbs, p8]
    omega
theorem nbs_byte {M : Nat → Nat} (hM : byt M) (p : Nat) {j k : Nat} (h : j < k) : nbs M p k / 2 ^ (8 * j) % 256 = M (p + j) := by
  induction k with
  | zero => omega
  | succ k ih =>
    rcases Nat.lt_or_ge j k with q | q
    · have e : 2 ^ (8 * k) = 2 ^ (8 * j) * (256 * 2 ^ (8 * (k - j - 1))) := by
        rw [← p8, ← Nat.pow_add]; congr 1; omega
      rw [nbs, e, ← Nat.mul_assoc, Nat.mul_comm (M (p + k)), Nat.mul_assoc, Nat.add_mul_div_left _ _ (p8_pos j), Nat.mul_comm (M (p + k)), Nat.mul_assoc, Nat.add_mul_mod_self_left]
      exact ih q
    · have e : j = k := by omega
      subst e
      rw [nbs, Nat.add_mul_div_right _ _ (p8_pos j), Nat.div_eq_of_lt (nbs_lt hM p j), Nat.zero_add]
      exact Nat.mod_eq_of_lt (hM _)
theorem nbs_congr {M M' : Nat → Nat} (p : Nat) {k : Nat} (h : ∀ i, i < k → M (p + i) = M' (p + i)) : nbs M p k = nbs M' p k := by
  induction k with
  | zero => rfl
  | succ k ih => rw [nbs, nbs, ih (fun i hi => h i (by omega)), h k (by omega)]
theorem nbs_up_in {M : Nat → Nat} (p : Nat) {j k : Nat} (h : j < k) (v : Nat) : nbs (va_up M (p + j) v) p k + M (p + j) * 2 ^ (8 * j) = nbs M p k + v * 2 ^ (8 * j) := by
  induction k with
  | zero => omega
  | succ k ih =>
    rw [nbs, nbs]
    rcases Nat.lt_or_ge j k with q | q
    · have := ih q
      rw [va_up_ne _ _ (show p + k ≠ p + j by omega)]
      omega
    · have e : j = k := by omega
      subst e
      rw [va_up_self, nbs_congr (M' := M) p (fun i hi => va_up_ne _ _ (by omega))]
      omega
theorem nbs_up_out {M : Nat → Nat} {p k i : Nat} (h : i < p ∨ p + k ≤ i) (v : Nat) : nbs (va_up M i v) p k = nbs M p k := nbs_congr p (fun j hj => va_up_ne _ _ (by omega))
theorem byt_up {M : Nat → Nat} (hM : byt M) (i : Nat) {v : Nat} (hv : v < 256) : byt (va_up M i v) := fun j => by
  by_cases e : j = i
  · rw [e, va_up_self]; exact hv
  · rw [va_up_ne _ _ e]; exact hM j
/-- the class's rows: a byte with its sign -/
def cB (M : Nat → Nat) : Nat → Int32 := fun j => (nI (M j)).toInt8.toInt32
/-- the reference's rows: eight bytes to a long -/
def mL (M : Nat → Nat) : Nat → Int64 := fun i => lN (nbs M (8 * i) 8)
theorem cB_255 {M : Nat → Nat} (hM : byt M) (j : Nat) : cB M j &&& 255 = nI (M j) := by
  have : ∀ n, n < 256 → (nI n).toInt8.toInt32 &&& 255 = nI n := by decide +kernel
  exact this _ (hM j)
theorem i8_of (v : Int32) : v.toInt8.toInt32 = (nI (v.toBitVec.toNat % 256)).toInt8.toInt32 := by
  have e : v.toInt8 = (nI (v.toBitVec.toNat % 256)).toInt8 := by
    apply Int8.toBitVec_inj.mp
    show v.toBitVec.signExtend 8 = (nI (v.toBitVec.toNat % 256)).toBitVec.signExtend 8
    rw [BitVec.signExtend_eq_setWidth_of_le _ (by decide), BitVec.signExtend_eq_setWidth_of_le _ (by decide)]
    apply BitVec.eq_of_toNat_eq
    rw [BitVec.toNat_setWidth, BitVec.toNat_setWidth, pk_tn (by omega)]
    omega
  rw [e]
theorem cB_up (M : Nat → Nat) (k : Nat) (v : Int32) : upd (cB M) k v.toInt8.toInt32 = cB (va_up M k (v.toBitVec.toNat % 256)) := by
  funext j
  by_cases e : j = k
  · subst e; rw [pk_us]; show _ = (nI (va_up M j _ j)).toInt8.toInt32; rw [va_up_self]; exact i8_of v
  · rw [pk_un e]; show cB M j = (nI (va_up M k _ j)).toInt8.toInt32; rw [va_up_ne _ _ e]; rfl
theorem cB_fit (M : Nat → Nat) : sb_Fit (cB M) := fun j => pk_fb _
