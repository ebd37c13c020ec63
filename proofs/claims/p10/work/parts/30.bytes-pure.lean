/-! the class's rows of bytes, by M -/
theorem ho_lN {n p k : Nat} (hn : n < 2 ^ 31) (h : p + k ≤ n) : hoP n (lN p) (lN k) := by
  have e1 : (lN p).toInt = p := lN_toInt (by omega)
  have e2 : (lN k).toInt = k := lN_toInt (by omega)
  show 0 ≤ (lN p).toInt ∧ 0 ≤ (lN k).toInt ∧ (lN p).toInt + (lN k).toInt ≤ n
  omega
theorem atS_ok {n p : Nat} {M : Nat → Nat} (hM : byt M) (hn : n < 2 ^ 31) (h : p < n) : atS n (cB M) (lN p) = nI (M p) := by
  unfold atS
  rw [if_pos (show hoP n (lN p) 1 from ho_lN (k := 1) hn (by omega)), lN_toInt (by omega)]
  exact cB_255 hM _
theorem putS_ok {n p : Nat} {M : Nat → Nat} (hn : n < 2 ^ 31) (h : p < n) (v : Int32) : putS n (cB M) (lN p) v = cB (va_up M p (v.toBitVec.toNat % 256)) := by
  unfold putS
  rw [if_pos (show hoP n (lN p) 1 from ho_lN (k := 1) hn (by omega)), lN_toInt (by omega)]
  exact cB_up M _ v
theorem numF_ok {n p : Nat} {M : Nat → Nat} (hM : byt M) (hn : n < 2 ^ 31) : ∀ (k a : Nat), p + k ≤ n → (a + 1) * 2 ^ (8 * k) ≤ 2 ^ 64 → numF n (cB M) (lN p) k (lN a) = lN (a * 2 ^ (8 * k) + nbs M p k) := by
  intro k
  induction k with
  | zero => intro a _ _; show lN a = _; congr 1; simp [nbs]
  | succ k ih =>
    intro a h1 h2
    rw [p8] at h2
    have hb := hM (p + k)
    have hp := p8_pos k
    have h3 : (256 * (a + 1)) * 2 ^ (8 * k) ≤ 2 ^ 64 := by rw [Nat.mul_comm 256, Nat.mul_assoc]; exact h2
    have h4 : 256 * (a + 1) ≤ 2 ^ 64 := Nat.le_trans (Nat.le_mul_of_pos_right _ hp) h3
    show numF n (cB M) (lN p) k ((lN a <<< ((8 : Int32).toInt64 &&& 63)) ||| (atS n (cB M) (lN p + (nI k).toInt64)).toInt64) = _
    have e1 := wb_shl a (show 8 < 64 by decide)
    rw [show nI 8 = (8 : Int32) from rfl] at e1
    rw [e1, nI_l (by omega), lN_add, atS_ok hM hn (by omega), nI_l (by omega), g_or (k := 8) (p := 2 ^ 8) rfl (by omega) (by omega)]
    rw [ih _ (by omega) (Nat.le_trans (Nat.mul_le_mul_right _ (show a * 2 ^ 8 + M (p + k) + 1 ≤ 256 * (a + 1) by omega)) h3)]
    congr 1
    rw [nbs, show a * 2 ^ 8 + M (p + k) = 256 * a + M (p + k) by omega]
    exact num_step _ _ _ _
theorem numF_0 {n p : Nat} {M : Nat → Nat} (hM : byt M) (hn : n < 2 ^ 31) {k : Nat} (hk : k ≤ 8) (h : p + k ≤ n) : numF n (cB M) (lN p) k 0 = lN (nbs M p k) := by
  have := numF_ok hM hn k 0 h (by rw [Nat.zero_add, Nat.one_mul]; exact Nat.pow_le_pow_right (by decide) (by omega))
  rw [Nat.zero_mul, Nat.zero_add] at this
  exact this
theorem sh8 {w : Nat} (h : w < 2 ^ 64) : ((lN w).toUInt64 >>> ((8 : Int32).toInt64.toUInt64 &&& Int64.toUInt64 63)).toInt64 = lN (w / 2 ^ 8) := by
  have := wb_shr h (show 8 < 64 by decide)
  exact this
theorem cB_cpy (f g : Nat → Nat) (a b n : Nat) : va_cpy (cB f) (cB g) a b n = cB (va_cpy f g a b n) := by
  funext j
  show (if b ≤ j ∧ j < b + n then cB f (a + (j - b)) else cB g j) = (nI (if b ≤ j ∧ j < b + n then f (a + (j - b)) else g j)).toInt8.toInt32
  split <;> rfl
theorem cB_0 : (fun _ => 0 : Nat → Int32) = cB (fun _ => 0) := by
  funext j; show 0 = (nI 0).toInt8.toInt32; decide
/-- bytes copied where both stretches are there -/
def cpB (n n2 : Nat) (f g : Nat → Nat) (p q : Int64) (k : Int32) : Nat → Nat := if hoP n p k.toInt64 ∧ hoP n2 q k.toInt64 then va_cpy f g p.toInt.toNat q.toInt.toNat k.toInt.toNat else g
