theorem wb_tb (n : Nat) : (lN n).toBitVec = BitVec.ofNat 64 n := rfl
theorem wb_inj {a b : Int64} (h : a.toBitVec = b.toBitVec) : a = b := Int64.toBitVec_inj.mp h
theorem wb_tn {n : Nat} (h : n < 2 ^ 64) : (lN n).toBitVec.toNat = n := by rw [wb_tb, BitVec.toNat_ofNat, Nat.mod_eq_of_lt h]
theorem wb_of (x : Int64) : ∃ n, n < 2 ^ 64 ∧ x = lN n := ⟨x.toBitVec.toNat, x.toBitVec.isLt, wb_inj (by rw [wb_tb]; simp)⟩
theorem wb_of32 (x : Int32) : ∃ n, n < 2 ^ 32 ∧ x = nI n := ⟨x.toBitVec.toNat, x.toBitVec.isLt, Int32.toBitVec_inj.mp (by show _ = BitVec.ofNat 32 _; simp)⟩
theorem wb_c : ∀ k, k < 64 → ((nI k).toInt64 &&& 63) = lN k := by decide +kernel
theorem wb_cu : ∀ k, k < 64 → ((nI k).toInt64.toUInt64 &&& Int64.toUInt64 63) = UInt64.ofNat k := by decide +kernel
theorem wb_sm : ∀ k, k < 64 → (BitVec.ofNat 64 k).smod 64 = BitVec.ofNat 64 k := by decide +kernel
theorem wb_pw {a b : Nat} (h : a ≤ b) : 2 ^ b = 2 ^ a * 2 ^ (b - a) := by rw [← Nat.pow_add]; congr 1; omega
theorem wb_lt2 {a b : Nat} (h : a < b) : 2 ^ a < 2 ^ b := Nat.pow_lt_pow_right (by decide) h
theorem wb_mod (n : Nat) : lN n = lN (n % 2 ^ 64) := wb_inj (by rw [wb_tb, wb_tb]; apply BitVec.eq_of_toNat_eq; rw [BitVec.toNat_ofNat, BitVec.toNat_ofNat, Nat.mod_mod])
theorem wb_shr {n k : Nat} (hn : n < 2 ^ 64) (hk : k < 64) : ((lN n).toUInt64 >>> ((nI k).toInt64.toUInt64 &&& Int64.toUInt64 63)).toInt64 = lN (n / 2 ^ k) := by
  rw [wb_cu k hk]
  apply wb_inj
  apply BitVec.eq_of_toNat_eq
  show ((lN n).toUInt64 >>> UInt64.ofNat k).toNat = (BitVec.ofNat 64 _).toNat
  have h1 : (UInt64.ofNat k).toNat = k := by
    show (BitVec.ofNat 64 k).toNat = k
    rw [BitVec.toNat_ofNat, Nat.mod_eq_of_lt (by omega)]
  have h2 : (lN n).toUInt64.toNat = n := wb_tn hn
  rw [UInt64.toNat_shiftRight, h1, h2, Nat.mod_eq_of_lt hk, Nat.shiftRight_eq_div_pow, BitVec.toNat_ofNat, Nat.mod_eq_of_lt (Nat.lt_of_le_of_lt (Nat.div_le_self _ _) hn)]
theorem wb_shl (n : Nat) {k : Nat} (hk : k < 64) : lN n <<< ((nI k).toInt64 &&& 63) = lN (n * 2 ^ k) := by
  rw [wb_c k hk]
  apply wb_inj
  rw [Int64.toBitVec_shiftLeft, wb_tb, wb_tb, wb_tb, wb_sm k hk]
  apply BitVec.eq_of_toNat_eq
  rw [BitVec.shiftLeft_eq', BitVec.toNat_shiftLeft, BitVec.toNat_ofNat, BitVec.toNat_ofNat, BitVec.toNat_ofNat, Nat.mod_eq_of_lt (show k < 2 ^ 64 by omega), Nat.shiftLeft_eq, Nat.mul_mod, Nat.mod_mod, ← Nat.mul_mod]
theorem wb_and {a b : Nat} (ha : a < 2 ^ 64) (hb : b < 2 ^ 64) : lN a &&& lN b = lN (a &&& b) := by
  apply wb_inj
  rw [Int64.toBitVec_and, wb_tb, wb_tb, wb_tb]
  apply BitVec.eq_of_toNat_eq
  rw [BitVec.toNat_and, BitVec.toNat_ofNat, BitVec.toNat_ofNat, BitVec.toNat_ofNat, Nat.mod_eq_of_lt ha, Nat.mod_eq_of_lt hb, Nat.mod_eq_of_lt (Nat.and_lt_two_pow _ hb)]
theorem wb_or {a b : Nat} (ha : a < 2 ^ 64) (hb : b < 2 ^ 64) : lN a ||| lN b = lN (a ||| b) := by
  apply wb_inj
  rw [Int64.toBitVec_or, wb_tb, wb_tb, wb_tb]
  apply BitVec.eq_of_toNat_eq
  rw [BitVec.toNat_or, BitVec.toNat_ofNat, BitVec.toNat_ofNat, BitVec.toNat_ofNat, Nat.mod_eq_of_lt ha, Nat.mod_eq_of_lt hb, Nat.mod_eq_of_lt (Nat.or_lt_two_pow ha hb)]
theorem wb_mask {n k : Nat} (hn : n < 2 ^ 64) (hk : k < 64) : lN n &&& lN (2 ^ k - 1) = lN (n % 2 ^ k) := by
  rw [wb_and hn (by have := wb_lt2 hk; omega), Nat.and_two_pow_sub_one_eq_mod]
theorem wb_a1 {n : Nat} (hn : n < 2 ^ 64) : lN n &&& 1 = lN (n % 2) := wb_mask (k := 1) hn (by decide)
theorem wb_bit {n k : Nat} (hn : n < 2 ^ 64) (hk : k < 64) : ((lN n).toUInt64 >>> ((nI k).toInt64.toUInt64 &&& Int64.toUInt64 63)).toInt64 &&& 1 = lN (n / 2 ^ k % 2) := by
  rw [wb_shr hn hk, wb_a1 (Nat.lt_of_le_of_lt (Nat.div_le_self _ _) hn)]
theorem wb_xor {q k : Nat} (hk : k < 63) (h : 2 ^ k ≤ q) (h2 : q < 2 ^ (k + 1)) : lN q ^^^ lN (2 ^ k) = lN (q - 2 ^ k) := by
  obtain ⟨r, rfl⟩ : ∃ r, q = 2 ^ k + r := ⟨q - 2 ^ k, by omega⟩
  have hr : r < 2 ^ k := by rw [Nat.pow_succ] at h2; omega
  have hx : (2 ^ k + r) ^^^ 2 ^ k = r := by
    apply Nat.eq_of_testBit_eq
    intro i
    rw [Nat.testBit_xor, Nat.testBit_two_pow]
    rcases Nat.lt_trichotomy i k with h | h | h
    · rw [Nat.testBit_two_pow_add_gt h]
      simp [show ¬ k = i by omega]
    · subst h
      rw [Nat.testBit_two_pow_add_eq]
      simp
    · have a1 : 2 ^ (k + 1) ≤ 2 ^ i := Nat.pow_le_pow_right (by decide) h
      rw [Nat.testBit_lt_two_pow (show 2 ^ k + r < 2 ^ i by omega), Nat.testBit_lt_two_pow (show r < 2 ^ i by omega)]
      simp [show ¬ k = i by omega]
  have b1 := wb_lt2 (show k + 1 < 64 by omega)
  have b2 := wb_lt2 (show k < 64 by omega)
  apply wb_inj
  rw [Int64.toBitVec_xor, wb_tb, wb_tb, wb_tb]
  apply BitVec.eq_of_toNat_eq
  rw [BitVec.toNat_xor, BitVec.toNat_ofNat, BitVec.toNat_ofNat, BitVec.toNat_ofNat, Nat.mod_eq_of_lt (by omega : 2 ^ k + r < 2 ^ 64), Nat.mod_eq_of_lt b2, hx, Nat.add_sub_cancel_left, Nat.mod_eq_of_lt (by omega)]
/-! ===== lN: masks, 'or' of parts that don't overlap is a sum ===== -/
theorem u_tn {n : Nat} (h : n < 2 ^ 64) : (UInt64.ofNat n).toNat = n := Nat.mod_eq_of_lt h
theorem g_and {a b c : Nat} (ha : a < 2 ^ 64) (hb : b < 2 ^ 64) (hc : a &&& b = c) : lN a &&& lN b = lN c := by
  subst hc
  have h : UInt64.ofNat a &&& UInt64.ofNat b = UInt64.ofNat (a &&& b) := UInt64.toNat_inj.mp (by rw [UInt64.toNat_and, u_tn ha, u_tn hb, u_tn (Nat.and_lt_two_pow a hb)])
  have h2 := congrArg UInt64.toInt64 h
  exact h2
theorem g_and1 {a : Nat} (ha : a < 2 ^ 64) : lN a &&& 1 = lN (a % 2) := g_and (b := 1) ha (by decide) (Nat.and_two_pow_sub_one_eq_mod a 1)
theorem g_mask {a s p : Nat} (hp : 2 ^ s = p) (hs : s < 64) (ha : a < 2 ^ 64) : lN a &&& lN (p - 1) = lN (a % p) := by
  subst hp
  have := Nat.pow_lt_pow_right (show 1 < 2 by decide) hs
  exact g_and ha (by omega) (Nat.and_two_pow_sub_one_eq_mod a s)
theorem g_or {k p a b : Nat} (hp : 2 ^ k = p) (ha : a < p) (h : b * p + a < 2 ^ 64) : lN (b * p) ||| lN a = lN (b * p + a) := by
  subst hp
  have h1 : b * 2 ^ k ||| a = b * 2 ^ k + a := by rw [← Nat.shiftLeft_eq, Nat.shiftLeft_add_eq_or_of_lt ha]
  have h3 : UInt64.ofNat (b * 2 ^ k) ||| UInt64.ofNat a = UInt64.ofNat (b * 2 ^ k + a) := UInt64.toNat_inj.mp (by rw [UInt64.toNat_or, u_tn (by omega), u_tn (by omega), u_tn h, h1])
  have h2 := congrArg UInt64.toInt64 h3
  exact h2
theorem g_or' {k p a b : Nat} (hp : 2 ^ k = p) (ha : a < p) (h : a + b * p < 2 ^ 64) : lN a ||| lN (b * p) = lN (a + b * p) := by
  rw [Int64.or_comm, g_or hp ha (by omega), Nat.add_comm]
theorem g_ushr {a k p : Nat} {y : UInt64} (hy : y = UInt64.ofNat k) (hk : k < 64) (hp : 2 ^ k = p) (ha : a < 2 ^ 64) : ((lN a).toUInt64 >>> y).toInt64 = lN (a / p) := by
  subst hy hp
  have h : UInt64.ofNat a >>> UInt64.ofNat k = UInt64.ofNat (a / 2 ^ k) := UInt64.toNat_inj.mp (by rw [UInt64.toNat_shiftRight, u_tn ha, u_tn (by omega), u_tn (Nat.lt_of_le_of_lt (Nat.div_le_self _ _) ha), Nat.mod_eq_of_lt hk, Nat.shiftRight_eq_div_pow])
  have h2 := congrArg UInt64.toInt64 h
  exact h2
theorem g_shl {a k p : Nat} {y : Int64} (hy : y.toBitVec.smod 64 = BitVec.ofNat 64 k) (hk : k < 64) (hp : 2 ^ k = p) (ha : a < 2 ^ 64) : lN a <<< y = lN (a * p) := by
  subst hp
  apply Int64.toBitVec_inj.mp
  rw [Int64.toBitVec_shiftLeft, hy]
  apply BitVec.eq_of_toNat_eq
  have hb : (lN a).toBitVec.toNat = a := Nat.mod_eq_of_lt ha
  have hk' : (BitVec.ofNat 64 k).toNat = k := Nat.mod_eq_of_lt (by omega)
  have h : ((lN a).toBitVec <<< BitVec.ofNat 64 k).toNat = (a * 2 ^ k) % 2 ^ 64 := by simp only [BitVec.shiftLeft_eq', BitVec.toNat_shiftLeft, hb, hk', Nat.shiftLeft_eq]
  exact h
/-! bytes inside longs -/
theorem dv8 {i : Nat} (h : i < 2 ^ 31) : nI i / 8 = nI (i / 8) := pk_div (d := 8) h (by decide) (by decide)
theorem rm8 {i : Nat} (h : i < 2 ^ 31) : nI i - nI i / 8 * 8 = nI (i % 8) := pk_rem (d := 8) h (by decide) (by decide)
theorem m8 (j : Nat) : (8 : Int32) * nI j = nI (8 * j) := pk_mul 8 j
theorem nI_255 (n : Nat) : nI n &&& 255 = nI (n % 256) := by
  rw [pk_and (nI n) (m := 255) 8 (by decide)]
  show nI (n % 2 ^ 32 % 2 ^ 8) = _
  congr 1
  omega
theorem l255 (v : Int32) : v.toInt64 &&& 255 = lN (v.toBitVec.toNat % 256) := by
  have e : v.toInt64.toBitVec.toNat % 256 = v.toBitVec.toNat % 256 := by
    show (v.toBitVec.signExtend 64).toNat % 256 = _
    have h : (v.toBitVec.signExtend 64).setWidth 8 = v.toBitVec.setWidth 8 := by
      ext i hi
      rw [BitVec.getElem_setWidth, BitVec.getElem_setWidth, BitVec.getLsbD_signExtend]
      rw [if_pos (show i < 32 by omega), decide_eq_true (show i < 64 by omega), Bool.true_and]
    have := congrArg BitVec.toNat h
    rw [BitVec.toNat_setWidth, BitVec.toNat_setWidth] at this
    exact this
  obtain ⟨n, hn, en⟩ := wb_of v.toInt64
  rw [en] at e ⊢
  rw [wb_tn hn] at e
  rw [show (255 : Int64) = lN (2 ^ 8 - 1) from rfl, wb_mask hn (by decide), e]
theorem l_not {a : Nat} (h : a < 2 ^ 64) : lN a ^^^ (-1) = lN (2 ^ 64 - 1 - a) := by
  apply wb_inj
  show (lN a).toBitVec ^^^ (-1 : Int64).toBitVec = _
  rw [show (-1 : Int64).toBitVec = BitVec.allOnes 64 by decide, BitVec.xor_allOnes]
  apply BitVec.eq_of_toNat_eq
  rw [BitVec.toNat_not, wb_tn h, wb_tn (by omega)]
theorem bit_put {w s b : Nat} (hw : w < 2 ^ 64) (hs : s + 8 ≤ 64) (hb : b < 256) : (w &&& (2 ^ 64 - 1 - 255 * 2 ^ s)) ||| (b * 2 ^ s) = w - w / 2 ^ s % 256 * 2 ^ s + b * 2 ^ s := by
  have p0 : 0 < 2 ^ s := Nat.pos_of_ne_zero (by simp)
  have e8 : 2 ^ (s + 8) = 2 ^ s * 256 := by rw [Nat.pow_add]
  have hm : 255 * 2 ^ s < 2 ^ 64 := by
    have : 2 ^ (s + 8) ≤ 2 ^ 64 := Nat.pow_le_pow_right (by decide) hs
    omega
  obtain ⟨l, hl⟩ : ∃ l, l = w % 2 ^ s := ⟨_, rfl⟩
  obtain ⟨m, hm0⟩ : ∃ m, m = w / 2 ^ s % 256 := ⟨_, rfl⟩
  obtain ⟨h, hh⟩ : ∃ h, h = w / 2 ^ s / 256 := ⟨_, rfl⟩
  have hl2 : l < 2 ^ s := hl ▸ Nat.mod_lt _ p0
  have hm2 : m < 256 := hm0 ▸ Nat.mod_lt _ (by decide)
  have ew : w = 2 ^ (s + 8) * h + (2 ^ s * m + l) := by
    have a := Nat.div_add_mod w (2 ^ s)
    have c := Nat.div_add_mod (w / 2 ^ s) 256
    rw [e8, hl, hm0, hh, Nat.mul_assoc, ← Nat.add_assoc, ← Nat.mul_add, c, a]
  have low : ∀ x, x < 256 → 2 ^ s * x + l < 2 ^ (s + 8) := fun x hx => by
    have : 2 ^ s * x ≤ 2 ^ s * 255 := Nat.mul_le_mul_left _ (by omega)
    rw [e8]; omega
  have er : w - w / 2 ^ s % 256 * 2 ^ s + b * 2 ^ s = 2 ^ (s + 8) * h + (2 ^ s * b + l) := by
    rw [← hm0, Nat.mul_comm m, Nat.mul_comm b]
    have : 2 ^ s * m ≤ w := by rw [ew]; omega
    omega
  rw [er]
  apply Nat.eq_of_testBit_eq
  intro i
  rw [Nat.testBit_or, Nat.testBit_and, show 2 ^ 64 - 1 - 255 * 2 ^ s = 2 ^ 64 - (255 * 2 ^ s + 1) by omega, Nat.testBit_two_pow_sub_succ hm, Nat.mul_comm 255, Nat.mul_comm b, Nat.testBit_two_pow_mul, Nat.testBit_two_pow_mul]
  rw [ew, Nat.testBit_two_pow_mul_add _ (low m hm2), Nat.testBit_two_pow_mul_add _ (low b hb), Nat.testBit_two_pow_mul_add _ hl2, Nat.testBit_two_pow_mul_add _ hl2]
  have t255 : Nat.testBit 255 (i - s) = decide (i - s < 8) := Nat.testBit_two_pow_sub_one 8 (i - s)
  rw [t255]
  have w64 : ¬ i < 64 → (h.testBit (i - (s + 8))) = false := fun hi => by
    apply Nat.testBit_lt_two_pow
    have h1 : h < 2 ^ (56 - s) := by
      rw [hh, Nat.div_div_eq_div_mul, ← e8]
      apply Nat.div_lt_of_lt_mul
      rw [← Nat.pow_add]
      exact Nat.lt_of_lt_of_le hw (Nat.pow_le_pow_right (by decide) (by omega))
    exact Nat.lt_of_lt_of_le h1 (Nat.pow_le_pow_right (by decide) (by omega))
  by_cases h1 : i < s
  · have : i < s + 8 := by omega
    have h4 : i < 64 := by omega
    simp [h1, this, h4, Nat.not_le.mpr h1]
  · by_cases h2 : i < s + 8
    · have h3 : i - s < 8 := by omega
      have h4 : s ≤ i := by omega
      simp [h1, h2, h3, h4]
    · have h3 : ¬ i - s < 8 := by omega
      have h4 : s ≤ i := by omega
      have hb0 : b.testBit (i - s) = false := Nat.testBit_lt_two_pow (Nat.lt_of_lt_of_le hb (show 2 ^ 8 ≤ 2 ^ (i - s) from Nat.pow_le_pow_right (by decide) (by omega)))
      by_cases h5 : i < 64
      · simp [h2, h3, h4, h5, hb0]
      · simp [h2, h3, h4, h5, hb0, w64 h5]
theorem mL_get {M : Nat → Nat} (hM : byt M) {i : Nat} (hi : i < 2 ^ 31) : (((mL M (nI i / 8).toNatClampNeg).toUInt64 >>> ((8 * (nI i - nI i / 8 * 8)).toInt64.toUInt64 &&& Int64.toUInt64 63)).toInt64).toInt32 &&& 255 = nI (M i) := by
  rw [rm8 hi, dv8 hi, nI_clamp (by omega), m8, mL, wb_shr (nbs_lt hM _ 8) (by omega), lN_i, nI_255, nbs_byte hM _ (by omega)]
  congr 2
  omega
theorem mL_put {M : Nat → Nat} (hM : byt M) {i : Nat} (hi : i < 2 ^ 31) (v : Int32) : vp_updL (mL M) (nI i / 8).toNatClampNeg ((mL M (nI i / 8).toNatClampNeg &&& ((255 <<< ((8 * (nI i - nI i / 8 * 8)).toInt64 &&& 63)) ^^^ (-1))) ||| ((v.toInt64 &&& 255) <<< ((8 * (nI i - nI i / 8 * 8)).toInt64 &&& 63))) = mL (va_up M i (v.toBitVec.toNat % 256)) := by
  have hb : v.toBitVec.toNat % 256 < 256 := Nat.mod_lt _ (by decide)
  rw [rm8 hi, dv8 hi, nI_clamp (by omega), m8, l255, show (255 : Int64) = lN 255 from rfl, wb_shl _ (by omega), wb_shl _ (by omega)]
  generalize v.toBitVec.toNat % 256 = b at hb ⊢
  have hp : 2 ^ (8 * (i % 8) + 8) ≤ 2 ^ 64 := Nat.pow_le_pow_right (by decide) (by omega)
  have e8 : 2 ^ (8 * (i % 8) + 8) = 2 ^ (8 * (i % 8)) * 256 := by rw [Nat.pow_add]
  have hw := nbs_lt hM (8 * (i / 8)) 8
  have hbl : b * 2 ^ (8 * (i % 8)) < 2 ^ 64 := by
    have : b * 2 ^ (8 * (i % 8)) ≤ 255 * 2 ^ (8 * (i % 8)) := Nat.mul_le_mul_right _ (by omega)
    have := p8_pos (i % 8)
    omega
  have ha : nbs M (8 * (i / 8)) 8 &&& (2 ^ 64 - 1 - 255 * 2 ^ (8 * (i % 8))) < 2 ^ 64 := Nat.lt_of_le_of_lt Nat.and_le_left hw
  have p0 := p8_pos (i % 8)
  rw [l_not (by omega), mL, wb_and hw (by omega), wb_or ha hbl, bit_put hw (by omega) hb, nbs_byte hM _ (by omega)]
  have ei : 8 * (i / 8) + i % 8 = i := by omega
  have q := nbs_up_in (M := M) (8 * (i / 8)) (show i % 8 < 8 by omega) b
  rw [ei] at q ⊢
  have hle : M i * 2 ^ (8 * (i % 8)) ≤ nbs M (8 * (i / 8)) 8 := by
    have b1 := nbs_byte hM (8 * (i / 8)) (show i % 8 < 8 by omega)
    rw [ei] at b1
    have b2 : M i ≤ nbs M (8 * (i / 8)) 8 / 2 ^ (8 * (i % 8)) := by rw [← b1]; exact Nat.mod_le _ _
    exact (Nat.le_div_iff_mul_le p0).mp b2
  funext j
  by_cases e : j = i / 8
  · subst e
    rw [pk_uLs]
    show lN _ = lN _
    congr 1
    omega
  · rw [pk_uLn e]
    show lN _ = lN _
    rw [nbs_up_out (by omega)]
