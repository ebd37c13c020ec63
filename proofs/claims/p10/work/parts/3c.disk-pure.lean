/-! the class's test for whole sectors of the disk, its copying -/
def spC : Int64 → Nat → Nat → Bool := fun sec n d => decide (d % 512 = 0 ∧ d / 512 ≤ 64 ∧ (d / 512 = 0 ∨ (0 ≤ sec.toInt ∧ sec.toInt ≤ (n : Int) - ((d / 512 : Nat) : Int))))
theorem spC_iff {sec : Int64} {n d : Nat} : spC sec n d = true ↔ (d % 512 = 0 ∧ d / 512 ≤ 64 ∧ (d / 512 = 0 ∨ (0 ≤ sec.toInt ∧ sec.toInt ≤ (n : Int) - ((d / 512 : Nat) : Int)))) := decide_eq_true_iff
theorem nI_div512 {d : Nat} (h : d < 2 ^ 31) : nI d / 512 = nI (d / 512) := by
  apply Int32.toInt_inj.mp
  rw [Int32.toInt_div, nI_toInt h, nI_toInt (by omega), show (512 : Int32).toInt = 512 by decide, Int.tdiv_eq_ediv_of_nonneg (by omega), Int.bmod_def]
  omega
theorem nI_mod512 {d : Nat} (h : d < 2 ^ 31) : nI d - nI d / 512 * 512 = nI (d % 512) := by
  rw [nI_div512 h]
  have e : nI d = nI (d % 512) + nI (d / 512) * 512 := by
    rw [show (512 : Int32) = nI 512 from rfl]
    have : nI (d / 512) * nI 512 = nI (d / 512 * 512) := (Int32.ofNat_mul _ _).symm
    rw [this, nI_add]; congr 1; omega
  rw [e, Int32.add_sub_cancel]
theorem sub_toInt64 {a b : Nat} (ha : a < 2 ^ 30) (hb : b < 2 ^ 30) : ((nI a - nI b).toInt64).toInt = (a : Int) - b := by
  rw [Int32.toInt_toInt64, Int32.toInt_sub, nI_toInt (by omega), nI_toInt (by omega), Int.bmod_def]
  omega
theorem wrs_cpy {M P V f : Nat → Nat} {a p q : Nat} : ∀ (l : Nat), (∀ i, i < l → P (a + i) = q + i ∧ V (a + i) = f (p + i)) → va_cpy f (wrs M P V a) p q l = wrs M P V (a + l) := by
  intro l
  induction l with
  | zero => intro _; funext j; show (if q ≤ j ∧ j < q + 0 then _ else _) = _; rw [if_neg (by omega)]; rfl
  | succ l ih =>
    intro h
    have h1 := h l (Nat.lt_succ_self l)
    have h2 := ih (fun i hi => h i (by omega))
    show _ = va_up (wrs M P V (a + l)) (P (a + l)) (V (a + l))
    rw [← h2, h1.1, h1.2]
    funext j
    show (if q ≤ j ∧ j < q + (l + 1) then f (p + (j - q)) else _) = if j = q + l then f (p + l) else (if q ≤ j ∧ j < q + l then f (p + (j - q)) else _)
    by_cases e : j = q + l
    · rw [if_pos (by omega), if_pos e, e, Nat.add_sub_cancel_left]
    · rw [if_neg e]
      by_cases e2 : q ≤ j ∧ j < q + l
      · rw [if_pos e2, if_pos (by omega)]
      · rw [if_neg e2, if_neg (by omega)]
theorem cpB_0 (n n2 : Nat) (f g : Nat → Nat) (p q : Int64) : cpB n n2 f g p q (nI 0) = g := by
  unfold cpB
  split
  · funext j; show (if _ ∧ j < _ + (nI 0).toInt.toNat then _ else _) = _; rw [show (nI 0).toInt.toNat = 0 from rfl, if_neg (by omega)]
  · rfl
theorem cpB_ok {n n2 p q l : Nat} (f g : Nat → Nat) (hn : n < 2 ^ 31) (hn2 : n2 < 2 ^ 31) (h1 : p + l ≤ n) (h2 : q + l ≤ n2) : cpB n n2 f g (lN p) (lN q) (nI l) = va_cpy f g p q l := by
  unfold cpB
  rw [nI_l (by omega), if_pos ⟨ho_lN hn h1, ho_lN hn2 h2⟩, lN_toInt (by omega), lN_toInt (by omega), nI_toInt (by omega)]
  rfl
theorem opA_le {C O : List Blk} {j a : Nat} (hrq : rqOK C O) (h : opA O j a) : a ≤ tot (mS O) - 1 := by
  obtain ⟨-, -, -, -, -, ⟨I, t, hI, ht⟩⟩ := hrq
  rcases h with ⟨hj, h⟩ | ⟨-, h⟩
  · have hl : O.length = I.length + 1 := by rw [hI, List.length_append]; rfl
    have e : O.drop j = I.drop j ++ [t] := by rw [hI, List.drop_append_of_le_length (by omega)]
    have e2 : tot (mS (O.drop j)) = tot (mS (I.drop j)) + (t.2.1 + 0) := by
      rw [e]; unfold mS; rw [List.map_append, tot_app]; rfl
    omega
  · omega
theorem sec_l {sec : Int64} {n d : Nat} (h : spC sec n d = true) (hn : n ≤ 2048) (hd : 0 < d) : sec * 512 = lN (512 * sec.toInt.toNat) ∧ 512 * sec.toInt.toNat + d ≤ 512 * n := by
  obtain ⟨h1, h2, h3⟩ := spC_iff.mp h
  have h4 := h3.resolve_left (by omega)
  have e : sec = lN sec.toInt.toNat := by
    apply Int64.toInt_inj.mp
    rw [lN_toInt (by omega)]; omega
  refine ⟨?_, by omega⟩
  calc sec * 512 = lN sec.toInt.toNat * lN 512 := by rw [← e]; rfl
    _ = _ := by rw [lN_mul, Nat.mul_comm]
/-- a block is read -/
theorem rd_step {M Dk : Nat → Nat} {C O : List Blk} {j a nn : Nat} {b : Blk} {sec : Int64} (hrq : rqOK C O) (hj : j < O.length) (hd : O.drop j = b :: O.drop (j + 1)) (hp : j + 1 = O.length → 0 < b.2.1) (h : opA O j a) (hth : thP b.1 (lN b.2.1)) (h65 : b.2.1 ≤ 65536) (hob : oln O j b ≤ b.2.1) (hnn : nn ≤ 2048) (hsp : spC sec nn (tot (mS O) - 1) = true) : cpB (512 * nn) 65536 Dk (wrs M (nth (mS O)) (fun k => Dk (512 * sec.toInt.toNat + k)) a) (sec * 512 + (nI a).toInt64) (b.1 - 2147483648) (nI (oln O j b)) = wrs M (nth (mS O)) (fun k => Dk (512 * sec.toInt.toNat + k)) (a + oln O j b) := by
  have hle := opA_le hrq (opA_1 hj hd hp h)
  by_cases z : oln O j b = 0
  · rw [z, cpB_0, Nat.add_zero]
  · have hs := sec_l hsp hnn (by omega)
    have ho := off_0 hth (by omega) h65
    rw [hs.1, nI_l (by omega), lN_add, ho.1, cpB_ok _ _ (by omega) (by decide) (by omega) (by omega)]
    exact wrs_cpy _ (fun i hi => ⟨nth_op hj hd h (by omega), by rw [Nat.add_assoc]⟩)
/-- a block is written -/
theorem wd_step {M Dk : Nat → Nat} {C : List Blk} {k a nn : Nat} {b : Blk} {sec : Int64} (hk1 : 1 ≤ k) (hd : C.drop k = b :: C.drop (k + 1)) (h : a + tot (mS (C.drop k)) = tot (mS C.tail)) (hth : thP b.1 (lN b.2.1)) (h65 : b.2.1 ≤ 65536) (hnn : nn ≤ 2048) (hsp : spC sec nn (tot (mS C.tail)) = true) : cpB 65536 (512 * nn) M (wrs Dk (fun k => 512 * sec.toInt.toNat + k) (fun k => M (nth (mS C.tail) k)) a) (b.1 - 2147483648) (sec * 512 + lN a) (nI b.2.1) = wrs Dk (fun k => 512 * sec.toInt.toNat + k) (fun k => M (nth (mS C.tail) k)) (a + b.2.1) := by
  have h' := h
  rw [hd, tot_c] at h'
  by_cases z : b.2.1 = 0
  · rw [z, cpB_0, Nat.add_zero]
  · have hs := sec_l hsp hnn (by omega)
    have ho := off_0 hth (by omega) h65
    rw [hs.1, lN_add, ho.1, cpB_ok _ _ (by decide) (by omega) (by omega) (by omega)]
    exact wrs_cpy _ (fun i hi => ⟨by rw [Nat.add_assoc], by rw [nth_cl hd hk1 h hi]⟩)
