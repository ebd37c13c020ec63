/-! the device's name -/
theorem nmT_ok : ∀ k, k < 5 → nmT k = nI (nmB k) := by decide
theorem nmB_0 {k : Nat} (h : 5 ≤ k) : nmB k = 0 := by
  unfold nmB; rw [if_neg (by omega), if_neg (by omega), if_neg (by omega), if_neg (by omega), if_neg (by omega)]
theorem nth_app (X Y : List (Nat × Nat)) (i : Nat) : nth (X ++ Y) (tot X + i) = nth Y i := by
  induction X with
  | nil => simp [tot]
  | cons p X ih =>
    obtain ⟨a, l⟩ := p
    simp only [List.cons_append, tot, nth]
    rw [if_neg (by omega), show l + tot X + i - l = tot X + i by omega, ih]
theorem mS_split (O : List Blk) (j : Nat) : mS O = mS (O.take j) ++ mS (O.drop j) := by
  unfold mS; rw [← List.map_append, List.take_append_drop]
theorem nth_op {O : List Blk} {j a i : Nat} {b : Blk} (hj : j < O.length) (hd : O.drop j = b :: O.drop (j + 1)) (h : opA O j a) (hi : i < b.2.1) : nth (mS O) (a + i) = off b.1 + i := by
  rcases h with ⟨-, h⟩ | ⟨h, -⟩
  · have e := mS_split O j
    rw [e, tot_app] at h
    rw [e, show a = tot (mS (O.take j)) by omega, nth_app, hd]
    show (if i < b.2.1 then off b.1 + i else _) = _
    rw [if_pos hi]
  · omega
theorem nth_cl {C : List Blk} {k a i : Nat} {b : Blk} (hd : C.drop k = b :: C.drop (k + 1)) (hk : 1 ≤ k) (h : a + tot (mS (C.drop k)) = tot (mS C.tail)) (hi : i < b.2.1) : nth (mS C.tail) (a + i) = off b.1 + i := by
  have e := mS_split C.tail (k - 1)
  have ed : C.tail.drop (k - 1) = C.drop k := by rw [← List.drop_one, List.drop_drop]; congr 1; omega
  rw [ed] at e
  rw [e, tot_app] at h
  rw [e, show a = tot (mS (C.tail.take (k - 1))) by omega, nth_app, hd]
  show (if i < b.2.1 then off b.1 + i else _) = _
  rw [if_pos hi]
theorem min_C {p q : Nat} (hp : p < 2 ^ 31) (hq : q < 2 ^ 31) : (if nI p < nI q then nI p else nI q) = nI (min q p) := by
  by_cases h : p < q
  · rw [if_pos (nI_lt h hq), show min q p = p by omega]
  · rw [if_neg (nI_nlt (by omega) hp), show min q p = q by omega]
theorem sub20 {w : Nat} (h : w ≤ 20) : 20 - nI w = nI (20 - w) := by
  have e : nI (20 - w) + nI w = 20 := by rw [nI_add, show 20 - w + w = 20 by omega]; rfl
  rw [← e, Int32.add_sub_cancel]
theorem nm_step {M : Nat → Nat} {O : List Blk} {j a i : Nat} {b : Blk} (hj : j < O.length) (hd : O.drop j = b :: O.drop (j + 1)) (h : opA O j a) (hth : thP b.1 (lN b.2.1)) (h65 : b.2.1 ≤ 65536) (hob : oln O j b ≤ b.2.1) (hi : i < min (oln O j b) (20 - min a 20)) : putS 65536 (cB (wrs M (nth (mS O)) nmB (min a 20 + i))) (b.1 - 2147483648 + (nI i).toInt64) (nI (nmB (min a 20 + i))) = cB (wrs M (nth (mS O)) nmB (min a 20 + (i + 1))) := by
  have ha : min a 20 = a := by omega
  have hib : i < b.2.1 := by omega
  have ho := off_plus hth hib h65
  rw [nI_l (by omega), sh2, ho.1, putS_ok (by decide) (by omega), nI_256, Nat.mod_eq_of_lt (nmB_lt _), ha, ← nth_op hj hd h hib]
  rfl
