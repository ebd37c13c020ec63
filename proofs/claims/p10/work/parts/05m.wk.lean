/-! steps of a working -/
theorem wk_no {sp : Int64 → Nat → Nat → Bool} {nn n : Nat} {bl of an : Int64} (d : Nat) (s : WS) (mr : Nat) (h : ¬ thP of 4) : wkS sp nn n bl of an d s mr = (s, true, d, mr) := by
  cases d with
  | zero => rw [wkS, if_neg h]
  | succ d => rw [wkS, if_neg h]
theorem wk_stop0 {sp : Int64 → Nat → Nat → Bool} {nn n : Nat} {bl of an : Int64} (s : WS) (mr : Nat) (h : thP of 4) : wkS sp nn n bl of an 0 s mr = (s, false, 0, nbs s.1 (off of) 2) := by rw [wkS, if_pos h]
theorem wk_stop {sp : Int64 → Nat → Nat → Bool} {nn n : Nat} {bl of an : Int64} (d : Nat) (s : WS) (mr : Nat) (h : thP of 4) (ha : ahd (nbs s.1 (off of + 2) 2) s.2.2.2.1 = 0) : wkS sp nn n bl of an d s mr = (s, false, d, nbs s.1 (off of) 2) := by
  cases d with
  | zero => exact wk_stop0 s mr h
  | succ d => rw [wkS, if_pos h, if_pos ha]
theorem wk_far {sp : Int64 → Nat → Nat → Bool} {nn n : Nat} {bl of an : Int64} (d : Nat) (s : WS) (mr : Nat) (h : thP of 4) (ha : ¬ ahd (nbs s.1 (off of + 2) 2) s.2.2.2.1 = 0) (hf : n < ahd (nbs s.1 (off of + 2) 2) s.2.2.2.1) : wkS sp nn n bl of an (d + 1) s mr = (s, true, d + 1, nbs s.1 (off of) 2) := by rw [wkS, if_pos h, if_neg ha, if_pos hf]
theorem wk_none {sp : Int64 → Nat → Nat → Bool} {nn n : Nat} {bl of an : Int64} (d : Nat) (s : WS) (mr : Nat) (h : thP of 4) (ha : ¬ ahd (nbs s.1 (off of + 2) 2) s.2.2.2.1 = 0) (hf : ¬ n < ahd (nbs s.1 (off of + 2) 2) s.2.2.2.1) (hn : oneS sp nn n bl of an s = none) : wkS sp nn n bl of an (d + 1) s mr = (s, true, d + 1, nbs s.1 (off of) 2) := by rw [wkS, if_pos h, if_neg ha, if_neg hf, hn]
theorem wk_more {sp : Int64 → Nat → Nat → Bool} {nn n : Nat} {bl of an : Int64} (d : Nat) (s : WS) (mr : Nat) (h : thP of 4) (ha : ¬ ahd (nbs s.1 (off of + 2) 2) s.2.2.2.1 = 0) (hf : ¬ n < ahd (nbs s.1 (off of + 2) 2) s.2.2.2.1) {s2 : WS} (hn : oneS sp nn n bl of an s = some s2) : wkS sp nn n bl of an (d + 1) s mr = wkS sp nn n bl of an d s2 (nbs s.1 (off of) 2) := by rw [wkS, if_pos h, if_neg ha, if_neg hf, hn]
theorem ahd_lt (a b : Nat) : ahd a b < 65536 := Nat.mod_lt _ (by omega)
theorem ahd_ok {a b : Nat} (ha : a < 65536) (hb : b < 65536) : (nI a - nI b) &&& 65535 = nI (ahd a b) := by
  have e : (nI a - nI b).toBitVec.toNat % 65536 = ahd a b := by
    show ((BitVec.ofNat 32 a) - (BitVec.ofNat 32 b)).toNat % 65536 = _
    rw [BitVec.toNat_sub, BitVec.toNat_ofNat, BitVec.toNat_ofNat]
    unfold ahd
    omega
  rw [pk_and _ (m := 65535) 16 (by decide)]
  show nI ((nI a - nI b).toBitVec.toNat % 65536) = _
  rw [e]
theorem oneG_some {sp : Int64 → Nat → Nat → Bool} {nn n : Nat} {bl of an : Int64} {s x : WS} (h : oneG sp nn n bl of an s = x) (hs : (oneS sp nn n bl of an s).isSome = true) : oneS sp nn n bl of an s = some x := by
  obtain ⟨y, hy⟩ := Option.isSome_iff_exists.mp hs
  unfold oneG at h
  rw [hy, Option.getD_some] at h
  rw [hy, h]
theorem oneG_none {sp : Int64 → Nat → Nat → Bool} {nn n : Nat} {bl of an : Int64} {s x : WS} (h : oneG sp nn n bl of an s = x) (hs : ¬ (oneS sp nn n bl of an s).isSome = true) : oneS sp nn n bl of an s = none ∧ x = s := by
  have hn : oneS sp nn n bl of an s = none := Option.not_isSome_iff_eq_none.mp hs
  unfold oneG at h
  rw [hn, Option.getD_none] at h
  exact ⟨hn, h.symm⟩
/-- causes behind a working -/
def caF (ca : Int32) (br : Bool) (d mr : Nat) : Int32 := if d < 64 ∧ mr % 2 = 0 then (if br = true then ca ||| 2 else ca) ||| 1 else if br = true then ca ||| 2 else ca
def sxF (sx : Int32) (br : Bool) : Int32 := if br = true then sx ||| 64 else sx
theorem rm2 {m : Nat} (h : m < 65536) : lg_cmp (lN m - lN m / 2 * 2) 0 = 0 ↔ m % 2 = 0 := by
  rw [lce, show (2 : Int64) = lN 2 from rfl, pk_lRem (by omega) (by decide) (by decide), lN_toInt (by omega), l0]; omega
