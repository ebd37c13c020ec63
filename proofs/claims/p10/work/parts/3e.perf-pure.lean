/-! what the class does with a request -/
theorem nI32 {a b : Nat} (ha : a < 4294967296) (hb : b < 4294967296) : nI a = nI b ↔ a = b := by
  constructor
  · intro h
    have e := congrArg (fun x : Int32 => x.toBitVec.toNat) h
    have ea : (nI a).toBitVec.toNat = a % 2 ^ 32 := rfl
    have eb : (nI b).toBitVec.toNat = b % 2 ^ 32 := rfl
    have e : (nI a).toBitVec.toNat = (nI b).toBitVec.toNat := e
    rw [ea, eb] at e; omega
  · intro h; rw [h]
theorem kdC {M : Nat → Nat} {C : List Blk} {x : Int32} (hM : byt M) (hx : x = nI (nbs M (hdO C) 4)) (k : Nat) (hk : k < 16) : x = nI k ↔ nbs M (hdO C) 4 = k := by
  rw [hx, nI32 (nbs_lt hM _ 4) (by omega)]
section
variable {sp : Int64 → Nat → Nat → Bool} {M Dk : Nat → Nat} {nn : Nat} {cg : Int32} {C O : List Blk} {sec : Int64}
theorem reqB_r1 (hse : sec = lN (nbs M (hdO C + 8) 8)) (h : nbs M (hdO C) 4 = 0) (hsp : sp sec nn (tot (mS O) - 1) = true) : reqB sp M Dk nn cg C O = (wrs M (nth (mS O)) (fun k => Dk (512 * sec.toInt.toNat + k)) (tot (mS O) - 1), Dk, cg, tot (mS O) - 1, 0) := by
  subst hse; unfold reqB; rw [if_pos h, if_pos hsp]
theorem reqB_r0 (hse : sec = lN (nbs M (hdO C + 8) 8)) (h : nbs M (hdO C) 4 = 0) (hsp : ¬ sp sec nn (tot (mS O) - 1) = true) : reqB sp M Dk nn cg C O = (M, Dk, cg, 0, 1) := by
  subst hse; unfold reqB; rw [if_pos h, if_neg hsp]
theorem reqB_w1 (hse : sec = lN (nbs M (hdO C + 8) 8)) (h : nbs M (hdO C) 4 = 1) (hsp : sp sec nn (tot (mS C.tail)) = true) : reqB sp M Dk nn cg C O = (M, wrs Dk (fun k => 512 * sec.toInt.toNat + k) (fun k => M (nth (mS C.tail) k)) (tot (mS C.tail)), cg + nI (tot (mS C.tail) / 512), 0, 0) := by
  subst hse; unfold reqB; rw [if_neg (by omega), if_pos h, if_pos hsp]
theorem reqB_w0 (hse : sec = lN (nbs M (hdO C + 8) 8)) (h : nbs M (hdO C) 4 = 1) (hsp : ¬ sp sec nn (tot (mS C.tail)) = true) : reqB sp M Dk nn cg C O = (M, Dk, cg, 0, 1) := by
  subst hse; unfold reqB; rw [if_neg (by omega), if_pos h, if_neg hsp]
theorem reqB_n (h : nbs M (hdO C) 4 = 8) : reqB sp M Dk nn cg C O = (wrs M (nth (mS O)) nmB (min (tot (mS O) - 1) 20), Dk, cg, min (tot (mS O) - 1) 20, 0) := by
  unfold reqB; rw [if_neg (by omega), if_neg (by omega), if_pos h]
theorem reqB_f (h : nbs M (hdO C) 4 = 4) : reqB sp M Dk nn cg C O = (M, Dk, cg, 0, 0) := by
  unfold reqB; rw [if_neg (by omega), if_neg (by omega), if_neg (by omega), if_pos h]
theorem reqB_u (h0 : ¬ nbs M (hdO C) 4 = 0) (h1 : ¬ nbs M (hdO C) 4 = 1) (h8 : ¬ nbs M (hdO C) 4 = 8) (h4 : ¬ nbs M (hdO C) 4 = 4) : reqB sp M Dk nn cg C O = (M, Dk, cg, 0, 2) := by
  unfold reqB; rw [if_neg h0, if_neg h1, if_neg h8, if_neg h4]
end
theorem sv_put {sp : Int64 → Nat → Nat → Bool} {M Dk : Nat → Nat} (hM : byt M) (hD : byt Dk) (nn : Nat) (cg : Int32) {C O : List Blk} (h : rqOK C O) (hr : rpl O + 1 ≤ 65536) : putS 65536 (cB (reqB sp M Dk nn cg C O).1) (lN (rpl O)) (nI (reqB sp M Dk nn cg C O).2.2.2.2) = cB (reqS sp M Dk nn cg C O).1 ∧ (reqS sp M Dk nn cg C O).2.2.2 < 2 ^ 31 := by
  obtain ⟨M1, D1, c1, w1, r1, e, h1, h2, h3, h4⟩ := reqB_facts (sp := sp) hM hD nn cg (C := C) (rq_tot h).2.1
  unfold reqS
  rw [e]
  unfold reqF
  dsimp only
  exact ⟨by rw [putS_ok (by decide) (by omega), nI_256, Nat.mod_eq_of_lt h4], by omega⟩
theorem rq_parts (sp : Int64 → Nat → Nat → Bool) (M Dk : Nat → Nat) (nn : Nat) (cg : Int32) (C O : List Blk) : (reqB sp M Dk nn cg C O).2.2.1 = (reqS sp M Dk nn cg C O).2.2.1 ∧ (reqB sp M Dk nn cg C O).2.1 = (reqS sp M Dk nn cg C O).2.1 ∧ nI (reqB sp M Dk nn cg C O).2.2.2.1 + 1 = nI (reqS sp M Dk nn cg C O).2.2.2 := by
  unfold reqS
  generalize reqB sp M Dk nn cg C O = B
  obtain ⟨a, b, c, d, e⟩ := B
  unfold reqF
  dsimp only
  exact ⟨rfl, rfl, nI_1 _⟩
