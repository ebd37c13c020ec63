/-! a script in whose run no READ or WRITE without data is taken: the class's states are the reference's, and the law answers 1 -/
/-- the request has data, if it is a READ or a WRITE -/
def hasD (M : Nat → Nat) (C O : List Blk) : Prop := (nbs M (hdO C) 4 = 0 → ¬ tot (mS O) - 1 = 0) ∧ (nbs M (hdO C) 4 = 1 → ¬ tot (mS C.tail) = 0)
theorem reqB_sp {M Dk : Nat → Nat} {nn : Nat} {cg : Int32} {C O : List Blk} (h : hasD M C O) : reqB spC M Dk nn cg C O = reqB spM M Dk nn cg C O := by
  unfold reqB
  by_cases h0 : nbs M (hdO C) 4 = 0
  · rw [if_pos h0, if_pos h0, sp_same _ _ _ (h.1 h0)]
  · rw [if_neg h0, if_neg h0]
    by_cases h1 : nbs M (hdO C) 4 = 1
    · rw [if_pos h1, if_pos h1, sp_same _ _ _ (h.2 h1)]
    · rw [if_neg h1, if_neg h1]
/-- so has the request that comes next, if one can be gathered -/
def nextD (n : Nat) (bl of : Int64) (s : WS) : Prop := ∀ L, gat s.1 bl n n (nbs s.1 (off (ofA of s.2.2.2.1 n)) 2) false [] = some L → hasD s.1 (cOf L) (oOf L)
theorem one_sp {nn n : Nat} {bl of an : Int64} {s : WS} (h : nextD n bl of s) : oneS spC nn n bl of an s = oneS spM nn n bl of an s := by
  unfold oneS
  by_cases hc : thP (ofA of s.2.2.2.1 n) 2 ∧ finB (gat s.1 bl n n (nbs s.1 (off (ofA of s.2.2.2.1 n)) 2) false []) = true ∧ thP (anA an s.2.2.2.2.1 n) 8 ∧ thP (an + 2) 2
  · rw [if_pos hc, if_pos hc]
    cases hg : gat s.1 bl n n (nbs s.1 (off (ofA of s.2.2.2.1 n)) 2) false [] with
    | none => rfl
    | some L =>
      have e : reqS spC s.1 s.2.1 nn s.2.2.1 (cOf L) (oOf L) = reqS spM s.1 s.2.1 nn s.2.2.1 (cOf L) (oOf L) := congrArg (reqF (oOf L)) (reqB_sp (h L hg))
      dsimp only
      rw [e]
  · rw [if_neg hc, if_neg hc]
/-- over a working of the class: each request that it takes -/
def wkD (nn n : Nat) (bl of an : Int64) : Nat → WS → Prop
  | 0, _ => True
  | d + 1, s => (thP of 4 → ¬ ahd (nbs s.1 (off of + 2) 2) s.2.2.2.1 = 0 → ¬ n < ahd (nbs s.1 (off of + 2) 2) s.2.2.2.1 → nextD n bl of s) ∧ ∀ s2, oneS spC nn n bl of an s = some s2 → wkD nn n bl of an d s2
theorem wk_sp {nn n : Nat} {bl of an : Int64} : ∀ (d : Nat) (s : WS) (mr : Nat), wkD nn n bl of an d s → wkS spC nn n bl of an d s mr = wkS spM nn n bl of an d s mr := by
  intro d
  induction d with
  | zero => intro s mr _; rfl
  | succ d ih =>
    intro s mr hD
    by_cases h : thP of 4
    · by_cases ha : ahd (nbs s.1 (off of + 2) 2) s.2.2.2.1 = 0
      · rw [wk_stop _ s mr h ha, wk_stop _ s mr h ha]
      · by_cases hf : n < ahd (nbs s.1 (off of + 2) 2) s.2.2.2.1
        · rw [wk_far d s mr h ha hf, wk_far d s mr h ha hf]
        · have e := one_sp (nn := nn) (an := an) (hD.1 h ha hf)
          cases ho : oneS spC nn n bl of an s with
          | none => rw [wk_none d s mr h ha hf ho, wk_none d s mr h ha hf (e.symm.trans ho)]
          | some s2 => rw [wk_more d s mr h ha hf ho, wk_more d s mr h ha hf (e.symm.trans ho)]; exact ih s2 _ (hD.2 s2 ho)
    · rw [wk_no _ s mr h, wk_no _ s mr h]
theorem wrS_sp {nn : Nat} {x v : Int32} {M Dk : Nat → Nat} {cg : Int32} {cn gn : Nat} {aw fe ch ca sx sz rd : Int32} {bl of an : Int64} (hd : x = 80 → v = 0 → ¬ (sx &&& 4 = 0 ∨ ¬ sx &&& 64 = 0 ∨ rd = 0) → wkD nn sz.toInt.toNat bl of an 64 (M, Dk, cg, cn, gn, aw)) : wrS spC nn x v M Dk cg cn gn aw fe ch ca sx sz rd bl of an = wrS spM nn x v M Dk cg cn gn aw fe ch ca sx sz rd bl of an := by
  unfold wrS
  by_cases h0 : noP x
  · rw [if_pos h0, if_pos h0]
  rw [if_neg h0, if_neg h0]
  by_cases h1 : x = 20
  · rw [if_pos h1, if_pos h1]
  rw [if_neg h1, if_neg h1]
  by_cases h2 : x = 48
  · rw [if_pos h2, if_pos h2]
  rw [if_neg h2, if_neg h2]
  by_cases h3 : x = 80
  · rw [if_pos h3, if_pos h3]
    by_cases hv : v = 0
    · rw [if_pos hv, if_pos hv]
      unfold wrk
      by_cases hq : sx &&& 4 = 0 ∨ ¬ sx &&& 64 = 0 ∨ rd = 0
      · rw [if_pos hq, if_pos hq]
      · rw [if_neg hq, if_neg hq, wk_sp _ _ _ (hd h3 hv hq)]
    · rw [if_neg hv, if_neg hv]
  · rw [if_neg h3, if_neg h3]
/-- a call of the script, at the place x: if the device works at it, each READ and WRITE that it takes has data -/
def callD (nn : Nat) (xs : Nat → Int32) (x : Int32) : SS → Prop
  | ((M, Dk, cg, cn, gn, aw), _, _, _, sx, (sz, rd, bl, of, an)) => xs x.toNatClampNeg &&& 15 = 3 → xs (x + 1).toNatClampNeg = 80 → xs (x + 2).toNatClampNeg = 0 → ¬ (sx &&& 4 = 0 ∨ ¬ sx &&& 64 = 0 ∨ rd = 0) → wkD nn sz.toInt.toNat bl of an 64 (M, Dk, cg, cn, gn, aw)
theorem stp_sp {nn : Nat} {xs : Nat → Int32} {x : Int32} {S : SS} (h : callD nn xs x S) : stp spC nn xs x S = stp spM nn xs x S := by
  obtain ⟨⟨M, Dk, cg, cn, gn, aw⟩, fe, ch, ca, sx, ⟨sz, rd, bl, of, an⟩⟩ := S
  rw [stp, stp]
  by_cases h1 : xs x.toNatClampNeg &&& 15 = 1
  · rw [if_pos h1, if_pos h1]
  rw [if_neg h1, if_neg h1]
  by_cases h3 : xs x.toNatClampNeg &&& 15 = 3
  · rw [if_pos h3, if_pos h3]; exact wrS_sp (h h3)
  · rw [if_neg h3, if_neg h3]
theorem trc_sp {nn : Nat} {xs : Nat → Int32} (h : ∀ j : Nat, callD nn xs (nI (1 + 6 * j)) (trc spC nn xs j)) : ∀ j : Nat, trc spC nn xs j = trc spM nn xs j := by
  intro j
  induction j with
  | zero => rfl
  | succ j ih =>
    show stp spC nn xs (nI (1 + 6 * j)) (trc spC nn xs j) = stp spM nn xs (nI (1 + 6 * j)) (trc spM nn xs j)
    rw [stp_sp (h j), ih]
/-- WHOLE, BUT FOR REQUESTS WITHOUT DATA: on every script of at most 3073 ints in whose run the class takes no READ and no WRITE without data, the law answers 1 -/
theorem nodata_walk (l : Launch) (hst : l.stackTraces = false) (b : Addr) (xs : List Int32) (hd : ∀ j : Nat, callD (secN (ceV xs.length (fun j => xs.getD j 0))) (fun j => xs.getD j 0) (nI (1 + 6 * j)) (trc spC (secN (ceV xs.length (fun j => xs.getD j 0))) (fun j => xs.getD j 0) j)) : MetFree l x (headSpec (Jvm.Cond.code x code maxLocals ret :: tables_1) room_1) (lw_P b xs) (fun _ _ _ _ _ => True) lw_Q :=
  agr_walk l hst b xs (trc_sp hd)
