/-! a register written: the whole state -/
abbrev SS : Type := WS × Int32 × Int32 × Int32 × Int32 × QT
def wrk (sp : Int64 → Nat → Nat → Bool) (nn : Nat) (w : WS) (fe ch ca sx sz rd : Int32) (bl of an : Int64) : SS :=
  if sx &&& 4 = 0 ∨ ¬ sx &&& 64 = 0 ∨ rd = 0 then (w, fe, ch, ca, sx, (sz, rd, bl, of, an))
  else ((wkS sp nn sz.toInt.toNat bl of an 64 w 1).1, fe, ch, caF ca (wkS sp nn sz.toInt.toNat bl of an 64 w 1).2.1 (wkS sp nn sz.toInt.toNat bl of an 64 w 1).2.2.1 (wkS sp nn sz.toInt.toNat bl of an 64 w 1).2.2.2, sxF sx (wkS sp nn sz.toInt.toNat bl of an 64 w 1).2.1, (sz, rd, bl, of, an))
def wrS (sp : Int64 → Nat → Nat → Bool) (nn : Nat) (x v : Int32) (M Dk : Nat → Nat) (cg : Int32) (cn gn : Nat) (aw fe ch ca sx sz rd : Int32) (bl of an : Int64) : SS :=
  if noP x then ((M, Dk, cg, cn, gn, aw), fe, ch, ca, sx, (sz, rd, bl, of, an))
  else if x = 20 then ((M, Dk, cg, cn, gn, aw), v, ch, ca, sx, (sz, rd, bl, of, an))
  else if x = 48 then ((M, Dk, cg, cn, gn, aw), fe, v, ca, sx, (sz, rd, bl, of, an))
  else if x = 80 then (if v = 0 then wrk sp nn (M, Dk, cg, cn, gn, aw) fe ch ca sx sz rd bl of an else ((M, Dk, cg, cn, gn, aw), fe, ch, ca, sx, (sz, rd, bl, of, an)))
  else if x = 100 then ((M, Dk, cg, cn, gn, aw), fe, ch, ca &&& (v ^^^ (-1)), sx, (sz, rd, bl, of, an))
  else if x = 112 then (if v = 0 then ((M, Dk, cg, 0, 0, aw), 0, 0, 0, 0, (16, 0, 0, 0, 0)) else ((M, Dk, cg, cn, gn, aw), fe, ch, ca, (v &&& 255) ||| (sx &&& 64), (sz, rd, bl, of, an)))
  else ((M, Dk, cg, cn, gn, aw), fe, ch, ca, sx, qSet x v ch sz rd bl of an)
theorem qSet_no {x v ch sz rd : Int32} {bl of an : Int64} (h1 : ¬ x = 56) (h2 : ¬ x = 68) (h3 : ¬ x = 128) (h4 : ¬ x = 132) (h5 : ¬ x = 144) (h6 : ¬ x = 148) (h7 : ¬ x = 160) (h8 : ¬ x = 164) : qSet x v ch sz rd bl of an = (sz, rd, bl, of, an) := by
  unfold qSet
  split
  · unfold qUp; rw [if_neg h1, if_neg h2, if_neg h3, if_neg h4, if_neg h5, if_neg h6, if_neg h7, if_neg h8]
  · rfl
theorem wrk_same {sp : Int64 → Nat → Nat → Bool} {nn : Nat} {w : WS} {fe ch ca sx sz rd : Int32} {bl of an : Int64} (h : sx &&& 4 = 0 ∨ ¬ sx &&& 64 = 0 ∨ rd = 0) : wrk sp nn w fe ch ca sx sz rd bl of an = (w, fe, ch, ca, sx, (sz, rd, bl, of, an)) := if_pos h
theorem wrk_done {sp : Int64 → Nat → Nat → Bool} {nn n : Nat} {w w2 : WS} {fe ch ca sx sz rd : Int32} {bl of an : Int64} {br : Bool} {d m : Nat} (hs : sz.toInt.toNat = n) (h : ¬ (sx &&& 4 = 0 ∨ ¬ sx &&& 64 = 0 ∨ rd = 0)) (hw : wkS sp nn n bl of an 64 w 1 = (w2, br, d, m)) : wrk sp nn w fe ch ca sx sz rd bl of an = (w2, fe, ch, caF ca br d m, sxF sx br, (sz, rd, bl, of, an)) := by
  unfold wrk
  rw [if_neg h, hs, hw]
theorem wr_work {sp : Int64 → Nat → Nat → Bool} {nn n : Nat} {M Dk : Nat → Nat} {cg : Int32} {cn gn : Nat} {aw fe ch ca sx sz rd : Int32} {bl of an : Int64} {co gi cg2 co2 gi2 aw2 ca2 sx2 : Int32} {gm gd : Nat → Int64} (hs : sz.toInt.toNat = n)
    (h : ((sx &&& 4 = 0 ∨ ¬ sx &&& 64 = 0 ∨ rd = 0) → gm = mL M ∧ gd = mL Dk ∧ cg2 = cg ∧ co2 = co ∧ gi2 = gi ∧ aw2 = aw ∧ ca2 = ca ∧ sx2 = sx) ∧ (¬ (sx &&& 4 = 0 ∨ ¬ sx &&& 64 = 0 ∨ rd = 0) → ∃ (M5 D5 : Nat → Nat) (k5 g5 : Nat) (br : Bool) (d5 m5 : Nat), wkS sp nn n bl of an 64 (M, Dk, cg, cn, gn, aw) 1 = ((M5, D5, cg2, k5, g5, aw2), br, d5, m5) ∧ gm = mL M5 ∧ gd = mL D5 ∧ co2 = nI k5 ∧ k5 < 65536 ∧ gi2 = nI g5 ∧ g5 < 65536 ∧ byt M5 ∧ byt D5 ∧ ca2 = caF ca br d5 m5 ∧ sx2 = sxF sx br))
    (hco : co = nI cn) (hgi : gi = nI gn) : ∃ (M5 D5 : Nat → Nat) (k5 g5 : Nat), wrk sp nn (M, Dk, cg, cn, gn, aw) fe ch ca sx sz rd bl of an = ((M5, D5, cg2, k5, g5, aw2), fe, ch, ca2, sx2, (sz, rd, bl, of, an)) ∧ gm = mL M5 ∧ gd = mL D5 ∧ co2 = nI k5 ∧ gi2 = nI g5 := by
  by_cases hc : (sx &&& 4 = 0 ∨ ¬ sx &&& 64 = 0 ∨ rd = 0)
  · obtain ⟨e1, e2, e3, e4, e5, e6, e7, e8⟩ := h.1 hc
    subst e3; subst e6; subst e7; subst e8
    exact ⟨M, Dk, cn, gn, wrk_same hc, e1, e2, e4.trans hco, e5.trans hgi⟩
  · obtain ⟨M5, D5, k5, g5, br, d5, m5, hw, e1, e2, e3, -, e4, -, -, -, e5, e6⟩ := h.2 hc
    subst e5; subst e6
    exact ⟨M5, D5, k5, g5, wrk_done hs hc hw, e1, e2, e3, e4⟩
