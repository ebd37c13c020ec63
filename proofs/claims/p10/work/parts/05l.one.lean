theorem oneS_none {sp : Int64 → Nat → Nat → Bool} {nn n : Nat} {bl of an : Int64} {M Dk : Nat → Nat} {cg aw : Int32} {cn gn : Nat} (h : ¬ (thP (ofA of cn n) 2 ∧ finB (gat M bl n n (nbs M (off (ofA of cn n)) 2) false []) = true ∧ thP (anA an gn n) 8 ∧ thP (an + 2) 2)) : oneS sp nn n bl of an (M, Dk, cg, cn, gn, aw) = none := if_neg h
theorem oneS_some {sp : Int64 → Nat → Nat → Bool} {nn n : Nat} {bl of an : Int64} {M Dk : Nat → Nat} {cg aw : Int32} {cn gn : Nat} {L : List Blk} (h : thP (ofA of cn n) 2 ∧ finB (gat M bl n n (nbs M (off (ofA of cn n)) 2) false []) = true ∧ thP (anA an gn n) 8 ∧ thP (an + 2) 2) (hL : gat M bl n n (nbs M (off (ofA of cn n)) 2) false [] = some L) : oneS sp nn n bl of an (M, Dk, cg, cn, gn, aw) = some (pbs (pbs (pbs (reqS sp M Dk nn cg (cOf L) (oOf L)).1 (off (anA an gn n)) (nbs M (off (ofA of cn n)) 2) 4) (off (anA an gn n) + 4) (reqS sp M Dk nn cg (cOf L) (oOf L)).2.2.2 4) (off (an + 2)) ((gn + 1) % 65536) 2, (reqS sp M Dk nn cg (cOf L) (oOf L)).2.1, (reqS sp M Dk nn cg (cOf L) (oOf L)).2.2.1, (cn + 1) % 65536, (gn + 1) % 65536, aw + 1) := by
  unfold oneS
  rw [if_pos h]
  show (match gat M bl n n (nbs M (off (ofA of cn n)) 2) false [] with | none => none | some L => _) = _
  rw [hL]
theorem reqB_facts {sp : Int64 → Nat → Nat → Bool} {M Dk : Nat → Nat} (hM : byt M) (hD : byt Dk) (nn : Nat) (cg : Int32) {C O : List Blk} (ht : tot (mS O) < 2097152) : ∃ (M1 D1 : Nat → Nat) (c1 : Int32) (w1 r1 : Nat), reqB sp M Dk nn cg C O = (M1, D1, c1, w1, r1) ∧ byt M1 ∧ byt D1 ∧ w1 < 2097152 ∧ r1 < 256 := by
  unfold reqB
  split
  · split
    · exact ⟨_, _, _, _, _, rfl, byt_wrs hM (fun _ => hD _) _, hD, by omega, by omega⟩
    · exact ⟨_, _, _, _, _, rfl, hM, hD, by omega, by omega⟩
  · split
    · split
      · exact ⟨_, _, _, _, _, rfl, hM, byt_wrs hD (fun _ => hM _) _, by omega, by omega⟩
      · exact ⟨_, _, _, _, _, rfl, hM, hD, by omega, by omega⟩
    · split
      · exact ⟨_, _, _, _, _, rfl, byt_wrs hM nmB_lt _, hD, by omega, by omega⟩
      · split
        · exact ⟨_, _, _, _, _, rfl, hM, hD, by omega, by omega⟩
        · exact ⟨_, _, _, _, _, rfl, hM, hD, by omega, by omega⟩
theorem req_facts {sp : Int64 → Nat → Nat → Bool} {M Dk : Nat → Nat} (hM : byt M) (hD : byt Dk) (nn : Nat) (cg : Int32) {C O : List Blk} (h : rqOK C O) : byt (reqS sp M Dk nn cg C O).1 ∧ byt (reqS sp M Dk nn cg C O).2.1 ∧ (reqS sp M Dk nn cg C O).2.2.2 < 4294967296 := by
  obtain ⟨M1, D1, c1, w1, r1, e, h1, h2, h3, h4⟩ := reqB_facts (sp := sp) hM hD nn cg (C := C) (rq_tot h).2.1
  unfold reqS
  rw [e]
  unfold reqF
  dsimp only
  exact ⟨byt_up h1 _ h4, h2, by omega⟩
/-- what a state is behind one request, or as it was -/
def oneG (sp : Int64 → Nat → Nat → Bool) (nn n : Nat) (bl of an : Int64) (s : WS) : WS := (oneS sp nn n bl of an s).getD s
theorem one_byt {sp : Int64 → Nat → Nat → Bool} {nn n : Nat} {bl of an : Int64} {M Dk M2 D2 : Nat → Nat} {cg aw c2 a2 : Int32} {cn gn k2 g2 : Nat} (hn : n ≤ 16) (hM : byt M) (hD : byt Dk) (h : oneS sp nn n bl of an (M, Dk, cg, cn, gn, aw) = some (M2, D2, c2, k2, g2, a2)) : byt M2 ∧ byt D2 ∧ k2 < 65536 ∧ g2 < 65536 := by
  by_cases hc : (thP (ofA of cn n) 2 ∧ finB (gat M bl n n (nbs M (off (ofA of cn n)) 2) false []) = true ∧ thP (anA an gn n) 8 ∧ thP (an + 2) 2)
  · obtain ⟨L, hL, -, hrq⟩ := rq_of hM hn hc.2.1
    rw [oneS_some hc hL] at h
    have q := req_facts (sp := sp) hM hD nn cg hrq
    simp only [Option.some.injEq, Prod.mk.injEq] at h
    obtain ⟨rfl, rfl, rfl, rfl, rfl, rfl⟩ := h
    exact ⟨byt_pbs (byt_pbs (byt_pbs q.1 _ _ _) _ _ _) _ _ _, q.2.1, Nat.mod_lt _ (by omega), Nat.mod_lt _ (by omega)⟩
  · rw [oneS_none hc] at h; cases h
theorem an_4 {an : Int64} {gn n : Nat} (h : thP (anA an gn n) 8) : anA an gn n - 2147483648 = lN (off (anA an gn n)) ∧ (anA an gn n + 4) - 2147483648 = lN (off (anA an gn n) + 4) ∧ off (anA an gn n) + 8 ≤ 65536 := by
  have a := off_0 (ct := 8) h (by decide) (by decide)
  exact ⟨a.1, (off_plus (ct := 8) (j := 4) h (by decide) (by decide)).1, a.2⟩
theorem rem65536 {k : Nat} (h : k < 65536) : nI k + 1 - (nI k + 1) / 65536 * 65536 = nI ((k + 1) % 65536) := by
  rw [nI_1]; exact pk_rem (d := 65536) (by omega) (by decide) (by decide)
