/-! one request, and a whole working -/
theorem gat_ok {M : Nat → Nat} {bl : Int64} {n : Nat} (hM : byt M) : ∀ (f k : Nat) (po : Bool) (acc L : List Blk), gat M bl n f k po acc = some L → (∃ C O, acc = C ++ O ∧ (∀ b ∈ C, b.2.2 = false) ∧ (∀ b ∈ O, b.2.2 = true) ∧ (po = false → O = [])) → (∀ b ∈ acc, thP b.1 (lN b.2.1) ∧ b.2.1 < 4294967296) → (∃ C O, L = C ++ O ∧ (∀ b ∈ C, b.2.2 = false) ∧ (∀ b ∈ O, b.2.2 = true)) ∧ (∀ b ∈ L, thP b.1 (lN b.2.1) ∧ b.2.1 < 4294967296) ∧ L.length ≤ acc.length + f := by
  intro f
  induction f with
  | zero => intro k po acc L h; cases h
  | succ f ih =>
    intro k po acc L h hs hb
    rw [gat] at h
    split at h
    · rename_i h1
      split at h
      · cases h
      · rename_i h2
        obtain ⟨C, O, hacc, hC, hO, hpo⟩ := hs
        have hl4 := nbs_lt hM (off (blA bl k) + 8) 4
        have hth : thP (lN (nbs M (off (blA bl k)) 8)) (lN (nbs M (off (blA bl k) + 8) 4)) := Decidable.byContradiction fun z => h2 (Or.inr (Or.inr z))
        have hb' : ∀ b ∈ acc ++ [(lN (nbs M (off (blA bl k)) 8), nbs M (off (blA bl k) + 8) 4, decide (nbs M (off (blA bl k) + 12) 2 / 2 % 2 = 1))], thP b.1 (lN b.2.1) ∧ b.2.1 < 4294967296 := fun b hm => by
          rcases List.mem_append.mp hm with q | q
          · exact hb b q
          · rw [List.mem_singleton.mp q]; exact ⟨hth, hl4⟩
        have hs' : ∃ C' O', acc ++ [(lN (nbs M (off (blA bl k)) 8), nbs M (off (blA bl k) + 8) 4, decide (nbs M (off (blA bl k) + 12) 2 / 2 % 2 = 1))] = C' ++ O' ∧ (∀ b ∈ C', b.2.2 = false) ∧ (∀ b ∈ O', b.2.2 = true) ∧ (decide (nbs M (off (blA bl k) + 12) 2 / 2 % 2 = 1) = false → O' = []) := by
          by_cases ho : nbs M (off (blA bl k) + 12) 2 / 2 % 2 = 1
          · refine ⟨C, O ++ [_], by rw [hacc, List.append_assoc], hC, fun b hm => ?_, fun z => by simp [ho] at z⟩
            rcases List.mem_append.mp hm with q | q
            · exact hO b q
            · rw [List.mem_singleton.mp q]; simp [ho]
          · have hp : po = false := by
              cases hpp : po with
              | false => rfl
              | true => exact absurd (Or.inr (Or.inl ⟨hpp, ho⟩)) h2
            have hO0 := hpo hp
            refine ⟨C ++ [_], [], by rw [hacc, hO0, List.append_nil, List.append_nil], fun b hm => ?_, fun b hm => absurd hm List.not_mem_nil, fun _ => rfl⟩
            rcases List.mem_append.mp hm with q | q
            · exact hC b q
            · rw [List.mem_singleton.mp q]; simp [ho]
        split at h
        · have q := ih _ _ _ _ h hs' hb'
          refine ⟨q.1, q.2.1, ?_⟩
          have := q.2.2
          rw [List.length_append] at this
          simp only [List.length_cons, List.length_nil] at this
          omega
        · cases h
          obtain ⟨C', O', a1, a2, a3, -⟩ := hs'
          exact ⟨⟨C', O', a1, a2, a3⟩, hb', by rw [List.length_append]; simp only [List.length_cons, List.length_nil]; omega⟩
    · cases h
def cOf (L : List Blk) : List Blk := L.filter (fun b => !b.2.2)
def oOf (L : List Blk) : List Blk := L.filter (fun b => b.2.2)
theorem rq_of {M : Nat → Nat} {bl : Int64} {n k : Nat} (hM : byt M) (hn : n ≤ 16) (h : finB (gat M bl n n k false []) = true) : ∃ L, gat M bl n n k false [] = some L ∧ L = cOf L ++ oOf L ∧ rqOK (cOf L) (oOf L) := by
  cases hg : gat M bl n n k false [] with
  | none => rw [hg] at h; exact absurd h finB_n
  | some L =>
    rw [hg] at h
    obtain ⟨⟨C, O, hL, hC, hO⟩, hb, hl⟩ := gat_ok hM _ _ _ _ _ hg ⟨[], [], rfl, fun _ h => absurd h List.not_mem_nil, fun _ h => absurd h List.not_mem_nil, fun _ => rfl⟩ (fun _ h => absurd h List.not_mem_nil)
    have c1 : cOf L = C := by
      unfold cOf; rw [hL, List.filter_append, List.filter_eq_self.mpr (fun b hb => by rw [hC b hb]; rfl), List.filter_eq_nil_iff.mpr (fun b hb => by rw [hO b hb]; decide), List.append_nil]
    have o1 : oOf L = O := by
      unfold oOf; rw [hL, List.filter_append, List.filter_eq_nil_iff.mpr (fun b hb => by rw [hC b hb]; decide), List.filter_eq_self.mpr (fun b hb => hO b hb), List.nil_append]
    refine ⟨L, rfl, by rw [c1, o1]; exact hL, ?_⟩
    rw [c1, o1]
    have hne : L ≠ [] := fun z => by rw [z] at h; exact absurd h (by decide)
    have hl0 : 0 < L.length := List.length_pos_iff.mpr hne
    obtain ⟨x, hx⟩ : ∃ x, L[0]? = some x := ⟨_, List.getElem?_eq_getElem hl0⟩
    obtain ⟨t, ht⟩ : ∃ t, L[L.length - 1]? = some t := ⟨_, List.getElem?_eq_getElem (by omega)⟩
    have he := (endsB_iff hx ht).mp h
    refine ⟨hC, hO, by rw [← hL]; simp only [List.length_nil] at hl; omega, fun b hm => ?_, ?_, ?_⟩
    · rw [← hL] at hm
      exact ⟨(hb b hm).1, th_len (hb b hm).1 (hb b hm).2⟩
    · cases C with
      | nil =>
        rw [List.nil_append] at hL
        have := hO x (by rw [← hL]; exact List.mem_of_getElem? hx)
        rw [he.1] at this; cases this
      | cons c T =>
        rw [hL] at hx
        cases hx
        exact ⟨x, T, rfl, he.2.1⟩
    · have hO0 : O ≠ [] := fun z => by
        rw [z, List.append_nil] at hL
        have := hC t (by rw [← hL]; exact List.mem_of_getElem? ht)
        rw [he.2.2.1] at this; cases this
      refine ⟨O.dropLast, O.getLast hO0, (List.dropLast_concat_getLast hO0).symm, ?_⟩
      have e : L.getLast? = some t := by rw [List.getLast?_eq_getElem?]; exact ht
      rw [hL, List.getLast?_append, List.getLast?_eq_some_getLast hO0, Option.some_or] at e
      cases e
      exact he.2.2.2
/-- memory, disk, sectors changed, how far it has come, how many it has told, how many it has answered in all -/
abbrev WS : Type := (Nat → Nat) × (Nat → Nat) × Int32 × Nat × Nat × Int32
def ofA (of : Int64) (co n : Nat) : Int64 := of + 4 + 2 * lN (co % n)
def anA (an : Int64) (gi n : Nat) : Int64 := an + 4 + 8 * lN (gi % n)
def oneS (sp : Int64 → Nat → Nat → Bool) (nn n : Nat) (bl of an : Int64) (s : WS) : Option WS :=
  if thP (ofA of s.2.2.2.1 n) 2 ∧ finB (gat s.1 bl n n (nbs s.1 (off (ofA of s.2.2.2.1 n)) 2) false []) = true ∧ thP (anA an s.2.2.2.2.1 n) 8 ∧ thP (an + 2) 2 then
    match gat s.1 bl n n (nbs s.1 (off (ofA of s.2.2.2.1 n)) 2) false [] with
    | none => none
    | some L => some (pbs (pbs (pbs (reqS sp s.1 s.2.1 nn s.2.2.1 (cOf L) (oOf L)).1 (off (anA an s.2.2.2.2.1 n)) (nbs s.1 (off (ofA of s.2.2.2.1 n)) 2) 4) (off (anA an s.2.2.2.2.1 n) + 4) (reqS sp s.1 s.2.1 nn s.2.2.1 (cOf L) (oOf L)).2.2.2 4) (off (an + 2)) ((s.2.2.2.2.1 + 1) % 65536) 2,
        (reqS sp s.1 s.2.1 nn s.2.2.1 (cOf L) (oOf L)).2.1, (reqS sp s.1 s.2.1 nn s.2.2.1 (cOf L) (oOf L)).2.2.1, (s.2.2.2.1 + 1) % 65536, (s.2.2.2.2.1 + 1) % 65536, s.2.2.2.2.2 + 1)
  else none
def ahd (cnt co : Nat) : Nat := (cnt + 65536 - co) % 65536
/-- d more answers are allowed; the state, whether it broke, how many answers are still allowed, the marks read last -/
def wkS (sp : Int64 → Nat → Nat → Bool) (nn n : Nat) (bl of an : Int64) : Nat → WS → Nat → WS × Bool × Nat × Nat
  | 0, s, mr => if thP of 4 then (s, false, 0, nbs s.1 (off of) 2) else (s, true, 0, mr)
  | d + 1, s, mr =>
    if thP of 4 then
      if ahd (nbs s.1 (off of + 2) 2) s.2.2.2.1 = 0 then (s, false, d + 1, nbs s.1 (off of) 2)
      else if n < ahd (nbs s.1 (off of + 2) 2) s.2.2.2.1 then (s, true, d + 1, nbs s.1 (off of) 2)
      else match oneS sp nn n bl of an s with
        | none => (s, true, d + 1, nbs s.1 (off of) 2)
        | some s2 => wkS sp nn n bl of an d s2 (nbs s.1 (off of) 2)
    else (s, true, d + 1, mr)
