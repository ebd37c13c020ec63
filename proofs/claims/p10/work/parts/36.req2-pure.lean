/-! the class's gathering -/
theorem le0C {a : Nat} (h : a < 2 ^ 31) : nI a ≤ 0 ↔ a = 0 := by
  rw [← nI_0, nI_leI h (by decide)]; omega
theorem lt16C {a : Nat} (h : a < 2 ^ 31) : nI a < 16 ↔ a < 16 := by
  rw [show (16 : Int32) = nI 16 from rfl, nI_ltI h (by decide)]
theorem cOf_le (L : List Blk) : (cOf L).length ≤ L.length := List.length_filter_le _ _
theorem cOf_add (L : List Blk) (a : Int64) (n : Nat) (p : Prop) [Decidable p] : (cOf (L ++ [(a, n, decide p)])).length = if p then (cOf L).length else (cOf L).length + 1 := by
  unfold cOf
  rw [List.filter_append, List.length_append]
  by_cases h : p
  · rw [if_pos h]; simp [h]
  · rw [if_neg h]; simp [h]
theorem po_add {L : List Blk} {po : Bool} (a : Int64) (n : Nat) (p : Prop) [Decidable p] (h : po = decide ((cOf L).length < L.length)) (hn : ¬ (po = true ∧ ¬ p)) : decide p = decide ((cOf (L ++ [(a, n, decide p)])).length < (L ++ [(a, n, decide p)]).length) := by
  have hl := cOf_le L
  have e : (L ++ [(a, n, decide p)]).length = L.length + 1 := by rw [List.length_append]; rfl
  rw [cOf_add, e]
  by_cases q : p
  · rw [if_pos q]; simp [q]; omega
  · rw [if_neg q]
    have : ¬ (cOf L).length < L.length := fun z => hn ⟨by rw [h]; exact decide_eq_true z, q⟩
    simp [q]; omega
theorem tk_g {mk m c0 : Nat} {ad : Int64} {ln : Nat} {po : Bool} (h : po = decide (c0 < m)) : tkN mk m c0 ad ln ↔ (mk / 4 % 2 = 1 ∨ (po = true ∧ ¬ mk / 2 % 2 = 1) ∨ ¬ thP ad (lN ln)) := by
  have e : po = true ↔ c0 < m := by rw [h]; exact decide_eq_true_iff
  rw [e]
  exact ⟨fun z => z.imp id (fun z => z.imp And.symm id), fun z => z.imp id (fun z => z.imp And.symm id)⟩
theorem endsC {L : List Blk} {h t : Blk} (hsp : L = cOf L ++ oOf L) (h1 : L[0]? = some h) (h2 : L[L.length - 1]? = some t) : endsB L = true ↔ (0 < (cOf L).length ∧ 16 ≤ h.2.1 ∧ (cOf L).length < L.length ∧ 0 < t.2.1) := by
  rw [endsB_iff h1 h2]
  have hlen : L.length = (cOf L).length + (oOf L).length := by rw [← List.length_append, ← hsp]
  have a1 : h.2.2 = false ↔ 0 < (cOf L).length := by
    constructor
    · intro z
      exact List.length_pos_of_mem (a := h) (List.mem_filter.mpr ⟨List.mem_of_getElem? h1, by rw [z]; rfl⟩)
    · intro z
      have q : (cOf L ++ oOf L)[0]? = some h := by rw [← hsp]; exact h1
      rw [List.getElem?_append_left z] at q
      have := (List.mem_filter.mp (List.mem_of_getElem? q)).2
      cases hb : h.2.2
      · rfl
      · rw [hb] at this; cases this
  have a2 : t.2.2 = true ↔ (cOf L).length < L.length := by
    constructor
    · intro z
      have := List.length_pos_of_mem (a := t) (l := oOf L) (List.mem_filter.mpr ⟨List.mem_of_getElem? h2, z⟩)
      omega
    · intro z
      have q : (cOf L ++ oOf L)[L.length - 1]? = some t := by rw [← hsp]; exact h2
      rw [List.getElem?_append_right (by omega)] at q
      exact (List.mem_filter.mp (List.mem_of_getElem? q)).2
  rw [a1, a2]
theorem gat_sp {M : Nat → Nat} {bl : Int64} {n k : Nat} {L : List Blk} (hM : byt M) (hn : n ≤ 16) (hg : gat M bl n n k false [] = some L) : L = cOf L ++ oOf L ∧ (∀ b ∈ L, b.2.1 ≤ 65536) ∧ L.length ≤ 16 := by
  obtain ⟨⟨C, O, hL, hC, hO⟩, hb, hl⟩ := gat_ok hM _ _ _ _ _ hg ⟨[], [], rfl, fun _ h => absurd h List.not_mem_nil, fun _ h => absurd h List.not_mem_nil, fun _ => rfl⟩ (fun _ h => absurd h List.not_mem_nil)
  refine ⟨?_, fun b h => th_len (hb b h).1 (hb b h).2, by have : L.length ≤ 0 + n := hl; omega⟩
  have c1 : cOf L = C := by
    unfold cOf; rw [hL, List.filter_append, List.filter_eq_self.mpr (fun b hb => by rw [hC b hb]; rfl), List.filter_eq_nil_iff.mpr (fun b hb => by rw [hO b hb]; decide), List.append_nil]
  have o1 : oOf L = O := by
    unfold oOf; rw [hL, List.filter_append, List.filter_eq_nil_iff.mpr (fun b hb => by rw [hC b hb]; decide), List.filter_eq_self.mpr (fun b hb => hO b hb), List.nil_append]
  rw [c1, o1]; exact hL
