/-! what a request does -/
def nmB (k : Nat) : Nat := if k = 0 then 98 else if k = 1 then 108 else if k = 2 then 111 else if k = 3 then 99 else if k = 4 then 107 else 0
def hdO (C : List Blk) : Nat := match C with
  | [] => 0
  | b :: _ => off b.1
/-- place of the last byte of the last block -/
def rpl (O : List Blk) : Nat := match O.getLast? with
  | none => 0
  | some b => off b.1 + (b.2.1 - 1)
def mS (X : List Blk) : List (Nat × Nat) := X.map str
/-- memory, disk, sectors changed, bytes written, result; C the closed blocks, O the open ones -/
def reqB (sp : Int64 → Nat → Nat → Bool) (M Dk : Nat → Nat) (nn : Nat) (cg : Int32) (C O : List Blk) : (Nat → Nat) × (Nat → Nat) × Int32 × Nat × Nat :=
  if nbs M (hdO C) 4 = 0 then
    (if sp (lN (nbs M (hdO C + 8) 8)) nn (tot (mS O) - 1) = true then (wrs M (nth (mS O)) (fun k => Dk (512 * (lN (nbs M (hdO C + 8) 8)).toInt.toNat + k)) (tot (mS O) - 1), Dk, cg, tot (mS O) - 1, 0) else (M, Dk, cg, 0, 1))
  else if nbs M (hdO C) 4 = 1 then
    (if sp (lN (nbs M (hdO C + 8) 8)) nn (tot (mS C.tail)) = true then (M, wrs Dk (fun k => 512 * (lN (nbs M (hdO C + 8) 8)).toInt.toNat + k) (fun k => M (nth (mS C.tail) k)) (tot (mS C.tail)), cg + nI (tot (mS C.tail) / 512), 0, 0) else (M, Dk, cg, 0, 1))
  else if nbs M (hdO C) 4 = 8 then (wrs M (nth (mS O)) nmB (min (tot (mS O) - 1) 20), Dk, cg, min (tot (mS O) - 1) 20, 0)
  else if nbs M (hdO C) 4 = 4 then (M, Dk, cg, 0, 0)
  else (M, Dk, cg, 0, 2)
def reqF (O : List Blk) (b : (Nat → Nat) × (Nat → Nat) × Int32 × Nat × Nat) : (Nat → Nat) × (Nat → Nat) × Int32 × Nat := (va_up b.1 (rpl O) b.2.2.2.2, b.2.1, b.2.2.1, b.2.2.2.1 + 1)
def reqS (sp : Int64 → Nat → Nat → Bool) (M Dk : Nat → Nat) (nn : Nat) (cg : Int32) (C O : List Blk) : (Nat → Nat) × (Nat → Nat) × Int32 × Nat := reqF O (reqB sp M Dk nn cg C O)
def spM : Int64 → Nat → Nat → Bool := fun sec n d => decide (secP sec n d)
/-- a request that was gathered whole -/
def rqOK (C O : List Blk) : Prop := (∀ b ∈ C, b.2.2 = false) ∧ (∀ b ∈ O, b.2.2 = true) ∧ (C ++ O).length ≤ 16 ∧ (∀ b ∈ C ++ O, thP b.1 (lN b.2.1) ∧ b.2.1 ≤ 65536) ∧ (∃ h T, C = h :: T ∧ 16 ≤ h.2.1) ∧ ∃ I t, O = I ++ [t] ∧ 0 < t.2.1
theorem tot_le {X : List (Nat × Nat)} (h : ∀ p ∈ X, p.2 ≤ 65536) : tot X ≤ 65536 * X.length := by
  induction X with
  | nil => simp [tot]
  | cons p X ih =>
    have h1 := h p List.mem_cons_self
    have h2 := ih (fun q hq => h q (List.mem_cons_of_mem _ hq))
    obtain ⟨a, l⟩ := p
    simp only [tot, List.length_cons] at *
    omega
theorem seg_gen {X Y Z : List Blk} {gs gl : Nat → Int64} {go : Nat → Int32} (h : repM (X ++ (Y ++ Z)) gs gl go) (hl : (X ++ (Y ++ Z)).length ≤ 16) (hb : ∀ b ∈ X ++ (Y ++ Z), thP b.1 (lN b.2.1) ∧ b.2.1 ≤ 65536) : seg gs gl X.length (mS Y) := by
  refine ⟨by unfold mS; rw [List.length_map]; simp only [List.length_append] at hl; omega, fun j p hp => ?_⟩
  unfold mS at hp
  rw [List.getElem?_map] at hp
  obtain ⟨b, hb1, rfl⟩ := Option.map_eq_some_iff.mp hp
  have hj : j < Y.length := (List.getElem?_eq_some_iff.mp hb1).1
  have hg : (X ++ (Y ++ Z))[X.length + j]? = some b := by
    rw [List.getElem?_append_right (by omega), Nat.add_sub_cancel_left, List.getElem?_append_left hj]; exact hb1
  have q := h _ b hg
  have q2 := hb b (List.mem_of_getElem? hg)
  exact ⟨by rw [q.1]; rfl, q.2.1, q2.2, by rw [q.1]; exact q2.1⟩
theorem flt_t {C O : List Blk} (hC : ∀ b ∈ C, b.2.2 = false) (hO : ∀ b ∈ O, b.2.2 = true) : flt (C ++ O) true = mS O ∧ flt (C ++ O) false = mS C := by
  unfold flt mS
  rw [List.filter_append, List.filter_append]
  have a : C.filter (fun b => b.2.2 == true) = [] := List.filter_eq_nil_iff.mpr (fun b hb => by rw [hC b hb]; decide)
  have b1 : O.filter (fun b => b.2.2 == true) = O := List.filter_eq_self.mpr (fun b hb => by rw [hO b hb]; decide)
  have c : C.filter (fun b => b.2.2 == false) = C := List.filter_eq_self.mpr (fun b hb => by rw [hC b hb]; decide)
  have d : O.filter (fun b => b.2.2 == false) = [] := List.filter_eq_nil_iff.mpr (fun b hb => by rw [hO b hb]; decide)
  rw [a, b1, c, d, List.nil_append, List.append_nil]
  exact ⟨rfl, rfl⟩
theorem pbs1 (M : Nat → Nat) (p w : Nat) : pbs M p w 1 = va_up M p (w % 256) := by
  show va_up M (p + 0) (w / 2 ^ (8 * 0) % 256) = _
  rw [Nat.add_zero, Nat.mul_zero, Nat.pow_zero, Nat.div_one]
theorem nbs1 (M : Nat → Nat) (p : Nat) : nbs M p 1 = M p := by
  show 0 + M (p + 0) * 2 ^ (8 * 0) = _
  simp
theorem byt_wrs {M P V : Nat → Nat} (hM : byt M) (hV : byt V) (k : Nat) : byt (wrs M P V k) := by
  induction k with
  | zero => exact hM
  | succ k ih => exact byt_up ih _ (hV k)
theorem nmB_lt : byt nmB := fun k => by unfold nmB; repeat (split <;> try omega)
theorem mS_tl {h : Blk} {T : List Blk} : mS (h :: T).tail = mS T := rfl
