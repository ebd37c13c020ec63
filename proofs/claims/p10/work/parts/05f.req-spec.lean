/-! a request: its blocks (address, length, open), its data -/
abbrev Blk : Type := Int64 × Nat × Bool
def blA (bl : Int64) (k : Nat) : Int64 := bl + 16 * lN k
/-- the blocks from block k on, at most f more; po: the one before is open -/
def gat (M : Nat → Nat) (bl : Int64) (n : Nat) : Nat → Nat → Bool → List Blk → Option (List Blk)
  | 0, _, _, _ => none
  | f + 1, k, po, acc =>
    if k < n ∧ thP (blA bl k) 16 then
      if nbs M (off (blA bl k) + 12) 2 / 4 % 2 = 1 ∨ (po = true ∧ ¬ nbs M (off (blA bl k) + 12) 2 / 2 % 2 = 1) ∨ ¬ thP (lN (nbs M (off (blA bl k)) 8)) (lN (nbs M (off (blA bl k) + 8) 4)) then none
      else if nbs M (off (blA bl k) + 12) 2 % 2 = 1 then gat M bl n f (nbs M (off (blA bl k) + 14) 2) (decide (nbs M (off (blA bl k) + 12) 2 / 2 % 2 = 1)) (acc ++ [(lN (nbs M (off (blA bl k)) 8), nbs M (off (blA bl k) + 8) 4, decide (nbs M (off (blA bl k) + 12) 2 / 2 % 2 = 1))])
      else some (acc ++ [(lN (nbs M (off (blA bl k)) 8), nbs M (off (blA bl k) + 8) 4, decide (nbs M (off (blA bl k) + 12) 2 / 2 % 2 = 1))])
    else none
/-- the first block is closed and holds a head, the last one is open and not empty -/
def endsB (L : List Blk) : Bool := match L.head?, L.getLast? with
  | some h, some t => !h.2.2 && decide (16 ≤ h.2.1) && t.2.2 && decide (0 < t.2.1)
  | _, _ => false
def finB (r : Option (List Blk)) : Bool := match r with
  | none => false
  | some L => endsB L
/-- the i-th byte of a list of stretches -/
def nth : List (Nat × Nat) → Nat → Nat
  | [], _ => 0
  | (a, l) :: r, i => if i < l then a + i else nth r (i - l)
def tot : List (Nat × Nat) → Nat
  | [] => 0
  | (_, l) :: r => l + tot r
def str (b : Blk) : Nat × Nat := (off b.1, b.2.1)
/-- the open ones; the closed ones behind the first -/
def opL (L : List Blk) : List (Nat × Nat) := (L.filter (fun b => b.2.2)).map str
def clL (L : List Blk) : List (Nat × Nat) := (L.tail.filter (fun b => !b.2.2)).map str
/-- bytes put one behind the other -/
def wrs (M : Nat → Nat) (P V : Nat → Nat) : Nat → (Nat → Nat)
  | 0 => M
  | k + 1 => va_up (wrs M P V k) (P k) (V k)
/-- whole sectors of the disk -/
abbrev secP (sec : Int64) (n d : Nat) : Prop := 0 < d ∧ d ≤ 32768 ∧ d % 512 = 0 ∧ 0 ≤ sec.toInt ∧ sec.toInt < n ∧ ((d / 512 : Nat) : Int) ≤ n - sec.toInt
/-- what the blocks of a request are, as far as they were taken -/
def okL (L : List Blk) : Prop := L.length ≤ 16 ∧ ∀ b ∈ L, thP b.1 (lN b.2.1) ∧ b.2.1 < 4294967296
theorem th_len {a : Int64} {n : Nat} (h : thP a (lN n)) (hn : n < 4294967296) : n ≤ 65536 := by
  have e : (lN n).toInt = n := pk_lT (by omega)
  rcases h with h | ⟨h1, h2, h3⟩ <;> omega
