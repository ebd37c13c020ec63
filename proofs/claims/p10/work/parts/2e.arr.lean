/-- rows of longs have one class -/
theorem arrKl {D : va_G} {cl : List vw_C} {tys : List (ClassId × FieldType)} {s : State} (hK : va_K D cl tys s) (i j : Nat) {a b : ClassId} (hi : tys[i]? = some (a, .long)) (hj : tys[j]? = some (b, .long)) : a = b := by
  have h1 : s.vm.findClass ("[" ++ FieldType.long.toString) = some a := (hK.2 i _ hi).2
  have h2 : s.vm.findClass ("[" ++ FieldType.long.toString) = some b := (hK.2 j _ hj).2
  exact Option.some.inj (h1.symm.trans h2)
/-- how many sectors there are -/
def secN (x : Int32) : Nat := if x.toInt < 1 ∨ 2048 < x.toInt then 2048 else x.toInt.toNat
theorem mL_0 : (fun _ => 0 : Nat → Int64) = mL (fun _ => 0) := by
  funext i
  show 0 = lN (nbs (fun _ => 0) (8 * i) 8)
  simp [nbs]
  rfl
theorem i1' : (1 : Int32).toInt = 1 := by decide
theorem i2048 : (2048 : Int32).toInt = 2048 := by decide
theorem secN_1 {x : Int32} (h : x < 1) : 2048 = nI (secN x) := by
  unfold secN; rw [Int32.lt_iff_toInt_lt, i1'] at h; rw [if_pos (Or.inl h)]; rfl
theorem secN_2 {x : Int32} (h : ¬ x ≤ 2048) : 2048 = nI (secN x) := by
  unfold secN; rw [Int32.le_iff_toInt_le, i2048] at h; rw [if_pos (Or.inr (by omega))]; rfl
theorem secN_3 {x : Int32} (h1 : ¬ x < 1) (h : x ≤ 2048) : x = nI (secN x) := by
  unfold secN; rw [Int32.lt_iff_toInt_lt, i1'] at h1; rw [Int32.le_iff_toInt_le, i2048] at h
  rw [if_neg (by omega)]
  apply Int32.toInt_inj.mp
  rw [nI_toInt (by omega)]; omega
theorem secN_le (x : Int32) : secN x ≤ 2048 ∧ 1 ≤ secN x := by
  unfold secN; split <;> omega
