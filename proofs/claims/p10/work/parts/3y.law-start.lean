/-! what the Statement gives of the start -/
set_option maxRecDepth 20000 in
theorem nw_in : ∀ w ∈ NW, w ∈ lw_tbl := by decide +kernel
set_option maxRecDepth 20000 in
theorem zz_start {s : State} {sb : Nat} (hts : ∀ w ∈ lw_tbl, w.before #[Value.ref sb] s = true) (hgv : (Jvm.Cond.and given_1 narrow_1).before #[Value.ref sb] s = true) (A : Nat → Prop) (hA : ∀ a : Nat, a < s.heap.size → ¬ A a) : ZZ A s s.heap := by
  have hs := flat_of_before _ hgv
  have str : ∀ (k : Nat) (tx : String), (Cond.stringRef "QueueDisk" k tx).before #[Value.ref sb] s = true → (Cond.exactly (.string "QueueDisk" k) "java/lang/String").before #[Value.ref sb] s = true → ∃ sa : Nat, vk_R "QueueDisk" k tx sa s := by
    intro k tx h1 h2
    obtain ⟨a, -, -, -, h3, -⟩ := Cond.exactly_spec h2
    exact ⟨a, vk_R.of h1 h3⟩
  have hlen : (Term.length (.static "QueueDisk$Request" "NAME" "[I")).eval #[Value.ref sb] s none [] s = some (.int (Int32.ofNat 5)) := va_eqt (z := 5) (hs _ (by decide +kernel))
  have e0 := va_eqt (z := 98) (hs (.eq (.elem (.static "QueueDisk$Request" "NAME" "[I") (.int 0)) (.int 98)) (by decide +kernel))
  have e1 := va_eqt (z := 108) (hs (.eq (.elem (.static "QueueDisk$Request" "NAME" "[I") (.int 1)) (.int 108)) (by decide +kernel))
  have e2 := va_eqt (z := 111) (hs (.eq (.elem (.static "QueueDisk$Request" "NAME" "[I") (.int 2)) (.int 111)) (by decide +kernel))
  have e3 := va_eqt (z := 99) (hs (.eq (.elem (.static "QueueDisk$Request" "NAME" "[I") (.int 3)) (.int 99)) (by decide +kernel))
  have e4 := va_eqt (z := 107) (hs (.eq (.elem (.static "QueueDisk$Request" "NAME" "[I") (.int 4)) (.int 107)) (by decide +kernel))
  obtain ⟨tt, ht, hT⟩ := va_Tof (tm := .static "QueueDisk$Request" "NAME" "[I") (ty := .int) (N := 5) (f := fun j => .int (nmT j)) (A := A) (by decide) (hs _ (by decide +kernel)) hlen (fun j hj => by
    rcases (show j = 0 ∨ j = 1 ∨ j = 2 ∨ j = 3 ∨ j = 4 by omega) with rfl | rfl | rfl | rfl | rfl
    · exact e0
    · exact e1
    · exact e2
    · exact e3
    · exact e4) hA
  refine ⟨fun w h => va_Nw.of ((show ∀ w ∈ NW, w.onTables = true by decide +kernel) w h) (hts w (nw_in w h)), str _ _ (hts _ (by decide +kernel)) (hs _ (by decide +kernel)), str _ _ (hts _ (by decide +kernel)) (hs _ (by decide +kernel)), str _ _ (hts _ (by decide +kernel)) (hs _ (by decide +kernel)), str _ _ (hts _ (by decide +kernel)) (hs _ (by decide +kernel)),
    vx_Zqof (hts _ (by decide +kernel)) (hts _ (by decide +kernel)) (hs _ (by decide +kernel)) hA, vx_Zqof (hts _ (by decide +kernel)) (hts _ (by decide +kernel)) (hs _ (by decide +kernel)) hA, va_Nc.of (hs _ (by decide +kernel)), tt, va_Zof (hts _ (by decide +kernel)) (hts _ (by decide +kernel)) ht hA, hT⟩
