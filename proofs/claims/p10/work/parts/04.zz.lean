/-! what a method takes of its surroundings, beside cells -/
def NW : List Cond := [Cond.methodLinkNest "QueueDisk" 28 yX1_init "QueueDisk", Cond.fieldLinkNest "QueueDisk$Request" 31 "QueueDisk$Queue" "size" "I" "QueueDisk", Cond.fieldLinkNest "QueueDisk" 134 "QueueDisk$Queue" "size" "I" "QueueDisk", Cond.fieldLinkNest "QueueDisk" 65 "QueueDisk$Queue" "ready" "Z" "QueueDisk", Cond.fieldLinkNest "QueueDisk" 141 "QueueDisk$Queue" "offerMarks" "I" "QueueDisk", Cond.methodLinkNest "QueueDisk" 35 yX2_init "QueueDisk", Cond.fieldLinkNest "QueueDisk" 201 "QueueDisk$Request" "count" "I" "QueueDisk", Cond.fieldLinkNest "QueueDisk" 198 "QueueDisk$Request" "closed" "I" "QueueDisk", Cond.fieldLinkNest "QueueDisk" 172 "QueueDisk$Request" "written" "I" "QueueDisk", Cond.methodLinkNest "QueueDisk" 204 yX2_openLengthOf "QueueDisk", Cond.methodLinkNest "QueueDisk" 208 yX2_placeOf "QueueDisk", Cond.methodLinkNest "QueueDisk" 219 yX2_lengthOf "QueueDisk", Cond.castable "java/lang/IllegalArgumentException" "java/lang/IllegalArgumentException", Cond.castable "java/lang/IndexOutOfBoundsException" "java/lang/IndexOutOfBoundsException", Cond.declares ⟨"java/lang/RuntimeException", "<init>", "(Ljava/lang/String;)V"⟩, Cond.declares ⟨"java/lang/Exception", "<init>", "(Ljava/lang/String;)V"⟩, Cond.declares ⟨"java/lang/Throwable", "<init>", "(Ljava/lang/String;)V"⟩]
def NN (U : State) : Prop := ∀ w ∈ NW, va_Nw w U
theorem NN.same {u U : State} (h : u.vm = U.vm) (n : NN u) : NN U := fun w hw => va_Nw.same (by
  revert hw; exact (show ∀ w ∈ NW, w.onTables = true by decide +kernel) w) h (n w hw)
theorem NN.warm {s U : State} (hW : s.WarmedH U.vm) (n : NN s) : NN U := by
  intro w hw
  have hn := n w hw
  simp only [NW, List.mem_cons, List.not_mem_nil, or_false] at hw
  rcases hw with rfl | rfl | rfl | rfl | rfl | rfl | rfl | rfl | rfl | rfl | rfl | rfl | rfl | rfl | rfl | rfl | rfl <;> first | exact va_Nw.warmF hW hn | exact va_Nw.warmM hW hn | exact va_Nw.warmC hW hn | exact va_Nw.warmD hW hn
def nmT (j : Nat) : Int32 := ([98, 108, 111, 99, 107] : List Int32).getD j 0
def ZZ (A : Nat → Prop) (U : State) (H : Heap) : Prop := NN U ∧ (∃ sa : Nat, vk_R "QueueDisk" 106 "a size is 1, 2, 4 or 8" sa U) ∧ (∃ sa : Nat, vk_R "QueueDisk" 117 "not in memory" sa U) ∧ (∃ sa : Nat, vk_R "QueueDisk" 120 "no register at this offset" sa U) ∧ (∃ sa : Nat, vk_R "QueueDisk" 122 "not on the disk" sa U) ∧ vx_Zq Bundle.tN "UNASSIGNED_STACK" Bundle.steD A U H ∧ vx_Zq Bundle.tN "SUPPRESSED_SENTINEL" Bundle.listD A U H ∧ va_Nc "java/lang/IndexOutOfBoundsException" "java/lang/IllegalArgumentException" U ∧ ∃ tt : Nat, va_Z "QueueDisk$Request" "NAME" "[I" (.ref tt) A U H ∧ va_T .int tt 5 (fun j => .int (nmT j)) A U H
theorem ZZ.same {A : Nat → Prop} {u U : State} {H : Heap} (h : u.vm = U.vm) (z : ZZ A u H) : ZZ A U H := by
  obtain ⟨n, ⟨a0, s0⟩, ⟨a1, s1⟩, ⟨a2, s2⟩, ⟨a3, s3⟩, q1, q2, nc, tt, zz, zt⟩ := z
  have al : u.vm.Alike U.vm := h ▸ Vm.Alike.refl u.vm
  exact ⟨n.same h, ⟨a0, s0.same h.symm⟩, ⟨a1, s1.same h.symm⟩, ⟨a2, s2.same h.symm⟩, ⟨a3, s3.same h.symm⟩, q1.moved al, q2.moved al, nc.moved al, tt, zz.moved al, zt.moved al⟩
theorem ZZ.warm {A : Nat → Prop} {s U : State} {H : Heap} (hW : s.WarmedH U.vm) (z : ZZ A s H) : ZZ A U H := by
  obtain ⟨n, ⟨a0, s0⟩, ⟨a1, s1⟩, ⟨a2, s2⟩, ⟨a3, s3⟩, q1, q2, nc, tt, zz, zt⟩ := z
  exact ⟨n.warm hW, ⟨a0, s0.warm hW⟩, ⟨a1, s1.warm hW⟩, ⟨a2, s2.warm hW⟩, ⟨a3, s3.warm hW⟩, q1.moved hW.alike, q2.moved hW.alike, nc.moved hW.alike, tt, zz.moved hW.alike, zt.moved hW.alike⟩
theorem ZZ.kept {A : Nat → Prop} {U : State} {H H1 : Heap} (z : ZZ A U H) (hq : ∀ a : Nat, a < H.size → ¬ A a → H1[a]? = H[a]?) : ZZ A U H1 := by
  obtain ⟨n, s0, s1, s2, s3, q1, q2, nc, tt, zz, zt⟩ := z
  exact ⟨n, s0, s1, s2, s3, q1.kept hq, q2.kept hq, nc, tt, zz.kept hq, zt.kept hq⟩
theorem ZZ.narrow {A B : Nat → Prop} {U : State} {H : Heap} (z : ZZ A U H) (hAB : ∀ q, B q → A q) : ZZ B U H := by
  obtain ⟨n, s0, s1, s2, s3, q1, q2, nc, tt, zz, zt⟩ := z
  exact ⟨n, s0, s1, s2, s3, q1.narrow hAB, q2.narrow hAB, nc, tt, zz.narrow hAB, zt.narrow hAB⟩
