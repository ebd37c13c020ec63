/-! a body with handlers that throws nothing; the words of a throw -/
theorem metWH {l : Launch} {y : MethodName} {ws ws' : List Cond} {rm : Room} {Pc : Array Value → State → Prop} {Qc : Array Value → State → Outcome → State → Prop} {mc ms : Nat} {free : Addr → Prop} {cc : ByteArray} {maxL : Nat} {ret : Option FieldType} {hh : List (Nat × Nat × Nat × Nat)}
    (hy : plainName y.cls = true) (hw : ws = Cond.codeWith y cc maxL ret hh :: ws')
    (body : ∀ p e s m args below meth c s₁, BodyLoose p l y (headSpec ws rm) cc maxL ret e s m args below meth c s₁ → c.maxLocals = maxL → Pc args s →
      W p l e (headSpec ws rm).room s m args below meth c s.heap [] 0 0 (MQ below Qc args s mc ms free) (entryFrame m args maxL)) : Met l y ws rm Pc Qc mc ms free := by
  refine MetFree.of_bodyS (code := cc) (maxLocals := maxL) (ret := ret) hy ?_ ?_
  · intro args s m h hn
    obtain ⟨m9, meth, c, hn9, h1, h2, h3, h4, -, h5, h6, -⟩ := Cond.codeWith_spec (atoms_spec (ws := ws) h _ (by rw [hw]; exact List.mem_cons_self))
    cases hn.symm.trans hn9
    exact ⟨meth, c, h1, h2, h3, h4, h5, h6⟩
  · intro p e s m args below meth c s₁ B hml hP _
    have hh0 : s₁.heap = s.heap := by rw [B.state]; rfl
    obtain ⟨t, a1, o, b1, b2, b3⟩ := body p e s m args below meth c s₁ B hml hP s₁ hh0 (Stand.of_body B)
    exact ⟨t, o, a1, b1, b2, ⟨b3.1, b3.2⟩⟩
abbrev eA : String := "java/lang/IllegalArgumentException"
abbrev eB : String := "java/lang/IndexOutOfBoundsException"
abbrev eN : List String := ["java/lang/RuntimeException", "java/lang/Exception"]
set_option maxRecDepth 20000 in
theorem eA_in : ∀ w ∈ (vx_atS RX3 108 eA eN).filter goodWord, w ∈ lw_tbl := by decide +kernel
set_option maxRecDepth 20000 in
theorem eB_in : ∀ w ∈ (vx_atS RX3 119 eB eN).filter goodWord, w ∈ lw_tbl := by decide +kernel
set_option maxRecDepth 20000 in
theorem eA_no : ∀ w ∈ (vx_atS RX3 108 eA eN).filter (fun w => !goodWord w), w ∈ NW := by decide +kernel
set_option maxRecDepth 20000 in
theorem eB_no : ∀ w ∈ (vx_atS RX3 119 eB eN).filter (fun w => !goodWord w), w ∈ NW := by decide +kernel
theorem nn_at {args : Array Value} {s : State} (hn : NN s) : ∀ w ∈ NW, w.before args s = true := fun w h => va_Nw.use ((show ∀ w ∈ NW, w.onTables = true by decide +kernel) w h) (hn w h)
theorem eA_at {args : Array Value} {s : State} (hw : ∀ w ∈ WW, w.before args s = true) (hn : NN s) : ∀ w ∈ vx_atS RX3 108 eA eN, w.before args s = true := vx_hat (fun w h => hw w (ww_in (eA_in w h) (List.mem_filter.mp h).2)) eA_no (nn_at hn)
theorem eB_at {args : Array Value} {s : State} (hw : ∀ w ∈ WW, w.before args s = true) (hn : NN s) : ∀ w ∈ vx_atS RX3 119 eB eN, w.before args s = true := vx_hat (fun w h => hw w (ww_in (eB_in w h) (List.mem_filter.mp h).2)) eB_no (nn_at hn)
set_option maxRecDepth 20000 in
theorem eA_ot : ∀ w ∈ Cond.classLink RX3 104 eA :: Cond.initialized eA :: vx_atS RX3 108 eA eN, vx_ot w = true := by decide +kernel
set_option maxRecDepth 20000 in
theorem eB_ot : ∀ w ∈ Cond.classLink RX3 115 eB :: Cond.initialized eB :: vx_atS RX3 119 eB eN, vx_ot w = true := by decide +kernel
/-! refused arguments; a register of the class written -/
theorem no_5 {x : Int32} (h1 : ¬ x < 0) (h2 : ¬ 508 < x) (h3 : ¬ x &&& 3 = 0) : noP x := Or.inr (Or.inr (fun q => h3 ((an3 h1 h2).mpr q)))
theorem no_6 {x : Int32} (h1 : ¬ x < 0) (h2 : ¬ 508 < x) (h3 : x &&& 3 = 0) : ¬ noP x := by
  have q := (an3 h1 h2).mp h3
  rw [Int32.lt_iff_toInt_lt, i0] at h1
  rw [Int32.lt_iff_toInt_lt, i508] at h2
  omega
theorem szP_pos {x : Int32} (h : szP x) : 0 < x.toInt64.toInt := by
  obtain ⟨j, -, h1, h2, h3⟩ := szP_j h
  rw [h3, lN_toInt (by omega)]; omega
theorem ldc_2 {a : Int64} {x : Int32} (hs : szP x) (h : ¬ thP a x.toInt64) : ldc a x = 2 := by unfold ldc; rw [if_pos hs, if_neg h]
theorem ldc_0 {a : Int64} {x : Int32} (hs : szP x) (h : thP a x.toInt64) : ldc a x = 0 := by unfold ldc; rw [if_pos hs, if_pos h]
theorem ldc_i {a : Int64} {x : Int32} (h : ldc a x = 0) : szP x ∧ thP a x.toInt64 := by
  unfold ldc at h
  by_cases h1 : szP x
  · rw [if_pos h1] at h
    by_cases h2 : thP a x.toInt64
    · exact ⟨h1, h2⟩
    · rw [if_neg h2] at h; exact absurd h (by decide)
  · rw [if_neg h1] at h; exact absurd h (by decide)
theorem ho_np {x : Int32} {nn : Nat} : hoP (512 * nn) x.toInt64 1 ↔ ¬ npP x nn := by
  show (0 ≤ x.toInt64.toInt ∧ 0 ≤ (1 : Int64).toInt ∧ x.toInt64.toInt + (1 : Int64).toInt ≤ ((512 * nn : Nat) : Int)) ↔ _
  rw [Int32.toInt_toInt64, show (1 : Int64).toInt = 1 by decide]
  omega
theorem qSet_ch {x v ch sz rd : Int32} {bl of an : Int64} (h : ¬ ch = 0) : qSet x v ch sz rd bl of an = (sz, rd, bl, of, an) := if_neg (fun z => h z.1)
theorem m512r {n : Nat} : nI n * (512 : Int32) = nI (512 * n) := by rw [Int32.mul_comm]; exact m512
theorem at_np {Dk : Nat → Nat} {x : Int32} {nn : Nat} (hD : byt Dk) (h : ¬ npP x nn) : atS (512 * nn) (cB Dk) x.toInt64 = nI (Dk x.toInt.toNat) := by
  unfold atS
  rw [if_pos (ho_np.mpr h), Int32.toInt_toInt64]
  exact cB_255 hD _
theorem put_np {Dk : Nat → Nat} {x v : Int32} {nn : Nat} (h : ¬ npP x nn) : putS (512 * nn) (cB Dk) x.toInt64 v = cB (va_up Dk x.toInt.toNat (v.toBitVec.toNat % 256)) := by
  unfold putS
  rw [if_pos (ho_np.mpr h), Int32.toInt_toInt64]
  exact cB_up _ _ _
theorem wr_workC {sp : Int64 → Nat → Nat → Bool} {nn n : Nat} {M Dk : Nat → Nat} {cg : Int32} {cn gn : Nat} {aw fe ch ca sx sz rd : Int32} {bl of an : Int64} {co gi cg2 co2 gi2 aw2 ca2 sx2 : Int32} {gm gd : Nat → Int32} (hs : sz.toInt.toNat = n)
    (h : ((sx &&& 4 = 0 ∨ ¬ sx &&& 64 = 0 ∨ rd = 0) → gm = cB M ∧ gd = cB Dk ∧ cg2 = cg ∧ co2 = co ∧ gi2 = gi ∧ aw2 = aw ∧ ca2 = ca ∧ sx2 = sx) ∧ (¬ (sx &&& 4 = 0 ∨ ¬ sx &&& 64 = 0 ∨ rd = 0) → ∃ (M5 D5 : Nat → Nat) (k5 g5 : Nat) (br : Bool) (d5 m5 : Nat), wkS sp nn n bl of an 64 (M, Dk, cg, cn, gn, aw) 1 = ((M5, D5, cg2, k5, g5, aw2), br, d5, m5) ∧ gm = cB M5 ∧ gd = cB D5 ∧ co2 = nI k5 ∧ k5 < 65536 ∧ gi2 = nI g5 ∧ g5 < 65536 ∧ byt M5 ∧ byt D5 ∧ ca2 = caF ca br d5 m5 ∧ sx2 = sxF sx br))
    (hco : co = nI cn) (hgi : gi = nI gn) : ∃ (M5 D5 : Nat → Nat) (k5 g5 : Nat), wrk sp nn (M, Dk, cg, cn, gn, aw) fe ch ca sx sz rd bl of an = ((M5, D5, cg2, k5, g5, aw2), fe, ch, ca2, sx2, (sz, rd, bl, of, an)) ∧ gm = cB M5 ∧ gd = cB D5 ∧ co2 = nI k5 ∧ gi2 = nI g5 := by
  by_cases hc : (sx &&& 4 = 0 ∨ ¬ sx &&& 64 = 0 ∨ rd = 0)
  · obtain ⟨e1, e2, e3, e4, e5, e6, e7, e8⟩ := h.1 hc
    subst e3; subst e6; subst e7; subst e8
    exact ⟨M, Dk, cn, gn, wrk_same hc, e1, e2, e4.trans hco, e5.trans hgi⟩
  · obtain ⟨M5, D5, k5, g5, br, d5, m5, hw, e1, e2, e3, -, e4, -, -, -, e5, e6⟩ := h.2 hc
    subst e5; subst e6
    exact ⟨M5, D5, k5, g5, wrk_done hs hc hw, e1, e2, e3, e4⟩
theorem secN_4 {x : Int32} (h : 2048 < x) : 2048 = nI (secN x) := secN_2 (fun z => by
  rw [Int32.le_iff_toInt_le] at z; rw [Int32.lt_iff_toInt_lt] at h; omega)
theorem secN_5 {x : Int32} (h1 : ¬ x < 1) (h : ¬ 2048 < x) : x = nI (secN x) := secN_3 h1 (by
  rw [Int32.le_iff_toInt_le]; rw [Int32.lt_iff_toInt_lt] at h; omega)
