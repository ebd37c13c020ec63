/-! the law's own methods: words, small rows -/
abbrev wsL_load : List Cond := Cond.codeWith yL_load cL_load 6 (some .int) [(0, 10, 13, 13), (0, 10, 17, 15)] :: WW
abbrev wsL_store : List Cond := Cond.codeWith yL_store cL_store 7 (some .int) [(0, 8, 11, 13), (0, 8, 15, 15)] :: WW
abbrev wsL_read : List Cond := Cond.codeWith yL_read cL_read 4 (some .int) [(0, 9, 12, 15)] :: WW
abbrev wsL_write : List Cond := Cond.codeWith yL_write cL_write 4 (some .int) [(0, 6, 9, 15)] :: WW
abbrev wsL_disk : List Cond := Cond.codeWith yL_disk cL_disk 4 (some .int) [(0, 9, 12, 15)] :: WW
abbrev wsL_setDisk : List Cond := Cond.codeWith yL_setDisk cL_setDisk 4 (some .int) [(0, 6, 9, 15)] :: WW
theorem vp_in01 : vp_in 0 1 := vp_in_nI (n := 0) (N := 1) (by omega) (by omega)
theorem updL_0 (f : Nat → Int64) (r : Int64) : vp_updL f (0 : Int32).toNatClampNeg r 0 = r := rfl
theorem stM_no {M : Nat → Nat} {a : Int64} {x k : Int32} {w : Nat} (h : ldc a x = k) (hk : ¬ k = 0) : stM M a x w = M := if_neg (fun z => hk (h.symm.trans z))
