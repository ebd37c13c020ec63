/-! THE LAW IS FALSE AT A SCRIPT: the states over a script's calls; what the last call answers -/
def lw_Q0 (_ : Array Value) (s : State) (o : Outcome) (t : State) : Prop := o = .returned (some (.int 0)) ∧ Framed s o t [] 601024 7293000
def lw_Z0 (below : List Frame) (a : Array Value) (s : State) : State → Prop := fun t => ∃ o, t.status = .running ∧ Ended t below o ∧ lw_Q0 a s o t
theorem lw_ret0 {p : Program} {l : Launch} {e : Env} {s : State} {m : MethodId} {below : List Frame} {meth : Method} {c : Code} {b : Nat} (hx : p.tables.exec = Jvm.exec) (hb : c.code = code) (hr : meth.sig.returnType = ret) (hlocks : meth.locks = false) {pc : Nat} {H : Heap} {ls : Array Slot} (hdg : decode code pc = .ok (.ireturn, 1)) : W p l e room_1 s m #[Value.ref b] below meth c H [] 601024 7293000 (lw_Z0 below #[Value.ref b] s) (F0 m pc ls [.int 0]) := by
  intro T hT X
  obtain ⟨fs, hret, hrun, hended, hW, hframe⟩ := X.leave (v := some (.int 0)) (hlocks := hlocks) (fun h => by rw [hr] at h; cases h)
  have hmeth' : T.vm.method? m = some meth := X.method'
  refine ⟨T.setFrames fs, ?_, .returned (some (.int 0)), hrun, hended, rfl, ⟨_, rfl⟩, hW, hframe⟩
  jvm_step X.here [X.here.top, hx, hb, hdg, hmeth', hr, ret, narrow_b0]
  (try refine ⟨rfl, ?_⟩); (try refine ⟨rfl, ?_⟩)
  first | (intro acts; rw [hret _ acts rfl rfl rfl]) | rw [hret _ _ rfl rfl rfl]
  exact Steps.refl _
/-- the two longs that four ints of a call make -/
def adA (xs : Nat → Int32) (x : Int32) : Int64 := (((xs (x + 1).toNatClampNeg).toInt64) <<< ((32 : Int32).toInt64 &&& 63)) ||| (((xs (x + 2).toNatClampNeg).toInt64) &&& 4294967295)
def adV (xs : Nat → Int32) (x : Int32) : Int64 := (((xs (x + 4).toNatClampNeg).toInt64) <<< ((32 : Int32).toInt64 &&& 63)) ||| (((xs (x + 5).toNatClampNeg).toInt64) &&& 4294967295)
/-- a call of the script, at the place x, as it changes a state -/
def stp (sp : Int64 → Nat → Nat → Bool) (nn : Nat) (xs : Nat → Int32) (x : Int32) : SS → SS
  | ((M, Dk, cg, cn, gn, aw), fe, ch, ca, sx, (sz, rd, bl, of, an)) =>
    if xs x.toNatClampNeg &&& 15 = 1 then ((stM M (adA xs x) (xs (x + 3).toNatClampNeg) (adV xs x).toBitVec.toNat, Dk, cg, cn, gn, aw), fe, ch, ca, sx, (sz, rd, bl, of, an))
    else if xs x.toNatClampNeg &&& 15 = 3 then wrS sp nn (xs (x + 1).toNatClampNeg) (xs (x + 2).toNatClampNeg) M Dk cg cn gn aw fe ch ca sx sz rd bl of an
    else if xs x.toNatClampNeg &&& 15 = 6 then ((M, if npP (xs (x + 1).toNatClampNeg) nn then Dk else va_up Dk (xs (x + 1).toNatClampNeg).toInt.toNat ((xs (x + 2).toNatClampNeg).toBitVec.toNat % 256), cg, cn, gn, aw), fe, ch, ca, sx, (sz, rd, bl, of, an))
    else ((M, Dk, cg, cn, gn, aw), fe, ch, ca, sx, (sz, rd, bl, of, an))
/-- the state behind so many calls of the script -/
def trc (sp : Int64 → Nat → Nat → Bool) (nn : Nat) (xs : Nat → Int32) : Nat → SS
  | 0 => ((fun _ => 0, fun _ => 0, 0, 0, 0, 0), 0, 0, 0, 0, (16, 0, 0, 0, 0))
  | j + 1 => stp sp nn xs (nI (1 + 6 * j)) (trc sp nn xs j)
def rdT (nn : Nat) (x : Int32) : SS → Int32
  | (_, fe, ch, ca, sx, (_, rd, _, _, _)) => rdS x fe ch rd ca sx (nI nn)
section
variable {sp : Int64 → Nat → Nat → Bool} {nn i jj : Nat} {xs : Nat → Int32} {x4 : Int32}
theorem tc_at {T : SS} (h : T = trc sp nn xs jj) (ex4 : x4 = nI i) (hj : i = 1 + 6 * jj) : trc sp nn xs (jj + 1) = stp sp nn xs x4 T := by
  subst ex4; subst hj; subst h; rfl
theorem tc_same {M Dk : Nat → Nat} {cg : Int32} {cn gn : Nat} {aw fe ch ca sx sz rd : Int32} {bl of an : Int64} (h : ((M, Dk, cg, cn, gn, aw), fe, ch, ca, sx, (sz, rd, bl, of, an)) = trc sp nn xs jj) (ex4 : x4 = nI i) (hj : i = 1 + 6 * jj) (h1 : ¬ xs x4.toNatClampNeg &&& 15 = 1) (h3 : ¬ xs x4.toNatClampNeg &&& 15 = 3) (h6 : ¬ xs x4.toNatClampNeg &&& 15 = 6) : ((M, Dk, cg, cn, gn, aw), fe, ch, ca, sx, (sz, rd, bl, of, an)) = trc sp nn xs (jj + 1) := by
  rw [tc_at h ex4 hj, stp, if_neg h1, if_neg h3, if_neg h6]
theorem tc_eq {M Dk : Nat → Nat} {cg : Int32} {cn gn : Nat} {aw fe ch ca sx sz rd : Int32} {bl of an : Int64} {k : Int32} (h : ((M, Dk, cg, cn, gn, aw), fe, ch, ca, sx, (sz, rd, bl, of, an)) = trc sp nn xs jj) (ex4 : x4 = nI i) (hj : i = 1 + 6 * jj) (c : xs x4.toNatClampNeg &&& 15 = k) (h1 : ¬ k = 1) (h3 : ¬ k = 3) (h6 : ¬ k = 6) : ((M, Dk, cg, cn, gn, aw), fe, ch, ca, sx, (sz, rd, bl, of, an)) = trc sp nn xs (jj + 1) :=
  tc_same h ex4 hj (fun z => h1 (c.symm.trans z)) (fun z => h3 (c.symm.trans z)) (fun z => h6 (c.symm.trans z))
theorem tc_1 {M Dk : Nat → Nat} {cg : Int32} {cn gn : Nat} {aw fe ch ca sx sz rd : Int32} {bl of an : Int64} (h : ((M, Dk, cg, cn, gn, aw), fe, ch, ca, sx, (sz, rd, bl, of, an)) = trc sp nn xs jj) (ex4 : x4 = nI i) (hj : i = 1 + 6 * jj) (c : xs x4.toNatClampNeg &&& 15 = 1) : ((stM M (adA xs x4) (xs (x4 + 3).toNatClampNeg) (adV xs x4).toBitVec.toNat, Dk, cg, cn, gn, aw), fe, ch, ca, sx, (sz, rd, bl, of, an)) = trc sp nn xs (jj + 1) := by
  rw [tc_at h ex4 hj, stp, if_pos c]
theorem tc_3 {M Dk : Nat → Nat} {cg : Int32} {cn gn : Nat} {aw fe ch ca sx sz rd : Int32} {bl of an : Int64} {X : SS} (h : ((M, Dk, cg, cn, gn, aw), fe, ch, ca, sx, (sz, rd, bl, of, an)) = trc sp nn xs jj) (ex4 : x4 = nI i) (hj : i = 1 + 6 * jj) (c : xs x4.toNatClampNeg &&& 15 = 3) (hW : wrS sp nn (xs (x4 + 1).toNatClampNeg) (xs (x4 + 2).toNatClampNeg) M Dk cg cn gn aw fe ch ca sx sz rd bl of an = X) : X = trc sp nn xs (jj + 1) := by
  rw [tc_at h ex4 hj, stp, if_neg (fun z => absurd (c.symm.trans z) (by decide)), if_pos c]; exact hW.symm
theorem tc_6 {M Dk : Nat → Nat} {cg : Int32} {cn gn : Nat} {aw fe ch ca sx sz rd : Int32} {bl of an : Int64} (h : ((M, Dk, cg, cn, gn, aw), fe, ch, ca, sx, (sz, rd, bl, of, an)) = trc sp nn xs jj) (ex4 : x4 = nI i) (hj : i = 1 + 6 * jj) (c : xs x4.toNatClampNeg &&& 15 = 6) : ((M, if npP (xs (x4 + 1).toNatClampNeg) nn then Dk else va_up Dk (xs (x4 + 1).toNatClampNeg).toInt.toNat ((xs (x4 + 2).toNatClampNeg).toBitVec.toNat % 256), cg, cn, gn, aw), fe, ch, ca, sx, (sz, rd, bl, of, an)) = trc sp nn xs (jj + 1) := by
  rw [tc_at h ex4 hj, stp, if_neg (fun z => absurd (c.symm.trans z) (by decide)), if_neg (fun z => absurd (c.symm.trans z) (by decide)), if_pos c]
end
theorem rf_nx {L K i jj : Nat} (hLK : L = 7 + 6 * K) (hj : i = 1 + 6 * jj) (h7 : i + 6 ≤ L) (h : jj = K → False) : i + 6 + 6 ≤ L := by
  have h : ¬ jj = K := h
  omega
theorem rf_k {i jj K : Nat} {xs : Nat → Int32} {x4 k kk : Int32} (ex4 : x4 = nI i) (hj : i = 1 + 6 * jj) (hkd : xs (nI (1 + 6 * K)).toNatClampNeg &&& 15 = kk) (c : xs x4.toNatClampNeg &&& 15 = k) (hk : ¬ k = kk) (z : jj = K) : False := by
  subst z; subst hj; subst ex4
  exact hk (c.symm.trans hkd)
theorem rf_n {i jj K : Nat} {xs : Nat → Int32} {x4 kk : Int32} (ex4 : x4 = nI i) (hj : i = 1 + 6 * jj) (hkd : xs (nI (1 + 6 * K)).toNatClampNeg &&& 15 = kk) (c : ¬ xs x4.toNatClampNeg &&& 15 = kk) (z : jj = K) : False := by
  subst z; subst hj; subst ex4
  exact c hkd
theorem sc_ge {L i : Nat} (hL : L ≤ 3073) (h7 : i + 6 ≤ L) (h : Int32.ofNat L - 6 < nI i) : False := by
  have e : (Int32.ofNat L - 6).toInt = (L : Int) - 6 := by
    rw [Int32.toInt_sub, show (Int32.ofNat L).toInt = L from nI_toInt (by omega), show (6 : Int32).toInt = 6 by decide, Int.bmod_def]
    omega
  rw [Int32.lt_iff_toInt_lt, e, nI_toInt (by omega)] at h
  omega
/-- the last call, at the place x, is answered otherwise in the state SC than in the state SM -/
def df_8 (_ : Nat) (_ : Nat → Int32) (_ : Int32) (SC SM : SS) : Prop := ¬ SC.1.2.2.1 = SM.1.2.2.1
theorem rf_8 {nn i jj K : Nat} {xs : Nat → Int32} {x4 : Int32} {M Dk : Nat → Nat} {cg : Int32} {cn gn : Nat} {aw fe ch ca sx sz rd : Int32} {bl of an : Int64} {M_m Dk_m : Nat → Nat} {cg_m : Int32} {cn_m gn_m : Nat} {aw_m fe_m ch_m ca_m sx_m sz_m rd_m : Int32} {bl_m of_m an_m : Int64} {r r2 : Int32} (ex4 : x4 = nI i) (hj : i = 1 + 6 * jj) (hdf : df_8 nn xs (nI (1 + 6 * K)) (trc spC nn xs K) (trc spM nn xs K)) (z : jj = K) (hTC : ((M, Dk, cg, cn, gn, aw), fe, ch, ca, sx, (sz, rd, bl, of, an)) = trc spC nn xs jj) (hTM : ((M_m, Dk_m, cg_m, cn_m, gn_m, aw_m), fe_m, ch_m, ca_m, sx_m, (sz_m, rd_m, bl_m, of_m, an_m)) = trc spM nn xs jj) (h : r = cg) (hm : r2 = cg_m) (c : r = r2) : False := by
  subst z; subst hj; subst ex4
  unfold df_8 at hdf
  rw [← hTC, ← hTM] at hdf
  exact hdf (h.symm.trans (c.trans hm))
