/-! what stays true over the calls of a script; places in the script -/
def okW (w : WS) : Prop := byt w.1 ∧ byt w.2.1 ∧ w.2.2.2.1 < 65536 ∧ w.2.2.2.2.1 < 65536
def okS (S : SS) : Prop := okW S.1 ∧ ∃ n : Nat, pw n ∧ S.2.2.2.2.2.1 = nI n
section
variable {sp : Int64 → Nat → Nat → Bool} {nn n : Nat} {bl of an : Int64}
theorem one_okW (hn : n ≤ 16) : ∀ {s s2 : WS}, okW s → oneS sp nn n bl of an s = some s2 → okW s2 := by
  intro s s2 hs h
  obtain ⟨M, Dk, cg, cn, gn, aw⟩ := s
  obtain ⟨M2, D2, c2, k2, g2, a2⟩ := s2
  obtain ⟨h1, h2, h3, h4⟩ := one_byt hn hs.1 hs.2.1 h
  exact ⟨h1, h2, h3, h4⟩
theorem wk_okW (hn : n ≤ 16) : ∀ (d : Nat) (s : WS) (mr : Nat), okW s → okW (wkS sp nn n bl of an d s mr).1 := by
  intro d
  induction d with
  | zero =>
    intro s mr hs
    by_cases h : thP of 4
    · rw [wk_stop0 s mr h]; exact hs
    · rw [wk_no 0 s mr h]; exact hs
  | succ d ih =>
    intro s mr hs
    by_cases h : thP of 4
    · by_cases ha : ahd (nbs s.1 (off of + 2) 2) s.2.2.2.1 = 0
      · rw [wk_stop _ s mr h ha]; exact hs
      · by_cases hf : n < ahd (nbs s.1 (off of + 2) 2) s.2.2.2.1
        · rw [wk_far d s mr h ha hf]; exact hs
        · cases ho : oneS sp nn n bl of an s with
          | none => rw [wk_none d s mr h ha hf ho]; exact hs
          | some s2 => rw [wk_more d s mr h ha hf ho]; exact ih s2 _ (one_okW hn hs ho)
    · rw [wk_no _ s mr h]; exact hs
theorem qUp_ok {x v sz rd : Int32} (hn : pw n) (hs : sz = nI n) : ∃ n2 : Nat, pw n2 ∧ (qUp x v sz rd bl of an).1 = nI n2 := by
  unfold qUp
  by_cases h : x = 56
  · rw [if_pos h]
    by_cases hv : v = 1 ∨ v = 2 ∨ v = 4 ∨ v = 8 ∨ v = 16
    · show ∃ n2 : Nat, pw n2 ∧ (if v = 1 ∨ v = 2 ∨ v = 4 ∨ v = 8 ∨ v = 16 then v else sz) = nI n2
      rw [if_pos hv]
      rcases hv with rfl | rfl | rfl | rfl | rfl
      · exact ⟨1, Or.inl rfl, rfl⟩
      · exact ⟨2, Or.inr (Or.inl rfl), rfl⟩
      · exact ⟨4, Or.inr (Or.inr (Or.inl rfl)), rfl⟩
      · exact ⟨8, Or.inr (Or.inr (Or.inr (Or.inl rfl))), rfl⟩
      · exact ⟨16, Or.inr (Or.inr (Or.inr (Or.inr rfl))), rfl⟩
    · show ∃ n2 : Nat, pw n2 ∧ (if v = 1 ∨ v = 2 ∨ v = 4 ∨ v = 8 ∨ v = 16 then v else sz) = nI n2
      rw [if_neg hv]; exact ⟨n, hn, hs⟩
  · rw [if_neg h]
    refine ⟨n, hn, ?_⟩
    repeat' split
    all_goals exact hs
theorem qSet_ok {x v ch sz rd : Int32} (hn : pw n) (hs : sz = nI n) : ∃ n2 : Nat, pw n2 ∧ (qSet x v ch sz rd bl of an).1 = nI n2 := by
  unfold qSet
  split
  · exact qUp_ok hn hs
  · exact ⟨n, hn, hs⟩
theorem wrS_ok {x v : Int32} {M Dk : Nat → Nat} {cg : Int32} {cn gn : Nat} {aw fe ch ca sx sz rd : Int32} (hn : pw n) (hs : sz = nI n) (hM : byt M) (hD : byt Dk) (hc : cn < 65536) (hg : gn < 65536) : okS (wrS sp nn x v M Dk cg cn gn aw fe ch ca sx sz rd bl of an) := by
  have hw : okW (M, Dk, cg, cn, gn, aw) := ⟨hM, hD, hc, hg⟩
  have hz : ∃ n : Nat, pw n ∧ sz = nI n := ⟨n, hn, hs⟩
  unfold wrS
  by_cases h0 : noP x
  · rw [if_pos h0]; exact ⟨hw, hz⟩
  rw [if_neg h0]
  by_cases h1 : x = 20
  · rw [if_pos h1]; exact ⟨hw, hz⟩
  rw [if_neg h1]
  by_cases h2 : x = 48
  · rw [if_pos h2]; exact ⟨hw, hz⟩
  rw [if_neg h2]
  by_cases h3 : x = 80
  · rw [if_pos h3]
    by_cases hv : v = 0
    · rw [if_pos hv]
      unfold wrk
      by_cases hq : sx &&& 4 = 0 ∨ ¬ sx &&& 64 = 0 ∨ rd = 0
      · rw [if_pos hq]; exact ⟨hw, hz⟩
      · rw [if_neg hq]
        refine ⟨?_, hz⟩
        have e : sz.toInt.toNat = n := by rw [hs, nI_toInt (by have := pw_le hn; omega)]; rfl
        rw [e]
        exact wk_okW (pw_le hn).2 64 _ 1 hw
    · rw [if_neg hv]; exact ⟨hw, hz⟩
  rw [if_neg h3]
  by_cases h4 : x = 100
  · rw [if_pos h4]; exact ⟨hw, hz⟩
  rw [if_neg h4]
  by_cases h5 : x = 112
  · rw [if_pos h5]
    by_cases hv : v = 0
    · rw [if_pos hv]; exact ⟨⟨hM, hD, Nat.zero_lt_succ _, Nat.zero_lt_succ _⟩, 16, Or.inr (Or.inr (Or.inr (Or.inr rfl))), rfl⟩
    · rw [if_neg hv]; exact ⟨hw, hz⟩
  rw [if_neg h5]
  exact ⟨hw, qSet_ok hn hs⟩
end
theorem wrS_in {sp : Int64 → Nat → Nat → Bool} {nn n : Nat} {bl of an : Int64} {x v : Int32} {M Dk : Nat → Nat} {cg : Int32} {cn gn : Nat} {aw fe ch ca sx sz rd : Int32} {M5 D5 : Nat → Nat} {cg2 : Int32} {k5 g5 : Nat} {aw2 fe2 ch2 ca2 sx2 sz2 rd2 : Int32} {bl2 of2 an2 : Int64} (h : wrS sp nn x v M Dk cg cn gn aw fe ch ca sx sz rd bl of an = ((M5, D5, cg2, k5, g5, aw2), fe2, ch2, ca2, sx2, (sz2, rd2, bl2, of2, an2))) (hn : pw n) (hs : sz = nI n) (hM : byt M) (hD : byt Dk) (hc : cn < 65536) (hg : gn < 65536) :
    byt M5 ∧ byt D5 ∧ k5 < 65536 ∧ g5 < 65536 ∧ ∃ n5 : Nat, pw n5 ∧ sz2 = nI n5 := by
  have q := wrS_ok (sp := sp) (nn := nn) (bl := bl) (of := of) (an := an) (x := x) (v := v) (cg := cg) (aw := aw) (fe := fe) (ch := ch) (ca := ca) (sx := sx) (rd := rd) hn hs hM hD hc hg
  rw [h] at q
  exact ⟨q.1.1, q.1.2.1, q.1.2.2.1, q.1.2.2.2, q.2⟩
theorem byt_stM {M : Nat → Nat} (hM : byt M) (a : Int64) (x : Int32) (w : Nat) : byt (stM M a x w) := by
  unfold stM
  split
  · exact byt_pbs hM _ _ _
  · exact hM
theorem byt_sd {Dk : Nat → Nat} {x v : Int32} {nn : Nat} (hD : byt Dk) : byt (if npP x nn then Dk else va_up Dk x.toInt.toNat (v.toBitVec.toNat % 256)) := by
  split
  · exact hD
  · exact byt_up hD _ (Nat.mod_lt _ (by omega))
theorem sc_lt {L i : Nat} (hL : L ≤ 3073) (hi : i ≤ L + 1) (h : ¬ Int32.ofNat L - 6 < nI i) : i + 6 ≤ L := by
  have e : (Int32.ofNat L - 6).toInt = (L : Int) - 6 := by
    rw [Int32.toInt_sub, show (Int32.ofNat L).toInt = L from nI_toInt (by omega), show (6 : Int32).toInt = 6 by decide, Int.bmod_def]
    omega
  rw [Int32.lt_iff_toInt_lt, e, nI_toInt (by omega)] at h
  omega
theorem sc_in {L i k : Nat} {x4 : Int32} (hL : L ≤ 3073) (ex : x4 = nI i) (h : i + k < L) : vp_in (x4 + nI k) L := by
  rw [ex, nI_add]; exact vp_in_nI h (by omega)
theorem sc_0 {L i : Nat} {x4 : Int32} (hL : L ≤ 3073) (ex : x4 = nI i) (h : i < L) : vp_in x4 L := by
  rw [ex]; exact vp_in_nI h (by omega)
theorem l64 (v : Int64) : v = lN v.toBitVec.toNat := by
  apply Int64.toBitVec_inj.mp
  show v.toBitVec = BitVec.ofNat 64 v.toBitVec.toNat
  rw [BitVec.ofNat_toNat, BitVec.setWidth_eq]
theorem l64_lt (v : Int64) : v.toBitVec.toNat < 2 ^ 64 := v.toBitVec.isLt
/-- the script's first int, or 0 -/
def ceV (L : Nat) (xs : Nat → Int32) : Int32 := if 0 < L then xs 0 else 0
