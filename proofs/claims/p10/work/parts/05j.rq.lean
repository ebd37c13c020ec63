/-! what holds of a request that was gathered whole -/
theorem tot_app (X Y : List (Nat × Nat)) : tot (X ++ Y) = tot X + tot Y := by
  induction X with
  | nil => simp [tot]
  | cons p X ih => obtain ⟨a, l⟩ := p; simp only [List.cons_append, tot, ih]; omega
theorem mS_le {X : List Blk} (h : ∀ b ∈ X, b.2.1 ≤ 65536) (hl : X.length ≤ 16) : tot (mS X) < 2097152 := by
  have h1 := tot_le (X := mS X) (fun p hp => by
    unfold mS at hp
    obtain ⟨b, hb, rfl⟩ := List.mem_map.mp hp
    exact h b hb)
  unfold mS at h1
  rw [List.length_map] at h1
  show tot (X.map str) < _
  omega
theorem rq_data {C O : List Blk} (h : rqOK C O) : flt (C ++ O).tail true = mS O ∧ flt (C ++ O).tail false = mS C.tail := by
  obtain ⟨hC, hO, -, -, ⟨hB, T, rfl, -⟩, -⟩ := h
  exact flt_t (C := T) (fun b hb => hC b (List.mem_cons_of_mem _ hb)) hO
theorem rq_tot {C O : List Blk} (h : rqOK C O) : 0 < tot (mS O) ∧ tot (mS O) < 2097152 ∧ tot (mS C.tail) < 2097152 := by
  obtain ⟨hC, hO, hl, hb, ⟨hB, T, rfl, -⟩, ⟨I, t, rfl, ht⟩⟩ := h
  simp only [List.length_append, List.length_cons, List.length_nil] at hl
  refine ⟨?_, mS_le (fun b h2 => (hb b (List.mem_append_right _ h2)).2) (by simp; omega), mS_le (fun b h2 => (hb b (List.mem_append_left _ (List.mem_cons_of_mem _ h2))).2) (by show T.length ≤ 16; omega)⟩
  unfold mS
  rw [List.map_append, tot_app]
  show 0 < _ + (t.2.1 + 0)
  omega
theorem rq_go {C O : List Blk} {gs gl : Nat → Int64} {go : Nat → Int32} (h : rqOK C O) (hr : repM (C ++ O) gs gl go) : 1 ≤ C.length ∧ C.length < 16 ∧ go C.length = 1 ∧ ∀ i, i < C.length → go i = 0 := by
  obtain ⟨hC, hO, hl, hb, ⟨hB, T, rfl, -⟩, ⟨I, t, hOe, ht⟩⟩ := h
  obtain ⟨x, O2, hx⟩ : ∃ x O2, O = x :: O2 := by
    cases O with
    | nil => simp at hOe
    | cons x O2 => exact ⟨x, O2, rfl⟩
  refine ⟨by simp, ?_, ?_, fun i hi => ?_⟩
  · rw [hx] at hl; simp only [List.length_append, List.length_cons] at hl ⊢; omega
  · have q := (hr (hB :: T).length x (by rw [List.getElem?_append_right (Nat.le_refl _), Nat.sub_self, hx]; rfl)).2.2
    rw [q, hO x (by rw [hx]; exact List.mem_cons_self)]; decide
  · obtain ⟨b, hb2⟩ : ∃ b, (hB :: T)[i]? = some b := ⟨_, List.getElem?_eq_getElem hi⟩
    have q := (hr i b (by rw [List.getElem?_append_left hi]; exact hb2)).2.2
    rw [q, hC b (List.mem_of_getElem? hb2)]; decide
theorem rq_seg {C O : List Blk} {gs gl : Nat → Int64} {go : Nat → Int32} (h : rqOK C O) (hr : repM (C ++ O) gs gl go) : seg gs gl C.length (mS O) ∧ seg gs gl 1 (mS C.tail) := by
  obtain ⟨hC, hO, hl, hb, ⟨hB, T, rfl, -⟩, -⟩ := h
  refine ⟨seg_gen (X := hB :: T) (Y := O) (Z := []) (by rw [List.append_nil]; exact hr) (by rw [List.append_nil]; exact hl) (by rw [List.append_nil]; exact hb), ?_⟩
  exact seg_gen (X := [hB]) (Y := T) (Z := O) hr hl hb
theorem rq_last {C O : List Blk} {gs gl : Nat → Int64} {go : Nat → Int32} {bk : Int32} (h : rqOK C O) (hr : repM (C ++ O) gs gl go) (hk : bk = nI (C ++ O).length) : vp_in (bk - 1) 16 ∧ (gs (bk - 1).toNatClampNeg + gl (bk - 1).toNatClampNeg - 1) - 2147483648 = lN (rpl O) ∧ rpl O + 1 ≤ 65536 := by
  obtain ⟨hC, hO, hl, hb, -, ⟨I, t, rfl, ht⟩⟩ := h
  have hlen : (C ++ (I ++ [t])).length = (C ++ I).length + 1 := by simp; omega
  have ei : bk - 1 = nI (C ++ I).length := by rw [hk, hlen, nI_pred]
  have hg : (C ++ (I ++ [t]))[(C ++ I).length]? = some t := by
    rw [← List.append_assoc, List.getElem?_append_right (Nat.le_refl _), Nat.sub_self]; rfl
  have q := hr _ t hg
  have q2 := hb t (List.mem_of_getElem? hg)
  rw [ei, nI_clamp (by omega), q.1, q.2.1]
  have e : t.2.1 = (t.2.1 - 1) + 1 := by omega
  have q3 := th_in (w := t.2.1 - 1) q2.1 q2.2 (by omega)
  rw [← e] at q3
  have q4 := off_0 (ct := 1) q3.1 (by decide) (by decide)
  have er : rpl (I ++ [t]) = off t.1 + (t.2.1 - 1) := by unfold rpl; rw [List.getLast?_append]; rfl
  rw [er, ← q3.2]
  exact ⟨vp_in_nI (by omega) (by decide), q4⟩
theorem lN_m1 {n : Nat} (h : 0 < n) : (-1 : Int64) + lN n = lN (n - 1) := by
  rw [← lN_sub h, Int64.sub_eq_add_neg, Int64.add_comm]; rfl
theorem lN_of {x : Int64} (h : 0 ≤ x.toInt) : x = lN x.toInt.toNat := by
  have := i64_rng x
  apply Int64.toInt_inj.mp
  rw [pk_lT (by omega)]; omega
theorem idx_ok {x : Int64} (h : 0 ≤ x.toInt) (k : Nat) : (512 * x + lN k).toInt32 = nI (512 * x.toInt.toNat + k) := by
  obtain ⟨n, hn⟩ : ∃ n, n = x.toInt.toNat := ⟨_, rfl⟩
  have e := lN_of h
  rw [← hn] at e ⊢
  rw [e, show (512 : Int64) = lN 512 from rfl, lN_mul, lN_add, lN_i]
theorem l8 : (8 : Int64).toInt = 8 := by decide
theorem l4 : (4 : Int64).toInt = 4 := by decide
theorem l20 : (20 : Int64).toInt = 20 := by decide
theorem rq_hd {C O : List Blk} {gs gl : Nat → Int64} {go : Nat → Int32} (h : rqOK C O) (hr : repM (C ++ O) gs gl go) : gs (0 : Int32).toNatClampNeg - 2147483648 = lN (hdO C) ∧ (gs (0 : Int32).toNatClampNeg + 8) - 2147483648 = lN (hdO C + 8) ∧ hdO C + 16 ≤ 65536 := by
  obtain ⟨hC, hO, hl, hb, ⟨hB, T, rfl, h16⟩, -⟩ := h
  have q := (hr 0 hB rfl).1
  have q2 := hb hB (by simp)
  have e : gs (0 : Int32).toNatClampNeg = hB.1 := q
  rw [e]
  have q3 := off_0 q2.1 (by omega) q2.2
  have q4 := off_plus q2.1 (show 8 < hB.2.1 by omega) q2.2
  exact ⟨q3.1, q4.1, by have := q3.2; show off hB.1 + 16 ≤ 65536; omega⟩
