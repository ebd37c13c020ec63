/-! A SCRIPT AT WHICH THE LAW IS FALSE: a READ without any data -/
def badS : List Int32 := [0, 3, 128, (-2147479552), 0, 0, 0, 3, 144, (-2147475456), 0, 0, 0, 3, 160, (-2147471360), 0, 0, 0, 3, 68, 1, 0, 0, 0, 3, 112, 4, 0, 0, 0, 1, 0, (-2147479552), 8, 0, (-2147467264), 1, 0, (-2147479544), 8, 65537, 16, 1, 0, (-2147479536), 8, 0, (-2147475454), 1, 0, (-2147479528), 8, 2, 1, 1, 0, (-2147475456), 2, 0, 1, 1, 0, (-2147475454), 2, 0, 1, 1, 0, (-2147475452), 2, 0, 0, 3, 80, 0, 0, 0, 0, 1, 0, (-2147479520), 8, 0, (-2147463168), 1, 0, (-2147479512), 8, 196609, 16, 1, 0, (-2147479504), 8, 0, (-2147454976), 1, 0, (-2147479496), 8, 262145, 512, 1, 0, (-2147479488), 8, 0, (-2147459072), 1, 0, (-2147479480), 8, 2, 1, 1, 0, (-2147463168), 4, 0, 1, 1, 0, (-2147475450), 2, 0, 2, 1, 0, (-2147475454), 2, 0, 2, 3, 80, 0, 0, 0, 0, 8, 0, 0, 0, 0, 0]
def badX : Nat → Int32 := fun j => badS.getD j 0
set_option maxRecDepth 100000 in
set_option maxHeartbeats 4000000 in
theorem bad_nn : secN (ceV badS.length badX) = 2048 := by decide +kernel
set_option maxRecDepth 100000 in
set_option maxHeartbeats 4000000 in
theorem bad_df : df_8 2048 badX (nI (1 + 6 * 23)) (trc spC 2048 badX 23) (trc spM 2048 badX 23) := by
  unfold df_8
  decide +kernel
/-- if the claim held, no start could have this script -/
theorem p10_false (hC : Claimed_1_2) {l : Launch} {p : Program} {e : Env} {s : State} {m : MethodId} {args : Array Value} {below : List Frame} (hfl : l.flags = flags0)
    (hA : AtStart classFile x code maxLocals ret World_1 tables_1 room_1 Calls_1 rest_1 Pre_1 l p e s m args below) (b : Addr) (ha : args = #[Value.ref b]) (hx : s.IntsAt b badS) : False :=
  ref_false badS (by decide +kernel) 23 (by decide +kernel) (by decide +kernel) (by rw [show (fun j => badS.getD j 0) = badX from rfl, bad_nn]; exact bad_df) hC hfl hA b ha hx
