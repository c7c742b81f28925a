/-! ties of counters: places of the model's row -/
theorem z_usc {F G : Nat → Int32} {i v : Int32} (e : G = upd F (Int32.toNatClampNeg i) v) : v = G (Int32.toNatClampNeg i) := by rw [e, pk_us]
theorem zT_eq {v a b : Int32} (e : v = a) (h : Int32.toInt b = Int32.toInt a + 0) : v = b := e.trans (Int32.toInt_inj.mp (by omega))
theorem zIn_c {G0 R G : Nat → Int32} {k i : Int32} (h : zIn G0 R k i G) (e : Int32.toInt i = 27101) : zIn G0 R k 27101 G := by
  intro j
  have h2 := h j
  rw [e] at h2
  exact h2
theorem zBn_c {F0 G F : Nat → Int32} {k i : Int32} (h : zBn F0 G k i F) (e : Int32.toInt i = 27101) : zBn F0 G k 27101 F := by
  intro j
  have h2 := h j
  rw [e] at h2
  exact h2
