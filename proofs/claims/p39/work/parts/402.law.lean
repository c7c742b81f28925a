theorem z_rmC {R : Room} {cells slots a b : Nat} (h1 : cells + a ≤ 600000) (h2 : slots + b ≤ 7302250) (hR : R.cells = 600000 ∧ R.slots = 7302250) : ((cells + a).ble R.cells && (slots + b).ble R.slots) = true := by
  rw [hR.1, hR.2]
  simp only [Bool.and_eq_true, Nat.ble_eq]
  exact ⟨h1, h2⟩
