/-! places in the script -/
theorem zIx_h {i y c : Int32} {k : Int} (e : y = i + c) (hi : 0 ≤ Int32.toInt i ∧ Int32.toInt i ≤ 3577) (hc : Int32.toInt c = k) (hk : 0 ≤ k ∧ k ≤ 6) : Int32.toInt y = Int32.toInt i + k := by
  rw [e]
  exact zi_addc rfl hc (by omega)
theorem zIx_b {i y : Int32} {k : Int} {L : Nat} (h : Int32.toInt y = Int32.toInt i + k) (hi : 0 ≤ Int32.toInt i ∧ Int32.toInt i ≤ 3577) (hL : Int32.toInt i + 7 ≤ (L : Int)) (hk : 0 ≤ k ∧ k ≤ 6) : 0 ≤ Int32.toInt y ∧ Int32.toInt y < (L : Int) := by omega
