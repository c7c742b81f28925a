theorem kN_b (v j : Nat → Int) (b c : Int) : ∀ N : Nat, 0 ≤ kN v j b c N ∧ kN v j b c N ≤ (N : Int) := by
  intro N
  induction N with
  | zero => exact ⟨Int.le_refl 0, Int.le_refl 0⟩
  | succ N ih =>
    rw [kN_1]
    by_cases q : v N = b ∧ j N = c
    · rw [if_pos q]; omega
    · rw [if_neg q]; omega
theorem kP_e2 {v j : Nat → Int} {R n : Nat} {b c x y : Int} {r r' : Int32} {B : Nat → Int32} {w w' : Int32} (h : kP v j R n b c (Int32.toInt r) B (Int32.toNatClampNeg w)) (e : Int32.toNatClampNeg w' = Int32.toNatClampNeg w + 1) (hx : x = v (Int32.toNatClampNeg w)) (hy : y = j (Int32.toNatClampNeg w)) (hxb : x = b) (hyc : y = c) (hne : x ≠ -1) (er : r' = (r + (1 : Int32))) : kP v j R n b c (Int32.toInt r') B (Int32.toNatClampNeg w') := by
  refine kP_e h e hx hy hxb hyc hne ?_
  rcases h with h | ⟨h1, _⟩
  · exact absurd (hxb.trans h) hne
  · have q1 := kN_b v j b c (Int32.toNatClampNeg w)
    have q2 : Int32.toNatClampNeg w' = (Int32.toInt w').toNat := rfl
    have q3 := Int32.toInt_lt w'
    rw [er]
    exact zi_addc rfl (by decide) (by omega)
