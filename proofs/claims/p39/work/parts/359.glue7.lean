/-! small rows for the parser's walks -/
theorem zSe_l {P : Nat → Int32} {p0 p1 p2 v : Int32} (h : ∀ j : Nat, Int32.toInt p1 ≤ (j : Int) → (j : Int) < Int32.toInt p0 → (Int32.toInt (P j)) < 30) (ev : v = P (Int32.toNatClampNeg p2)) (h2 : 0 ≤ Int32.toInt p2) (hp : Int32.toInt p1 = Int32.toInt p2 + 1) (hv : Int32.toInt v < 30) (j : Nat) (j1 : Int32.toInt p2 ≤ (j : Int)) (j2 : (j : Int) < Int32.toInt p0) : (Int32.toInt (P j)) < 30 := by
  have c := z_cl h2
  rcases (show j = Int32.toNatClampNeg p2 ∨ Int32.toInt p1 ≤ (j : Int) by omega) with q | q
  · rw [q, ← ev]; exact hv
  · exact h j q j2
theorem zP_m1 {P : Nat → Int32} {p x v : Int32} (e : v = P (Int32.toNatClampNeg x)) (hx : 0 ≤ Int32.toInt x) (hp : Int32.toInt p = Int32.toInt x + 1) : P (Int32.toNatClampNeg p - 1) = v := by
  have c1 := z_cl hx
  have c2 := z_cl (x := p) (by omega)
  rw [e, show Int32.toNatClampNeg p - 1 = Int32.toNatClampNeg x by omega]
theorem zIr_c {P : Nat → Int32} {k k' : Int} {r : Int32} (h : zIr P k r) (e : k = k') : zIr P k' r := e ▸ h
theorem zT_c {t s s' : Int} {O R P Q O2 R2 P2 Q2 : Nat → Int32} {n p n2 p2 : Int32} (h : zTr t s O R P Q n p O2 R2 P2 Q2 n2 p2) (e : s = s') : zTr t s' O R P Q n p O2 R2 P2 Q2 n2 p2 := e ▸ h
theorem zl_mulc {x y : Int64} {a b : Int} (hx : x.toInt = a) (hy : y.toInt = b) (h : -9223372036854775808 ≤ a * b ∧ a * b < 9223372036854775808) : (x * y).toInt = a * b := by
  subst hx; subst hy
  rw [Int64.toInt_mul]
  exact Int.bmod_eq_of_le (by omega) (by omega)
