/-! ranges of rows, of sums and of bits -/
def zR (f : Nat → Int32) (lo hi : Int) : Prop := ∀ j, lo ≤ (f j).toInt ∧ (f j).toInt ≤ hi
theorem zR_upd {f : Nat → Int32} {lo hi : Int} {j : Nat} {v : Int32} (h : zR f lo hi) (hv : lo ≤ v.toInt ∧ v.toInt ≤ hi) : zR (upd f j v) lo hi := by
  intro i
  by_cases hi : i = j
  · subst hi; rw [pk_us]; exact hv
  · rw [pk_un hi]; exact h i
theorem zR_c {c : Int32} {lo hi : Int} (h : lo ≤ c.toInt ∧ c.toInt ≤ hi) : zR (fun _ => c) lo hi := fun _ => h
theorem zl_add {x y : Int64} (h : -9223372036854775808 ≤ x.toInt + y.toInt ∧ x.toInt + y.toInt < 9223372036854775808) : (x + y).toInt = x.toInt + y.toInt := by
  rw [Int64.toInt_add]
  exact Int.bmod_eq_of_le (by omega) (by omega)
theorem zl_sub {x y : Int64} (h : -9223372036854775808 ≤ x.toInt - y.toInt ∧ x.toInt - y.toInt < 9223372036854775808) : (x - y).toInt = x.toInt - y.toInt := by
  rw [Int64.toInt_sub]
  exact Int.bmod_eq_of_le (by omega) (by omega)
theorem zo_nn {x : Int32} (h : 0 ≤ x.toInt) : ∃ n : Nat, n < 2 ^ 31 ∧ x = nI n ∧ x.toInt = (n : Int) := by
  obtain ⟨j, hj, e⟩ := nI_of (x := x) (fun q => by have := Int32.lt_iff_toInt_lt.mp q; simp at this; omega)
  exact ⟨j, hj, e, by rw [e]; exact nI_toInt hj⟩
theorem zo_and (x : Int32) {m : Int32} (hm : 0 ≤ m.toInt) : 0 ≤ (x &&& m).toInt ∧ (x &&& m).toInt ≤ m.toInt := by
  obtain ⟨n, hn, e, en⟩ := zo_nn hm
  have h1 : (x &&& m) = nI ((x &&& m).toBitVec.toNat) := by
    apply Int32.toBitVec_inj.mp
    apply BitVec.eq_of_toNat_eq
    have : (x &&& m).toBitVec.toNat < 2 ^ 32 := (x &&& m).toBitVec.isLt
    rw [pk_tn (by omega)]
  have h2 : (x &&& m).toBitVec.toNat ≤ n := by
    have h3 : (x &&& m).toBitVec = x.toBitVec &&& m.toBitVec := rfl
    rw [h3, BitVec.toNat_and]
    have h4 : m.toBitVec.toNat = n := by rw [e]; exact pk_tn (by omega)
    rw [h4]
    exact Nat.and_le_right
  rw [h1, nI_toInt (by omega), en]
  omega
theorem zo_div (k : Nat) {x y : Int32} (hx : 0 ≤ x.toInt) (hy : y = nI k) (hk : 0 < k ∧ k < 2 ^ 31) : (x / y).toInt = x.toInt / (k : Int) := by
  obtain ⟨n, hn, e, en⟩ := zo_nn hx
  subst hy
  rw [en, e, pk_div hn hk.1 hk.2, nI_toInt (Nat.lt_of_le_of_lt (Nat.div_le_self _ _) hn)]
  simp
theorem zo_rem (k : Nat) {x y : Int32} (hx : 0 ≤ x.toInt) (hy : y = nI k) (hk : 0 < k ∧ k < 2 ^ 31) : (x - x / y * y).toInt = x.toInt % (k : Int) := by
  obtain ⟨n, hn, e, en⟩ := zo_nn hx
  subst hy
  rw [en, e, pk_rem hn hk.1 hk.2, nI_toInt (Nat.lt_of_le_of_lt (Nat.mod_le _ _) hn)]
  simp
theorem zo_min (x y : Int32) : ((if y < x then y else x).toInt = x.toInt ∧ x.toInt ≤ y.toInt) ∨ ((if y < x then y else x).toInt = y.toInt ∧ y.toInt ≤ x.toInt) := by
  by_cases h : y < x
  · rw [if_pos h]; have := Int32.lt_iff_toInt_lt.mp h; exact Or.inr ⟨rfl, by omega⟩
  · rw [if_neg h]; have : ¬ y.toInt < x.toInt := fun q => h (Int32.lt_iff_toInt_lt.mpr q); exact Or.inl ⟨rfl, by omega⟩
theorem zo_max (x y : Int32) : ((if x < y then y else x).toInt = x.toInt ∧ y.toInt ≤ x.toInt) ∨ ((if x < y then y else x).toInt = y.toInt ∧ x.toInt ≤ y.toInt) := by
  by_cases h : x < y
  · rw [if_pos h]; have := Int32.lt_iff_toInt_lt.mp h; exact Or.inr ⟨rfl, by omega⟩
  · rw [if_neg h]; have : ¬ x.toInt < y.toInt := fun q => h (Int32.lt_iff_toInt_lt.mpr q); exact Or.inl ⟨rfl, by omega⟩
theorem zo_abs (k : Nat) {x : Int32} (h : -(k : Int) ≤ x.toInt ∧ x.toInt ≤ (k : Int)) (hk : k < 2 ^ 31 := by decide) : 0 ≤ (if 0 ≤ x then x else 0 - x).toInt ∧ (if 0 ≤ x then x else 0 - x).toInt ≤ (k : Int) := by
  by_cases q : 0 ≤ x
  · rw [if_pos q]; have := Int32.le_iff_toInt_le.mp q; simp at this; omega
  · rw [if_neg q]
    have : ¬ (0 : Int) ≤ x.toInt := fun z => q (Int32.le_iff_toInt_le.mpr (by simpa using z))
    have e : (0 - x).toInt = (0 : Int32).toInt - x.toInt := zi_sub (by simp only [Int32.reduceToInt]; omega)
    rw [e]
    simp only [Int32.reduceToInt]
    omega
theorem zo_sh (n : Nat) (hn : n ≤ 30) : (1 : Int32) <<< (nI n &&& 31) = nI (2 ^ n) := by
  have h : ∀ m, m < 31 → (1 : Int32) <<< (nI m &&& 31) = nI (2 ^ m) := by decide
  exact h n (by omega)
theorem zo_shl1 (k : Nat) {y : Int32} (h : 0 ≤ y.toInt ∧ y.toInt ≤ (k : Int)) (hk : k ≤ 30) : 1 ≤ ((1 : Int32) <<< (y &&& 31)).toInt ∧ ((1 : Int32) <<< (y &&& 31)).toInt ≤ 2 ^ k := by
  obtain ⟨n, hn, e, en⟩ := zo_nn h.1
  have h2 : n ≤ k := by omega
  rw [e, zo_sh n (by omega)]
  have h3 : 2 ^ n ≤ 2 ^ k := Nat.pow_le_pow_right (by decide) h2
  have h4 : 2 ^ k ≤ 2 ^ 30 := Nat.pow_le_pow_right (by decide) hk
  have h5 : 0 < 2 ^ n := Nat.pow_pos (by decide)
  rw [nI_toInt (by omega)]
  constructor
  · omega
  · exact_mod_cast h3
theorem zo_shlb (k : Nat) {x y : Int32} (hx : 0 ≤ x.toInt ∧ x.toInt ≤ 1) (h : 0 ≤ y.toInt ∧ y.toInt ≤ (k : Int)) (hk : k ≤ 30) : 0 ≤ (x <<< (y &&& 31)).toInt ∧ (x <<< (y &&& 31)).toInt ≤ 2 ^ k := by
  obtain ⟨n, hn, e, en⟩ := zo_nn h.1
  have hx2 : x = 0 ∨ x = 1 := by
    rcases (show x.toInt = 0 ∨ x.toInt = 1 by omega) with q | q
    · exact Or.inl (Int32.toInt_inj.mp (by simpa using q))
    · exact Or.inr (Int32.toInt_inj.mp (by simpa using q))
  rcases hx2 with rfl | rfl
  · have h0 : ∀ m, m < 31 → (0 : Int32) <<< (nI m &&& 31) = 0 := by decide
    rw [e, h0 n (by omega)]
    have : (0 : Int) ≤ 2 ^ k := Int.le_of_lt (Int.pow_pos (by decide))
    simp only [Int32.reduceToInt]
    exact ⟨Int.le_refl 0, this⟩
  · have := zo_shl1 k h hk
    omega
theorem zo_bits (k : Nat) {z : Int32} (hk : k ≤ 30) (h : z.toBitVec.toNat < 2 ^ k) : 0 ≤ z.toInt ∧ z.toInt ≤ 2 ^ k - 1 := by
  have h4 : 2 ^ k ≤ 2 ^ 30 := Nat.pow_le_pow_right (by decide) hk
  have h1 : z = nI (z.toBitVec.toNat) := by
    apply Int32.toBitVec_inj.mp
    apply BitVec.eq_of_toNat_eq
    rw [pk_tn (by omega)]
  have h2 : z.toInt = (z.toBitVec.toNat : Int) := by
    conv => lhs; rw [h1]
    exact nI_toInt (by omega)
  rw [h2]
  have h3 : ((z.toBitVec.toNat : Nat) : Int) < ((2 ^ k : Nat) : Int) := by exact_mod_cast h
  have h5 : ((2 ^ k : Nat) : Int) = (2 : Int) ^ k := by push_cast; rfl
  omega
theorem zo_nat (k : Nat) {x : Int32} (h : 0 ≤ x.toInt ∧ x.toInt < 2 ^ k) (hk : k ≤ 30) : x.toBitVec.toNat < 2 ^ k := by
  obtain ⟨n, hn, e, en⟩ := zo_nn h.1
  have h5 : ((2 ^ k : Nat) : Int) = (2 : Int) ^ k := by push_cast; rfl
  have h2 : ((n : Nat) : Int) < ((2 ^ k : Nat) : Int) := by rw [h5, ← en]; exact h.2
  rw [e, pk_tn (by omega)]
  exact_mod_cast h2
theorem zo_or (k : Nat) {x y : Int32} (hx : 0 ≤ x.toInt ∧ x.toInt < 2 ^ k) (hy : 0 ≤ y.toInt ∧ y.toInt < 2 ^ k) (hk : k ≤ 30) : 0 ≤ (x ||| y).toInt ∧ (x ||| y).toInt ≤ 2 ^ k - 1 := by
  refine zo_bits k hk ?_
  show (x.toBitVec ||| y.toBitVec).toNat < 2 ^ k
  rw [BitVec.toNat_or]
  exact Nat.or_lt_two_pow (zo_nat k hx hk) (zo_nat k hy hk)
theorem zo_xor (k : Nat) {x y : Int32} (hx : 0 ≤ x.toInt ∧ x.toInt < 2 ^ k) (hy : 0 ≤ y.toInt ∧ y.toInt < 2 ^ k) (hk : k ≤ 30) : 0 ≤ (x ^^^ y).toInt ∧ (x ^^^ y).toInt ≤ 2 ^ k - 1 := by
  refine zo_bits k hk ?_
  show (x.toBitVec ^^^ y.toBitVec).toNat < 2 ^ k
  rw [BitVec.toNat_xor]
  exact Nat.xor_lt_two_pow (zo_nat k hx hk) (zo_nat k hy hk)
theorem zz_01 {x : Int32} (h : 0 ≤ x.toInt ∧ x.toInt ≤ 1) : x = 0 ∨ x = 1 := by
  rcases (show x.toInt = 0 ∨ x.toInt = 1 by omega) with q | q
  · exact Or.inl (Int32.toInt_inj.mp (by simpa using q))
  · exact Or.inr (Int32.toInt_inj.mp (by simpa using q))
theorem zz_nb {x : Int32} (h : 0 ≤ x.toInt ∧ x.toInt ≤ 1) : narrow .boolean (.int x) = .int x := by rcases zz_01 h with rfl | rfl <;> rfl
theorem zz_fb {x : Int32} (h : 0 ≤ x.toInt ∧ x.toInt ≤ 1) : fits .boolean (.int x) = true := by rcases zz_01 h with rfl | rfl <;> rfl
theorem zz_inc {x v : Int32} {n : Int} (h : Int32.ofInt n = v) : x + Int32.ofInt n = x + v := by rw [h]
theorem zi_addc {x y : Int32} {a b : Int} (hx : x.toInt = a) (hy : y.toInt = b) (h : -2147483648 ≤ a + b ∧ a + b < 2147483648) : (x + y).toInt = a + b := by
  subst hx; subst hy; exact zi_add h
theorem zi_subc {x y : Int32} {a b : Int} (hx : x.toInt = a) (hy : y.toInt = b) (h : -2147483648 ≤ a - b ∧ a - b < 2147483648) : (x - y).toInt = a - b := by
  subst hx; subst hy; exact zi_sub h
theorem zi_mulc {x y : Int32} {a b : Int} (hx : x.toInt = a) (hy : y.toInt = b) (h : -2147483648 ≤ a * b ∧ a * b < 2147483648) : (x * y).toInt = a * b := by
  subst hx; subst hy; exact zi_mul h
theorem zl_addc {x y : Int64} {a b : Int} (hx : x.toInt = a) (hy : y.toInt = b) (h : -9223372036854775808 ≤ a + b ∧ a + b < 9223372036854775808) : (x + y).toInt = a + b := by
  subst hx; subst hy; exact zl_add h
theorem zl_subc {x y : Int64} {a b : Int} (hx : x.toInt = a) (hy : y.toInt = b) (h : -9223372036854775808 ≤ a - b ∧ a - b < 9223372036854775808) : (x - y).toInt = a - b := by
  subst hx; subst hy; exact zl_sub h

/-! texts: pools that nobody writes -/
def zTx (k : Nat → ClassId) (T : zTy) (a : Nat) (nc st : Int32) (q1 q2 q3 q4 : Nat) (lc : Int32) (f1 f2 f3 f4 : Nat → Int32) : Prop := T.1 [(a, .inr (10, [.int nc, .int st, .ref q1, .ref q2, .ref q3, .ref q4])), (q1, .inl (k 0, Int32.toNatClampNeg nc, .inl f1)), (q2, .inl (k 0, Int32.toNatClampNeg nc, .inl f2)), (q3, .inl (k 0, 2 * Int32.toNatClampNeg nc + 1, .inl f3)), (q4, .inl (k 0, Int32.toNatClampNeg lc, .inl f4))] ∧ (0 ≤ Int32.toInt nc ∧ Int32.toInt nc ≤ 12) ∧ (0 ≤ Int32.toInt lc ∧ Int32.toInt lc ≤ 400) ∧ zR f2 0 400 ∧ zR f3 0 (Int32.toInt lc)
def zRo (k : Nat → ClassId) (T : zTy) (F : Nat → Option Nat) : Prop := ∀ (j a : Nat), F j = some a → ∃ (nc st : Int32) (q1 q2 q3 q4 : Nat) (lc : Int32) (f1 f2 f3 f4 : Nat → Int32), zTx k T a nc st q1 q2 q3 q4 lc f1 f2 f3 f4
theorem z_cl {x : Int32} (h : 0 ≤ x.toInt) : ((Int32.toNatClampNeg x : Nat) : Int) = x.toInt := by
  obtain ⟨n, hn, e, en⟩ := zo_nn h
  rw [en, e, nI_clamp hn]
theorem z_vin {i n : Int32} (h : 0 ≤ Int32.toInt i ∧ Int32.toInt i < Int32.toInt n) : vp_in i (Int32.toNatClampNeg n) := by
  have h1 := z_cl h.1
  have h2 := z_cl (x := n) (by omega)
  unfold vp_in
  intro q
  rcases q with q | q
  · have := Int32.lt_iff_toInt_lt.mp q; simp at this; omega
  · omega
theorem z_vin2 {i n : Int32} (h : 0 ≤ Int32.toInt i ∧ Int32.toInt i ≤ 2 * Int32.toInt n) : vp_in i (2 * Int32.toNatClampNeg n + 1) := by
  have h1 := z_cl h.1
  have h2 := z_cl (x := n) (by omega)
  unfold vp_in
  intro q
  rcases q with q | q
  · have := Int32.lt_iff_toInt_lt.mp q; simp at this; omega
  · omega
theorem zo_shr8 (x : Int32) : -8388608 ≤ (x >>> ((8 : Int32) &&& 31)).toInt ∧ (x >>> ((8 : Int32) &&& 31)).toInt ≤ 8388607 := by
  have h : (x >>> ((8 : Int32) &&& 31)).toInt = x.toInt / 256 := by
    have e : (x >>> ((8 : Int32) &&& 31)).toBitVec = x.toBitVec.sshiftRight 8 := rfl
    show (x >>> ((8 : Int32) &&& 31)).toBitVec.toInt = _
    rw [e, BitVec.toInt_sshiftRight, Int.shiftRight_eq_div_pow]
    rfl
  have h1 := Int32.le_toInt x
  have h2 := Int32.toInt_lt x
  rw [h]
  omega
theorem zo_divv {x y : Int32} (hx : 0 ≤ x.toInt) (hy : 1 ≤ y.toInt) : 0 ≤ (x / y).toInt ∧ (x / y).toInt ≤ x.toInt := by
  obtain ⟨n, hn, e, en⟩ := zo_nn hx
  obtain ⟨k, hk, f, fn⟩ := zo_nn (x := y) (by omega)
  have h1 : n / k ≤ n := Nat.div_le_self _ _
  rw [en, e, f, pk_div hn (by omega) hk, nI_toInt (by omega)]
  exact ⟨Int.natCast_nonneg _, Int.ofNat_le.mpr h1⟩
theorem zo_remv {x y : Int32} (hx : 0 ≤ x.toInt) (hy : 1 ≤ y.toInt) : 0 ≤ (x - x / y * y).toInt ∧ (x - x / y * y).toInt < y.toInt ∧ (x - x / y * y).toInt ≤ x.toInt := by
  obtain ⟨n, hn, e, en⟩ := zo_nn hx
  obtain ⟨k, hk, f, fn⟩ := zo_nn (x := y) (by omega)
  have h1 : n % k ≤ n := Nat.mod_le _ _
  have h2 : n % k < k := Nat.mod_lt _ (by omega)
  rw [fn, en, e, f, pk_rem hn (by omega) hk, nI_toInt (by omega)]
  exact ⟨Int.natCast_nonneg _, Int.ofNat_lt.mpr h2, Int.ofNat_le.mpr h1⟩
theorem zo_andl {x : Int32} (y : Int32) (hx : 0 ≤ x.toInt) : 0 ≤ (x &&& y).toInt ∧ (x &&& y).toInt ≤ x.toInt := by
  have h := zo_and y hx
  rw [Int32.and_comm] at h
  exact h
theorem zo_lremv {x y : Int64} (hx : 0 ≤ x.toInt) (hy : 1 ≤ y.toInt) : 0 ≤ (x - x / y * y).toInt ∧ (x - x / y * y).toInt < y.toInt := by
  have b1 := Int64.toInt_lt x
  have q0 : 0 ≤ x.toInt / y.toInt := Int.ediv_nonneg hx (by omega)
  have q1 : x.toInt / y.toInt ≤ x.toInt := Int.ediv_le_self _ hx
  have hd : (x / y).toInt = x.toInt / y.toInt := by
    rw [Int64.toInt_div, Int.tdiv_eq_ediv_of_nonneg hx]
    exact Int.bmod_eq_of_le (by omega) (by omega)
  have m0 := Int.emod_nonneg x.toInt (show y.toInt ≠ 0 by omega)
  have m1 := Int.emod_lt_of_pos x.toInt (show 0 < y.toInt by omega)
  have h3 := Int.mul_ediv_add_emod x.toInt y.toInt
  have h4 : x.toInt / y.toInt * y.toInt = y.toInt * (x.toInt / y.toInt) := Int.mul_comm _ _
  have h5 : 0 ≤ x.toInt / y.toInt * y.toInt := Int.mul_nonneg q0 (by omega)
  have hm : (x / y * y).toInt = x.toInt / y.toInt * y.toInt := by
    rw [Int64.toInt_mul, hd]
    exact Int.bmod_eq_of_le (by omega) (by omega)
  have hs : (x - x / y * y).toInt = x.toInt - x.toInt / y.toInt * y.toInt := by
    rw [Int64.toInt_sub, hm]
    exact Int.bmod_eq_of_le (by omega) (by omega)
  rw [hs]
  omega
theorem zo_l2i {x : Int64} (h : -2147483648 ≤ x.toInt ∧ x.toInt < 2147483648) : x.toInt32.toInt = x.toInt := by
  rw [Int64.toInt_toInt32]
  exact Int.bmod_eq_of_le (by omega) (by omega)
