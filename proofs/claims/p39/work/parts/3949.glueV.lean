/-! searches as numbers, rows as updates -/
noncomputable def zQ (p : Prop) : Int32 := @ite Int32 p (Classical.propDecidable p) 1 0
theorem zQ_t {p : Prop} (h : p) : zQ p = 1 := by unfold zQ; exact if_pos h
theorem zQ_f {p : Prop} (h : ¬ p) : zQ p = 0 := by unfold zQ; exact if_neg h
theorem zQ_c {p q : Prop} (h : p ↔ q) : zQ p = zQ q := by rw [propext h]
theorem zN_i {x : Int32} {j : Nat} (h : j < Int32.toNatClampNeg x) : (j : Int) < Int32.toInt x := by
  have e : Int32.toNatClampNeg x = (Int32.toInt x).toNat := rfl
  rw [e] at h
  omega
theorem zN_o {x : Int32} {j : Nat} (h : (j : Int) < Int32.toInt x) : j < Int32.toNatClampNeg x := by
  have e : Int32.toNatClampNeg x = (Int32.toInt x).toNat := rfl
  rw [e]
  omega
theorem zFd_0 {P : Nat → Prop} {k : Int32} (h : Int32.toNatClampNeg k = 0) : ∀ j : Nat, j < Int32.toNatClampNeg k → ¬ P j := fun j hj => absurd hj (by omega)
theorem zFd_s {P : Nat → Prop} {k k2 : Int32} (hI : ∀ j : Nat, j < Int32.toNatClampNeg k → ¬ P j) (e : Int32.toNatClampNeg k2 = Int32.toNatClampNeg k + 1) (hn : ¬ P (Int32.toNatClampNeg k)) : ∀ j : Nat, j < Int32.toNatClampNeg k2 → ¬ P j := by
  intro j hj
  by_cases q : j = Int32.toNatClampNeg k
  · rw [q]; exact hn
  · exact hI j (by omega)
theorem zAc_0 {P : Nat → Prop} {k : Int32} (h : Int32.toNatClampNeg k = 0) : (0 : Int32) = zQ (∃ j : Nat, j < Int32.toNatClampNeg k ∧ P j) := (zQ_f (fun h9 => by obtain ⟨j, h1, h2⟩ := h9; omega)).symm
theorem zAc_s {P : Nat → Prop} {b b' k k2 : Int32} (hI : b = zQ (∃ j : Nat, j < Int32.toNatClampNeg k ∧ P j)) (e : Int32.toNatClampNeg k2 = Int32.toNatClampNeg k + 1) (h : (b' = 1 ∧ (b ≠ 0 ∨ P (Int32.toNatClampNeg k))) ∨ (b' = 0 ∧ b = 0 ∧ ¬ P (Int32.toNatClampNeg k))) : b' = zQ (∃ j : Nat, j < Int32.toNatClampNeg k2 ∧ P j) := by
  rcases h with ⟨rfl, h⟩ | ⟨rfl, h0, hn⟩
  · refine (zQ_t ?_).symm
    rcases h with h | h
    · by_cases q : ∃ j : Nat, j < Int32.toNatClampNeg k ∧ P j
      · obtain ⟨j, h1, h2⟩ := q
        exact ⟨j, by omega, h2⟩
      · exact absurd (hI.trans (zQ_f q)) h
    · exact ⟨_, by omega, h⟩
  · refine (zQ_f (fun h9 => ?_)).symm
    obtain ⟨j, h1, h2⟩ := h9
    by_cases q : j = Int32.toNatClampNeg k
    · rw [q] at h2; exact hn h2
    · have h3 : zQ (∃ j : Nat, j < Int32.toNatClampNeg k ∧ P j) = 1 := zQ_t ⟨j, by omega, h2⟩
      rw [h0, h3] at hI
      exact absurd hI (by decide)
theorem zAc_e {P : Nat → Prop} {b k n : Int32} (hI : b = zQ (∃ j : Nat, j < Int32.toNatClampNeg k ∧ P j)) (e : Int32.toInt k = Int32.toInt n) : b = zQ (∃ j : Nat, j < Int32.toNatClampNeg n ∧ P j) := by
  have q : k = n := Int32.toInt_inj.mp e
  rw [← q]
  exact hI
theorem zU_c {F F' : Nat → Int32} {i i' : Nat} {v v' : Int32} (h : F = F') (hi : i = i') (hv : v = v') : upd F i v = upd F' i' v' := by rw [h, hi, hv]
theorem zX_c (f : Int32 → Int32 → Int32) {a a' b b' : Int32} (h1 : a = a') (h2 : b = b') : f a b = f a' b' := by rw [h1, h2]
theorem z_usc {F G : Nat → Int32} {i v : Int32} (e : G = upd F (Int32.toNatClampNeg i) v) : v = G (Int32.toNatClampNeg i) := by rw [e, pk_us]
abbrev sBus (f g : Nat → Int32) (n r h : Int32) : Prop := ∃ j : Nat, j < Int32.toNatClampNeg n ∧ f (j) = r ∧ g (j) = h
abbrev sAm (f : Nat → Int32) (n : Int32) (m : Nat) (w : Int32) : Prop := ∃ j : Nat, j < Int32.toNatClampNeg n ∧ j < m ∧ f (j) = w
abbrev mBus (F : Nat → Int32) (r h : Int32) : Prop := ∃ j : Nat, j < Int32.toNatClampNeg (F (Int32.toNatClampNeg 9)) ∧ F (3300 + 2 * j) = r ∧ F (3301 + 2 * j) = h
abbrev mMis (F : Nat → Int32) (w : Int32) : Prop := ∃ j : Nat, j < Int32.toNatClampNeg (F (Int32.toNatClampNeg 6)) ∧ F (6986 + 2 * j) = w
abbrev mDrw (F : Nat → Int32) (w : Int32) : Prop := ∃ j : Nat, j < Int32.toNatClampNeg (F (Int32.toNatClampNeg 8)) ∧ F (7025 + 3 * j) = w
/-! the last place, the number of places at which something holds -/
noncomputable def zLast (P : Nat → Prop) : Nat → Int32
  | 0 => -1
  | n + 1 => @ite Int32 (P n) (Classical.propDecidable (P n)) (Int32.ofNat n) (zLast P n)
theorem zLast_y {P : Nat → Prop} {n : Nat} (h : P n) : zLast P (n + 1) = Int32.ofNat n := by
  show @ite Int32 (P n) (Classical.propDecidable (P n)) (Int32.ofNat n) (zLast P n) = Int32.ofNat n
  exact if_pos h
theorem zLast_n {P : Nat → Prop} {n : Nat} (h : ¬ P n) : zLast P (n + 1) = zLast P n := by
  show @ite Int32 (P n) (Classical.propDecidable (P n)) (Int32.ofNat n) (zLast P n) = zLast P n
  exact if_neg h
theorem zLast_c {P Q : Nat → Prop} (n : Nat) (h : ∀ j : Nat, j < n → (P j ↔ Q j)) : zLast P n = zLast Q n := by
  induction n with
  | zero => rfl
  | succ n ih =>
    have h1 := ih (fun j hj => h j (by omega))
    by_cases q : P n
    · rw [zLast_y q, zLast_y ((h n (by omega)).mp q)]
    · rw [zLast_n q, zLast_n (fun z => q ((h n (by omega)).mpr z)), h1]
theorem zLa_of {k : Int32} (h : 0 ≤ Int32.toInt k) : Int32.ofNat (Int32.toNatClampNeg k) = k := by
  obtain ⟨n, hn, e, en⟩ := zo_nn h
  exact (congrArg Int32.ofNat (show Int32.toNatClampNeg k = n by rw [e, nI_clamp hn])).trans e.symm
theorem zLa_0 {P : Nat → Prop} {k n : Int32} (h : Int32.toInt k = Int32.toInt n - 1 ∧ 0 ≤ Int32.toInt n) : zLast P (Int32.toInt k + 1).toNat = zLast P (Int32.toNatClampNeg n) := by
  have e : (Int32.toInt k + 1).toNat = Int32.toNatClampNeg n := by
    have c := z_cl (x := n) h.2
    omega
  rw [e]
theorem zLa_s {P : Nat → Prop} {k k2 L : Int32} (hI : zLast P (Int32.toInt k + 1).toNat = L) (h : Int32.toInt k2 = Int32.toInt k - 1 ∧ 0 ≤ Int32.toInt k) (hn : ¬ P (Int32.toNatClampNeg k)) : zLast P (Int32.toInt k2 + 1).toNat = L := by
  have c := z_cl (x := k) h.2
  have e : (Int32.toInt k + 1).toNat = Int32.toNatClampNeg k + 1 := by omega
  have e2 : (Int32.toInt k2 + 1).toNat = Int32.toNatClampNeg k := by omega
  rw [e, zLast_n hn] at hI
  rw [e2]
  exact hI
theorem zLa_e {P : Nat → Prop} {k L : Int32} (hI : zLast P (Int32.toInt k + 1).toNat = L) (h : Int32.toInt k < 0) : (-1 : Int32) = L := by
  have e : (Int32.toInt k + 1).toNat = 0 := by omega
  rw [e] at hI
  exact hI
theorem zLa_h {P : Nat → Prop} {k L : Int32} (hI : zLast P (Int32.toInt k + 1).toNat = L) (h : 0 ≤ Int32.toInt k) (hp : P (Int32.toNatClampNeg k)) : k = L := by
  have c := z_cl (x := k) h
  have e : (Int32.toInt k + 1).toNat = Int32.toNatClampNeg k + 1 := by omega
  rw [e, zLast_y hp, zLa_of h] at hI
  exact hI
def zLi (P : Nat → Prop) (w : Int32) (m : Nat) : Prop := (Int32.toInt w = -1 ∧ Int32.toInt (zLast P m) = -1) ∨ (0 ≤ Int32.toInt (zLast P m) ∧ Int32.toInt (zLast P m) < (m : Int) ∧ Int32.toInt w = 2700 + 5 * Int32.toInt (zLast P m))
theorem zLi_0 {P : Nat → Prop} {k : Int32} (h : Int32.toNatClampNeg k = 0) : zLi P (-1) (Int32.toNatClampNeg k) := by
  rw [h]
  exact Or.inl ⟨by decide, (by decide : Int32.toInt (-1 : Int32) = -1)⟩
theorem zLi_n {P : Nat → Prop} {w k k2 : Int32} (h : zLi P w (Int32.toNatClampNeg k)) (e : Int32.toNatClampNeg k2 = Int32.toNatClampNeg k + 1) (hn : ¬ P (Int32.toNatClampNeg k)) : zLi P w (Int32.toNatClampNeg k2) := by
  unfold zLi at h ⊢
  rw [e, zLast_n hn]
  omega
theorem zLi_y {P : Nat → Prop} {w k k2 : Int32} (e : Int32.toNatClampNeg k2 = Int32.toNatClampNeg k + 1) (hk : 0 ≤ Int32.toInt k ∧ Int32.toInt k ≤ 1000) (hw : Int32.toInt w = 2700 + 5 * Int32.toInt k) (hp : P (Int32.toNatClampNeg k)) : zLi P w (Int32.toNatClampNeg k2) := by
  unfold zLi
  have c := z_cl (x := k) hk.1
  rw [e, zLast_y hp, zLa_of hk.1]
  omega
theorem zLi_e {P : Nat → Prop} {w k n : Int32} (h : zLi P w (Int32.toNatClampNeg k)) (e : Int32.toInt k = Int32.toInt n) : (Int32.toInt w = -1 ∧ Int32.toInt (zLast P (Int32.toNatClampNeg n)) = -1) ∨ (0 ≤ Int32.toInt (zLast P (Int32.toNatClampNeg n)) ∧ Int32.toInt (zLast P (Int32.toNatClampNeg n)) < Int32.toInt n ∧ Int32.toInt w = 2700 + 5 * Int32.toInt (zLast P (Int32.toNatClampNeg n))) := by
  have q : k = n := Int32.toInt_inj.mp e
  rw [q] at h
  unfold zLi at h
  have c : ((Int32.toNatClampNeg n : Nat) : Int) ≤ Int32.toInt n ∨ Int32.toInt n < 0 := by
    by_cases z : 0 ≤ Int32.toInt n
    · exact Or.inl (Int.le_of_eq (z_cl z))
    · omega
  have c2 : Int32.toInt n < 0 → Int32.toNatClampNeg n = 0 := fun z => by
    have e2 : Int32.toNatClampNeg n = (Int32.toInt n).toNat := rfl
    omega
  omega
noncomputable def zCnt (P : Nat → Prop) : Nat → Nat
  | 0 => 0
  | n + 1 => zCnt P n + @ite Nat (P n) (Classical.propDecidable (P n)) 1 0
theorem zCnt_y {P : Nat → Prop} {n : Nat} (h : P n) : zCnt P (n + 1) = zCnt P n + 1 := by
  show zCnt P n + @ite Nat (P n) (Classical.propDecidable (P n)) 1 0 = zCnt P n + 1
  rw [if_pos h]
theorem zCnt_n {P : Nat → Prop} {n : Nat} (h : ¬ P n) : zCnt P (n + 1) = zCnt P n := by
  show zCnt P n + @ite Nat (P n) (Classical.propDecidable (P n)) 1 0 = zCnt P n
  rw [if_neg h]
  rfl
theorem zCnt_le {P : Nat → Prop} (n : Nat) : zCnt P n ≤ n := by
  induction n with
  | zero => exact Nat.le_refl 0
  | succ n ih =>
    by_cases q : P n
    · rw [zCnt_y q]; omega
    · rw [zCnt_n q]; omega
theorem zCnt_c {P Q : Nat → Prop} (n : Nat) (h : ∀ j : Nat, j < n → (P j ↔ Q j)) : zCnt P n = zCnt Q n := by
  induction n with
  | zero => rfl
  | succ n ih =>
    have h1 := ih (fun j hj => h j (by omega))
    by_cases q : P n
    · rw [zCnt_y q, zCnt_y ((h n (by omega)).mp q), h1]
    · rw [zCnt_n q, zCnt_n (fun z => q ((h n (by omega)).mpr z)), h1]
theorem zCn_0 {P : Nat → Prop} {k : Int32} (h : Int32.toNatClampNeg k = 0) : Int32.toInt (0 : Int32) = ((zCnt P (Int32.toNatClampNeg k) : Nat) : Int) := by
  rw [h]
  exact (by decide : Int32.toInt (0 : Int32) = 0)
theorem zCn_y {P : Nat → Prop} {m m2 k k2 : Int32} (hI : Int32.toInt m = ((zCnt P (Int32.toNatClampNeg k) : Nat) : Int)) (e : Int32.toNatClampNeg k2 = Int32.toNatClampNeg k + 1) (hp : P (Int32.toNatClampNeg k)) (h : Int32.toInt m2 = Int32.toInt m + 1) : Int32.toInt m2 = ((zCnt P (Int32.toNatClampNeg k2) : Nat) : Int) := by
  rw [e, zCnt_y hp]
  omega
theorem zCn_n {P : Nat → Prop} {m k k2 : Int32} (hI : Int32.toInt m = ((zCnt P (Int32.toNatClampNeg k) : Nat) : Int)) (e : Int32.toNatClampNeg k2 = Int32.toNatClampNeg k + 1) (hp : ¬ P (Int32.toNatClampNeg k)) : Int32.toInt m = ((zCnt P (Int32.toNatClampNeg k2) : Nat) : Int) := by
  rw [e, zCnt_n hp]
  exact hI
theorem zCn_b {P : Nat → Prop} {m k : Int32} (hI : Int32.toInt m = ((zCnt P (Int32.toNatClampNeg k) : Nat) : Int)) (hk : 0 ≤ Int32.toInt k ∧ Int32.toInt k ≤ 400) : 0 ≤ Int32.toInt m ∧ Int32.toInt m ≤ 400 := by
  have h1 := zCnt_le (P := P) (Int32.toNatClampNeg k)
  have h2 := z_cl hk.1
  omega
theorem zCn_e {P : Nat → Prop} {m k n : Int32} (hI : Int32.toInt m = ((zCnt P (Int32.toNatClampNeg k) : Nat) : Int)) (e : Int32.toInt k = Int32.toInt n) (hb : Int32.toInt n ≤ 400) : m = Int32.ofNat (zCnt P (Int32.toNatClampNeg n)) := by
  have q : k = n := Int32.toInt_inj.mp e
  rw [q] at hI
  have h1 := zCnt_le (P := P) (Int32.toNatClampNeg n)
  have h2 : Int32.toNatClampNeg n ≤ 400 := by
    have e2 : Int32.toNatClampNeg n = (Int32.toInt n).toNat := rfl
    omega
  have h3 : Int32.toInt (Int32.ofNat (zCnt P (Int32.toNatClampNeg n))) = ((zCnt P (Int32.toNatClampNeg n) : Nat) : Int) := nI_toInt (n := zCnt P (Int32.toNatClampNeg n)) (by omega)
  exact Int32.toInt_inj.mp (hI.trans h3.symm)
noncomputable def cLat (f g : Nat → Int32) (n c s : Int32) : Int32 := zLast (fun j : Nat => Int32.toInt (f j) = Int32.toInt c ∧ Int32.toInt (g j) = Int32.toInt s) (Int32.toNatClampNeg n)
noncomputable def mLat (F : Nat → Int32) (c s : Int32) : Int32 := zLast (fun j : Nat => Int32.toInt (F (2700 + 5 * j)) = Int32.toInt c ∧ Int32.toInt (F (2701 + 5 * j)) = Int32.toInt s) (Int32.toNatClampNeg (F (Int32.toNatClampNeg 2)))
noncomputable def cCnt (f : Nat → Int32) (n d : Int32) : Int32 := Int32.ofNat (zCnt (fun j : Nat => Int32.toInt ((f j) / (2 : Int32)) = Int32.toInt d) (Int32.toNatClampNeg n))
noncomputable def mCnt (F : Nat → Int32) (d : Int32) : Int32 := Int32.ofNat (zCnt (fun j : Nat => Int32.toInt ((F (3782 + 8 * j)) / (2 : Int32)) = Int32.toInt d) (Int32.toNatClampNeg (F (Int32.toNatClampNeg 3))))
abbrev sLis (f g p q : Nat → Int32) (n c s a b : Int32) : Prop := ∃ j : Nat, j < Int32.toNatClampNeg n ∧ (Int32.toInt (f (j)) = Int32.toInt c ∧ Int32.toInt (g (j)) = Int32.toInt s ∧ Int32.toInt (p (j)) ≤ Int32.toInt (q (j)) - 1 ∧ Int32.toInt (p (j)) ≤ Int32.toInt b ∧ Int32.toInt a ≤ Int32.toInt (q (j)) - 1 ∧ Int32.toInt a ≤ Int32.toInt b)
abbrev mOn (F : Nat → Int32) (c s d : Int32) : Prop := ∃ j : Nat, j < Int32.toNatClampNeg (F (Int32.toNatClampNeg 2)) ∧ (Int32.toInt (F (2700 + 5 * j)) = Int32.toInt c ∧ Int32.toInt (F (2701 + 5 * j)) = Int32.toInt s ∧ Int32.toInt (F (2702 + 5 * j)) ≤ Int32.toInt d ∧ (Int32.toInt (F (2703 + 5 * j)) = -1 ∨ Int32.toInt d < Int32.toInt (F (2703 + 5 * j))))
abbrev mCom (F : Nat → Int32) (c s d : Int32) : Prop := ∃ j : Nat, j < Int32.toNatClampNeg (F (Int32.toNatClampNeg 2)) ∧ (Int32.toInt (F (2700 + 5 * j)) = Int32.toInt c ∧ Int32.toInt (F (2701 + 5 * j)) = Int32.toInt s ∧ ((Int32.toInt (F (2702 + 5 * j)) ≤ Int32.toInt d ∧ (Int32.toInt (F (2703 + 5 * j)) = -1 ∨ Int32.toInt d < Int32.toInt (F (2703 + 5 * j)))) ∨ Int32.toInt d ≤ Int32.toInt (F (2702 + 5 * j))))
/-! images: what is copied -/
theorem zIn_c {G0 R G : Nat → Int32} {k i : Int32} (h : zIn G0 R k i G) (e : Int32.toInt i = 27101) : zIn G0 R k 27101 G := by
  intro j
  have h2 := h j
  rw [e] at h2
  exact h2
theorem zBn_c {F0 G F : Nat → Int32} {k i : Int32} (h : zBn F0 G k i F) (e : Int32.toInt i = 27101) : zBn F0 G k 27101 F := by
  intro j
  have h2 := h j
  rw [e] at h2
  exact h2
/-! a text that is stored touches nothing below the texts -/
theorem zC_r {F0 Fa Fb G1 G2 C O R : Nat → Int32} {t t1 f N k1 k2 : Int32} (ht : 8661 ≤ t.toInt) (ht1 : t1.toInt = t.toInt + 1) (ea : Fa = upd F0 (Int32.toNatClampNeg t) f) (eb : Fb = upd Fa (Int32.toNatClampNeg t1) N) (h1 : zCp Fb C t k1 G1) (h2 : zCq G1 O R t k2 G2) : ∀ j : Nat, j < 8661 → G2 j = F0 j := by
  intro j hj
  have c1 := z_cl (x := t) (by omega)
  have c2 := z_cl (x := t1) (by omega)
  rw [h2 j, if_neg (by omega), h1 j, if_neg (by omega), eb, pk_un (by omega), ea, pk_un (by omega)]
/-! places in the script -/
theorem zIx_h {i y c : Int32} {k : Int} (e : y = i + c) (hi : 0 ≤ Int32.toInt i ∧ Int32.toInt i ≤ 3577) (hc : Int32.toInt c = k) (hk : 0 ≤ k ∧ k ≤ 6) : Int32.toInt y = Int32.toInt i + k := by
  rw [e]
  exact zi_addc rfl hc (by omega)
theorem zIx_b {i y : Int32} {k : Int} {L : Nat} (h : Int32.toInt y = Int32.toInt i + k) (hi : 0 ≤ Int32.toInt i ∧ Int32.toInt i ≤ 3577) (hL : Int32.toInt i + 7 ≤ (L : Int)) (hk : 0 ≤ k ∧ k ≤ 6) : 0 ≤ Int32.toInt y ∧ Int32.toInt y < (L : Int) := by omega
/-! judge: how many figures are alike, rows of records -/
def zFA : Nat → Int → Int32 → Int32 → Int
  | 0, n, _, _ => n
  | k + 1, n, a, b => zFA k (n + (if (a - a / (10 : Int32) * (10 : Int32)) = (b - b / (10 : Int32) * (10 : Int32)) then 1 else 0)) (a / (10 : Int32)) (b / (10 : Int32))
def cFA (a b : Int32) : Int32 := Int32.ofInt (zFA 8 0 a b)
theorem zFA_y {k k' : Nat} {n n' X : Int} {a b a' b' : Int32} (h : zFA k n a b = X) (hk : k = k' + 1) (hc : (a - a / (10 : Int32) * (10 : Int32)) = (b - b / (10 : Int32) * (10 : Int32))) (hn : n' = n + 1) (ha : a' = a / (10 : Int32)) (hb : b' = b / (10 : Int32)) : zFA k' n' a' b' = X := by
  have h2 : zFA (k' + 1) n a b = zFA k' (n + (if (a - a / (10 : Int32) * (10 : Int32)) = (b - b / (10 : Int32) * (10 : Int32)) then 1 else 0)) (a / (10 : Int32)) (b / (10 : Int32)) := rfl
  rw [if_pos hc] at h2
  rw [hn, ha, hb, ← h2, ← hk]
  exact h
theorem zFA_n {k k' : Nat} {n n' X : Int} {a b a' b' : Int32} (h : zFA k n a b = X) (hk : k = k' + 1) (hc : ¬ (a - a / (10 : Int32) * (10 : Int32)) = (b - b / (10 : Int32) * (10 : Int32))) (hn : n' = n) (ha : a' = a / (10 : Int32)) (hb : b' = b / (10 : Int32)) : zFA k' n' a' b' = X := by
  have h2 : zFA (k' + 1) n a b = zFA k' (n + (if (a - a / (10 : Int32) * (10 : Int32)) = (b - b / (10 : Int32) * (10 : Int32)) then 1 else 0)) (a / (10 : Int32)) (b / (10 : Int32)) := rfl
  rw [if_neg hc, Int.add_zero] at h2
  rw [hn, ha, hb, ← h2, ← hk]
  exact h
theorem zFA_e {k : Nat} {n X : Int} {a b : Int32} (h : zFA k n a b = X) (hk : k = 0) : n = X := by
  rw [hk] at h
  exact h
theorem cFA_i {r a b : Int32} (h : Int32.toInt r = zFA 8 0 a b) : r = cFA a b := by
  unfold cFA
  rw [← h]
  exact (Int32.ofInt_toInt r).symm
def zDg (q : Int) (m : Nat) : Int := q / 7 ^ m % 7 - 1
def zLk (a b : Nat → Int32) (i j : Nat) : Int := Int32.toInt (cFA (a i) (b j))
def jK (L : Nat → Nat → Int) (rc le : Int) (f : Nat → Int) : Nat → Nat → Int32 → Int → Int
  | 0, _, _, s => s
  | k + 1, m, u, s =>
    if f m = -1 then jK L rc le f k (m + 1) u s
    else if rc ≤ f m ∨ ((u >>> (Int32.ofInt (f m) &&& 31)) &&& (1 : Int32)) = 1 ∨ L m (f m).toNat < le then -1
    else jK L rc le f k (m + 1) (u ||| ((1 : Int32) <<< (Int32.ofInt (f m) &&& 31))) (s + L m (f m).toNat)
theorem jK_1 (L : Nat → Nat → Int) (rc le : Int) (f : Nat → Int) (k m : Nat) (u : Int32) (s : Int) : jK L rc le f (k + 1) m u s = (if f m = -1 then jK L rc le f k (m + 1) u s
    else if rc ≤ f m ∨ ((u >>> (Int32.ofInt (f m) &&& 31)) &&& (1 : Int32)) = 1 ∨ L m (f m).toNat < le then -1
    else jK L rc le f k (m + 1) (u ||| ((1 : Int32) <<< (Int32.ofInt (f m) &&& 31))) (s + L m (f m).toNat)) := rfl
theorem jK_k {L : Nat → Nat → Int} {rc le : Int} {f : Nat → Int} {k k' m m' : Nat} {u : Int32} {s X : Int} (h : jK L rc le f k m u s = X) (hk : k = k' + 1) (hr : f m = -1) (hm : m' = m + 1) : jK L rc le f k' m' u s = X := by
  rw [hk, jK_1, if_pos hr] at h
  rw [hm]
  exact h
theorem jK_r {f : Nat → Int} {m : Nat} {r : Int32} (hr : f m = Int32.toInt r) : Int32.ofInt (f m) = r ∧ (f m).toNat = Int32.toNatClampNeg r := by
  rw [hr]
  exact ⟨Int32.ofInt_toInt r, rfl⟩
theorem jK_f {L : Nat → Nat → Int} {rc le : Int} {f : Nat → Int} {k k' m : Nat} {u r : Int32} {s X : Int} (h : jK L rc le f k m u s = X) (hk : k = k' + 1) (hr : f m = Int32.toInt r) (hn : Int32.toInt r ≠ -1) (hc : rc ≤ Int32.toInt r ∨ ((u >>> (r &&& 31)) &&& (1 : Int32)) = 1 ∨ L m (Int32.toNatClampNeg r) < le) : X = -1 := by
  obtain ⟨e1, e2⟩ := jK_r hr
  rw [hk, jK_1, e1, e2, hr, if_neg hn, if_pos hc] at h
  exact h.symm
theorem jK_s {L : Nat → Nat → Int} {rc le : Int} {f : Nat → Int} {k k' m m' : Nat} {u u' r : Int32} {s s' X : Int} (h : jK L rc le f k m u s = X) (hk : k = k' + 1) (hr : f m = Int32.toInt r) (hn : Int32.toInt r ≠ -1) (hc : ¬ rc ≤ Int32.toInt r) (hb : ¬ ((u >>> (r &&& 31)) &&& (1 : Int32)) = 1) (hl : ¬ L m (Int32.toNatClampNeg r) < le) (hm : m' = m + 1) (hu : u' = (u ||| ((1 : Int32) <<< (r &&& 31)))) (hs : s' = s + L m (Int32.toNatClampNeg r)) : jK L rc le f k' m' u' s' = X := by
  obtain ⟨e1, e2⟩ := jK_r hr
  rw [hk, jK_1, e1, e2, hr, if_neg hn, if_neg (fun z => z.elim hc (fun z => z.elim hb hl))] at h
  rw [hm, hu, hs]
  exact h
theorem jK_e {L : Nat → Nat → Int} {rc le : Int} {f : Nat → Int} {k m : Nat} {u : Int32} {s X : Int} (h : jK L rc le f k m u s = X) (hk : k = 0) : s = X := by
  rw [hk] at h
  exact h
theorem jK_c {L L' : Nat → Nat → Int} {rc le : Int} {f g : Nat → Int} (n : Nat) (hf : ∀ j : Nat, j < n → f j = g j) (hg : ∀ j : Nat, j < n → -1 ≤ g j) (hL : ∀ i j : Nat, i < n → (j : Int) < rc → L i j = L' i j) : ∀ (k m : Nat) (u : Int32) (s : Int), m + k ≤ n → jK L rc le f k m u s = jK L' rc le g k m u s := by
  intro k
  induction k with
  | zero => intro m u s _; rfl
  | succ k ih =>
    intro m u s hm
    have h1 := hf m (by omega)
    have h2 := hg m (by omega)
    rw [jK_1, jK_1, h1]
    by_cases q : g m = -1
    · rw [if_pos q, if_pos q]
      exact ih _ _ _ (by omega)
    · rw [if_neg q, if_neg q]
      by_cases q2 : rc ≤ g m
      · rw [if_pos (Or.inl q2), if_pos (Or.inl q2)]
      · rw [hL m (g m).toNat (by omega) (by omega)]
        by_cases q3 : rc ≤ g m ∨ ((u >>> (Int32.ofInt (g m) &&& 31)) &&& (1 : Int32)) = 1 ∨ L' m (g m).toNat < le
        · rw [if_pos q3, if_pos q3]
        · rw [if_neg q3, if_neg q3]
          exact ih _ _ _ (by omega)
noncomputable def jKa (L : Nat → Nat → Int) (n rc le q : Int32) : Int := jK L (Int32.toInt rc) (Int32.toInt le) (zDg (Int32.toInt q)) (Int32.toNatClampNeg n) 0 0 0
noncomputable def cJg (L : Nat → Nat → Int) (n rc q le : Int32) : Int := @ite Int (Int32.toInt q / 7 ^ Int32.toNatClampNeg n = 0) (Classical.propDecidable _) (jKa L n rc le q) (-1)
noncomputable def cJu (L : Nat → Nat → Int) (n rc q le : Int32) : Int := @ite Int (0 ≤ Int32.toInt q ∧ 0 ≤ Int32.toInt le ∧ Int32.toInt le ≤ 8) (Classical.propDecidable _) (cJg L n rc q le) (-1)
theorem cJg_f {L : Nat → Nat → Int} {n rc q le : Int32} {x : Int} (h : jKa L n rc le q = -1) (hx : x = -1) : x = cJg L n rc q le := by
  unfold cJg
  by_cases z : Int32.toInt q / 7 ^ Int32.toNatClampNeg n = 0
  · rw [if_pos z, h, hx]
  · rw [if_neg z, hx]
theorem cJg_0 {L : Nat → Nat → Int} {n rc q le : Int32} {x : Int} (z : ¬ Int32.toInt q / 7 ^ Int32.toNatClampNeg n = 0) (hx : x = -1) : x = cJg L n rc q le := by
  unfold cJg
  rw [if_neg z, hx]
theorem cJg_1 {L : Nat → Nat → Int} {n rc q le : Int32} {x : Int} (z : Int32.toInt q / 7 ^ Int32.toNatClampNeg n = 0) (h : x = jKa L n rc le q) : x = cJg L n rc q le := by
  unfold cJg
  rw [if_pos z, h]
theorem cJu_1 {L : Nat → Nat → Int} {n rc q le : Int32} {x : Int} (z : 0 ≤ Int32.toInt q ∧ 0 ≤ Int32.toInt le ∧ Int32.toInt le ≤ 8) (h : x = cJg L n rc q le) : x = cJu L n rc q le := by
  unfold cJu
  rw [if_pos z, h]
theorem cJu_0 {L : Nat → Nat → Int} {n rc q le : Int32} {x : Int} (z : ¬ (0 ≤ Int32.toInt q ∧ 0 ≤ Int32.toInt le ∧ Int32.toInt le ≤ 8)) (hx : x = -1) : x = cJu L n rc q le := by
  unfold cJu
  rw [if_neg z, hx]
theorem zDg_d (q : Int) (m : Nat) : q / 7 ^ (m + 1) = q / 7 ^ m / 7 := by
  rw [Int.pow_succ, ← Int.ediv_ediv_of_nonneg (Int.le_of_lt (Int.pow_pos (by decide)))]
theorem zDg_b (q : Int) (m : Nat) : -1 ≤ zDg q m := by
  unfold zDg
  omega
def mMM (F : Nat → Int32) (i : Nat) : Int32 := F (6987 + 2 * i)
def mRM (F : Nat → Int32) (j : Nat) : Int32 := F (6980 + j)
theorem zP7_s {a a' i i' : Int32} (h : Int32.toInt a = 7 ^ Int32.toNatClampNeg i) (hi : 0 ≤ Int32.toInt i ∧ Int32.toInt i ≤ 5) (ha : a' = a * (7 : Int32)) (hi' : Int32.toInt i' = Int32.toInt i + 1) : Int32.toInt a' = 7 ^ Int32.toNatClampNeg i' := by
  have c := z_cl hi.1
  have c' := z_cl (x := i') (by omega)
  have e : Int32.toNatClampNeg i' = Int32.toNatClampNeg i + 1 := by omega
  have h5 : Int32.toNatClampNeg i ≤ 5 := by omega
  have hb : ∀ n : Nat, n ≤ 5 → (1 : Int) ≤ 7 ^ n ∧ (7 : Int) ^ n ≤ 16807 := by decide
  have hb2 := hb _ h5
  rw [e, Int.pow_succ, ← h, ha]
  rw [← h] at hb2
  exact zi_mulc rfl (by decide) (by omega)
theorem zP7_b {a i : Int32} (h : Int32.toInt a = 7 ^ Int32.toNatClampNeg i) (hi : 0 ≤ Int32.toInt i ∧ Int32.toInt i ≤ 6) : 1 ≤ Int32.toInt a ∧ Int32.toInt a ≤ 117649 := by
  have c := z_cl hi.1
  have h5 : Int32.toNatClampNeg i ≤ 6 := by omega
  have hb : ∀ n : Nat, n ≤ 6 → (1 : Int) ≤ 7 ^ n ∧ (7 : Int) ^ n ≤ 117649 := by decide
  rw [h]
  exact hb _ h5
theorem zP7_l {q a : Int} (ha : 1 ≤ a) (hq : 0 ≤ q) (h : q ≤ a - 1) : q / a = 0 := Int.ediv_eq_zero_of_lt hq (by omega)
theorem zP7_g {q a : Int} (ha : 1 ≤ a) (h : a ≤ q) : ¬ q / a = 0 := by
  have h1 : 1 ≤ q / a := Int.le_ediv_of_mul_le (by omega) (by omega)
  omega
theorem cJu_n {L : Nat → Nat → Int} {n rc q le : Int32} {a x : Int} (hx : x = -1) (ha : a = 7 ^ Int32.toNatClampNeg n) (h1 : 1 ≤ a) (z : ¬ (0 ≤ Int32.toInt q ∧ 0 ≤ Int32.toInt le ∧ Int32.toInt le ≤ 8) ∨ a ≤ Int32.toInt q) : x = cJu L n rc q le := by
  by_cases w : 0 ≤ Int32.toInt q ∧ 0 ≤ Int32.toInt le ∧ Int32.toInt le ≤ 8
  · refine cJu_1 w (cJg_0 ?_ hx)
    rw [← ha]
    exact zP7_g h1 (z.resolve_left (fun z => z w))
  · exact cJu_0 w hx
theorem jKa_0 {L : Nat → Nat → Int} {n rc le q : Int32} : jK L (Int32.toInt rc) (Int32.toInt le) (zDg (Int32.toInt q)) (Int32.toInt n - Int32.toInt (0 : Int32)).toNat (Int32.toNatClampNeg (0 : Int32)) 0 (Int32.toInt (0 : Int32)) = jKa L n rc le q := by
  have e : Int32.toInt (0 : Int32) = 0 := by decide
  have e2 : Int32.toNatClampNeg (0 : Int32) = 0 := by decide
  rw [e, e2, Int.sub_zero]
  rfl
theorem zP7_0 {x : Int} : x = x / 7 ^ Int32.toNatClampNeg (0 : Int32) := by
  have e2 : Int32.toNatClampNeg (0 : Int32) = 0 := by decide
  rw [e2, Int.pow_zero, Int.ediv_one]
def jKj (L : Nat → Nat → Int) (n rc le : Int32) (J : Nat → Int32) : Int := jK L (Int32.toInt rc) (Int32.toInt le) (fun j => Int32.toInt (J j)) (Int32.toNatClampNeg n) 0 0 0
theorem jKj_0 {L : Nat → Nat → Int} {n rc le : Int32} {J : Nat → Int32} : jK L (Int32.toInt rc) (Int32.toInt le) (fun j => Int32.toInt (J j)) (Int32.toInt n - Int32.toInt (0 : Int32)).toNat (Int32.toNatClampNeg (0 : Int32)) 0 (Int32.toInt (0 : Int32)) = jKj L n rc le J := by
  have e : Int32.toInt (0 : Int32) = 0 := by decide
  have e2 : Int32.toNatClampNeg (0 : Int32) = 0 := by decide
  rw [e, e2, Int.sub_zero]
  rfl
theorem jKj_a {L : Nat → Nat → Int} {n rc le q : Int32} {J : Nat → Int32} (h : ∀ j : Nat, j < Int32.toNatClampNeg n → Int32.toInt (J j) = zDg (Int32.toInt q) j) : jKj L n rc le J = jKa L n rc le q :=
  jK_c (Int32.toNatClampNeg n) h (fun j _ => zDg_b _ j) (fun _ _ _ _ => rfl) _ _ _ _ (by omega)
theorem zFl_0 {J : Nat → Int32} {q : Int} : ∀ j : Nat, j < Int32.toNatClampNeg (0 : Int32) → Int32.toInt (J j) = zDg q j := fun j hj => by
  have e2 : Int32.toNatClampNeg (0 : Int32) = 0 := by decide
  rw [e2] at hj
  exact absurd hj (Nat.not_lt_zero j)
theorem zFl_s {J J' : Nat → Int32} {q : Int} {i i' v : Int32} (h : ∀ j : Nat, j < Int32.toNatClampNeg i → Int32.toInt (J j) = zDg q j) (hi : Int32.toNatClampNeg i' = Int32.toNatClampNeg i + 1) (e : J' = upd J (Int32.toNatClampNeg i) v) (hv : Int32.toInt v = zDg q (Int32.toNatClampNeg i)) : ∀ j : Nat, j < Int32.toNatClampNeg i' → Int32.toInt (J' j) = zDg q j := by
  intro j hj
  rw [e]
  by_cases z : j = Int32.toNatClampNeg i
  · rw [z, pk_us]; exact hv
  · rw [pk_un z]; exact h j (by omega)
theorem cJu_c {L L' : Nat → Nat → Int} {n rc q le : Int32} (hL : ∀ i j : Nat, i < Int32.toNatClampNeg n → (j : Int) < Int32.toInt rc → L i j = L' i j) : cJu L n rc q le = cJu L' n rc q le := by
  unfold cJu cJg jKa
  rw [jK_c (L := L) (L' := L') (rc := Int32.toInt rc) (le := Int32.toInt le) (f := zDg (Int32.toInt q)) (g := zDg (Int32.toInt q)) (Int32.toNatClampNeg n) (fun _ _ => rfl) (fun j _ => zDg_b _ j) hL (Int32.toNatClampNeg n) 0 0 0 (by omega)]
theorem zFA_0 {a b : Int32} : zFA (8 - Int32.toInt (0 : Int32)).toNat (Int32.toInt (0 : Int32)) a b = zFA 8 0 a b := by
  have e : Int32.toInt (0 : Int32) = 0 := by decide
  rw [e]
  rfl
/-! helped: sets as numbers, sums over their bits -/
def wS (d : Nat → Int32) (s : Int32) : Nat → Int32
  | 0 => 0
  | n + 1 => wS d s n + (((s >>> (Int32.ofNat n &&& 31)) &&& (1 : Int32)) * d n)
def wBs (s : Int32) : Nat → Int32
  | 0 => 0
  | n + 1 => wBs s n + ((s >>> (Int32.ofNat n &&& 31)) &&& (1 : Int32))
def wG (g : Nat → Int32) : Nat → Int32
  | 0 => 0
  | n + 1 => wG g n ||| (g n <<< (Int32.ofNat n &&& 31))
def wSm (g : Nat → Int32) : Nat → Int32
  | 0 => 0
  | n + 1 => wSm g n + g n
def wDt (g d : Nat → Int32) : Nat → Int32
  | 0 => 0
  | n + 1 => wDt g d n + (g n * d n)
def wGn (g : Nat → Int32) : Nat → Nat
  | 0 => 0
  | n + 1 => (if g n = 1 then 2 ^ n else 0) + wGn g n
def cB1 (x : Int32) : Int32 := (x - (((Int32.toUInt32 x >>> (Int32.toUInt32 (1 : Int32) &&& Int32.toUInt32 31)).toInt32) &&& (1431655765 : Int32)))
def cB2 (x : Int32) : Int32 := ((x &&& (858993459 : Int32)) + (((Int32.toUInt32 x >>> (Int32.toUInt32 (2 : Int32) &&& Int32.toUInt32 31)).toInt32) &&& (858993459 : Int32)))
def cB3 (x : Int32) : Int32 := ((x + ((Int32.toUInt32 x >>> (Int32.toUInt32 (4 : Int32) &&& Int32.toUInt32 31)).toInt32)) &&& (252645135 : Int32))
def cB4 (x : Int32) : Int32 := (x + ((Int32.toUInt32 x >>> (Int32.toUInt32 (8 : Int32) &&& Int32.toUInt32 31)).toInt32))
def cB5 (x : Int32) : Int32 := (x + ((Int32.toUInt32 x >>> (Int32.toUInt32 (16 : Int32) &&& Int32.toUInt32 31)).toInt32))
def cBC (x : Int32) : Int32 := (cB5 (cB4 (cB3 (cB2 (cB1 x)))) &&& (63 : Int32))
theorem zi_ofN {k : Int32} (h : 0 ≤ Int32.toInt k) : Int32.ofNat (Int32.toNatClampNeg k) = k := zLa_of h
theorem zb_2 (x y : Int32) (k : Nat) (hk : k < 32) (e : y.toBitVec = x.toBitVec.sshiftRight k) : (y &&& (1 : Int32)) = (if x.toBitVec.getLsbD k = true then 1 else 0) := by
  rw [← Int32.toBitVec_inj]
  have h2 : (y &&& (1 : Int32)).toBitVec = y.toBitVec &&& 1#32 := rfl
  have h4 : (x.toBitVec.sshiftRight k).getLsbD 0 = x.toBitVec.getLsbD k := by
    rw [BitVec.getLsbD_sshiftRight]
    simp [hk]
  rw [h2, e, BitVec.and_one_eq_setWidth_ofBool_getLsbD, h4]
  cases x.toBitVec.getLsbD k <;> rfl
theorem zbit {s k : Nat} (hk : k < 12) : ((Int32.ofNat s >>> (Int32.ofNat k &&& 31)) &&& (1 : Int32)) = (if s.testBit k = true then 1 else 0) := by
  have h : (Int32.ofNat s).toBitVec = BitVec.ofNat 32 s := rfl
  have h2 : (Int32.ofNat s).toBitVec.getLsbD k = s.testBit k := by
    rw [h, BitVec.getLsbD_ofNat]
    simp [show k < 32 by omega]
  rw [← h2]
  match k, hk with
  | 0, _ => exact zb_2 _ _ 0 (by decide) rfl
  | 1, _ => exact zb_2 _ _ 1 (by decide) rfl
  | 2, _ => exact zb_2 _ _ 2 (by decide) rfl
  | 3, _ => exact zb_2 _ _ 3 (by decide) rfl
  | 4, _ => exact zb_2 _ _ 4 (by decide) rfl
  | 5, _ => exact zb_2 _ _ 5 (by decide) rfl
  | 6, _ => exact zb_2 _ _ 6 (by decide) rfl
  | 7, _ => exact zb_2 _ _ 7 (by decide) rfl
  | 8, _ => exact zb_2 _ _ 8 (by decide) rfl
  | 9, _ => exact zb_2 _ _ 9 (by decide) rfl
  | 10, _ => exact zb_2 _ _ 10 (by decide) rfl
  | 11, _ => exact zb_2 _ _ 11 (by decide) rfl
theorem zsh1 {k : Nat} (hk : k ≤ 12) : ((1 : Int32) <<< (Int32.ofNat k &&& 31)) = Int32.ofNat (2 ^ k) := by
  have h : ∀ j : Nat, j < 13 → ((1 : Int32) <<< (Int32.ofNat j &&& 31)) = Int32.ofNat (2 ^ j) := by decide +kernel
  exact h k (by omega)
theorem zP2 {k : Nat} (hk : k ≤ 12) : 1 ≤ 2 ^ k ∧ 2 ^ k ≤ 4096 := by
  have h : ∀ j : Nat, j < 13 → 1 ≤ 2 ^ j ∧ 2 ^ j ≤ 4096 := by decide
  exact h k (by omega)
theorem zor {i a : Nat} (hi : i < 12) (ha : a < 2 ^ i) : (Int32.ofNat a ||| Int32.ofNat (2 ^ i)) = Int32.ofNat (2 ^ i + a) := by
  have h1 := (zP2 (k := i) (by omega)).2
  rw [← Int32.toBitVec_inj]
  have e : (Int32.ofNat a ||| Int32.ofNat (2 ^ i)).toBitVec = BitVec.ofNat 32 a ||| BitVec.ofNat 32 (2 ^ i) := rfl
  have e2 : (Int32.ofNat (2 ^ i + a)).toBitVec = BitVec.ofNat 32 (2 ^ i + a) := rfl
  rw [e, e2]
  apply BitVec.eq_of_toNat_eq
  rw [BitVec.toNat_or, BitVec.toNat_ofNat, BitVec.toNat_ofNat, BitVec.toNat_ofNat, Nat.mod_eq_of_lt (show a < 2 ^ 32 by omega), Nat.mod_eq_of_lt (show 2 ^ i < 2 ^ 32 by omega), Nat.mod_eq_of_lt (show 2 ^ i + a < 2 ^ 32 by omega)]
  have h2 := Nat.two_pow_add_eq_or_of_lt ha 1
  rw [Nat.mul_one] at h2
  rw [h2, Nat.or_comm]
theorem wS_t {d : Nat → Int32} {s t : Nat} (n : Nat) (hn : n ≤ 12) (h : ∀ k : Nat, k < n → s.testBit k = t.testBit k) : wS d (Int32.ofNat s) n = wS d (Int32.ofNat t) n := by
  induction n with
  | zero => rfl
  | succ n ih =>
    show wS d (Int32.ofNat s) n + (((Int32.ofNat s >>> (Int32.ofNat n &&& 31)) &&& (1 : Int32)) * d n) = wS d (Int32.ofNat t) n + (((Int32.ofNat t >>> (Int32.ofNat n &&& 31)) &&& (1 : Int32)) * d n)
    rw [ih (by omega) (fun k hk => h k (by omega)), zbit (by omega), zbit (by omega), h n (by omega)]
theorem wS_hi {d : Nat → Int32} {s n : Nat} (hn : n < 12) (hs : s < 2 ^ n) : wS d (Int32.ofNat s) (n + 1) = wS d (Int32.ofNat s) n := by
  show wS d (Int32.ofNat s) n + (((Int32.ofNat s >>> (Int32.ofNat n &&& 31)) &&& (1 : Int32)) * d n) = wS d (Int32.ofNat s) n
  rw [zbit hn, Nat.testBit_lt_two_pow hs]
  simp
theorem wS_ad {d : Nat → Int32} {s n : Nat} (hn : n < 12) (hs : s < 2 ^ n) : wS d (Int32.ofNat (2 ^ n + s)) (n + 1) = wS d (Int32.ofNat s) n + d n := by
  show wS d (Int32.ofNat (2 ^ n + s)) n + (((Int32.ofNat (2 ^ n + s) >>> (Int32.ofNat n &&& 31)) &&& (1 : Int32)) * d n) = wS d (Int32.ofNat s) n + d n
  rw [zbit hn, Nat.testBit_two_pow_add_eq, Nat.testBit_lt_two_pow hs, wS_t (s := 2 ^ n + s) (t := s) n (by omega) (fun k hk => Nat.testBit_two_pow_add_gt hk s)]
  simp
theorem wBs_t {s : Nat} (n : Nat) (hn : n ≤ 12) (hs : s < 2 ^ n) : ∀ m : Nat, n + m ≤ 12 → wBs (Int32.ofNat s) (n + m) = wBs (Int32.ofNat s) n := by
  intro m
  induction m with
  | zero => intro _; rfl
  | succ m ih =>
    intro h
    have h1 : s < 2 ^ (n + m) := Nat.lt_of_lt_of_le hs (Nat.pow_le_pow_right (by decide) (by omega))
    show wBs (Int32.ofNat s) (n + m) + ((Int32.ofNat s >>> (Int32.ofNat (n + m) &&& 31)) &&& (1 : Int32)) = wBs (Int32.ofNat s) n
    rw [zbit (by omega), Nat.testBit_lt_two_pow h1, ih (by omega)]
    simp
theorem cBC_all : (List.range 4096).all (fun j => decide (cBC (Int32.ofNat j) = wBs (Int32.ofNat j) 12)) = true := by decide +kernel
theorem cBC_n {s n : Nat} (hn : n ≤ 12) (hs : s < 2 ^ n) : cBC (Int32.ofNat s) = wBs (Int32.ofNat s) n := by
  have h1 := (zP2 hn).2
  have h := List.all_eq_true.mp cBC_all s (List.mem_range.mpr (by omega))
  rw [of_decide_eq_true h]
  have h2 := wBs_t n hn hs (12 - n) (by omega)
  rw [show n + (12 - n) = 12 by omega] at h2
  exact h2
theorem wGn_b {g : Nat → Int32} (n : Nat) : wGn g n < 2 ^ n := by
  induction n with
  | zero => exact Nat.one_pos
  | succ n ih =>
    show (if g n = 1 then 2 ^ n else 0) + wGn g n < 2 ^ (n + 1)
    rw [Nat.pow_succ]
    by_cases q : g n = 1
    · rw [if_pos q]; omega
    · rw [if_neg q]; omega
theorem wGn_e {g : Nat → Int32} (hg : ∀ k : Nat, k < 12 → g k = 0 ∨ g k = 1) (n : Nat) (hn : n ≤ 12) : wG g n = Int32.ofNat (wGn g n) := by
  induction n with
  | zero => rfl
  | succ n ih =>
    have hb := wGn_b (g := g) n
    show wG g n ||| (g n <<< (Int32.ofNat n &&& 31)) = Int32.ofNat ((if g n = 1 then 2 ^ n else 0) + wGn g n)
    rw [ih (by omega)]
    rcases hg n (by omega) with q | q
    · have z : ∀ j : Nat, j < 13 → ((0 : Int32) <<< (Int32.ofNat j &&& 31)) = 0 := by decide +kernel
      rw [q, z n (by omega), if_neg (by decide), Nat.zero_add, Int32.or_zero]
    · rw [q, zsh1 (by omega), if_pos rfl]
      exact zor (by omega) hb
theorem wGn_k {g : Nat → Int32} (n k : Nat) (hk : k < n) : (wGn g n).testBit k = decide (g k = 1) := by
  induction n with
  | zero => omega
  | succ n ih =>
    have hb := wGn_b (g := g) n
    show ((if g n = 1 then 2 ^ n else 0) + wGn g n).testBit k = decide (g k = 1)
    by_cases z : k = n
    · rw [z]
      by_cases q : g n = 1
      · rw [if_pos q, Nat.testBit_two_pow_add_eq, Nat.testBit_lt_two_pow hb]
        simp [q]
      · rw [if_neg q, Nat.zero_add, Nat.testBit_lt_two_pow hb]
        simp [q]
    · rw [← ih (by omega)]
      by_cases q : g n = 1
      · rw [if_pos q, Nat.testBit_two_pow_add_gt (by omega)]
      · rw [if_neg q, Nat.zero_add]
theorem wS_g {g d : Nat → Int32} {a : Nat} (hg : ∀ k : Nat, k < 12 → g k = 0 ∨ g k = 1) (n : Nat) (hn : n ≤ 12) (h : ∀ k : Nat, k < n → a.testBit k = decide (g k = 1)) : wS d (Int32.ofNat a) n = wDt g d n ∧ wBs (Int32.ofNat a) n = wSm g n := by
  induction n with
  | zero => exact ⟨rfl, rfl⟩
  | succ n ih =>
    obtain ⟨h1, h2⟩ := ih (by omega) (fun k hk => h k (by omega))
    have hb : ((Int32.ofNat a >>> (Int32.ofNat n &&& 31)) &&& (1 : Int32)) = g n := by
      rw [zbit (by omega), h n (by omega)]
      rcases hg n (by omega) with q | q <;> rw [q] <;> decide
    constructor
    · show wS d (Int32.ofNat a) n + (((Int32.ofNat a >>> (Int32.ofNat n &&& 31)) &&& (1 : Int32)) * d n) = wDt g d n + (g n * d n)
      rw [h1, hb]
    · show wBs (Int32.ofNat a) n + ((Int32.ofNat a >>> (Int32.ofNat n &&& 31)) &&& (1 : Int32)) = wSm g n + g n
      rw [h2, hb]
/-! the class's loops -/
theorem wW_0 {F F0 d : Nat → Int32} (e : F = upd F0 (Int32.toNatClampNeg (0 : Int32)) 0) : ∀ s : Nat, s < 2 ^ Int32.toNatClampNeg (0 : Int32) → F s = wS d (Int32.ofNat s) (Int32.toNatClampNeg (0 : Int32)) := by
  have e0 : Int32.toNatClampNeg (0 : Int32) = 0 := by decide
  intro s hs
  rw [e0] at hs e
  rw [e0, e, show s = 0 by omega, pk_us]
  rfl
theorem wW_n {F d : Nat → Int32} {n : Nat} (h : ∀ s : Nat, s < 2 ^ n → F s = wS d (Int32.ofNat s) n) (hn : n < 12) : ∀ s : Nat, s < 2 ^ n + Int32.toNatClampNeg (0 : Int32) → F s = wS d (Int32.ofNat s) (n + 1) := by
  have e0 : Int32.toNatClampNeg (0 : Int32) = 0 := by decide
  intro s hs
  rw [e0, Nat.add_zero] at hs
  rw [h s hs, wS_hi hn hs]
theorem zsh {i : Int32} (hi : 0 ≤ Int32.toInt i ∧ Int32.toInt i ≤ 12) : Int32.toInt ((1 : Int32) <<< (i &&& 31)) = ((2 ^ Int32.toNatClampNeg i : Nat) : Int) ∧ 1 ≤ Int32.toInt ((1 : Int32) <<< (i &&& 31)) ∧ Int32.toInt ((1 : Int32) <<< (i &&& 31)) ≤ 4096 := by
  have c := z_cl hi.1
  have h := zsh1 (k := Int32.toNatClampNeg i) (by omega)
  rw [zi_ofN hi.1] at h
  have h1 := zP2 (k := Int32.toNatClampNeg i) (by omega)
  have h2 : Int32.toInt (Int32.ofNat (2 ^ Int32.toNatClampNeg i)) = ((2 ^ Int32.toNatClampNeg i : Nat) : Int) := nI_toInt (n := 2 ^ Int32.toNatClampNeg i) (by omega)
  rw [h, h2]
  omega
theorem wW_s {F F' d : Nat → Int32} {i x s s' v : Int32} (h : ∀ j : Nat, j < 2 ^ Int32.toNatClampNeg i + Int32.toNatClampNeg s → F j = wS d (Int32.ofNat j) (Int32.toNatClampNeg i + 1)) (hi : 0 ≤ Int32.toInt i ∧ Int32.toInt i ≤ 11) (hs : 0 ≤ Int32.toInt s ∧ Int32.toInt s < Int32.toInt ((1 : Int32) <<< (i &&& 31))) (hs' : Int32.toNatClampNeg s' = Int32.toNatClampNeg s + 1) (hx : x = (((1 : Int32) <<< (i &&& 31)) ||| s)) (e : F' = upd F (Int32.toNatClampNeg x) v) (hv : v = ((F (Int32.toNatClampNeg s)) + (d (Int32.toNatClampNeg i)))) : ∀ j : Nat, j < 2 ^ Int32.toNatClampNeg i + Int32.toNatClampNeg s' → F' j = wS d (Int32.ofNat j) (Int32.toNatClampNeg i + 1) := by
  have c := z_cl hi.1
  have c2 := z_cl hs.1
  have h1 := (zsh (i := i) (by omega)).1
  have h2 := (zP2 (k := Int32.toNatClampNeg i) (by omega)).2
  have h3 : Int32.toNatClampNeg s < 2 ^ Int32.toNatClampNeg i := by omega
  have h4 : (((1 : Int32) <<< (i &&& 31)) ||| s) = Int32.ofNat (2 ^ Int32.toNatClampNeg i + Int32.toNatClampNeg s) := by
    have h5 := zsh1 (k := Int32.toNatClampNeg i) (by omega)
    rw [zi_ofN hi.1] at h5
    have h6 := zor (i := Int32.toNatClampNeg i) (a := Int32.toNatClampNeg s) (by omega) h3
    rw [zi_ofN hs.1] at h6
    rw [h5, ← h6, Int32.or_comm]
  have h7 : Int32.toNatClampNeg x = 2 ^ Int32.toNatClampNeg i + Int32.toNatClampNeg s := by
    rw [hx, h4]
    exact nI_clamp (n := 2 ^ Int32.toNatClampNeg i + Int32.toNatClampNeg s) (by omega)
  intro j hj
  rw [e, h7]
  by_cases z : j = 2 ^ Int32.toNatClampNeg i + Int32.toNatClampNeg s
  · rw [z, pk_us, hv, wS_ad (by omega) h3, h (Int32.toNatClampNeg s) (by omega), wS_hi (by omega) h3]
  · rw [pk_un z]
    exact h j (by omega)
theorem wW_e {F d : Nat → Int32} {i i' s : Int32} (h : ∀ j : Nat, j < 2 ^ Int32.toNatClampNeg i + Int32.toNatClampNeg s → F j = wS d (Int32.ofNat j) (Int32.toNatClampNeg i + 1)) (hi : Int32.toNatClampNeg i' = Int32.toNatClampNeg i + 1) (hs : ((2 ^ Int32.toNatClampNeg i : Nat) : Int) ≤ Int32.toInt s) : ∀ j : Nat, j < 2 ^ Int32.toNatClampNeg i' → F j = wS d (Int32.ofNat j) (Int32.toNatClampNeg i') := by
  obtain ⟨P, hPe⟩ : ∃ P : Nat, P = 2 ^ Int32.toNatClampNeg i := ⟨_, rfl⟩
  rw [← hPe] at h hs
  have c := z_cl (x := s) (by omega)
  intro j hj
  rw [hi] at hj ⊢
  rw [Nat.pow_succ, ← hPe] at hj
  exact h j (by omega)
theorem wG_s {g : Nat → Int32} {a a' i i' : Int32} (h : a = wG g (Int32.toNatClampNeg i)) (hi : 0 ≤ Int32.toInt i) (hi' : Int32.toNatClampNeg i' = Int32.toNatClampNeg i + 1) (e : a' = (a ||| ((g (Int32.toNatClampNeg i)) <<< (i &&& 31)))) : a' = wG g (Int32.toNatClampNeg i') := by
  rw [hi', e, h]
  show wG g (Int32.toNatClampNeg i) ||| (g (Int32.toNatClampNeg i) <<< (i &&& 31)) = wG g (Int32.toNatClampNeg i) ||| (g (Int32.toNatClampNeg i) <<< (Int32.ofNat (Int32.toNatClampNeg i) &&& 31))
  rw [zi_ofN hi]
def cHp (as : Int32) (d g : Nat → Int32) (n : Nat) (j : Nat) : Prop := (Int32.toInt as = 0 ∨ Int32.toInt (wS d (wG g n) n) ≤ Int32.toInt (wS d (Int32.ofNat j) n)) ∧ Int32.toInt (cBC (Int32.ofNat j)) = Int32.toInt (cBC (wG g n))
noncomputable def cHc (as : Int32) (d g : Nat → Int32) (n : Int32) : Int := ((zCnt (cHp as d g (Int32.toNatClampNeg n)) (2 ^ Int32.toNatClampNeg n) : Nat) : Int)
noncomputable def cHe (d g : Nat → Int32) (n w : Int32) : Int := if Int32.toInt w = 0 then cHc 1 d g n else if Int32.toInt w = 1 then cHc 0 d g n else -1
theorem wG_ib {g : Nat → Int32} {n : Nat} (hg : ∀ k : Nat, k < 12 → g k = 0 ∨ g k = 1) (hn : n ≤ 12) : Int32.toNatClampNeg (wG g n) < 2 ^ n ∧ Int32.ofNat (Int32.toNatClampNeg (wG g n)) = wG g n := by
  have h := wGn_e hg n hn
  have hb := wGn_b (g := g) n
  have h1 := (zP2 hn).2
  have h2 : Int32.toNatClampNeg (Int32.ofNat (wGn g n)) = wGn g n := nI_clamp (n := wGn g n) (by omega)
  rw [h, h2]
  exact ⟨hb, rfl⟩
theorem zg01 {g : Nat → Int32} (h : zR g 0 1) : ∀ k : Nat, k < 12 → g k = 0 ∨ g k = 1 := fun k _ => by
  have h1 : 0 ≤ Int32.toInt (g k) ∧ Int32.toInt (g k) ≤ 1 := h k
  rcases (show Int32.toInt (g k) = 0 ∨ Int32.toInt (g k) = 1 by omega) with q | q
  · exact Or.inl (Int32.toInt_inj.mp (q.trans (by decide)))
  · exact Or.inr (Int32.toInt_inj.mp (q.trans (by decide)))
theorem zCn_b2 {P : Nat → Prop} {m k : Int32} (hI : Int32.toInt m = ((zCnt P (Int32.toNatClampNeg k) : Nat) : Int)) (hk : 0 ≤ Int32.toInt k ∧ Int32.toInt k ≤ 4096) : 0 ≤ Int32.toInt m ∧ Int32.toInt m ≤ 4096 := by
  have h1 := zCnt_le (P := P) (Int32.toNatClampNeg k)
  have h2 := z_cl hk.1
  omega
theorem zCn_e2 {P : Nat → Prop} {m k : Int32} {N : Nat} (hI : Int32.toInt m = ((zCnt P (Int32.toNatClampNeg k) : Nat) : Int)) (e : Int32.toInt k = ((N : Nat) : Int)) : Int32.toInt m = ((zCnt P N : Nat) : Int) := by
  have h2 := z_cl (x := k) (by omega)
  rw [hI, show Int32.toNatClampNeg k = N by omega]
/-! the model's -/
def mG (F : Nat → Int32) (k : Nat) : Int32 := F (7026 + 3 * k)
def mD (F : Nat → Int32) (k : Nat) : Int32 := F (7027 + 3 * k)
theorem wBs_s {m m' s k k' : Int32} (h : m = wBs s (Int32.toNatClampNeg k)) (hk : 0 ≤ Int32.toInt k) (hk' : Int32.toNatClampNeg k' = Int32.toNatClampNeg k + 1) (e : m' = (m + ((s >>> (k &&& 31)) &&& (1 : Int32)))) : m' = wBs s (Int32.toNatClampNeg k') := by
  rw [hk', e, h]
  show _ = wBs s (Int32.toNatClampNeg k) + ((s >>> (Int32.ofNat (Int32.toNatClampNeg k) &&& 31)) &&& (1 : Int32))
  rw [zi_ofN hk]
theorem wSk_s {d : Nat → Int32} {m m' s k k' : Int32} (h : m = wS d s (Int32.toNatClampNeg k)) (hk : 0 ≤ Int32.toInt k) (hk' : Int32.toNatClampNeg k' = Int32.toNatClampNeg k + 1) (e : m' = (m + (((s >>> (k &&& 31)) &&& (1 : Int32)) * (d (Int32.toNatClampNeg k))))) : m' = wS d s (Int32.toNatClampNeg k') := by
  rw [hk', e, h]
  show _ = wS d s (Int32.toNatClampNeg k) + (((s >>> (Int32.ofNat (Int32.toNatClampNeg k) &&& 31)) &&& (1 : Int32)) * d (Int32.toNatClampNeg k))
  rw [zi_ofN hk]
theorem wSm_s {g : Nat → Int32} {m m' k k' : Int32} (h : m = wSm g (Int32.toNatClampNeg k)) (hk' : Int32.toNatClampNeg k' = Int32.toNatClampNeg k + 1) (e : m' = (m + (g (Int32.toNatClampNeg k)))) : m' = wSm g (Int32.toNatClampNeg k') := by
  rw [hk', e, h]
  rfl
theorem wDt_s {g d : Nat → Int32} {m m' k k' : Int32} (h : m = wDt g d (Int32.toNatClampNeg k)) (hk' : Int32.toNatClampNeg k' = Int32.toNatClampNeg k + 1) (e : m' = (m + ((g (Int32.toNatClampNeg k)) * (d (Int32.toNatClampNeg k))))) : m' = wDt g d (Int32.toNatClampNeg k') := by
  rw [hk', e, h]
  rfl
theorem zN0 : Int32.toNatClampNeg (0 : Int32) = 0 := by decide
theorem wSm_0 {g : Nat → Int32} : (0 : Int32) = wSm g (Int32.toNatClampNeg (0 : Int32)) := by rw [zN0]; rfl
theorem wDt_0 {g d : Nat → Int32} : (0 : Int32) = wDt g d (Int32.toNatClampNeg (0 : Int32)) := by rw [zN0]; rfl
theorem wBs_0 {s : Int32} : (0 : Int32) = wBs s (Int32.toNatClampNeg (0 : Int32)) := by rw [zN0]; rfl
theorem wSk_0 {d : Nat → Int32} {s : Int32} : (0 : Int32) = wS d s (Int32.toNatClampNeg (0 : Int32)) := by rw [zN0]; rfl
theorem wG_0 {g : Nat → Int32} : (0 : Int32) = wG g (Int32.toNatClampNeg (0 : Int32)) := by rw [zN0]; rfl
def mHa (g : Nat → Int32) (n : Nat) (j : Nat) : Prop := Int32.toInt (wBs (Int32.ofNat j) n) = Int32.toInt (wSm g n)
def mHb (d g : Nat → Int32) (n : Nat) (j : Nat) : Prop := Int32.toInt (wBs (Int32.ofNat j) n) = Int32.toInt (wSm g n) ∧ Int32.toInt (wDt g d n) ≤ Int32.toInt (wS d (Int32.ofNat j) n)
noncomputable def mHe (d g : Nat → Int32) (n w : Int32) : Int := if Int32.toInt w = 0 then ((zCnt (mHb d g (Int32.toNatClampNeg n)) (2 ^ Int32.toNatClampNeg n) : Nat) : Int) else if Int32.toInt w = 1 then ((zCnt (mHa g (Int32.toNatClampNeg n)) (2 ^ Int32.toNatClampNeg n) : Nat) : Int) else -1
theorem wS_c {d d' : Nat → Int32} {s : Int32} (n : Nat) (h : ∀ k : Nat, k < n → d k = d' k) : wS d s n = wS d' s n := by
  induction n with
  | zero => rfl
  | succ n ih =>
    show wS d s n + (((s >>> (Int32.ofNat n &&& 31)) &&& (1 : Int32)) * d n) = wS d' s n + (((s >>> (Int32.ofNat n &&& 31)) &&& (1 : Int32)) * d' n)
    rw [ih (fun k hk => h k (by omega)), h n (by omega)]
theorem wSm_c {g g' : Nat → Int32} (n : Nat) (h : ∀ k : Nat, k < n → g k = g' k) : wSm g n = wSm g' n := by
  induction n with
  | zero => rfl
  | succ n ih =>
    show wSm g n + g n = wSm g' n + g' n
    rw [ih (fun k hk => h k (by omega)), h n (by omega)]
theorem wDt_c {g g' d d' : Nat → Int32} (n : Nat) (h : ∀ k : Nat, k < n → g k = g' k) (hd : ∀ k : Nat, k < n → d k = d' k) : wDt g d n = wDt g' d' n := by
  induction n with
  | zero => rfl
  | succ n ih =>
    show wDt g d n + g n * d n = wDt g' d' n + g' n * d' n
    rw [ih (fun k hk => h k (by omega)) (fun k hk => hd k (by omega)), h n (by omega), hd n (by omega)]
theorem wHe_c {g g' d d' : Nat → Int32} {n w : Int32} (hn : 0 ≤ Int32.toInt n ∧ Int32.toInt n ≤ 12) (hg : ∀ k : Nat, k < 12 → g k = 0 ∨ g k = 1) (h : ∀ k : Nat, k < Int32.toNatClampNeg n → g' k = g k) (hd : ∀ k : Nat, k < Int32.toNatClampNeg n → d' k = d k) : mHe d' g' n w = cHe d g n w := by
  have c := z_cl hn.1
  have hm : Int32.toNatClampNeg n ≤ 12 := by omega
  have hG := wGn_e hg (Int32.toNatClampNeg n) hm
  obtain ⟨h1, h2⟩ := wS_g (d := d) hg (Int32.toNatClampNeg n) hm (fun k hk => wGn_k (g := g) (Int32.toNatClampNeg n) k hk)
  have h3 := cBC_n hm (wGn_b (g := g) (Int32.toNatClampNeg n))
  have e1 := wSm_c _ h
  have e2 := wDt_c _ h hd
  unfold mHe cHe cHc
  by_cases q0 : Int32.toInt w = 0
  · rw [if_pos q0, if_pos q0]
    refine congrArg (fun z : Nat => (z : Int)) (zCnt_c _ (fun j hj => ?_))
    have e3 := cBC_n hm hj
    have e4 := wS_c (s := Int32.ofNat j) _ hd
    unfold mHb cHp
    rw [e3, hG, h1, h3, h2, e1, e2, e4]
    exact ⟨fun z => ⟨Or.inr z.2, z.1⟩, fun z => ⟨z.2, z.1.resolve_left (by decide)⟩⟩
  · rw [if_neg q0, if_neg q0]
    by_cases q1 : Int32.toInt w = 1
    · rw [if_pos q1, if_pos q1]
      refine congrArg (fun z : Nat => (z : Int)) (zCnt_c _ (fun j hj => ?_))
      have e3 := cBC_n hm hj
      unfold mHa cHp
      rw [e3, hG, h3, h2, e1]
      exact ⟨fun z => ⟨Or.inl (by decide), z⟩, fun z => z.2⟩
    · rw [if_neg q1, if_neg q1]
def zTp (i : Int32) : Nat := 2 ^ Int32.toNatClampNeg i
theorem zshp {i : Int32} (hi : 0 ≤ Int32.toInt i ∧ Int32.toInt i ≤ 12) : Int32.toInt ((1 : Int32) <<< (i &&& 31)) = ((zTp i : Nat) : Int) := (zsh hi).1
theorem zTp_l {i s : Int32} (hs : 0 ≤ Int32.toInt s) (h : Int32.toInt s < ((zTp i : Nat) : Int)) : Int32.toNatClampNeg s < 2 ^ Int32.toNatClampNeg i := by
  have c := z_cl hs
  have h2 : Int32.toNatClampNeg s < zTp i := by omega
  exact h2
theorem zDid {B D G : Nat → Int32} {n got did : Int32} (hW : ∀ s : Nat, s < 2 ^ Int32.toNatClampNeg n → B s = wS D (Int32.ofNat s) (Int32.toNatClampNeg n)) (hG : got = wG G (Int32.toNatClampNeg n)) (hg : ∀ k : Nat, k < 12 → G k = 0 ∨ G k = 1) (hn : 0 ≤ Int32.toInt n ∧ Int32.toInt n ≤ 12) (e : did = B (Int32.toNatClampNeg got)) : did = wS D (wG G (Int32.toNatClampNeg n)) (Int32.toNatClampNeg n) := by
  have c := z_cl hn.1
  obtain ⟨b1, b2⟩ := wG_ib (g := G) (n := Int32.toNatClampNeg n) hg (by omega)
  rw [e, hG, hW _ b1, b2]
/-! rolls: who is odd on a day, the i-th of them -/
noncomputable def rIth (P : Nat → Prop) (i : Int) : Nat → Nat → Int → Int
  | 0, _, m => if i = -1 then m else -1
  | k + 1, c, m => @ite Int (P c) (Classical.propDecidable (P c)) (if m = i then (c : Int) else rIth P i k (c + 1) (m + 1)) (rIth P i k (c + 1) m)
theorem rIth_1 (P : Nat → Prop) (i : Int) (k c : Nat) (m : Int) : rIth P i (k + 1) c m = @ite Int (P c) (Classical.propDecidable (P c)) (if m = i then (c : Int) else rIth P i k (c + 1) (m + 1)) (rIth P i k (c + 1) m) := rfl
theorem rIth_n {P : Nat → Prop} {i m X : Int} {k k' c c' : Nat} (h : rIth P i k c m = X) (hk : k = k' + 1) (hc : c' = c + 1) (hn : ¬ P c) : rIth P i k' c' m = X := by
  rw [hk, rIth_1, if_neg hn] at h
  rw [hc]
  exact h
theorem rIth_y {P : Nat → Prop} {i m m' X : Int} {k k' c c' : Nat} (h : rIth P i k c m = X) (hk : k = k' + 1) (hc : c' = c + 1) (hp : P c) (hm : ¬ m = i) (hm' : m' = m + 1) : rIth P i k' c' m' = X := by
  rw [hk, rIth_1, if_pos hp, if_neg hm] at h
  rw [hc, hm']
  exact h
theorem rIth_f {P : Nat → Prop} {i m X : Int} {k k' c : Nat} (h : rIth P i k c m = X) (hk : k = k' + 1) (hp : P c) (hm : m = i) : (c : Int) = X := by
  rw [hk, rIth_1, if_pos hp, if_pos hm] at h
  exact h
theorem rIth_e {P : Nat → Prop} {i m X : Int} {k c : Nat} (h : rIth P i k c m = X) (hk : k = 0) : X = if i = -1 then m else -1 := by
  rw [hk] at h
  exact h.symm
theorem rIth_c {P Q : Nat → Prop} {i : Int} (n : Nat) (h : ∀ c : Nat, c < n → (P c ↔ Q c)) : ∀ (k c : Nat) (m : Int), c + k ≤ n → rIth P i k c m = rIth Q i k c m := by
  intro k
  induction k with
  | zero => intro c m _; rfl
  | succ k ih =>
    intro c m hc
    have h1 := h c (by omega)
    rw [rIth_1, rIth_1]
    by_cases q : P c
    · rw [if_pos q, if_pos (h1.mp q), ih (c + 1) (m + 1) (by omega)]
    · rw [if_neg q, if_neg (fun z => q (h1.mpr z)), ih (c + 1) m (by omega)]
/-! the model's way: it goes on behind the i-th -/
def rMod (P : Nat → Prop) (i its m X : Int) (k c : Nat) : Prop := (its = -1 ∧ rIth P i k c m = X ∧ (0 ≤ i → m ≤ i)) ∨ (0 ≤ i ∧ i < m ∧ its = X)
theorem rMod_n {P : Nat → Prop} {i its m X : Int} {k k' c c' : Nat} (h : rMod P i its m X k c) (hk : k = k' + 1) (hc : c' = c + 1) (hn : ¬ P c) : rMod P i its m X k' c' := by
  rcases h with ⟨h1, h2, h3⟩ | h
  · exact Or.inl ⟨h1, rIth_n h2 hk hc hn, h3⟩
  · exact Or.inr h
theorem rMod_y {P : Nat → Prop} {i its its' m m' X : Int} {k k' c c' : Nat} (h : rMod P i its m X k c) (hk : k = k' + 1) (hc : c' = c + 1) (hp : P c) (hm' : m' = m + 1) (h0 : 0 ≤ m) (hi : (m = i ∧ its' = (c : Int)) ∨ (¬ m = i ∧ its' = its)) : rMod P i its' m' X k' c' := by
  rcases h with ⟨h1, h2, h3⟩ | ⟨h1, h2, h3⟩
  · rcases hi with ⟨e1, e2⟩ | ⟨e1, e2⟩
    · have h4 := rIth_f h2 hk hp e1
      exact Or.inr ⟨by omega, by omega, by omega⟩
    · exact Or.inl ⟨by omega, rIth_y h2 hk hc hp e1 hm', fun z => by have h4 := h3 z; omega⟩
  · rcases hi with ⟨e1, e2⟩ | ⟨e1, e2⟩
    · omega
    · exact Or.inr ⟨h1, by omega, by omega⟩
theorem rMod_e {P : Nat → Prop} {i its m X : Int} {k c : Nat} (h : rMod P i its m X k c) (hk : k = 0) : X = if i = -1 then m else its := by
  rcases h with ⟨h1, h2, h3⟩ | ⟨h1, h2, h3⟩
  · rw [rIth_e h2 hk, h1]
  · rw [if_neg (by omega), h3]
/-! on how many rolls, lost, at home: the class's rows -/
noncomputable def cSch (f p q : Nat → Int32) (n c d : Int32) : Int32 := Int32.ofNat (zCnt (fun j : Nat => Int32.toInt (f j) = Int32.toInt c ∧ Int32.toInt (p j) ≤ Int32.toInt d ∧ Int32.toInt d < Int32.toInt (q j)) (Int32.toNatClampNeg n))
abbrev cLos (f g p q w : Nat → Int32) (n c d : Int32) : Prop := ∃ j : Nat, j < Int32.toNatClampNeg n ∧ (Int32.toInt (f (j)) = Int32.toInt c ∧ Int32.toInt (q (j)) ≤ Int32.toInt d ∧ Int32.toInt (w (j)) ≠ -1 ∧ Int32.toInt (zQ (sLis f g p q n c (w (j)) (q (j)) d)) = 0)
abbrev cHom (f p q : Nat → Int32) (n c d : Int32) : Prop := ∃ j : Nat, 60 ≤ j ∧ j < 60 + Int32.toNatClampNeg n ∧ (Int32.toInt (f (j)) = Int32.toInt c ∧ Int32.toInt (p (j)) ≤ Int32.toInt d ∧ Int32.toInt d ≤ Int32.toInt (q (j)))
def rOdd (lo on bo wi w : Int) : Prop := (w = 2 ∧ lo = 1) ∨ (w = 1 ∧ 1 < on) ∨ (w = 0 ∧ on = 0 ∧ 5 ≤ bo ∧ bo ≤ 16 ∧ wi = 0)
/-! the model's row -/
abbrev mHom (F : Nat → Int32) (c d : Int32) : Prop := ∃ j : Nat, j < Int32.toNatClampNeg (F (Int32.toNatClampNeg 11)) ∧ (Int32.toInt (F (3600 + 3 * j)) = Int32.toInt c ∧ Int32.toInt (F (3601 + 3 * j)) ≤ Int32.toInt d ∧ Int32.toInt d ≤ Int32.toInt (F (3602 + 3 * j)))
noncomputable def mSch (F : Nat → Int32) (c d : Int32) : Int32 := Int32.ofNat (zCnt (fun j : Nat => mOn F c (Int32.ofNat j) d) (Int32.toNatClampNeg (F (Int32.toNatClampNeg 1))))
abbrev mCam (F : Nat → Int32) (c w : Int32) (a b : Int) : Prop := ∃ e : Int, a ≤ e ∧ e ≤ b ∧ mOn F c w (Int32.ofInt e)
abbrev mLos (F : Nat → Int32) (c d : Int32) : Prop := ∃ j : Nat, j < Int32.toNatClampNeg (F (Int32.toNatClampNeg 2)) ∧ (Int32.toInt (F (2700 + 5 * j)) = Int32.toInt c ∧ Int32.toInt (F (2703 + 5 * j)) ≠ -1 ∧ Int32.toInt (F (2703 + 5 * j)) ≤ Int32.toInt d ∧ Int32.toInt (F (2704 + 5 * j)) ≠ -1 ∧ ¬ mCam F c (F (2704 + 5 * j)) (Int32.toInt (F (2703 + 5 * j))) (Int32.toInt d))
/-! a child's rolls on a day are of as many schools -/
theorem rCnt_0 {P : Nat → Prop} (n : Nat) (h : ∀ j : Nat, j < n → ¬ P j) : zCnt P n = 0 := by
  induction n with
  | zero => rfl
  | succ n ih => rw [zCnt_n (h n (by omega)), ih (fun j hj => h j (by omega))]
theorem rCnt_add {P Q : Nat → Prop} (n a : Nat) (ha : a < n) (h : ∀ j : Nat, j < n → j ≠ a → (Q j ↔ P j)) (hp : ¬ P a) (hq : Q a) : zCnt Q n = zCnt P n + 1 := by
  induction n with
  | zero => omega
  | succ n ih =>
    by_cases z : a = n
    · rw [← z] at h ⊢
      rw [zCnt_y hq, zCnt_n hp, zCnt_c a (fun j hj => h j (by omega) (by omega))]
    · have h1 := ih (by omega) (fun j hj hn => h j (by omega) hn)
      by_cases q : P n
      · rw [zCnt_y q, zCnt_y ((h n (by omega) (fun e => z e.symm)).mpr q), h1]
      · rw [zCnt_n q, zCnt_n (fun w => q ((h n (by omega) (fun e => z e.symm)).mp w)), h1]
/-- T: the rolls that count; s: their schools, each once -/
theorem rCnt_s {T : Nat → Prop} {s : Nat → Nat} (S : Nat) : ∀ n : Nat, (∀ j : Nat, j < n → s j < S) → (∀ i j : Nat, i < j → j < n → T i → T j → s i ≠ s j) → zCnt (fun a : Nat => ∃ j : Nat, j < n ∧ T j ∧ s j = a) S = zCnt T n := by
  intro n
  induction n with
  | zero => intro _ _; exact rCnt_0 S (fun a _ h => by obtain ⟨j, h1, _⟩ := h; omega)
  | succ n ih =>
    intro hs hd
    have h1 := ih (fun j hj => hs j (by omega)) (fun i j hi hj => hd i j hi (by omega))
    by_cases q : T n
    · rw [zCnt_y q, ← h1]
      refine rCnt_add S (s n) (hs n (by omega)) (fun a _ hn => ⟨fun h => ?_, fun h => ?_⟩) (fun h => ?_) ⟨n, by omega, q, rfl⟩
      · obtain ⟨j, h2, h3, h4⟩ := h
        by_cases z : j = n
        · exact absurd (by rw [← z]; exact h4.symm) hn
        · exact ⟨j, by omega, h3, h4⟩
      · obtain ⟨j, h2, h3, h4⟩ := h
        exact ⟨j, by omega, h3, h4⟩
      · obtain ⟨j, h2, h3, h4⟩ := h
        exact hd j n h2 (by omega) h3 q h4
    · rw [zCnt_n q, ← h1]
      refine zCnt_c S (fun a _ => ⟨fun h => ?_, fun h => ?_⟩)
      · obtain ⟨j, h2, h3, h4⟩ := h
        by_cases z : j = n
        · rw [z] at h3; exact absurd h3 q
        · exact ⟨j, by omega, h3, h4⟩
      · obtain ⟨j, h2, h3, h4⟩ := h
        exact ⟨j, by omega, h3, h4⟩
theorem zQ_y {p : Prop} {r : Int32} (e : r = zQ p) (h : ¬ r = 0) : p := Classical.byContradiction (fun z => h (e.trans (zQ_f z)))
theorem zQ_n {p : Prop} {r : Int32} (e : r = zQ p) (h : r = 0) : ¬ p := fun z => by
  rw [zQ_t z, h] at e
  exact absurd e (by decide)
theorem rHw_s {P : Nat → Prop} {k k2 : Int32} (hI : ∀ j : Nat, 60 ≤ j → j < Int32.toNatClampNeg k → ¬ P j) (e : Int32.toNatClampNeg k2 = Int32.toNatClampNeg k + 1) (hn : ¬ P (Int32.toNatClampNeg k)) : ∀ j : Nat, 60 ≤ j → j < Int32.toNatClampNeg k2 → ¬ P j := by
  intro j h0 hj
  by_cases q : j = Int32.toNatClampNeg k
  · rw [q]; exact hn
  · exact hI j h0 (by omega)
theorem rN60 {P : Nat → Prop} : ∀ j : Nat, 60 ≤ j → j < Int32.toNatClampNeg (60 : Int32) → ¬ P j := fun j h0 hj => by
  have e : Int32.toNatClampNeg (60 : Int32) = 60 := (by decide)
  omega
/-- the class's rows: is the child with that number odd? -/
def rPc (ch sc fi go wh : Nat → Int32) (n : Int32) (born hf hp hq : Nat → Int32) (hn d w : Int32) (j : Nat) : Prop := rOdd (Int32.toInt (zQ (cLos ch sc fi go wh n (Int32.ofNat j) d))) (Int32.toInt (cSch ch fi go n (Int32.ofNat j) d)) (Int32.toInt (born j)) (Int32.toInt (zQ (cHom hf hp hq hn (Int32.ofNat j) d))) (Int32.toInt w)
def rPm (F : Nat → Int32) (d w : Int32) (j : Nat) : Prop := rOdd (Int32.toInt (zQ (mLos F (Int32.ofNat j) d))) (Int32.toInt (mSch F (Int32.ofNat j) d)) (Int32.toInt (F (20 + 17 * j))) (Int32.toInt (zQ (mHom F (Int32.ofNat j) d))) (Int32.toInt w)
noncomputable def rAns (P : Nat → Prop) (m d w i : Int32) : Int := @ite Int (0 ≤ Int32.toInt d ∧ Int32.toInt d ≤ 399 ∧ 0 ≤ Int32.toInt w ∧ Int32.toInt w ≤ 2) (Classical.propDecidable _) (rIth P (Int32.toInt i) (Int32.toNatClampNeg m) 0 0) (-1)
theorem rAns_1 {P : Nat → Prop} {m d w i : Int32} {x : Int} (z : 0 ≤ Int32.toInt d ∧ Int32.toInt d ≤ 399 ∧ 0 ≤ Int32.toInt w ∧ Int32.toInt w ≤ 2) (h : x = rIth P (Int32.toInt i) (Int32.toNatClampNeg m) 0 0) : x = rAns P m d w i := by
  unfold rAns
  rw [if_pos z, h]
theorem rAns_0 {P : Nat → Prop} {m d w i : Int32} {x : Int} (z : ¬ (0 ≤ Int32.toInt d ∧ Int32.toInt d ≤ 399 ∧ 0 ≤ Int32.toInt w ∧ Int32.toInt w ≤ 2)) (h : x = -1) : x = rAns P m d w i := by
  unfold rAns
  rw [if_neg z, h]
theorem rIth_0 {P : Nat → Prop} {i n : Int32} : rIth P (Int32.toInt i) (Int32.toInt n - Int32.toInt (0 : Int32)).toNat (Int32.toNatClampNeg (0 : Int32)) (Int32.toInt (0 : Int32)) = rIth P (Int32.toInt i) (Int32.toNatClampNeg n) 0 0 := by
  have e : Int32.toInt (0 : Int32) = 0 := by decide
  have e2 : Int32.toNatClampNeg (0 : Int32) = 0 := by decide
  rw [e, e2, Int.sub_zero]
  rfl
theorem rMod_0 {P : Nat → Prop} {i n : Int32} : rMod P (Int32.toInt i) (Int32.toInt (-1 : Int32)) (Int32.toInt (0 : Int32)) (rIth P (Int32.toInt i) (Int32.toNatClampNeg n) 0 0) (Int32.toInt n - Int32.toInt (0 : Int32)).toNat (Int32.toNatClampNeg (0 : Int32)) := by
  have e : Int32.toInt (0 : Int32) = 0 := by decide
  exact Or.inl ⟨by decide, rIth_0, fun z => by rw [e]; exact z⟩
theorem rAns_c {P Q : Nat → Prop} {m d w i : Int32} (h : 0 ≤ Int32.toInt d ∧ Int32.toInt d ≤ 399 ∧ 0 ≤ Int32.toInt w ∧ Int32.toInt w ≤ 2 → ∀ c : Nat, c < Int32.toNatClampNeg m → (P c ↔ Q c)) : rAns P m d w i = rAns Q m d w i := by
  by_cases z : 0 ≤ Int32.toInt d ∧ Int32.toInt d ≤ 399 ∧ 0 ≤ Int32.toInt w ∧ Int32.toInt w ≤ 2
  · unfold rAns
    rw [if_pos z, if_pos z, rIth_c (Int32.toNatClampNeg m) (h z) _ _ _ (by omega)]
  · unfold rAns
    rw [if_neg z, if_neg z]
/-! the model's days between -/
theorem rCam_0 {P : Int → Prop} {g : Int} : (0 : Int32) = zQ (∃ e : Int, g ≤ e ∧ e < g ∧ P e) := (zQ_f (fun h => by obtain ⟨e, h1, h2, _⟩ := h; omega)).symm
theorem rCam_s {P : Int → Prop} {g d d' : Int} {b b' : Int32} (hI : b = zQ (∃ e : Int, g ≤ e ∧ e < d ∧ P e)) (hd : d' = d + 1) (hg : g ≤ d) (h : (b' = 1 ∧ (b ≠ 0 ∨ P d)) ∨ (b' = 0 ∧ b = 0 ∧ ¬ P d)) : b' = zQ (∃ e : Int, g ≤ e ∧ e < d' ∧ P e) := by
  rcases h with ⟨rfl, h⟩ | ⟨rfl, h0, hn⟩
  · refine (zQ_t ?_).symm
    rcases h with h | h
    · by_cases q : ∃ e : Int, g ≤ e ∧ e < d ∧ P e
      · obtain ⟨e, h1, h2, h3⟩ := q
        exact ⟨e, h1, by omega, h3⟩
      · exact absurd (hI.trans (zQ_f q)) h
    · exact ⟨d, hg, by omega, h⟩
  · refine (zQ_f (fun h9 => ?_)).symm
    obtain ⟨e, h1, h2, h3⟩ := h9
    by_cases q : e = d
    · rw [q] at h3; exact hn h3
    · have h4 : zQ (∃ e : Int, g ≤ e ∧ e < d ∧ P e) = 1 := zQ_t ⟨e, h1, by omega, h3⟩
      rw [h0, h4] at hI
      exact absurd hI (by decide)
theorem rCam_e {P : Int → Prop} {g d x : Int} {b : Int32} (hI : b = zQ (∃ e : Int, g ≤ e ∧ e < d ∧ P e)) (hd : d = x + 1) : b = zQ (∃ e : Int, g ≤ e ∧ e ≤ x ∧ P e) := by
  rw [hI]
  exact zQ_c ⟨fun h => by obtain ⟨e, h1, h2, h3⟩ := h; exact ⟨e, h1, by omega, h3⟩, fun h => by obtain ⟨e, h1, h2, h3⟩ := h; exact ⟨e, h1, by omega, h3⟩⟩
theorem rAc_k {P : Nat → Prop} {b k k2 : Int32} (hI : b = zQ (∃ j : Nat, j < Int32.toNatClampNeg k ∧ P j)) (e : Int32.toNatClampNeg k2 = Int32.toNatClampNeg k + 1) (hn : ¬ P (Int32.toNatClampNeg k)) : b = zQ (∃ j : Nat, j < Int32.toNatClampNeg k2 ∧ P j) := by
  rw [hI]
  refine zQ_c ⟨fun h => ?_, fun h => ?_⟩
  · obtain ⟨j, h1, h2⟩ := h
    exact ⟨j, by omega, h2⟩
  · obtain ⟨j, h1, h2⟩ := h
    by_cases q : j = Int32.toNatClampNeg k
    · rw [q] at h2; exact absurd h2 hn
    · exact ⟨j, by omega, h2⟩
/-! round: the least over the members below a number -/
def zMn (f : Nat → Int32) (P : Nat → Bool) : Nat → Int32 → Int32
  | 0, i => i
  | k + 1, i => if P k = true ∧ Int32.toInt (f k) < Int32.toInt (zMn f P k i) then f k else zMn f P k i
theorem zMn_1 (f : Nat → Int32) (P : Nat → Bool) (k : Nat) (i : Int32) : zMn f P (k + 1) i = if P k = true ∧ Int32.toInt (f k) < Int32.toInt (zMn f P k i) then f k else zMn f P k i := rfl
theorem zMn_0 {f : Nat → Int32} {P : Nat → Bool} {i : Int32} : i = zMn f P (Int32.toNatClampNeg (0 : Int32)) i := by rw [zN0]; rfl
theorem zMn_n {f : Nat → Int32} {P : Nat → Bool} {i b k k' : Int32} (h : b = zMn f P (Int32.toNatClampNeg k) i) (e : Int32.toNatClampNeg k' = Int32.toNatClampNeg k + 1) (hn : ¬ P (Int32.toNatClampNeg k) = true) : b = zMn f P (Int32.toNatClampNeg k') i := by
  rw [e, zMn_1, if_neg (fun z => hn z.1)]
  exact h
theorem zMn_y {f : Nat → Int32} {P : Nat → Bool} {i b b' v k k' : Int32} (h : b = zMn f P (Int32.toNatClampNeg k) i) (e : Int32.toNatClampNeg k' = Int32.toNatClampNeg k + 1) (hp : P (Int32.toNatClampNeg k) = true) (hv : v = f (Int32.toNatClampNeg k)) (hm : (Int32.toInt b' = Int32.toInt b ∧ Int32.toInt b ≤ Int32.toInt v) ∨ (Int32.toInt b' = Int32.toInt v ∧ Int32.toInt v ≤ Int32.toInt b)) : b' = zMn f P (Int32.toNatClampNeg k') i := by
  rw [e, zMn_1, ← hv, ← h]
  by_cases q : Int32.toInt v < Int32.toInt b
  · rw [if_pos ⟨hp, q⟩]
    exact Int32.toInt_inj.mp (by omega)
  · rw [if_neg (fun z => q z.2)]
    exact Int32.toInt_inj.mp (by omega)
theorem zMn_c {f g : Nat → Int32} {P : Nat → Bool} {i : Int32} (n : Nat) (h : ∀ u : Nat, u < n → P u = true → f u = g u) : zMn f P n i = zMn g P n i := by
  induction n with
  | zero => rfl
  | succ n ih =>
    rw [zMn_1, zMn_1, ih (fun u hu => h u (by omega))]
    by_cases q : P n = true
    · rw [h n (by omega) q]
    · rw [if_neg (fun z => q z.1), if_neg (fun z => q z.1)]
theorem zMn_x {f : Nat → Int32} {P : Nat → Bool} {i : Int32} (n : Nat) : ∀ m : Nat, (∀ u : Nat, n ≤ u → u < n + m → ¬ P u = true) → zMn f P (n + m) i = zMn f P n i := by
  intro m
  induction m with
  | zero => intro _; rfl
  | succ m ih =>
    intro h
    show zMn f P ((n + m) + 1) i = _
    rw [zMn_1, if_neg (fun z => h (n + m) (by omega) (by omega) z.1)]
    exact ih (fun u h1 h2 => h u h1 (by omega))
theorem zMn_le {f : Nat → Int32} {P : Nat → Bool} {i : Int32} (n : Nat) : Int32.toInt (zMn f P n i) ≤ Int32.toInt i := by
  induction n with
  | zero => exact Int.le_refl _
  | succ n ih =>
    rw [zMn_1]
    by_cases q : P n = true ∧ Int32.toInt (f n) < Int32.toInt (zMn f P n i)
    · rw [if_pos q]; have := q.2; omega
    · rw [if_neg q]; exact ih
theorem zMn_lm {f : Nat → Int32} {P : Nat → Bool} {i : Int32} (n : Nat) : ∀ u : Nat, u < n → P u = true → Int32.toInt (zMn f P n i) ≤ Int32.toInt (f u) := by
  induction n with
  | zero => intro u hu _; omega
  | succ n ih =>
    intro u hu hp
    rw [zMn_1]
    by_cases z : u = n
    · by_cases q : P n = true ∧ Int32.toInt (f n) < Int32.toInt (zMn f P n i)
      · rw [if_pos q, z]; exact Int.le_refl _
      · rw [if_neg q]
        rw [z] at hp ⊢
        have : ¬ Int32.toInt (f n) < Int32.toInt (zMn f P n i) := fun w => q ⟨hp, w⟩
        omega
    · have h1 := ih u (by omega) hp
      by_cases q : P n = true ∧ Int32.toInt (f n) < Int32.toInt (zMn f P n i)
      · rw [if_pos q]; have := q.2; omega
      · rw [if_neg q]; exact h1
theorem zMn_ex {f : Nat → Int32} {P : Nat → Bool} {i : Int32} (n : Nat) : zMn f P n i = i ∨ ∃ u : Nat, u < n ∧ P u = true ∧ zMn f P n i = f u := by
  induction n with
  | zero => exact Or.inl rfl
  | succ n ih =>
    rw [zMn_1]
    by_cases q : P n = true ∧ Int32.toInt (f n) < Int32.toInt (zMn f P n i)
    · rw [if_pos q]; exact Or.inr ⟨n, by omega, q.1, rfl⟩
    · rw [if_neg q]
      rcases ih with h | ⟨u, h1, h2, h3⟩
      · exact Or.inl h
      · exact Or.inr ⟨u, by omega, h2, h3⟩
/-- two sums that differ by K have leasts that do -/
theorem zMn_sh {f g : Nat → Int32} {P : Nat → Bool} {i : Int32} {K : Int} (n : Nat) (hK : 0 ≤ K) (hm : ∃ u : Nat, u < n ∧ P u = true) (h : ∀ u : Nat, u < n → P u = true → Int32.toInt (g u) = Int32.toInt (f u) + K ∧ Int32.toInt (f u) + K < Int32.toInt i) : Int32.toInt (zMn g P n i) = Int32.toInt (zMn f P n i) + K := by
  obtain ⟨a, ha, hpa⟩ := hm
  have ka := h a ha hpa
  have ga := zMn_lm (f := g) (P := P) (i := i) n a ha hpa
  have fa := zMn_lm (f := f) (P := P) (i := i) n a ha hpa
  rcases zMn_ex (f := g) (P := P) (i := i) n with q | ⟨u, hu, hpu, eu⟩
  · rw [q] at ga; omega
  · rcases zMn_ex (f := f) (P := P) (i := i) n with q | ⟨v, hv, hpv, ev⟩
    · rw [q] at fa; omega
    · have ku := h u hu hpu
      have kv := h v hv hpv
      have g1 := zMn_lm (f := g) (P := P) (i := i) n v hv hpv
      have f1 := zMn_lm (f := f) (P := P) (i := i) n u hu hpu
      rw [eu] at g1 ⊢
      rw [ev] at f1 ⊢
      omega
/-! the fewest minutes by the last visit -/
def zSq (o : Nat → Int32) (w : Nat → Nat → Int32) (d : Nat → Int32) (n : Nat) (B : Nat → Int32) (r v : Nat) : Int32 := (if r = 0 then o v else zMn (fun u => B u + w u v) (fun u => r.testBit u) n 1000000) + d v
def zT (o : Nat → Int32) (w : Nat → Nat → Int32) (d : Nat → Int32) (n : Nat) : Nat → Nat → Nat → Int32
  | 0, _, _ => 1000000
  | f + 1, s, v => if s.testBit v = true then zSq o w d n (fun u => zT o w d n f (s ^^^ 2 ^ v) u) (s ^^^ 2 ^ v) v else 1000000
theorem zXb (s v u : Nat) : (s ^^^ 2 ^ v).testBit u = (s.testBit u ^^ decide (v = u)) := by rw [Nat.testBit_xor, Nat.testBit_two_pow]
theorem zLb {x y i : Nat} (hx : x.testBit i = false) (hy : y.testBit i = true) (h : ∀ j : Nat, i < j → x.testBit j = y.testBit j) : x < y := by
  have e : x / 2 ^ i / 2 = y / 2 ^ i / 2 := Nat.eq_of_testBit_eq (fun j => by
    rw [Nat.div_div_eq_div_mul, Nat.div_div_eq_div_mul, ← Nat.pow_succ, Nat.testBit_div_two_pow, Nat.testBit_div_two_pow]
    exact h _ (by omega))
  rw [Nat.testBit_eq_decide_div_mod_eq] at hx hy
  have h1 := of_decide_eq_false hx
  have h2 := of_decide_eq_true hy
  have h3 : x / 2 ^ i < y / 2 ^ i := by
    generalize x / 2 ^ i = a at *
    generalize y / 2 ^ i = b at *
    omega
  exact Nat.lt_of_div_lt_div h3
theorem zXl {s v : Nat} (h : s.testBit v = true) : s ^^^ 2 ^ v < s := zLb (i := v) (by rw [zXb, h]; simp) h (fun j hj => by rw [zXb, show decide (v = j) = false from decide_eq_false (by omega)]; simp)
theorem zX0 {s v : Nat} (h : s.testBit v = true) : s ≠ 0 := fun e => by rw [e, Nat.zero_testBit] at h; cases h
theorem zT_f (o : Nat → Int32) (w : Nat → Nat → Int32) (d : Nat → Int32) (n : Nat) : ∀ f f' s v : Nat, s ≤ f → s ≤ f' → zT o w d n f s v = zT o w d n f' s v := by
  intro f
  induction f with
  | zero =>
    intro f' s v h _
    rw [show s = 0 by omega]
    cases f' with
    | zero => rfl
    | succ f' =>
      show (1000000 : Int32) = if (0 : Nat).testBit v = true then _ else 1000000
      rw [if_neg (fun z => zX0 z rfl)]
  | succ f ih =>
    intro f' s v h h'
    cases f' with
    | zero =>
      rw [show s = 0 by omega]
      show (if (0 : Nat).testBit v = true then _ else 1000000) = (1000000 : Int32)
      rw [if_neg (fun z => zX0 z rfl)]
    | succ f' =>
      by_cases q : s.testBit v = true
      · have hl := zXl q
        show (if s.testBit v = true then zSq o w d n (fun u => zT o w d n f (s ^^^ 2 ^ v) u) (s ^^^ 2 ^ v) v else 1000000) = (if s.testBit v = true then zSq o w d n (fun u => zT o w d n f' (s ^^^ 2 ^ v) u) (s ^^^ 2 ^ v) v else 1000000)
        rw [if_pos q, if_pos q, show (fun u => zT o w d n f (s ^^^ 2 ^ v) u) = (fun u => zT o w d n f' (s ^^^ 2 ^ v) u) from funext (fun u => ih f' _ u (by omega) (by omega))]
      · show (if s.testBit v = true then _ else 1000000) = (if s.testBit v = true then _ else (1000000 : Int32))
        rw [if_neg q, if_neg q]
theorem zT_1 {o : Nat → Int32} {w : Nat → Nat → Int32} {d : Nat → Int32} {n s v : Nat} (h : s.testBit v = true) : zT o w d n s s v = zSq o w d n (fun u => zT o w d n (s ^^^ 2 ^ v) (s ^^^ 2 ^ v) u) (s ^^^ 2 ^ v) v := by
  have hl := zXl h
  rw [zT_f o w d n s ((s - 1) + 1) s v (by omega) (by omega)]
  show (if s.testBit v = true then zSq o w d n (fun u => zT o w d n (s - 1) (s ^^^ 2 ^ v) u) (s ^^^ 2 ^ v) v else 1000000) = _
  rw [if_pos h, show (fun u => zT o w d n (s - 1) (s ^^^ 2 ^ v) u) = (fun u => zT o w d n (s ^^^ 2 ^ v) (s ^^^ 2 ^ v) u) from funext (fun u => zT_f o w d n _ _ _ u (by omega) (by omega))]
theorem zT_n {o : Nat → Int32} {w : Nat → Nat → Int32} {d : Nat → Int32} {n s v : Nat} (h : ¬ s.testBit v = true) : zT o w d n s s v = 1000000 := by
  rw [zT_f o w d n s (s + 1) s v (by omega) (by omega)]
  show (if s.testBit v = true then _ else 1000000) = (1000000 : Int32)
  rw [if_neg h]
theorem zTb {r n u : Nat} (hr : r < 2 ^ n) (hu : n ≤ u) : ¬ r.testBit u = true := fun z => by
  rw [Nat.testBit_lt_two_pow (Nat.lt_of_lt_of_le hr (Nat.pow_le_pow_right (by decide) hu))] at z
  cases z
theorem zSt_c {o o' : Nat → Int32} {w w' : Nat → Nat → Int32} {d B B' : Nat → Int32} {n r v : Nat} (ho : o v = o' v) (h : ∀ u : Nat, u < n → r.testBit u = true → B u + w u v = B' u + w' u v) : zSq o w d n B r v = zSq o' w' d n B' r v := by
  unfold zSq
  rw [ho, zMn_c n (fun u hu hp => h u hu hp)]
theorem zSt_9 {o : Nat → Int32} {w : Nat → Nat → Int32} {d B : Nat → Int32} {n m r v : Nat} (hr : r < 2 ^ n) (hn : n ≤ m) : zSq o w d m B r v = zSq o w d n B r v := by
  unfold zSq
  obtain ⟨k, rfl⟩ : ∃ k : Nat, m = n + k := ⟨m - n, by omega⟩
  rw [zMn_x n k (fun u h1 _ => zTb hr h1)]
def zGd (o : Nat → Int32) (w : Nat → Nat → Int32) (d : Nat → Int32) (n : Nat) (F : Nat → Int32) (S : Nat) : Prop := ∀ s v : Nat, s < S → v < n → s.testBit v = true → F (9 * s + v) = zT o w d n s s v
def zFw (O W D F : Nat → Int32) (n s : Nat) : Int32 := zMn (fun l => zSq O (fun u v => W (9 * u + v)) D 9 (fun u => F (9 * (s ^^^ 2 ^ l) + u)) (s ^^^ 2 ^ l) l + O l) (fun l => s.testBit l) n 1000000
def zRz (O W D F G : Nat → Int32) (n s : Nat) : Prop := (∀ j : Nat, (j < 9 * s ∨ 9 * s + 9 ≤ j) → G j = F j) ∧ ∀ l : Nat, l < n → s.testBit l = true → G (9 * s + l) = zSq O (fun u v => W (9 * u + v)) D 9 (fun u => F (9 * (s ^^^ 2 ^ l) + u)) (s ^^^ 2 ^ l) l
def zFe (o : Nat → Int32) (w : Nat → Nat → Int32) (d : Nat → Int32) (n s : Nat) : Int32 := zMn (fun l => zT o w d n s s l + o l) (fun l => s.testBit l) n 1000000
theorem zFw_s {O W D F o : Nat → Int32} {w : Nat → Nat → Int32} {n s l : Nat} (hn : n ≤ 9) (hs : s < 2 ^ n) (hO : ∀ v : Nat, v < n → O v = o v) (hW : ∀ u v : Nat, u < n → v < n → W (9 * u + v) = w u v) (hF : zGd o w D n F s) (hl : l < n) (hb : s.testBit l = true) : zSq O (fun u v => W (9 * u + v)) D 9 (fun u => F (9 * (s ^^^ 2 ^ l) + u)) (s ^^^ 2 ^ l) l = zT o w D n s s l := by
  have h1 := zXl hb
  rw [zSt_9 (n := n) (by omega) hn, zT_1 hb]
  exact zSt_c (hO l hl) (fun u hu hp => by rw [hW u l hu hl, hF _ u h1 hu hp])
theorem zFw_c {O W D F o : Nat → Int32} {w : Nat → Nat → Int32} {n s : Nat} (hn : n ≤ 9) (hs : s < 2 ^ n) (hO : ∀ v : Nat, v < n → O v = o v) (hW : ∀ u v : Nat, u < n → v < n → W (9 * u + v) = w u v) (hF : zGd o w D n F s) : zFw O W D F n s = zFe o w D n s := by
  unfold zFw zFe
  exact zMn_c n (fun l hl hb => by rw [zFw_s hn hs hO hW hF hl hb, hO l hl])
theorem zRw_g {O W D F G o : Nat → Int32} {w : Nat → Nat → Int32} {n s : Nat} (hn : n ≤ 9) (hs : s < 2 ^ n) (hO : ∀ v : Nat, v < n → O v = o v) (hW : ∀ u v : Nat, u < n → v < n → W (9 * u + v) = w u v) (hF : zGd o w D n F s) (hG : zRz O W D F G n s) : zGd o w D n G (s + 1) := by
  intro t v ht hv hb
  by_cases z : t = s
  · rw [z] at hb ⊢
    rw [hG.2 v hv hb]
    exact zFw_s hn hs hO hW hF hv hb
  · rw [hG.1 (9 * t + v) (Or.inl (by omega))]
    exact hF t v (by omega) hv hb
/-! bits -/
theorem zX_all : (List.range 512).all (fun s => (List.range 9).all (fun l => decide (Int32.toInt (Int32.ofNat s ^^^ ((1 : Int32) <<< (Int32.ofNat l &&& 31))) = ((s ^^^ 2 ^ l : Nat) : Int)) && decide (Int32.toInt (Int32.ofNat s &&& (((1 : Int32) <<< (Int32.ofNat l &&& 31)) ^^^ (-1 : Int32))) = ((s &&& (511 ^^^ 2 ^ l) : Nat) : Int)))) = true := by decide +kernel
theorem zH_all : (List.range 512).all (fun s => decide (Int32.toInt (Int32.ofNat s >>> ((1 : Int32) &&& 31)) = ((s / 2 : Nat) : Int)) && decide (Int32.toInt (Int32.ofNat s &&& (1 : Int32)) = ((s % 2 : Nat) : Int))) = true := by decide +kernel
theorem zXr {s l : Int32} (hs : 0 ≤ Int32.toInt s ∧ Int32.toInt s ≤ 511) (hl : 0 ≤ Int32.toInt l ∧ Int32.toInt l ≤ 8) : Int32.toInt (s ^^^ ((1 : Int32) <<< (l &&& 31))) = ((Int32.toNatClampNeg s ^^^ 2 ^ Int32.toNatClampNeg l : Nat) : Int) ∧ Int32.toInt (s &&& (((1 : Int32) <<< (l &&& 31)) ^^^ (-1 : Int32))) = ((Int32.toNatClampNeg s &&& (511 ^^^ 2 ^ Int32.toNatClampNeg l) : Nat) : Int) := by
  have c := z_cl hs.1
  have c2 := z_cl hl.1
  have h := List.all_eq_true.mp (List.all_eq_true.mp zX_all (Int32.toNatClampNeg s) (List.mem_range.mpr (by omega))) (Int32.toNatClampNeg l) (List.mem_range.mpr (by omega))
  rw [zi_ofN hs.1, zi_ofN hl.1, Bool.and_eq_true] at h
  exact ⟨of_decide_eq_true h.1, of_decide_eq_true h.2⟩
theorem zXi {s l r : Int32} (hs : 0 ≤ Int32.toInt s ∧ Int32.toInt s ≤ 511) (hl : 0 ≤ Int32.toInt l ∧ Int32.toInt l ≤ 8) (e : r = (s ^^^ ((1 : Int32) <<< (l &&& 31)))) : Int32.toNatClampNeg r = Int32.toNatClampNeg s ^^^ 2 ^ Int32.toNatClampNeg l := by
  have h := (zXr hs hl).1
  rw [← e] at h
  have c := z_cl (x := r) (by omega)
  omega
theorem zXn {s v : Nat} (h : ¬ s.testBit v = true) : s < s ^^^ 2 ^ v := zLb (i := v) (by simpa using h) (by rw [zXb, show s.testBit v = false by simpa using h]; simp) (fun j hj => by rw [zXb, show decide (v = j) = false from decide_eq_false (by omega)]; simp)
/-- it is in the set, or not, by what the class asks -/
theorem zXy {s l r : Int32} (hs : 0 ≤ Int32.toInt s ∧ Int32.toInt s ≤ 511) (hl : 0 ≤ Int32.toInt l ∧ Int32.toInt l ≤ 8) (e : r = (s ^^^ ((1 : Int32) <<< (l &&& 31)))) (h : Int32.toInt r ≤ Int32.toInt s) : (Int32.toNatClampNeg s).testBit (Int32.toNatClampNeg l) = true := by
  have h1 := (zXr hs hl).1
  rw [← e] at h1
  have c := z_cl hs.1
  refine Classical.byContradiction (fun z => ?_)
  have h2 := zXn z
  omega
theorem zXo {s l r : Int32} (hs : 0 ≤ Int32.toInt s ∧ Int32.toInt s ≤ 511) (hl : 0 ≤ Int32.toInt l ∧ Int32.toInt l ≤ 8) (e : r = (s ^^^ ((1 : Int32) <<< (l &&& 31)))) (h : ¬ Int32.toInt r ≤ Int32.toInt s) : ¬ (Int32.toNatClampNeg s).testBit (Int32.toNatClampNeg l) = true := fun z => by
  have h1 := (zXr hs hl).1
  rw [← e] at h1
  have c := z_cl hs.1
  have h2 := zXl z
  omega
theorem zHb {b b' : Int32} {R v : Nat} (hb : Int32.toInt b = ((R / 2 ^ v : Nat) : Int)) (hR : R ≤ 511) (e : b' = (b >>> ((1 : Int32) &&& 31))) : Int32.toInt b' = ((R / 2 ^ (v + 1) : Nat) : Int) := by
  have h0 := Nat.div_le_self R (2 ^ v)
  rw [Nat.pow_succ, ← Nat.div_div_eq_div_mul]
  generalize R / 2 ^ v = Q at *
  have c := z_cl (x := b) (by omega)
  have h := List.all_eq_true.mp zH_all (Int32.toNatClampNeg b) (List.mem_range.mpr (by omega))
  rw [zi_ofN (by omega), Bool.and_eq_true] at h
  have h1 := of_decide_eq_true h.1
  have h2 : Int32.toNatClampNeg b = Q := by omega
  rw [e, h1, h2]
theorem zHt {b x : Int32} {R v : Nat} (hb : Int32.toInt b = ((R / 2 ^ v : Nat) : Int)) (hR : R ≤ 511) (e : x = (b &&& (1 : Int32))) : (Int32.toInt x = 1 ↔ R.testBit v = true) := by
  have h0 := Nat.div_le_self R (2 ^ v)
  rw [Nat.testBit_eq_decide_div_mod_eq]
  generalize R / 2 ^ v = Q at *
  have c := z_cl (x := b) (by omega)
  have h := List.all_eq_true.mp zH_all (Int32.toNatClampNeg b) (List.mem_range.mpr (by omega))
  rw [zi_ofN (by omega), Bool.and_eq_true] at h
  have h1 := of_decide_eq_true h.2
  have h2 : Int32.toNatClampNeg b = Q := by omega
  rw [e, h1, h2]
  constructor
  · intro z; exact decide_eq_true (by omega)
  · intro z; have z2 := of_decide_eq_true z; omega
/-- the class's inner loop is through -/
theorem zSt_e {O W D F G : Nat → Int32} {s l r v b i bits m : Int32} (hs : 0 ≤ Int32.toInt s ∧ Int32.toInt s ≤ 511) (hl : 0 ≤ Int32.toInt l ∧ Int32.toInt l ≤ 8) (hr : r = (s ^^^ ((1 : Int32) <<< (l &&& 31)))) (hle : Int32.toInt r ≤ Int32.toInt s) (hG : ∀ j : Nat, (j < 9 * Int32.toNatClampNeg s ∨ 9 * Int32.toNatClampNeg s + 9 ≤ j) → G j = F j) (h : b = zMn (fun u => G (9 * Int32.toNatClampNeg r + u) + W (9 * u + Int32.toNatClampNeg l)) (fun u => (Int32.toNatClampNeg r).testBit u) (Int32.toNatClampNeg v) i) (hb : Int32.toInt bits = ((Int32.toNatClampNeg r / 2 ^ Int32.toNatClampNeg v : Nat) : Int)) (hv : 0 ≤ Int32.toInt v ∧ Int32.toInt v ≤ 9) (hx : Int32.toInt v = 9 ∨ Int32.toInt bits = 0) (hi : (Int32.toInt r = 0 ∧ i = O (Int32.toNatClampNeg l)) ∨ (Int32.toInt r ≠ 0 ∧ i = 1000000)) (hm : m = (b + D (Int32.toNatClampNeg l))) : m = zSq O (fun u v => W (9 * u + v)) D 9 (fun u => F (9 * (Int32.toNatClampNeg s ^^^ 2 ^ Int32.toNatClampNeg l) + u)) (Int32.toNatClampNeg s ^^^ 2 ^ Int32.toNatClampNeg l) (Int32.toNatClampNeg l) := by
  have hy := zXy hs hl hr hle
  have hR := zXi hs hl hr
  have hlt := zXl hy
  have cv := z_cl hv.1
  have h9 : b = zMn (fun u => G (9 * Int32.toNatClampNeg r + u) + W (9 * u + Int32.toNatClampNeg l)) (fun u => (Int32.toNatClampNeg r).testBit u) 9 i := by
    rcases hx with hx | hx
    · rw [show Int32.toNatClampNeg v = 9 by omega] at h; exact h
    · have h0 : Int32.toNatClampNeg r / 2 ^ Int32.toNatClampNeg v = 0 := by omega
      have hp : 0 < 2 ^ Int32.toNatClampNeg v := Nat.pos_of_ne_zero (Nat.ne_of_gt (Nat.pow_pos (by decide)))
      have h1 : Int32.toNatClampNeg r < 2 ^ Int32.toNatClampNeg v := by
        rcases Nat.div_eq_zero_iff.mp h0 with z | z
        · omega
        · exact z
      have h2 := zMn_x (f := fun u => G (9 * Int32.toNatClampNeg r + u) + W (9 * u + Int32.toNatClampNeg l)) (P := fun u => (Int32.toNatClampNeg r).testBit u) (i := i) (Int32.toNatClampNeg v) (9 - Int32.toNatClampNeg v) (fun u z _ => zTb h1 z)
      rw [show Int32.toNatClampNeg v + (9 - Int32.toNatClampNeg v) = 9 by omega] at h2
      rw [h2]; exact h
  rw [hm]
  unfold zSq
  rw [← hR] at hlt ⊢
  have e : (fun u => F (9 * Int32.toNatClampNeg r + u) + W (9 * u + Int32.toNatClampNeg l)) = fun u => F (9 * Int32.toNatClampNeg r + u) + W (9 * u + Int32.toNatClampNeg l) := rfl
  have h10 : b = zMn (fun u => F (9 * Int32.toNatClampNeg r + u) + W (9 * u + Int32.toNatClampNeg l)) (fun u => (Int32.toNatClampNeg r).testBit u) 9 i := h9.trans (zMn_c 9 (fun u hu _ => by
    show G (9 * Int32.toNatClampNeg r + u) + _ = F (9 * Int32.toNatClampNeg r + u) + _
    rw [hG (9 * Int32.toNatClampNeg r + u) (Or.inl (by omega))]))
  rcases hi with ⟨z, e2⟩ | ⟨z, e2⟩
  · have z2 : Int32.toNatClampNeg r = 0 := by
      have := z_cl (x := r) (by omega)
      omega
    have h11 := zMn_x (f := fun u => F (9 * Int32.toNatClampNeg r + u) + W (9 * u + Int32.toNatClampNeg l)) (P := fun u => (Int32.toNatClampNeg r).testBit u) (i := i) 0 9 (fun u _ _ => by rw [z2, Nat.zero_testBit]; decide)
    have h12 : b = i := h10.trans h11
    rw [if_pos z2, h12, e2]
  · have z2 : ¬ Int32.toNatClampNeg r = 0 := fun z3 => by
      have h1 := (zXr hs hl).1
      rw [← hr] at h1
      have := z_cl (x := r) (by omega)
      omega
    rw [if_neg z2, h10, e2]
/-- the class's loop over the last -/
theorem zRz_0 {O W D F : Nat → Int32} {s : Nat} : zRz O W D F F (Int32.toNatClampNeg (0 : Int32)) s := ⟨fun _ _ => rfl, fun l hl => by rw [zN0] at hl; omega⟩
theorem zFw_0 {O W D F : Nat → Int32} {s : Nat} : (1000000 : Int32) = zFw O W D F (Int32.toNatClampNeg (0 : Int32)) s := by rw [zN0]; rfl
theorem zRw_n {O W D F G : Nat → Int32} {k k' : Int32} {s : Nat} (h : zRz O W D F G (Int32.toNatClampNeg k) s) (e : Int32.toNatClampNeg k' = Int32.toNatClampNeg k + 1) (hn : ¬ s.testBit (Int32.toNatClampNeg k) = true) : zRz O W D F G (Int32.toNatClampNeg k') s := ⟨h.1, fun l hl hb => by
  by_cases z : l = Int32.toNatClampNeg k
  · rw [z] at hb; exact absurd hb hn
  · exact h.2 l (by omega) hb⟩
theorem zRw_y {O W D F G G' : Nat → Int32} {k k' m : Int32} {s : Nat} (h : zRz O W D F G (Int32.toNatClampNeg k) s) (hk : 0 ≤ Int32.toInt k ∧ Int32.toInt k ≤ 8) (e : Int32.toNatClampNeg k' = Int32.toNatClampNeg k + 1) (hm : m = zSq O (fun u v => W (9 * u + v)) D 9 (fun u => F (9 * (s ^^^ 2 ^ Int32.toNatClampNeg k) + u)) (s ^^^ 2 ^ Int32.toNatClampNeg k) (Int32.toNatClampNeg k)) (eG : G' = upd G (9 * s + Int32.toNatClampNeg k) m) : zRz O W D F G' (Int32.toNatClampNeg k') s := by
  have c := z_cl hk.1
  refine ⟨fun j hj => ?_, fun l hl hb => ?_⟩
  · rw [eG, pk_un (by omega)]; exact h.1 j hj
  · by_cases z : l = Int32.toNatClampNeg k
    · rw [eG, z, pk_us]; exact hm
    · rw [eG, pk_un (by omega)]; exact h.2 l (by omega) hb
theorem zFw_n {O W D F : Nat → Int32} {k k' b : Int32} {s : Nat} (h : b = zFw O W D F (Int32.toNatClampNeg k) s) (e : Int32.toNatClampNeg k' = Int32.toNatClampNeg k + 1) (hn : ¬ s.testBit (Int32.toNatClampNeg k) = true) : b = zFw O W D F (Int32.toNatClampNeg k') s := zMn_n h e hn
theorem zFw_y {O W D F : Nat → Int32} {k k' b b' m x : Int32} {s : Nat} (h : b = zFw O W D F (Int32.toNatClampNeg k) s) (e : Int32.toNatClampNeg k' = Int32.toNatClampNeg k + 1) (hp : s.testBit (Int32.toNatClampNeg k) = true) (hm : m = zSq O (fun u v => W (9 * u + v)) D 9 (fun u => F (9 * (s ^^^ 2 ^ Int32.toNatClampNeg k) + u)) (s ^^^ 2 ^ Int32.toNatClampNeg k) (Int32.toNatClampNeg k)) (hx : x = (m + O (Int32.toNatClampNeg k))) (hb : (Int32.toInt b' = Int32.toInt b ∧ Int32.toInt b ≤ Int32.toInt x) ∨ (Int32.toInt b' = Int32.toInt x ∧ Int32.toInt x ≤ Int32.toInt b)) : b' = zFw O W D F (Int32.toNatClampNeg k') s := zMn_y h e hp (by rw [hx, hm]) hb
/-! the best of the sets -/
def zRb (fw wo : Nat → Int32) (nn : Int32) : Nat → Int32 × Int32 × Int32
  | 0 => (0, 0, 0)
  | k + 1 => if k ≠ 0 ∧ Int32.toInt (fw k) ≤ Int32.toInt nn ∧ (Int32.toInt (zRb fw wo nn k).2.1 < Int32.toInt (wo k) ∨ (Int32.toInt (zRb fw wo nn k).2.1 = Int32.toInt (wo k) ∧ Int32.toInt (fw k) < Int32.toInt (zRb fw wo nn k).2.2)) then (Int32.ofNat k, wo k, fw k) else zRb fw wo nn k
theorem zRb_1 (fw wo : Nat → Int32) (nn : Int32) (k : Nat) : zRb fw wo nn (k + 1) = if k ≠ 0 ∧ Int32.toInt (fw k) ≤ Int32.toInt nn ∧ (Int32.toInt (zRb fw wo nn k).2.1 < Int32.toInt (wo k) ∨ (Int32.toInt (zRb fw wo nn k).2.1 = Int32.toInt (wo k) ∧ Int32.toInt (fw k) < Int32.toInt (zRb fw wo nn k).2.2)) then (Int32.ofNat k, wo k, fw k) else zRb fw wo nn k := rfl
theorem zRb_c {fw fw' wo wo' : Nat → Int32} {nn : Int32} (n : Nat) (h : ∀ k : Nat, k ≠ 0 → k < n → fw k = fw' k ∧ wo k = wo' k) : zRb fw wo nn n = zRb fw' wo' nn n := by
  induction n with
  | zero => rfl
  | succ n ih =>
    rw [zRb_1, zRb_1, ih (fun k h0 hk => h k h0 (by omega))]
    by_cases z : n = 0
    · rw [if_neg (fun q => q.1 z), if_neg (fun q => q.1 z)]
    · rw [(h n z (by omega)).1, (h n z (by omega)).2]
theorem zRb_0 {fw wo : Nat → Int32} {nn : Int32} : ((0 : Int32), (0 : Int32), (0 : Int32)) = zRb fw wo nn (Int32.toNatClampNeg (1 : Int32)) := by
  rw [show Int32.toNatClampNeg (1 : Int32) = 0 + 1 by decide, zRb_1, if_neg (fun q => q.1 rfl)]
  rfl
theorem zRb_n {fw wo : Nat → Int32} {nn a b c k k' f g : Int32} (h : (a, b, c) = zRb fw wo nn (Int32.toNatClampNeg k)) (e : Int32.toNatClampNeg k' = Int32.toNatClampNeg k + 1) (hf : f = fw (Int32.toNatClampNeg k)) (hn : Int32.toInt nn < Int32.toInt f ∨ (g = wo (Int32.toNatClampNeg k) ∧ (Int32.toInt g < Int32.toInt b ∨ (Int32.toInt g = Int32.toInt b ∧ Int32.toInt c ≤ Int32.toInt f)))) : (a, b, c) = zRb fw wo nn (Int32.toNatClampNeg k') := by
  rw [e, zRb_1, if_neg ?_]
  · exact h
  · rw [← h, ← hf]
    intro q
    have q1 := q.2.1
    have q2 : Int32.toInt b < Int32.toInt (wo (Int32.toNatClampNeg k)) ∨ (Int32.toInt b = Int32.toInt (wo (Int32.toNatClampNeg k)) ∧ Int32.toInt f < Int32.toInt c) := q.2.2
    rcases hn with hn | ⟨hg, hn⟩
    · omega
    · rw [← hg] at q2
      omega
theorem zRb_y {fw wo : Nat → Int32} {nn a b c k k' f g : Int32} (h : (a, b, c) = zRb fw wo nn (Int32.toNatClampNeg k)) (hk : 1 ≤ Int32.toInt k) (e : Int32.toNatClampNeg k' = Int32.toNatClampNeg k + 1) (hf : f = fw (Int32.toNatClampNeg k)) (hg : g = wo (Int32.toNatClampNeg k)) (h1 : Int32.toInt f ≤ Int32.toInt nn) (h2 : Int32.toInt b < Int32.toInt g ∨ (Int32.toInt b = Int32.toInt g ∧ Int32.toInt f < Int32.toInt c)) : (k, g, f) = zRb fw wo nn (Int32.toNatClampNeg k') := by
  have ck := z_cl (x := k) (by omega)
  rw [e, zRb_1, ← h, ← hf, ← hg, if_pos ⟨by omega, h1, h2⟩, zi_ofN (by omega)]
noncomputable def rdA (B : Int32 × Int32 × Int32) (x y n w : Int32) : Int := @ite Int (0 ≤ Int32.toInt x ∧ Int32.toInt x ≤ 99 ∧ 0 ≤ Int32.toInt y ∧ Int32.toInt y ≤ 99 ∧ 0 ≤ Int32.toInt n ∧ Int32.toInt n ≤ 2000 ∧ 0 ≤ Int32.toInt w ∧ Int32.toInt w ≤ 2) (Classical.propDecidable _) (if Int32.toInt w = 0 then Int32.toInt B.1 else if Int32.toInt w = 1 then Int32.toInt B.2.1 else Int32.toInt B.2.2) (-1)
theorem rdA_0 {B : Int32 × Int32 × Int32} {x y n w : Int32} {z : Int} (h : ¬ (0 ≤ Int32.toInt x ∧ Int32.toInt x ≤ 99 ∧ 0 ≤ Int32.toInt y ∧ Int32.toInt y ≤ 99 ∧ 0 ≤ Int32.toInt n ∧ Int32.toInt n ≤ 2000 ∧ 0 ≤ Int32.toInt w ∧ Int32.toInt w ≤ 2)) (e : z = -1) : z = rdA B x y n w := by unfold rdA; rw [if_neg h, e]
theorem rdA_1 {B : Int32 × Int32 × Int32} {a b c x y n w r : Int32} (h : 0 ≤ Int32.toInt x ∧ Int32.toInt x ≤ 99 ∧ 0 ≤ Int32.toInt y ∧ Int32.toInt y ≤ 99 ∧ 0 ≤ Int32.toInt n ∧ Int32.toInt n ≤ 2000 ∧ 0 ≤ Int32.toInt w ∧ Int32.toInt w ≤ 2) (e : (a, b, c) = B) (hr : (Int32.toInt w = 0 ∧ r = a) ∨ (Int32.toInt w = 1 ∧ r = b) ∨ (Int32.toInt w = 2 ∧ r = c)) : Int32.toInt r = rdA B x y n w := by
  unfold rdA
  rw [if_pos h, ← e]
  rcases hr with ⟨q, z⟩ | ⟨q, z⟩ | ⟨q, z⟩
  · rw [if_pos q, z]
  · rw [if_neg (by omega), if_pos q, z]
  · rw [if_neg (by omega), if_neg (by omega), z]
theorem rdA_c {B B' : Int32 × Int32 × Int32} {x y n w : Int32} (h : (0 ≤ Int32.toInt x ∧ Int32.toInt x ≤ 99 ∧ 0 ≤ Int32.toInt y ∧ Int32.toInt y ≤ 99 ∧ 0 ≤ Int32.toInt n ∧ Int32.toInt n ≤ 2000 ∧ 0 ≤ Int32.toInt w ∧ Int32.toInt w ≤ 2) → B = B') : rdA B x y n w = rdA B' x y n w := by
  by_cases q : 0 ≤ Int32.toInt x ∧ Int32.toInt x ≤ 99 ∧ 0 ≤ Int32.toInt y ∧ Int32.toInt y ≤ 99 ∧ 0 ≤ Int32.toInt n ∧ Int32.toInt n ≤ 2000 ∧ 0 ≤ Int32.toInt w ∧ Int32.toInt w ≤ 2
  · rw [h q]
  · unfold rdA; rw [if_neg q, if_neg q]
/-! ways -/
def zAb (x : Int32) : Int32 := if 0 ≤ x then x else 0 - x
theorem zAb_i {x : Int32} (h : -99 ≤ Int32.toInt x ∧ Int32.toInt x ≤ 99) : (0 ≤ Int32.toInt x ∧ Int32.toInt (zAb x) = Int32.toInt x) ∨ (Int32.toInt x < 0 ∧ Int32.toInt (zAb x) = -Int32.toInt x) := by
  unfold zAb
  by_cases q : (0 : Int32) ≤ x
  · rw [if_pos q]
    have := Int32.le_iff_toInt_le.mp q
    have e0 : Int32.toInt (0 : Int32) = 0 := by decide
    exact Or.inl ⟨by omega, rfl⟩
  · rw [if_neg q]
    have e0 : Int32.toInt (0 : Int32) = 0 := by decide
    have : ¬ (0 : Int) ≤ Int32.toInt x := fun z => q (Int32.le_iff_toInt_le.mpr (by omega))
    have e : Int32.toInt (0 - x) = 0 - Int32.toInt x := zi_subc e0 rfl (by omega)
    exact Or.inr ⟨by omega, by omega⟩
theorem zAb_2 {r a b : Int32} (ha : -99 ≤ Int32.toInt a ∧ Int32.toInt a ≤ 99) (hb : -99 ≤ Int32.toInt b ∧ Int32.toInt b ≤ 99) (h : (0 ≤ Int32.toInt a ∧ 0 ≤ Int32.toInt b ∧ Int32.toInt r = Int32.toInt a + Int32.toInt b) ∨ (0 ≤ Int32.toInt a ∧ Int32.toInt b < 0 ∧ Int32.toInt r = Int32.toInt a - Int32.toInt b) ∨ (Int32.toInt a < 0 ∧ 0 ≤ Int32.toInt b ∧ Int32.toInt r = Int32.toInt b - Int32.toInt a) ∨ (Int32.toInt a < 0 ∧ Int32.toInt b < 0 ∧ Int32.toInt r = -Int32.toInt a - Int32.toInt b)) : r = zAb a + zAb b := by
  have h1 := zAb_i ha
  have h2 := zAb_i hb
  have e : Int32.toInt (zAb a + zAb b) = Int32.toInt (zAb a) + Int32.toInt (zAb b) := zi_addc rfl rfl (by omega)
  exact Int32.toInt_inj.mp (by omega)
def zWo (X Y C : Nat → Int32) (v : Nat) (x y : Int32) : Int32 := zAb (X (Int32.toNatClampNeg (C v)) - x) + zAb (Y (Int32.toNatClampNeg (C v)) - y)
def zMo (F : Nat → Int32) (v : Nat) (x y : Int32) : Int32 := zAb (F (23 + 17 * Int32.toNatClampNeg (F (6998 + 3 * v))) - x) + zAb (F (24 + 17 * Int32.toNatClampNeg (F (6998 + 3 * v))) - y)
def zWu (X Y C : Nat → Int32) (u v : Nat) : Int32 := zWo X Y C v (X (Int32.toNatClampNeg (C u))) (Y (Int32.toNatClampNeg (C u)))
def zMu (F : Nat → Int32) (u v : Nat) : Int32 := zMo F u (F (23 + 17 * Int32.toNatClampNeg (F (6998 + 3 * v)))) (F (24 + 17 * Int32.toNatClampNeg (F (6998 + 3 * v))))
/-! the ways noted -/
def zOg (f : Nat → Int32) (O : Nat → Int32) (k : Nat) : Prop := ∀ j : Nat, j < k → O j = f j
def zWg (g : Nat → Nat → Int32) (W : Nat → Int32) (n k m : Nat) : Prop := (∀ u v : Nat, u < k → v < n → W (9 * u + v) = g u v) ∧ ∀ v : Nat, v < m → W (9 * k + v) = g k v
theorem zOg_0 {f O : Nat → Int32} : zOg f O (Int32.toNatClampNeg (0 : Int32)) := fun j hj => by
  rw [zN0] at hj
  exact absurd hj (Nat.not_lt_zero j)
theorem zOg_s {f O O' : Nat → Int32} {k k' v : Int32} (h : zOg f O (Int32.toNatClampNeg k)) (hk : Int32.toNatClampNeg k' = Int32.toNatClampNeg k + 1) (e : O' = upd O (Int32.toNatClampNeg k) v) (hv : v = f (Int32.toNatClampNeg k)) : zOg f O' (Int32.toNatClampNeg k') := fun j hj => by
  rw [e]
  by_cases z : j = Int32.toNatClampNeg k
  · rw [z, pk_us]; exact hv
  · rw [pk_un z]; exact h j (by omega)
theorem zWg_0 {g : Nat → Nat → Int32} {W : Nat → Int32} {n : Nat} : zWg g W n (Int32.toNatClampNeg (0 : Int32)) 0 := ⟨fun u v hu => by
  rw [zN0] at hu
  exact absurd hu (Nat.not_lt_zero u), fun v hv => absurd hv (Nat.not_lt_zero v)⟩
theorem zWg_i {g : Nat → Nat → Int32} {W : Nat → Int32} {n k : Nat} (h : zWg g W n k 0) : zWg g W n k (Int32.toNatClampNeg (0 : Int32)) := by rw [zN0]; exact h
theorem zWg_s {g : Nat → Nat → Int32} {W W' : Nat → Int32} {n i : Nat} {k w w' v : Int32} (h : zWg g W n (Int32.toNatClampNeg k) (Int32.toNatClampNeg w)) (hn : n ≤ 9) (hw : Int32.toNatClampNeg w ≤ 8) (hw' : Int32.toNatClampNeg w' = Int32.toNatClampNeg w + 1) (e : W' = upd W i v) (hx : i = 9 * Int32.toNatClampNeg k + Int32.toNatClampNeg w) (hv : v = g (Int32.toNatClampNeg k) (Int32.toNatClampNeg w)) : zWg g W' n (Int32.toNatClampNeg k) (Int32.toNatClampNeg w') := by
  rw [e, hx]
  refine ⟨fun a b ha hb => ?_, fun b hb => ?_⟩
  · rw [pk_un (by omega)]; exact h.1 a b ha hb
  · by_cases z : b = Int32.toNatClampNeg w
    · rw [z, pk_us]; exact hv
    · rw [pk_un (by omega)]; exact h.2 b (by omega)
theorem zWg_e {g : Nat → Nat → Int32} {W : Nat → Int32} {n : Nat} {k k' w : Int32} (h : zWg g W n (Int32.toNatClampNeg k) (Int32.toNatClampNeg w)) (hk : Int32.toNatClampNeg k' = Int32.toNatClampNeg k + 1) (e : Int32.toNatClampNeg w = n) : zWg g W n (Int32.toNatClampNeg k') 0 := by
  rw [hk]
  refine ⟨fun a b ha hb => ?_, fun b hb => absurd hb (Nat.not_lt_zero b)⟩
  by_cases z : a = Int32.toNatClampNeg k
  · rw [z]; exact h.2 b (by omega)
  · exact h.1 a b (by omega) hb
/-! places and sums -/
theorem zHb_0 {r : Int32} (h : 0 ≤ Int32.toInt r) : Int32.toInt r = ((Int32.toNatClampNeg r / 2 ^ Int32.toNatClampNeg (0 : Int32) : Nat) : Int) := by
  have c := z_cl h
  rw [zN0, Nat.pow_zero, Nat.div_one]
  omega
theorem zHb2 {b b' v v' : Int32} {R : Nat} (hb : Int32.toInt b = ((R / 2 ^ Int32.toNatClampNeg v : Nat) : Int)) (hR : R ≤ 511) (hv : Int32.toNatClampNeg v' = Int32.toNatClampNeg v + 1) (e : b' = (b >>> ((1 : Int32) &&& 31))) : Int32.toInt b' = ((R / 2 ^ Int32.toNatClampNeg v' : Nat) : Int) := by
  rw [hv]
  exact zHb hb hR e
theorem zi_2 {G W : Nat → Int32} {m : Int32} {i j i' j' : Nat} (e : m = (G i + W j)) (hi : i = i') (hj : j = j') : m = (G i' + W j') := by rw [e, hi, hj]
theorem zi_1 {G : Nat → Int32} {m c : Int32} {i i' : Nat} (e : m = (G i + c)) (hi : i = i') : m = (G i' + c) := by rw [e, hi]
theorem zUi {F F' : Nat → Int32} {i j : Nat} {v : Int32} (e : F' = upd F i v) (h : i = j) : F' = upd F j v := by rw [e, h]
theorem zBq {s k x : Int32} (hs : 0 ≤ Int32.toInt s) (hk : 0 ≤ Int32.toInt k ∧ Int32.toInt k ≤ 11) (e : x = ((s >>> (k &&& 31)) &&& (1 : Int32))) : x = (if (Int32.toNatClampNeg s).testBit (Int32.toNatClampNeg k) = true then 1 else 0) := by
  have c := z_cl hk.1
  have h := zbit (s := Int32.toNatClampNeg s) (k := Int32.toNatClampNeg k) (by omega)
  rw [zi_ofN hs, zi_ofN hk.1] at h
  rw [e, h]
theorem zBy {s k x : Int32} (hs : 0 ≤ Int32.toInt s) (hk : 0 ≤ Int32.toInt k ∧ Int32.toInt k ≤ 11) (e : x = ((s >>> (k &&& 31)) &&& (1 : Int32))) (h : x = (1 : Int32)) : (Int32.toNatClampNeg s).testBit (Int32.toNatClampNeg k) = true := by
  have q := h.symm.trans (zBq hs hk e)
  by_cases z : (Int32.toNatClampNeg s).testBit (Int32.toNatClampNeg k) = true
  · exact z
  · rw [if_neg z] at q; exact absurd q (by decide)
theorem zBo {s k x : Int32} (hs : 0 ≤ Int32.toInt s) (hk : 0 ≤ Int32.toInt k ∧ Int32.toInt k ≤ 11) (e : x = ((s >>> (k &&& 31)) &&& (1 : Int32))) (h : ¬ x = (1 : Int32)) : ¬ (Int32.toNatClampNeg s).testBit (Int32.toNatClampNeg k) = true := fun z => h ((zBq hs hk e).trans (if_pos z))
theorem zTp_1 {i : Int32} : Int32.toInt (1 : Int32) ≤ ((zTp i : Nat) : Int) := by
  have e : Int32.toInt (1 : Int32) = 1 := by decide
  have h : 0 < 2 ^ Int32.toNatClampNeg i := Nat.pow_pos (by decide)
  have h2 : 0 < zTp i := h
  omega
theorem zRb_e {fw wo : Nat → Int32} {nn k i : Int32} {t : Int32 × Int32 × Int32} (h : t = zRb fw wo nn (Int32.toNatClampNeg k)) (e : Int32.toInt k = ((zTp i : Nat) : Int)) : t = zRb fw wo nn (zTp i) := by
  have c := z_cl (x := k) (by omega)
  rw [h, show Int32.toNatClampNeg k = zTp i by omega]
theorem zAb_p {a : Int32} (h : 0 ≤ Int32.toInt a) : a = zAb a := by
  have e0 : Int32.toInt (0 : Int32) = 0 := by decide
  unfold zAb
  rw [if_pos (Int32.le_iff_toInt_le.mpr (by omega))]
theorem zAb_m {a b : Int32} (h : Int32.toInt a < 0) (e : b = (-a)) : b = zAb a := by
  have e0 : Int32.toInt (0 : Int32) = 0 := by decide
  unfold zAb
  rw [if_neg (fun z => by have := Int32.le_iff_toInt_le.mp z; omega)]
  exact e.trans (Int32.zero_sub a).symm
/-! the table -/
theorem zGd_0 {o : Nat → Int32} {w : Nat → Nat → Int32} {d F : Nat → Int32} {n : Nat} : zGd o w d n F (Int32.toNatClampNeg (1 : Int32)) := fun s v hs _ hb => by
  have e : Int32.toNatClampNeg (1 : Int32) = 1 := by decide
  rw [e] at hs
  rw [show s = 0 by omega, Nat.zero_testBit] at hb
  cases hb
def zG2 (o : Nat → Int32) (w : Nat → Nat → Int32) (d : Nat → Int32) (n : Nat) (G : Nat → Int32) (s l : Nat) : Prop := zGd o w d n G s ∧ ∀ v : Nat, v < l → s.testBit v = true → G (9 * s + v) = zT o w d n s s v
theorem zG2_0 {o : Nat → Int32} {w : Nat → Nat → Int32} {d F : Nat → Int32} {n s : Nat} (h : zGd o w d n F s) : zG2 o w d n F s (Int32.toNatClampNeg (0 : Int32)) := ⟨h, fun v hv => by
  rw [zN0] at hv
  exact absurd hv (Nat.not_lt_zero v)⟩
theorem zG2_e {o : Nat → Int32} {w : Nat → Nat → Int32} {d F : Nat → Int32} {n s l t : Nat} (h : zG2 o w d n F s l) (e : l = n) (et : t = s + 1) : zGd o w d n F t := by
  rw [et]
  intro t v ht hv hb
  by_cases z : t = s
  · rw [z] at hb ⊢; exact h.2 v (by omega) hb
  · exact h.1 t v (by omega) hv hb
theorem zG2_s {o : Nat → Int32} {w : Nat → Nat → Int32} {d F F' : Nat → Int32} {n s : Nat} {l l' v : Int32} (h : zG2 o w d n F s (Int32.toNatClampNeg l)) (hl : Int32.toNatClampNeg l' = Int32.toNatClampNeg l + 1) (h9 : n ≤ 9) (h8 : Int32.toNatClampNeg l ≤ 8) (e : F' = upd F (9 * s + Int32.toNatClampNeg l) v) (hv : s.testBit (Int32.toNatClampNeg l) = true → v = zT o w d n s s (Int32.toNatClampNeg l)) : zG2 o w d n F' s (Int32.toNatClampNeg l') := by
  rw [e]
  refine ⟨fun t u ht hu hb => ?_, fun u hu hb => ?_⟩
  · rw [pk_un (by omega)]; exact h.1 t u ht hu hb
  · by_cases z : u = Int32.toNatClampNeg l
    · rw [z] at hb ⊢; rw [pk_us]; exact hv hb
    · rw [pk_un (by omega)]; exact h.2 u (by omega) hb
theorem zXd_all : (List.range 512).all (fun s => (List.range 9).all (fun l => (! s.testBit l) || decide ((s &&& (511 ^^^ 2 ^ l)) = s ^^^ 2 ^ l))) = true := by decide +kernel
theorem zXd {s l r : Int32} (hs : 0 ≤ Int32.toInt s ∧ Int32.toInt s ≤ 511) (hl : 0 ≤ Int32.toInt l ∧ Int32.toInt l ≤ 8) (e : r = (s &&& (((1 : Int32) <<< (l &&& 31)) ^^^ (-1 : Int32)))) (hb : (Int32.toNatClampNeg s).testBit (Int32.toNatClampNeg l) = true) : 0 ≤ Int32.toInt r ∧ Int32.toNatClampNeg r = Int32.toNatClampNeg s ^^^ 2 ^ Int32.toNatClampNeg l := by
  have h := (zXr hs hl).2
  rw [← e] at h
  have c := z_cl (x := r) (by omega)
  have c1 := z_cl hs.1
  have c2 := z_cl hl.1
  have h2 := List.all_eq_true.mp (List.all_eq_true.mp zXd_all (Int32.toNatClampNeg s) (List.mem_range.mpr (by omega))) (Int32.toNatClampNeg l) (List.mem_range.mpr (by omega))
  rw [hb, Bool.not_true, Bool.false_or] at h2
  have q := of_decide_eq_true h2
  rw [q] at h
  exact ⟨by omega, by omega⟩
theorem zSt_0 {o : Nat → Int32} {w : Nat → Nat → Int32} {n : Nat} {B : Nat → Int32} {r v : Nat} : zSq o w (fun _ => 0) n B r v = (if r = 0 then o v else zMn (fun u => B u + w u v) (fun u => r.testBit u) n 1000000) := Int32.add_zero _
theorem zMk2 {o : Nat → Int32} {w : Nat → Nat → Int32} {n : Nat} {G : Nat → Int32} {s l r b u i : Int32} (hs : 0 ≤ Int32.toInt s ∧ Int32.toInt s ≤ 511) (hl : 0 ≤ Int32.toInt l ∧ Int32.toInt l ≤ 8) (hr : r = (s &&& (((1 : Int32) <<< (l &&& 31)) ^^^ (-1 : Int32)))) (hG : zGd o w (fun _ => 0) n G (Int32.toNatClampNeg s)) (h : b = zMn (fun u => G (9 * Int32.toNatClampNeg r + u) + w u (Int32.toNatClampNeg l)) (fun u => (Int32.toNatClampNeg r).testBit u) (Int32.toNatClampNeg u) i) (hu : Int32.toNatClampNeg u = n) (hi : (Int32.toInt r = 0 ∧ i = o (Int32.toNatClampNeg l)) ∨ (Int32.toInt r ≠ 0 ∧ i = 1000000)) (hb : (Int32.toNatClampNeg s).testBit (Int32.toNatClampNeg l) = true) : b = zT o w (fun _ => 0) n (Int32.toNatClampNeg s) (Int32.toNatClampNeg s) (Int32.toNatClampNeg l) := by
  obtain ⟨hr0, hr1⟩ := zXd hs hl hr hb
  have hlt := zXl hb
  rw [← hr1] at hlt
  have c := z_cl hr0
  rw [zT_1 hb, zSt_0, ← hr1, h, hu]
  rcases hi with ⟨z, e⟩ | ⟨z, e⟩
  · have z2 : Int32.toNatClampNeg r = 0 := by omega
    have h11 := zMn_x (f := fun u => G (9 * Int32.toNatClampNeg r + u) + w u (Int32.toNatClampNeg l)) (P := fun u => (Int32.toNatClampNeg r).testBit u) (i := i) 0 n (fun u _ _ => by rw [z2, Nat.zero_testBit]; decide)
    rw [Nat.zero_add] at h11
    rw [if_pos z2, ← e]
    exact h11
  · have z2 : ¬ Int32.toNatClampNeg r = 0 := by omega
    rw [if_neg z2, e]
    exact zMn_c n (fun u hu hp => by
      show G (9 * Int32.toNatClampNeg r + u) + w u (Int32.toNatClampNeg l) = zT o w (fun _ => 0) n (Int32.toNatClampNeg r) (Int32.toNatClampNeg r) u + w u (Int32.toNatClampNeg l)
      rw [hG (Int32.toNatClampNeg r) u hlt hu hp])
/-! at the doors -/
def zDo (d : Nat → Int32) (s : Nat) : Nat → Int32
  | 0 => 0
  | k + 1 => if s.testBit k = true then zDo d s k + d k else zDo d s k
theorem zDo_1 (d : Nat → Int32) (s k : Nat) : zDo d s (k + 1) = if s.testBit k = true then zDo d s k + d k else zDo d s k := rfl
theorem zDo_0 {d : Nat → Int32} {s : Nat} : (0 : Int32) = zDo d s (Int32.toNatClampNeg (0 : Int32)) := by rw [zN0]; rfl
theorem zDo_n {d : Nat → Int32} {s : Nat} {m k k' : Int32} (h : m = zDo d s (Int32.toNatClampNeg k)) (e : Int32.toNatClampNeg k' = Int32.toNatClampNeg k + 1) (hn : ¬ s.testBit (Int32.toNatClampNeg k) = true) : m = zDo d s (Int32.toNatClampNeg k') := by
  rw [e, zDo_1, if_neg hn]
  exact h
theorem zDo_y {d : Nat → Int32} {s : Nat} {m m' k k' : Int32} (h : m = zDo d s (Int32.toNatClampNeg k)) (e : Int32.toNatClampNeg k' = Int32.toNatClampNeg k + 1) (hp : s.testBit (Int32.toNatClampNeg k) = true) (hm : m' = (m + (d (Int32.toNatClampNeg k)))) : m' = zDo d s (Int32.toNatClampNeg k') := by
  rw [e, zDo_1, if_pos hp, ← h]
  exact hm
def zMm (F G : Nat → Int32) (n s x y : Int32) : Int32 := zMn (fun l => G (9 * Int32.toNatClampNeg s + l) + zMo F l x y) (fun l => (Int32.toNatClampNeg s).testBit l) (Int32.toNatClampNeg n) (if Int32.toInt s = 0 then 0 else 1000000) + zDo (fun l => F (6999 + 3 * l)) (Int32.toNatClampNeg s) (Int32.toNatClampNeg n)
theorem zMm_r {F G : Nat → Int32} {n s x y i m d r k : Int32} (h : m = zMn (fun l => G (9 * Int32.toNatClampNeg s + l) + zMo F l x y) (fun l => (Int32.toNatClampNeg s).testBit l) (Int32.toNatClampNeg k) i) (hd : d = zDo (fun l => F (6999 + 3 * l)) (Int32.toNatClampNeg s) (Int32.toNatClampNeg k)) (hk : Int32.toNatClampNeg k = Int32.toNatClampNeg n) (hi : (Int32.toInt s = 0 ∧ i = 0) ∨ (Int32.toInt s ≠ 0 ∧ i = 1000000)) (e : r = (m + d)) : r = zMm F G n s x y := by
  rw [hk] at h hd
  unfold zMm
  rw [e, h, hd]
  rcases hi with ⟨z, q⟩ | ⟨z, q⟩
  · rw [if_pos z, q]
  · rw [if_neg z, q]
def zMf (o : Nat → Int32) (w : Nat → Nat → Int32) (d : Nat → Int32) (n s : Nat) : Int32 := zMn (fun l => zT o w (fun _ => 0) n s s l + o l) (fun l => s.testBit l) n 1000000 + zDo d s n
theorem zMm_f {F G : Nat → Int32} {n s x y : Int32} {S : Nat} (hs : 1 ≤ Int32.toInt s) (hS : Int32.toNatClampNeg s < S) (hG : zGd (fun v => zMo F v x y) (zMu F) (fun _ => 0) (Int32.toNatClampNeg n) G S) : zMm F G n s x y = zMf (fun v => zMo F v x y) (zMu F) (fun l => F (6999 + 3 * l)) (Int32.toNatClampNeg n) (Int32.toNatClampNeg s) := by
  have e : zMn (fun l => G (9 * Int32.toNatClampNeg s + l) + zMo F l x y) (fun l => (Int32.toNatClampNeg s).testBit l) (Int32.toNatClampNeg n) 1000000 = zMn (fun l => zT (fun v => zMo F v x y) (zMu F) (fun _ => 0) (Int32.toNatClampNeg n) (Int32.toNatClampNeg s) (Int32.toNatClampNeg s) l + zMo F l x y) (fun l => (Int32.toNatClampNeg s).testBit l) (Int32.toNatClampNeg n) 1000000 := zMn_c _ (fun l hl hp => by
    show G (9 * Int32.toNatClampNeg s + l) + zMo F l x y = zT (fun v => zMo F v x y) (zMu F) (fun _ => 0) (Int32.toNatClampNeg n) (Int32.toNatClampNeg s) (Int32.toNatClampNeg s) l + zMo F l x y
    rw [hG (Int32.toNatClampNeg s) l hS hl hp])
  unfold zMm zMf
  rw [if_neg (show ¬ Int32.toInt s = 0 by omega), e]
/-! both sides the same -/
def zSu (d : Nat → Int) (P : Nat → Bool) : Nat → Int
  | 0 => 0
  | k + 1 => (if P k = true then d k else 0) + zSu d P k
theorem zSu_1 (d : Nat → Int) (P : Nat → Bool) (k : Nat) : zSu d P (k + 1) = (if P k = true then d k else 0) + zSu d P k := rfl
theorem zSu_c {d : Nat → Int} {P Q : Nat → Bool} (n : Nat) (h : ∀ u : Nat, u < n → P u = Q u) : zSu d P n = zSu d Q n := by
  induction n with
  | zero => rfl
  | succ n ih => rw [zSu_1, zSu_1, ih (fun u hu => h u (by omega)), h n (by omega)]
theorem zSu_z {d : Nat → Int} {P : Nat → Bool} (n : Nat) (h : ∀ u : Nat, u < n → P u = false) : zSu d P n = 0 := by
  induction n with
  | zero => rfl
  | succ n ih => rw [zSu_1, ih (fun u hu => h u (by omega)), if_neg (by rw [h n (by omega)]; decide)]; rfl
theorem zSu_x {d : Nat → Int} {P Q : Nat → Bool} {l : Nat} (n : Nat) (hl : l < n) (hp : P l = true) (hq : ∀ u : Nat, Q u = (P u ^^ decide (l = u))) : zSu d P n = zSu d Q n + d l := by
  induction n with
  | zero => omega
  | succ n ih =>
    rw [zSu_1, zSu_1]
    by_cases z : l = n
    · have e1 : Q n = false := by rw [hq n, ← z, hp]; simp
      have e2 := zSu_c (d := d) (P := P) (Q := Q) n (fun u hu => by rw [hq u, show decide (l = u) = false from decide_eq_false (by omega)]; simp)
      rw [e1, ← z, if_pos hp, if_neg (by decide), z, e2]
      omega
    · have e1 : Q n = P n := by rw [hq n, show decide (l = n) = false from decide_eq_false z]; simp
      rw [e1, ih (by omega)]
      omega
theorem zSu_b {d : Nat → Int} {P : Nat → Bool} (n : Nat) (h : ∀ u : Nat, u < n → 0 ≤ d u ∧ d u ≤ 200) : 0 ≤ zSu d P n ∧ zSu d P n ≤ 200 * (n : Int) := by
  induction n with
  | zero =>
    show (0 : Int) ≤ 0 ∧ (0 : Int) ≤ 200 * ((0 : Nat) : Int)
    omega
  | succ n ih =>
    have h1 := ih (fun u hu => h u (by omega))
    have h2 := h n (by omega)
    rw [zSu_1]
    by_cases q : P n = true
    · rw [if_pos q]; omega
    · rw [if_neg q]; omega
theorem zSu_n {P : Nat → Bool} (n : Nat) : 0 ≤ zSu (fun _ => 1) P n ∧ zSu (fun _ => 1) P n ≤ (n : Int) := by
  induction n with
  | zero =>
    show (0 : Int) ≤ 0 ∧ (0 : Int) ≤ ((0 : Nat) : Int)
    omega
  | succ n ih =>
    rw [zSu_1]
    by_cases q : P n = true
    · rw [if_pos q]; omega
    · rw [if_neg q]; omega
def zSd (D : Nat → Int32) (n s : Nat) : Int := zSu (fun v => Int32.toInt (D v)) (fun u => s.testBit u) n
def zSc9 (n s : Nat) : Int := zSu (fun _ => 1) (fun u => s.testBit u) n
theorem zSd_x {D : Nat → Int32} {n s l : Nat} (hl : l < n) (hb : s.testBit l = true) : zSd D n s = zSd D n (s ^^^ 2 ^ l) + Int32.toInt (D l) ∧ zSc9 n s = zSc9 n (s ^^^ 2 ^ l) + 1 := ⟨zSu_x (d := fun v => Int32.toInt (D v)) n hl hb (fun u => zXb s l u), zSu_x (d := fun _ => 1) n hl hb (fun u => zXb s l u)⟩
theorem zSd_0 {D : Nat → Int32} {n : Nat} : zSd D n 0 = 0 ∧ zSc9 n 0 = 0 := ⟨zSu_z n (fun u _ => Nat.zero_testBit u), zSu_z n (fun u _ => Nat.zero_testBit u)⟩
theorem zEx {r n : Nat} (h0 : ¬ r = 0) (hr : r < 2 ^ n) : ∃ u : Nat, u < n ∧ r.testBit u = true := Classical.byContradiction (fun hc => h0 (Nat.eq_of_testBit_eq (fun i => by
  rw [Nat.zero_testBit]
  by_cases z : i < n
  · by_cases q : r.testBit i = true
    · exact absurd ⟨i, z, q⟩ hc
    · simpa using q
  · have q := zTb (u := i) hr (by omega)
    simpa using q)))
theorem zWk {o : Nat → Int32} {w : Nat → Nat → Int32} {D : Nat → Int32} {n : Nat} (hn : n ≤ 9) (ho : ∀ v : Nat, v < n → 0 ≤ Int32.toInt (o v) ∧ Int32.toInt (o v) ≤ 198) (hw : ∀ u v : Nat, u < n → v < n → 0 ≤ Int32.toInt (w u v) ∧ Int32.toInt (w u v) ≤ 198) (hD : ∀ v : Nat, v < n → 0 ≤ Int32.toInt (D v) ∧ Int32.toInt (D v) ≤ 200) : ∀ S s l : Nat, s < S → s < 2 ^ n → l < n → s.testBit l = true → Int32.toInt (zT o w D n s s l) = Int32.toInt (zT o w (fun _ => 0) n s s l) + zSd D n s ∧ 0 ≤ Int32.toInt (zT o w (fun _ => 0) n s s l) ∧ Int32.toInt (zT o w (fun _ => 0) n s s l) ≤ 198 * zSc9 n s := by
  intro S
  induction S with
  | zero => intro s l hs; exact absurd hs (Nat.not_lt_zero s)
  | succ S ih =>
    intro s l hs h2 hl hb
    have hlt := zXl hb
    obtain ⟨x1, x2⟩ := zSd_x (D := D) hl hb
    rw [zT_1 hb, zT_1 hb, zSt_0]
    generalize hr : s ^^^ 2 ^ l = r at *
    have hDl := hD l hl
    have hol := ho l hl
    have bS : 0 ≤ zSd D n r ∧ zSd D n r ≤ 200 * (n : Int) := zSu_b n hD
    have bC : 0 ≤ zSc9 n r ∧ zSc9 n r ≤ (n : Int) := zSu_n n
    show Int32.toInt ((if r = 0 then o l else zMn (fun u => zT o w D n r r u + w u l) (fun u => r.testBit u) n 1000000) + D l) = _ ∧ _
    by_cases z : r = 0
    · rw [if_pos z, if_pos z]
      obtain ⟨y1, y2⟩ := zSd_0 (D := D) (n := n)
      rw [z] at x1 x2
      have e : Int32.toInt (o l + D l) = Int32.toInt (o l) + Int32.toInt (D l) := zi_addc rfl rfl (by omega)
      rw [e]
      omega
    · rw [if_neg z, if_neg z]
      have hr2 : r < 2 ^ n := by omega
      obtain ⟨a, ha, hpa⟩ := zEx z hr2
      have hu : ∀ u : Nat, u < n → r.testBit u = true → Int32.toInt (zT o w D n r r u + w u l) = Int32.toInt (zT o w (fun _ => 0) n r r u + w u l) + zSd D n r ∧ 0 ≤ Int32.toInt (zT o w (fun _ => 0) n r r u + w u l) ∧ Int32.toInt (zT o w (fun _ => 0) n r r u + w u l) ≤ 198 * zSc9 n r + 198 := fun u h3 h4 => by
        obtain ⟨i1, i2, i3⟩ := ih r u (by omega) hr2 h3 h4
        have hwu := hw u l h3 hl
        have e1 : Int32.toInt (zT o w D n r r u + w u l) = Int32.toInt (zT o w D n r r u) + Int32.toInt (w u l) := zi_addc rfl rfl (by omega)
        have e2 : Int32.toInt (zT o w (fun _ => 0) n r r u + w u l) = Int32.toInt (zT o w (fun _ => 0) n r r u) + Int32.toInt (w u l) := zi_addc rfl rfl (by omega)
        rw [e1, e2]
        omega
      have eM : Int32.toInt (1000000 : Int32) = 1000000 := by decide
      have hsh := zMn_sh (f := fun u => zT o w (fun _ => 0) n r r u + w u l) (g := fun u => zT o w D n r r u + w u l) (P := fun u => r.testBit u) (i := 1000000) (K := zSd D n r) n bS.1 ⟨a, ha, hpa⟩ (fun u h3 h4 => ⟨(hu u h3 h4).1, by have := hu u h3 h4; show Int32.toInt (zT o w (fun _ => 0) n r r u + w u l) + _ < _; omega⟩)
      have hb0 : 0 ≤ Int32.toInt (zMn (fun u => zT o w (fun _ => 0) n r r u + w u l) (fun u => r.testBit u) n 1000000) ∧ Int32.toInt (zMn (fun u => zT o w (fun _ => 0) n r r u + w u l) (fun u => r.testBit u) n 1000000) ≤ 198 * zSc9 n r + 198 := by
        have ka := hu a ha hpa
        have la := zMn_lm (f := fun u => zT o w (fun _ => 0) n r r u + w u l) (P := fun u => r.testBit u) (i := 1000000) n a ha hpa
        have la2 : Int32.toInt (zMn (fun u => zT o w (fun _ => 0) n r r u + w u l) (fun u => r.testBit u) n 1000000) ≤ Int32.toInt (zT o w (fun _ => 0) n r r a + w a l) := la
        rcases zMn_ex (f := fun u => zT o w (fun _ => 0) n r r u + w u l) (P := fun u => r.testBit u) (i := 1000000) n with q | ⟨u, h3, h4, h5⟩
        · rw [q] at la2; omega
        · have ku := hu u h3 h4
          have h6 : zMn (fun u => zT o w (fun _ => 0) n r r u + w u l) (fun u => r.testBit u) n 1000000 = zT o w (fun _ => 0) n r r u + w u l := h5
          rw [h6]
          omega
      have e : Int32.toInt (zMn (fun u => zT o w D n r r u + w u l) (fun u => r.testBit u) n 1000000 + D l) = Int32.toInt (zMn (fun u => zT o w D n r r u + w u l) (fun u => r.testBit u) n 1000000) + Int32.toInt (D l) := zi_addc rfl rfl (by omega)
      rw [e, hsh]
      omega
theorem zDo_i {D : Nat → Int32} {s : Nat} (n : Nat) (hn : n ≤ 9) (hD : ∀ v : Nat, v < n → 0 ≤ Int32.toInt (D v) ∧ Int32.toInt (D v) ≤ 200) : Int32.toInt (zDo D s n) = zSd D n s := by
  induction n with
  | zero => exact (by decide : Int32.toInt (0 : Int32) = 0)
  | succ n ih =>
    have h1 := ih (by omega) (fun v hv => hD v (by omega))
    have h2 := hD n (by omega)
    have bS : 0 ≤ zSd D n s ∧ zSd D n s ≤ 200 * (n : Int) := zSu_b n (fun v hv => hD v (by omega))
    show _ = (if s.testBit n = true then Int32.toInt (D n) else 0) + zSd D n s
    rw [zDo_1]
    by_cases q : s.testBit n = true
    · rw [if_pos q, if_pos q]
      have e : Int32.toInt (zDo D s n + D n) = Int32.toInt (zDo D s n) + Int32.toInt (D n) := zi_addc rfl rfl (by omega)
      omega
    · rw [if_neg q, if_neg q]; omega
theorem zFi {o : Nat → Int32} {w : Nat → Nat → Int32} {D : Nat → Int32} {n s : Nat} (hn : n ≤ 9) (ho : ∀ v : Nat, v < n → 0 ≤ Int32.toInt (o v) ∧ Int32.toInt (o v) ≤ 198) (hw : ∀ u v : Nat, u < n → v < n → 0 ≤ Int32.toInt (w u v) ∧ Int32.toInt (w u v) ≤ 198) (hD : ∀ v : Nat, v < n → 0 ≤ Int32.toInt (D v) ∧ Int32.toInt (D v) ≤ 200) (h0 : ¬ s = 0) (hs : s < 2 ^ n) : zFe o w D n s = zMf o w D n s := by
  obtain ⟨a, ha, hpa⟩ := zEx h0 hs
  have bS : 0 ≤ zSd D n s ∧ zSd D n s ≤ 200 * (n : Int) := zSu_b n hD
  have bC : 0 ≤ zSc9 n s ∧ zSc9 n s ≤ (n : Int) := zSu_n n
  have hu : ∀ l : Nat, l < n → s.testBit l = true → Int32.toInt (zT o w D n s s l + o l) = Int32.toInt (zT o w (fun _ => 0) n s s l + o l) + zSd D n s ∧ 0 ≤ Int32.toInt (zT o w (fun _ => 0) n s s l + o l) ∧ Int32.toInt (zT o w (fun _ => 0) n s s l + o l) ≤ 198 * zSc9 n s + 198 := fun l h3 h4 => by
    obtain ⟨i1, i2, i3⟩ := zWk hn ho hw hD (s + 1) s l (by omega) hs h3 h4
    have hwu := ho l h3
    have e1 : Int32.toInt (zT o w D n s s l + o l) = Int32.toInt (zT o w D n s s l) + Int32.toInt (o l) := zi_addc rfl rfl (by omega)
    have e2 : Int32.toInt (zT o w (fun _ => 0) n s s l + o l) = Int32.toInt (zT o w (fun _ => 0) n s s l) + Int32.toInt (o l) := zi_addc rfl rfl (by omega)
    rw [e1, e2]
    omega
  have eM : Int32.toInt (1000000 : Int32) = 1000000 := by decide
  have hsh := zMn_sh (f := fun l => zT o w (fun _ => 0) n s s l + o l) (g := fun l => zT o w D n s s l + o l) (P := fun l => s.testBit l) (i := 1000000) (K := zSd D n s) n bS.1 ⟨a, ha, hpa⟩ (fun l h3 h4 => ⟨(hu l h3 h4).1, by have := hu l h3 h4; show Int32.toInt (zT o w (fun _ => 0) n s s l + o l) + _ < _; omega⟩)
  have hd := zDo_i (D := D) (s := s) n hn hD
  have hb0 : 0 ≤ Int32.toInt (zMn (fun l => zT o w (fun _ => 0) n s s l + o l) (fun l => s.testBit l) n 1000000) ∧ Int32.toInt (zMn (fun l => zT o w (fun _ => 0) n s s l + o l) (fun l => s.testBit l) n 1000000) ≤ 198 * zSc9 n s + 198 := by
    have ka := hu a ha hpa
    have la : Int32.toInt (zMn (fun l => zT o w (fun _ => 0) n s s l + o l) (fun l => s.testBit l) n 1000000) ≤ Int32.toInt (zT o w (fun _ => 0) n s s a + o a) := zMn_lm (f := fun l => zT o w (fun _ => 0) n s s l + o l) (P := fun l => s.testBit l) (i := 1000000) n a ha hpa
    rcases zMn_ex (f := fun l => zT o w (fun _ => 0) n s s l + o l) (P := fun l => s.testBit l) (i := 1000000) n with q | ⟨u, h3, h4, h5⟩
    · rw [q] at la; omega
    · have ku := hu u h3 h4
      have h6 : zMn (fun l => zT o w (fun _ => 0) n s s l + o l) (fun l => s.testBit l) n 1000000 = zT o w (fun _ => 0) n s s u + o u := h5
      rw [h6]
      omega
  unfold zFe zMf
  refine Int32.toInt_inj.mp ?_
  have e : Int32.toInt (zMn (fun l => zT o w (fun _ => 0) n s s l + o l) (fun l => s.testBit l) n 1000000 + zDo D s n) = Int32.toInt (zMn (fun l => zT o w (fun _ => 0) n s s l + o l) (fun l => s.testBit l) n 1000000) + Int32.toInt (zDo D s n) := zi_addc rfl rfl (by omega)
  rw [e, hsh, hd]
theorem zTa_c {o o' : Nat → Int32} {w w' : Nat → Nat → Int32} {d : Nat → Int32} {n : Nat} (ho : ∀ v : Nat, v < n → o v = o' v) (hw : ∀ u v : Nat, u < n → v < n → w u v = w' u v) : ∀ f s l : Nat, l < n → zT o w d n f s l = zT o' w' d n f s l := by
  intro f
  induction f with
  | zero => intro s l _; rfl
  | succ f ih =>
    intro s l hl
    show (if s.testBit l = true then zSq o w d n (fun u => zT o w d n f (s ^^^ 2 ^ l) u) (s ^^^ 2 ^ l) l else 1000000) = (if s.testBit l = true then zSq o' w' d n (fun u => zT o' w' d n f (s ^^^ 2 ^ l) u) (s ^^^ 2 ^ l) l else 1000000)
    rw [zSt_c (o' := o') (w' := w') (B' := fun u => zT o' w' d n f (s ^^^ 2 ^ l) u) (ho l hl) (fun u hu _ => by
      show zT o w d n f (s ^^^ 2 ^ l) u + w u l = zT o' w' d n f (s ^^^ 2 ^ l) u + w' u l
      rw [ih _ u hu, hw u l hu hl])]
theorem zDo_c {d d' : Nat → Int32} {s : Nat} (n : Nat) (h : ∀ v : Nat, v < n → d v = d' v) : zDo d s n = zDo d' s n := by
  induction n with
  | zero => rfl
  | succ n ih => rw [zDo_1, zDo_1, ih (fun v hv => h v (by omega)), h n (by omega)]
theorem zMf_c {o o' : Nat → Int32} {w w' : Nat → Nat → Int32} {d d' : Nat → Int32} {n s : Nat} (ho : ∀ v : Nat, v < n → o v = o' v) (hw : ∀ u v : Nat, u < n → v < n → w u v = w' u v) (hd : ∀ v : Nat, v < n → d v = d' v) : zMf o w d n s = zMf o' w' d' n s := by
  have e : zMn (fun l => zT o w (fun _ => 0) n s s l + o l) (fun l => s.testBit l) n 1000000 = zMn (fun l => zT o' w' (fun _ => 0) n s s l + o' l) (fun l => s.testBit l) n 1000000 := zMn_c n (fun l hl _ => by
    show zT o w (fun _ => 0) n s s l + o l = zT o' w' (fun _ => 0) n s s l + o' l
    rw [zTa_c ho hw s s l hl, ho l hl])
  unfold zMf
  rw [e, zDo_c n hd]
theorem zAb_s {a b : Int32} (ha : 0 ≤ Int32.toInt a ∧ Int32.toInt a ≤ 99) (hb : 0 ≤ Int32.toInt b ∧ Int32.toInt b ≤ 99) : zAb (a - b) = zAb (b - a) := by
  have e1 : Int32.toInt (a - b) = Int32.toInt a - Int32.toInt b := zi_subc rfl rfl (by omega)
  have e2 : Int32.toInt (b - a) = Int32.toInt b - Int32.toInt a := zi_subc rfl rfl (by omega)
  have h1 := zAb_i (x := a - b) (by omega)
  have h2 := zAb_i (x := b - a) (by omega)
  exact Int32.toInt_inj.mp (by omega)
theorem zAb_b {a b c d : Int32} (ha : 0 ≤ Int32.toInt a ∧ Int32.toInt a ≤ 99) (hb : 0 ≤ Int32.toInt b ∧ Int32.toInt b ≤ 99) (hc : 0 ≤ Int32.toInt c ∧ Int32.toInt c ≤ 99) (hd : 0 ≤ Int32.toInt d ∧ Int32.toInt d ≤ 99) : 0 ≤ Int32.toInt (zAb (a - b) + zAb (c - d)) ∧ Int32.toInt (zAb (a - b) + zAb (c - d)) ≤ 198 := by
  have e1 : Int32.toInt (a - b) = Int32.toInt a - Int32.toInt b := zi_subc rfl rfl (by omega)
  have e2 : Int32.toInt (c - d) = Int32.toInt c - Int32.toInt d := zi_subc rfl rfl (by omega)
  have h1 := zAb_i (x := a - b) (by omega)
  have h2 := zAb_i (x := c - d) (by omega)
  have e : Int32.toInt (zAb (a - b) + zAb (c - d)) = Int32.toInt (zAb (a - b)) + Int32.toInt (zAb (c - d)) := zi_addc rfl rfl (by omega)
  omega
theorem zRd_e {X Y C D V F : Nat → Int32} {n x y q w : Int32} (hn : 0 ≤ Int32.toInt n ∧ Int32.toInt n ≤ 9) (rX : zR X 0 99) (rY : zR Y 0 99) (rC : zR C 0 39) (hX : ∀ j : Nat, j < 40 → X j = F (23 + 17 * j)) (hY : ∀ j : Nat, j < 40 → Y j = F (24 + 17 * j)) (hC : ∀ v : Nat, v < 9 → C v = F (6998 + 3 * v)) (hD : ∀ v : Nat, v < 9 → D v = F (6999 + 3 * v)) (hV : ∀ v : Nat, v < 9 → V v = F (7000 + 3 * v)) (rD : ∀ v : Nat, v < Int32.toNatClampNeg n → 0 ≤ Int32.toInt (D v) ∧ Int32.toInt (D v) ≤ 200) : rdA (zRb (zMf (fun v => zMo F v x y) (zMu F) (fun l => F (6999 + 3 * l)) (Int32.toNatClampNeg n)) (fun s => wS (fun l => F (7000 + 3 * l)) (Int32.ofNat s) (Int32.toNatClampNeg n)) q (zTp n)) x y q w = rdA (zRb (zFe (fun v => zWo X Y C v x y) (zWu X Y C) D (Int32.toNatClampNeg n)) (fun s => wS V (Int32.ofNat s) (Int32.toNatClampNeg n)) q (zTp n)) x y q w := by
  have cn := z_cl hn.1
  have h9 : Int32.toNatClampNeg n ≤ 9 := by omega
  refine rdA_c (fun hr => zRb_c _ (fun k h0 hk => ?_))
  have hC2 : ∀ v : Nat, Int32.toNatClampNeg (C v) < 40 := fun v => by
    have h1 : 0 ≤ Int32.toInt (C v) ∧ Int32.toInt (C v) ≤ 39 := rC v
    have h2 := z_cl h1.1
    omega
  have ho : ∀ v : Nat, v < Int32.toNatClampNeg n → zMo F v x y = zWo X Y C v x y := fun v hv => by
    unfold zMo zWo
    rw [← hC v (by omega), ← hX _ (hC2 v), ← hY _ (hC2 v)]
  have hw : ∀ u v : Nat, u < Int32.toNatClampNeg n → v < Int32.toNatClampNeg n → zMu F u v = zWu X Y C u v := fun u v hu hv => by
    unfold zMu zWu zMo zWo
    rw [← hC u (by omega), ← hC v (by omega), ← hX _ (hC2 u), ← hY _ (hC2 u), ← hX _ (hC2 v), ← hY _ (hC2 v), zAb_s (rX _) (rX _), zAb_s (a := Y (Int32.toNatClampNeg (C u))) (rY _) (rY _)]
  have e1 := zMf_c (s := k) ho hw (fun v hv => (hD v (by omega)).symm)
  have e2 := zFi (o := fun v => zWo X Y C v x y) (w := zWu X Y C) (D := D) h9 (fun v _ => by
    show 0 ≤ Int32.toInt (zWo X Y C v x y) ∧ Int32.toInt (zWo X Y C v x y) ≤ 198
    exact zAb_b (rX _) (by omega) (rY _) (by omega)) (fun u v _ _ => zAb_b (rX _) (rX _) (rY _) (rY _)) rD h0 hk
  refine ⟨e1.trans e2.symm, ?_⟩
  exact wS_c _ (fun v hv => (hV v (by omega)).symm)
/-! join: the class's table by which records are used -/
def jA (a b : Nat → Int32) (le : Int32) (m r : Nat) : Int32 := if Int32.toInt (cFA (a m) (b r)) < Int32.toInt le then -1 else cFA (a m) (b r)
def jW (lk : Nat → Nat → Int32) (S : Nat → Int32) (m u r : Nat) : Int32 := if u.testBit r = true ∨ lk m r = -1 then -1 else ((S (u ||| 2 ^ r) + (lk m r * (8 : Int32))) + (1 : Int32))
def jS (p : Int32 × Int32) (s v : Int32) : Int32 × Int32 := if Int32.toInt p.1 < Int32.toInt s then (s, ((0 : Int32) + v)) else if s = p.1 then (p.1, (p.2 + v)) else p
def jP (lk : Nat → Nat → Int32) (S V : Nat → Int32) (m u : Nat) : Nat → Int32 × Int32
  | 0 => (S u, V u)
  | r + 1 => jS (jP lk S V m u r) (jW lk S m u r) (V (u ||| 2 ^ r))
theorem jP_1 (lk : Nat → Nat → Int32) (S V : Nat → Int32) (m u r : Nat) : jP lk S V m u (r + 1) = jS (jP lk S V m u r) (jW lk S m u r) (V (u ||| 2 ^ r)) := rfl
def jT (lk : Nat → Nat → Int32) (R : Nat) : Nat → Nat → Nat → Int32 × Int32
  | 0, _, _ => (0, 1)
  | k + 1, m, u => jP lk (fun v => (jT lk R k (m + 1) v).1) (fun v => (jT lk R k (m + 1) v).2) m u R
theorem jT_1 (lk : Nat → Nat → Int32) (R k m u : Nat) : jT lk R (k + 1) m u = jP lk (fun v => (jT lk R k (m + 1) v).1) (fun v => (jT lk R k (m + 1) v).2) m u R := rfl
theorem jO {u r R : Nat} (hu : u < 2 ^ R) (hr : r < R) : u ||| 2 ^ r < 2 ^ R := Nat.or_lt_two_pow hu (Nat.pow_lt_pow_right (by decide) hr)
theorem jP_c {lk lk' : Nat → Nat → Int32} {S S' V V' : Nat → Int32} {m u R : Nat} (hu : u < 2 ^ R) (hl : ∀ r : Nat, r < R → lk m r = lk' m r) (hS : ∀ v : Nat, v < 2 ^ R → S v = S' v) (hV : ∀ v : Nat, v < 2 ^ R → V v = V' v) : ∀ r : Nat, r ≤ R → jP lk S V m u r = jP lk' S' V' m u r := by
  intro r
  induction r with
  | zero =>
    intro _
    show (S u, V u) = (S' u, V' u)
    rw [hS u hu, hV u hu]
  | succ r ih =>
    intro hr
    have ho := jO hu (show r < R by omega)
    rw [jP_1, jP_1, ih (by omega)]
    unfold jW
    rw [hl r (by omega), hS _ ho, hV _ ho]
theorem jP_0 {lk : Nat → Nat → Int32} {S V : Nat → Int32} {m u : Nat} {x y : Int32} (hx : x = S u) (hy : y = V u) : (x, y) = jP lk S V m u (Int32.toNatClampNeg (0 : Int32)) := by
  rw [zN0, hx, hy]
  rfl
theorem jP_s {lk : Nat → Nat → Int32} {S V : Nat → Int32} {m u : Nat} {b w b' w' s v k k' : Int32} (h : (b, w) = jP lk S V m u (Int32.toNatClampNeg k)) (e : Int32.toNatClampNeg k' = Int32.toNatClampNeg k + 1) (hs : s = jW lk S m u (Int32.toNatClampNeg k)) (hc : (Int32.toInt b < Int32.toInt s ∧ b' = s ∧ v = V (u ||| 2 ^ Int32.toNatClampNeg k) ∧ w' = ((0 : Int32) + v)) ∨ (¬ Int32.toInt b < Int32.toInt s ∧ s = b ∧ b' = b ∧ v = V (u ||| 2 ^ Int32.toNatClampNeg k) ∧ w' = (w + v)) ∨ (¬ Int32.toInt b < Int32.toInt s ∧ ¬ s = b ∧ b' = b ∧ w' = w)) : (b', w') = jP lk S V m u (Int32.toNatClampNeg k') := by
  rw [e, jP_1, ← h, ← hs]
  show (b', w') = (if Int32.toInt b < Int32.toInt s then (s, ((0 : Int32) + V (u ||| 2 ^ Int32.toNatClampNeg k))) else if s = b then (b, (w + V (u ||| 2 ^ Int32.toNatClampNeg k))) else (b, w))
  rcases hc with ⟨h1, h2, h3, h4⟩ | ⟨h1, h2, h3, h4, h5⟩ | ⟨h1, h2, h3, h4⟩
  · rw [if_pos h1, h2, h4, h3]
  · rw [if_neg h1, if_pos h2, h3, h5, h4]
  · rw [if_neg h1, if_neg h2, h3, h4]
theorem jW_1 {lk : Nat → Nat → Int32} {S : Nat → Int32} {m u r : Nat} (h : u.testBit r = true ∨ lk m r = -1) : (-1 : Int32) = jW lk S m u r := by
  unfold jW
  rw [if_pos h]
theorem jW_2 {lk : Nat → Nat → Int32} {S : Nat → Int32} {m u r : Nat} {x : Int32} (h1 : ¬ u.testBit r = true) (h2 : ¬ lk m r = -1) (e : x = ((S (u ||| 2 ^ r) + (lk m r * (8 : Int32))) + (1 : Int32))) : x = jW lk S m u r := by
  unfold jW
  rw [if_neg (fun z => z.elim h1 h2), e]
theorem zO_all : (List.range 512).all (fun s => (List.range 9).all (fun l => decide ((Int32.ofNat s ||| ((1 : Int32) <<< (Int32.ofNat l &&& 31))) = Int32.ofNat (s ||| 2 ^ l)))) = true := by decide +kernel
theorem zOb {s l : Nat} (hs : s < 512) (hl : l < 9) : (Int32.ofNat s ||| ((1 : Int32) <<< (Int32.ofNat l &&& 31))) = Int32.ofNat (s ||| 2 ^ l) := of_decide_eq_true (List.all_eq_true.mp (List.all_eq_true.mp zO_all s (List.mem_range.mpr hs)) l (List.mem_range.mpr hl))
theorem zOi {u r y : Int32} (hu : 0 ≤ Int32.toInt u ∧ Int32.toInt u ≤ 511) (hr : 0 ≤ Int32.toInt r ∧ Int32.toInt r ≤ 8) (e : y = (u ||| ((1 : Int32) <<< (r &&& 31)))) : Int32.toNatClampNeg y = Int32.toNatClampNeg u ||| 2 ^ Int32.toNatClampNeg r := by
  have c := z_cl hu.1
  have c2 := z_cl hr.1
  have h := zOb (s := Int32.toNatClampNeg u) (l := Int32.toNatClampNeg r) (by omega) (by omega)
  rw [zi_ofN hu.1, zi_ofN hr.1] at h
  have hb : Int32.toNatClampNeg u ||| 2 ^ Int32.toNatClampNeg r < 2 ^ 9 := jO (R := 9) (show Int32.toNatClampNeg u < 2 ^ 9 by omega) (by omega)
  rw [e, h]
  exact nI_clamp (n := Int32.toNatClampNeg u ||| 2 ^ Int32.toNatClampNeg r) (by omega)
/-- the likeness noted -/
def zLg (g : Nat → Nat → Int32) (W : Nat → Int32) (n k m : Nat) : Prop := (∀ u v : Nat, u < k → v < n → W (6 * u + v) = g u v) ∧ ∀ v : Nat, v < m → W (6 * k + v) = g k v
theorem zLg_0 {g : Nat → Nat → Int32} {W : Nat → Int32} {n : Nat} : zLg g W n (Int32.toNatClampNeg (0 : Int32)) 0 := ⟨fun u v hu => by
  rw [zN0] at hu
  exact absurd hu (Nat.not_lt_zero u), fun v hv => absurd hv (Nat.not_lt_zero v)⟩
theorem zLg_i {g : Nat → Nat → Int32} {W : Nat → Int32} {n k : Nat} (h : zLg g W n k 0) : zLg g W n k (Int32.toNatClampNeg (0 : Int32)) := by rw [zN0]; exact h
theorem zLg_s {g : Nat → Nat → Int32} {W W' : Nat → Int32} {n i : Nat} {k w w' v : Int32} (h : zLg g W n (Int32.toNatClampNeg k) (Int32.toNatClampNeg w)) (hn : n ≤ 6) (hw : Int32.toNatClampNeg w ≤ 5) (hw' : Int32.toNatClampNeg w' = Int32.toNatClampNeg w + 1) (e : W' = upd W i v) (hx : i = 6 * Int32.toNatClampNeg k + Int32.toNatClampNeg w) (hv : v = g (Int32.toNatClampNeg k) (Int32.toNatClampNeg w)) : zLg g W' n (Int32.toNatClampNeg k) (Int32.toNatClampNeg w') := by
  rw [e, hx]
  refine ⟨fun a b ha hb => ?_, fun b hb => ?_⟩
  · rw [pk_un (by omega)]; exact h.1 a b ha hb
  · by_cases z : b = Int32.toNatClampNeg w
    · rw [z, pk_us]; exact hv
    · rw [pk_un (by omega)]; exact h.2 b (by omega)
theorem zLg_e {g : Nat → Nat → Int32} {W : Nat → Int32} {n : Nat} {k k' w : Int32} (h : zLg g W n (Int32.toNatClampNeg k) (Int32.toNatClampNeg w)) (hk : Int32.toNatClampNeg k' = Int32.toNatClampNeg k + 1) (e : Int32.toNatClampNeg w = n) : zLg g W n (Int32.toNatClampNeg k') 0 := by
  rw [hk]
  refine ⟨fun a b ha hb => ?_, fun b hb => absurd hb (Nat.not_lt_zero b)⟩
  by_cases z : a = Int32.toNatClampNeg k
  · rw [z]; exact h.2 b (by omega)
  · exact h.1 a b (by omega) hb
theorem jA_v {a b : Nat → Int32} {le y : Int32} {m r : Nat} {z : Int32} (hy : y = cFA (a m) (b r)) (hz : (Int32.toInt y < Int32.toInt le ∧ z = -1) ∨ (¬ Int32.toInt y < Int32.toInt le ∧ z = y)) : z = jA a b le m r := by
  unfold jA
  rw [← hy]
  rcases hz with ⟨h, e⟩ | ⟨h, e⟩
  · rw [if_pos h, e]
  · rw [if_neg h, e]
/-- the table from a missing on -/
def jG (lk : Nat → Nat → Int32) (R n : Nat) (J K : Nat → Int32) (m : Nat) : Prop := ∀ j v : Nat, m ≤ j → j ≤ n → v < 2 ^ R → J (64 * j + v) = (jT lk R (n - j) j v).1 ∧ K (64 * j + v) = (jT lk R (n - j) j v).2
def jB (n : Nat) (J K : Nat → Int32) (u : Nat) : Prop := ∀ v : Nat, v < u → J (64 * n + v) = 0 ∧ K (64 * n + v) = 1
theorem jB_0 {n : Nat} {J K : Nat → Int32} : jB n J K (Int32.toNatClampNeg (0 : Int32)) := fun v hv => by
  rw [zN0] at hv
  exact absurd hv (Nat.not_lt_zero v)
theorem jB_s {n i i' : Nat} {J K J' K' : Nat → Int32} {u u' : Int32} (h : jB n J K (Int32.toNatClampNeg u)) (hu : Int32.toNatClampNeg u' = Int32.toNatClampNeg u + 1) (e : J' = upd J i (0 : Int32)) (e2 : K' = upd K i' (1 : Int32)) (hi : i = 64 * n + Int32.toNatClampNeg u) (hi' : i' = 64 * n + Int32.toNatClampNeg u) : jB n J' K' (Int32.toNatClampNeg u') := fun v hv => by
  rw [e, e2, hi, hi']
  by_cases z : v = Int32.toNatClampNeg u
  · rw [z, pk_us, pk_us]; exact ⟨rfl, rfl⟩
  · rw [pk_un (by omega), pk_un (by omega)]; exact h v (by omega)
theorem jB_g {lk : Nat → Nat → Int32} {R n m : Nat} {J K : Nat → Int32} {u : Nat} (h : jB n J K u) (hu : u = 2 ^ R) (hm : m = n) : jG lk R n J K m := fun j v h1 h2 hv => by
  have e : j = n := by omega
  rw [e, Nat.sub_self]
  exact h v (by omega)
def jH (lk : Nat → Nat → Int32) (R n : Nat) (J K : Nat → Int32) (m u : Nat) : Prop := jG lk R n J K (m + 1) ∧ ∀ v : Nat, v < u → J (64 * m + v) = (jT lk R (n - m) m v).1 ∧ K (64 * m + v) = (jT lk R (n - m) m v).2
theorem jH_0 {lk : Nat → Nat → Int32} {R n m t : Nat} {J K : Nat → Int32} (h : jG lk R n J K t) (ht : t = m + 1) : jH lk R n J K m (Int32.toNatClampNeg (0 : Int32)) := ⟨ht ▸ h, fun v hv => by
  rw [zN0] at hv
  exact absurd hv (Nat.not_lt_zero v)⟩
theorem jH_s {lk : Nat → Nat → Int32} {R n m : Nat} {L J K J' K' : Nat → Int32} {u u' : Int32} (h : jH lk R n J K m (Int32.toNatClampNeg u)) (hR : R ≤ 6) (hm : m < n) (hu : Int32.toNatClampNeg u < 2 ^ R) (hu' : Int32.toNatClampNeg u' = Int32.toNatClampNeg u + 1) (hL : zLg lk L R n 0) (e : J' = upd J (64 * m + Int32.toNatClampNeg u) (jP (fun i j => L (6 * i + j)) (fun v => J (64 * (m + 1) + v)) (fun v => K (64 * (m + 1) + v)) m (Int32.toNatClampNeg u) R).1 ∧ K' = upd K (64 * m + Int32.toNatClampNeg u) (jP (fun i j => L (6 * i + j)) (fun v => J (64 * (m + 1) + v)) (fun v => K (64 * (m + 1) + v)) m (Int32.toNatClampNeg u) R).2) : jH lk R n J' K' m (Int32.toNatClampNeg u') := by
  have h64 : 2 ^ R ≤ 64 := Nat.le_trans (show 2 ^ R ≤ 2 ^ 6 from Nat.pow_le_pow_right (by decide) hR) (by decide)
  obtain ⟨k, hk⟩ : ∃ k : Nat, n - m = k + 1 := ⟨n - m - 1, by omega⟩
  have hk2 : n - (m + 1) = k := by omega
  have e3 : jP (fun i j => L (6 * i + j)) (fun v => J (64 * (m + 1) + v)) (fun v => K (64 * (m + 1) + v)) m (Int32.toNatClampNeg u) R = jT lk R (n - m) m (Int32.toNatClampNeg u) := by
    rw [hk, jT_1]
    exact jP_c hu (fun r hr => hL.1 m r hm hr) (fun v hv => by
      have q := (h.1 (m + 1) v (by omega) (by omega) hv).1
      rw [hk2] at q
      exact q) (fun v hv => by
      have q := (h.1 (m + 1) v (by omega) (by omega) hv).2
      rw [hk2] at q
      exact q) R (Nat.le_refl R)
  rw [e3] at e
  rw [e.1, e.2]
  refine ⟨fun j v h1 h2 hv => ?_, fun v hv => ?_⟩
  · rw [pk_un (by omega), pk_un (by omega)]; exact h.1 j v h1 h2 hv
  · by_cases z : v = Int32.toNatClampNeg u
    · rw [z, pk_us, pk_us]; exact ⟨rfl, rfl⟩
    · rw [pk_un (by omega), pk_un (by omega)]; exact h.2 v (by omega)
theorem jH_e {lk : Nat → Nat → Int32} {R n m t u : Nat} {J K : Nat → Int32} (h : jH lk R n J K m u) (hu : u = 2 ^ R) (ht : t = m) : jG lk R n J K t := fun j v h1 h2 hv => by
  by_cases z : j = m
  · rw [z]; exact h.2 v (by omega)
  · exact h.1 j v (by omega) h2 hv
/-! join: the model's rows as numbers -/
def kD (R n w j : Nat) : Int := if w / (R + 1) ^ (n - 1 - j) % (R + 1) = R then -1 else ((w / (R + 1) ^ (n - 1 - j) % (R + 1) : Nat) : Int)
def kM (f : Nat → Int) : Nat → Int
  | 0 => 0
  | m + 1 => kM f m + (if f m = -1 then 0 else 1)
theorem kM_1 (f : Nat → Int) (m : Nat) : kM f (m + 1) = kM f m + (if f m = -1 then 0 else 1) := rfl
def kV (L : Nat → Nat → Int) (R n : Nat) (le : Int) (w : Nat) : Int := jK L (R : Int) le (kD R n w) n 0 0 0
def kJ (R n w : Nat) : Int := kM (kD R n w) n
def kF (v j : Nat → Int) : Nat → Int × Int
  | 0 => (-1, 0)
  | w + 1 => if v w ≠ -1 ∧ ((kF v j w).1 < v w ∨ (v w = (kF v j w).1 ∧ (kF v j w).2 < j w)) then (v w, j w) else kF v j w
theorem kF_1 (v j : Nat → Int) (w : Nat) : kF v j (w + 1) = if v w ≠ -1 ∧ ((kF v j w).1 < v w ∨ (v w = (kF v j w).1 ∧ (kF v j w).2 < j w)) then (v w, j w) else kF v j w := rfl
def nS (L : Nat → Nat → Int) (R : Nat) (le : Int) : Nat → Nat → Nat → Nat → Int
  | 0, _, _, _ => 0
  | k + 1, m, u, w => if w / (R + 1) ^ k = R then nS L R le k (m + 1) u (w % (R + 1) ^ k) else if u.testBit (w / (R + 1) ^ k) = true ∨ L m (w / (R + 1) ^ k) < le then -1 else if nS L R le k (m + 1) (u ||| 2 ^ (w / (R + 1) ^ k)) (w % (R + 1) ^ k) = -1 then -1 else nS L R le k (m + 1) (u ||| 2 ^ (w / (R + 1) ^ k)) (w % (R + 1) ^ k) + 8 * L m (w / (R + 1) ^ k) + 1
theorem nS_1 (L : Nat → Nat → Int) (R : Nat) (le : Int) (k m u w : Nat) : nS L R le (k + 1) m u w = if w / (R + 1) ^ k = R then nS L R le k (m + 1) u (w % (R + 1) ^ k) else if u.testBit (w / (R + 1) ^ k) = true ∨ L m (w / (R + 1) ^ k) < le then -1 else if nS L R le k (m + 1) (u ||| 2 ^ (w / (R + 1) ^ k)) (w % (R + 1) ^ k) = -1 then -1 else nS L R le k (m + 1) (u ||| 2 ^ (w / (R + 1) ^ k)) (w % (R + 1) ^ k) + 8 * L m (w / (R + 1) ^ k) + 1 := rfl
theorem kOf {d : Nat} (h : d < 64) : Int32.ofInt (d : Int) = Int32.ofNat d := by
  have e : Int32.toInt (Int32.ofNat d) = (d : Int) := nI_toInt (n := d) (by omega)
  rw [← e, Int32.ofInt_toInt]
theorem nL {L : Nat → Nat → Int} {R n w : Nat} {le : Int} (hR : R ≤ 6) (hL : ∀ i j : Nat, i < n → j < R → 0 ≤ L i j) : ∀ (k m u : Nat) (s : Int), k + m = n → u < 2 ^ 6 → 0 ≤ s → (jK L (R : Int) le (kD R n w) k m (Int32.ofNat u) s = -1 ∧ nS L R le k m u (w % (R + 1) ^ k) = -1) ∨ (s ≤ jK L (R : Int) le (kD R n w) k m (Int32.ofNat u) s ∧ nS L R le k m u (w % (R + 1) ^ k) = 8 * (jK L (R : Int) le (kD R n w) k m (Int32.ofNat u) s - s) + (kM (kD R n w) n - kM (kD R n w) m) ∧ 0 ≤ kM (kD R n w) n - kM (kD R n w) m) := by
  intro k
  induction k with
  | zero =>
    intro m u s hk _ _
    have e : m = n := by omega
    refine Or.inr ⟨Int.le_refl s, ?_, by rw [e]; omega⟩
    show (0 : Int) = 8 * (s - s) + (kM (kD R n w) n - kM (kD R n w) m)
    rw [e]
    omega
  | succ k ih =>
    intro m u s hk hu hs
    have hm : m < n := by omega
    have hd : w / (R + 1) ^ k % (R + 1) < R + 1 := Nat.mod_lt _ (Nat.succ_pos R)
    have e1 : w % (R + 1) ^ (k + 1) / (R + 1) ^ k = w / (R + 1) ^ k % (R + 1) := by rw [Nat.pow_succ, Nat.mod_mul_right_div_self]
    have e2 : w % (R + 1) ^ (k + 1) % (R + 1) ^ k = w % (R + 1) ^ k := Nat.mod_mod_of_dvd _ ⟨R + 1, Nat.pow_succ _ _⟩
    have ek : n - 1 - m = k := by omega
    have ef : kD R n w m = if w / (R + 1) ^ k % (R + 1) = R then -1 else ((w / (R + 1) ^ k % (R + 1) : Nat) : Int) := by unfold kD; rw [ek]
    rw [nS_1, e1, e2, jK_1]
    generalize w / (R + 1) ^ k % (R + 1) = d at *
    by_cases q : d = R
    · rw [if_pos q] at ef
      have eM : kM (kD R n w) (m + 1) = kM (kD R n w) m := by rw [kM_1, if_pos ef, Int.add_zero]
      have h := ih (m + 1) u s (by omega) hu hs
      rw [eM] at h
      rw [if_pos q, if_pos ef]
      exact h
    · rw [if_neg q] at ef
      have hd2 : d < R := by omega
      have ne : ¬ kD R n w m = -1 := by rw [ef]; omega
      have eM : kM (kD R n w) (m + 1) = kM (kD R n w) m + 1 := by rw [kM_1, if_neg ne]
      have hLd := hL m d hm hd2
      have hb := zbit (s := u) (k := d) (by omega)
      have ho := zOb (s := u) (l := d) (by omega) (by omega)
      rw [if_neg q, if_neg ne, ef, Int.toNat_natCast, kOf (by omega), hb, ho]
      by_cases z : u.testBit d = true ∨ L m d < le
      · rw [if_pos z, if_pos (Or.inr (z.elim (fun z1 => Or.inl (if_pos z1)) Or.inr))]
        exact Or.inl ⟨rfl, rfl⟩
      · have z1 : ¬ u.testBit d = true := fun y => z (Or.inl y)
        have z2 : ¬ L m d < le := fun y => z (Or.inr y)
        rw [if_neg z, if_neg (show ¬ ((R : Int) ≤ (d : Int) ∨ (if u.testBit d = true then (1 : Int32) else 0) = 1 ∨ L m d < le) from fun y => by
          rcases y with y | y | y
          · omega
          · rw [if_neg z1] at y; exact absurd y (by decide)
          · exact z2 y)]
        rcases ih (m + 1) (u ||| 2 ^ d) (s + L m d) (by omega) (jO hu (by omega)) (by omega) with ⟨h1, h2⟩ | ⟨h1, h2, h3⟩
        · rw [h1, h2, if_pos rfl]
          exact Or.inl ⟨rfl, rfl⟩
        · rw [eM] at h2 h3
          rw [if_neg (by omega)]
          exact Or.inr ⟨by omega, by omega, by omega⟩
theorem zFA_b : ∀ (k : Nat) (n : Int) (a b : Int32), n ≤ zFA k n a b ∧ zFA k n a b ≤ n + (k : Int) := by
  intro k
  induction k with
  | zero =>
    intro n a b
    show n ≤ n ∧ n ≤ n + ((0 : Nat) : Int)
    omega
  | succ k ih =>
    intro n a b
    have h := ih (n + (if (a - a / (10 : Int32) * (10 : Int32)) = (b - b / (10 : Int32) * (10 : Int32)) then 1 else 0)) (a / (10 : Int32)) (b / (10 : Int32))
    show n ≤ zFA k (n + (if (a - a / (10 : Int32) * (10 : Int32)) = (b - b / (10 : Int32) * (10 : Int32)) then 1 else 0)) (a / (10 : Int32)) (b / (10 : Int32)) ∧ zFA k (n + (if (a - a / (10 : Int32) * (10 : Int32)) = (b - b / (10 : Int32) * (10 : Int32)) then 1 else 0)) (a / (10 : Int32)) (b / (10 : Int32)) ≤ _
    have h2 : 0 ≤ (if (a - a / (10 : Int32) * (10 : Int32)) = (b - b / (10 : Int32) * (10 : Int32)) then (1 : Int) else 0) ∧ (if (a - a / (10 : Int32) * (10 : Int32)) = (b - b / (10 : Int32) * (10 : Int32)) then (1 : Int) else 0) ≤ 1 := by
      by_cases q : (a - a / (10 : Int32) * (10 : Int32)) = (b - b / (10 : Int32) * (10 : Int32))
      · rw [if_pos q]; omega
      · rw [if_neg q]; omega
    omega
theorem cFA_b (a b : Int32) : 0 ≤ Int32.toInt (cFA a b) ∧ Int32.toInt (cFA a b) ≤ 8 := by
  have h := zFA_b 8 0 a b
  have e : Int32.toInt (cFA a b) = zFA 8 0 a b := by
    unfold cFA
    obtain ⟨t, ht⟩ : ∃ t : Nat, zFA 8 0 a b = (t : Int) := ⟨(zFA 8 0 a b).toNat, by omega⟩
    rw [ht, kOf (by omega)]
    exact nI_toInt (n := t) (by omega)
  omega
/-! join: both sides the same -/
theorem jW_i {lk : Nat → Nat → Int32} {S : Nat → Int32} {m u d : Nat} (hS : 0 ≤ Int32.toInt (S (u ||| 2 ^ d)) ∧ Int32.toInt (S (u ||| 2 ^ d)) ≤ 500) (hl : 0 ≤ Int32.toInt (lk m d) ∧ Int32.toInt (lk m d) ≤ 8) (h : ¬ u.testBit d = true) : Int32.toInt (jW lk S m u d) = Int32.toInt (S (u ||| 2 ^ d)) + 8 * Int32.toInt (lk m d) + 1 := by
  have h2 : ¬ lk m d = -1 := fun z => by
    rw [z] at hl
    exact absurd hl.1 (by decide)
  unfold jW
  rw [if_neg (fun z => z.elim h h2)]
  have e8 : Int32.toInt (8 : Int32) = 8 := by decide
  have e1 : Int32.toInt (lk m d * (8 : Int32)) = Int32.toInt (lk m d) * 8 := zi_mulc rfl e8 (by omega)
  have e2 : Int32.toInt (S (u ||| 2 ^ d) + lk m d * (8 : Int32)) = Int32.toInt (S (u ||| 2 ^ d)) + Int32.toInt (lk m d) * 8 := zi_addc rfl e1 (by omega)
  have e3 : Int32.toInt ((S (u ||| 2 ^ d) + lk m d * (8 : Int32)) + (1 : Int32)) = (Int32.toInt (S (u ||| 2 ^ d)) + Int32.toInt (lk m d) * 8) + 1 := zi_addc e2 (by decide) (by omega)
  omega
theorem jW_j {lk : Nat → Nat → Int32} {S : Nat → Int32} {m u d : Nat} (h : u.testBit d = true ∨ lk m d = -1) : Int32.toInt (jW lk S m u d) = -1 := by
  rw [← jW_1 (S := S) h]
  decide
theorem jS_f {p : Int32 × Int32} {s v : Int32} : (Int32.toInt p.1 < Int32.toInt s ∧ (jS p s v).1 = s) ∨ (Int32.toInt s ≤ Int32.toInt p.1 ∧ (jS p s v).1 = p.1) := by
  unfold jS
  by_cases h : Int32.toInt p.1 < Int32.toInt s
  · rw [if_pos h]; exact Or.inl ⟨h, rfl⟩
  · rw [if_neg h]
    refine Or.inr ⟨by omega, ?_⟩
    by_cases h2 : s = p.1
    · rw [if_pos h2]
    · rw [if_neg h2]
theorem jP_p {lk : Nat → Nat → Int32} {S V : Nat → Int32} {m u R : Nat} {M : Int} (hM : M ≤ 400) (hu : u < 2 ^ R) (hS : ∀ v : Nat, v < 2 ^ R → 0 ≤ Int32.toInt (S v) ∧ Int32.toInt (S v) ≤ M) (hl : ∀ r : Nat, r < R → Int32.toInt (lk m r) = -1 ∨ (0 ≤ Int32.toInt (lk m r) ∧ Int32.toInt (lk m r) ≤ 8)) : ∀ r : Nat, r ≤ R → (0 ≤ Int32.toInt (jP lk S V m u r).1 ∧ Int32.toInt (jP lk S V m u r).1 ≤ M + 65) ∧ Int32.toInt (S u) ≤ Int32.toInt (jP lk S V m u r).1 ∧ (∀ d : Nat, d < r → Int32.toInt (jW lk S m u d) ≤ Int32.toInt (jP lk S V m u r).1) ∧ ((jP lk S V m u r).1 = S u ∨ ∃ d : Nat, d < r ∧ (jP lk S V m u r).1 = jW lk S m u d) := by
  intro r
  induction r with
  | zero =>
    intro _
    have h := hS u hu
    show (0 ≤ Int32.toInt (S u) ∧ Int32.toInt (S u) ≤ M + 65) ∧ Int32.toInt (S u) ≤ Int32.toInt (S u) ∧ _
    exact ⟨⟨h.1, by omega⟩, Int.le_refl _, fun d hd => absurd hd (Nat.not_lt_zero d), Or.inl rfl⟩
  | succ r ih =>
    intro hr
    obtain ⟨⟨i1, i2⟩, i3, i4, i5⟩ := ih (by omega)
    have hb : Int32.toInt (jW lk S m u r) ≤ M + 65 := by
      by_cases z : u.testBit r = true ∨ lk m r = -1
      · rw [jW_j z]; omega
      · have h1 := hS _ (jO hu (show r < R by omega))
        have h2 : 0 ≤ Int32.toInt (lk m r) ∧ Int32.toInt (lk m r) ≤ 8 := by
          rcases hl r (by omega) with q | q
          · exact absurd (Or.inr (Int32.toInt_inj.mp (q.trans (by decide)))) z
          · exact q
        rw [jW_i ⟨h1.1, by omega⟩ h2 (fun y => z (Or.inl y))]
        omega
    rw [jP_1]
    rcases jS_f (p := jP lk S V m u r) (s := jW lk S m u r) (v := V (u ||| 2 ^ r)) with ⟨h, e⟩ | ⟨h, e⟩
    · rw [e]
      refine ⟨⟨by omega, hb⟩, by omega, fun d hd => ?_, Or.inr ⟨r, by omega, rfl⟩⟩
      by_cases z : d = r
      · rw [z]; exact Int.le_refl _
      · have := i4 d (by omega); omega
    · rw [e]
      refine ⟨⟨i1, i2⟩, i3, fun d hd => ?_, ?_⟩
      · by_cases z : d = r
        · rw [z]; exact h
        · exact i4 d (by omega)
      · rcases i5 with q | ⟨d, hd, q⟩
        · exact Or.inl q
        · exact Or.inr ⟨d, by omega, q⟩
theorem kQ {p d w : Nat} (h : w < p) : (d * p + w) / p = d ∧ (d * p + w) % p = w := by
  have hp : 0 < p := by omega
  rw [Nat.add_comm, Nat.add_mul_div_right _ _ hp, Nat.add_mul_mod_self_right, Nat.div_eq_of_lt h, Nat.mod_eq_of_lt h, Nat.zero_add]
  exact ⟨rfl, rfl⟩
theorem kQ2 {R k d w : Nat} (hd : d ≤ R) (h : w < (R + 1) ^ k) : d * (R + 1) ^ k + w < (R + 1) ^ (k + 1) := by
  have h1 := Nat.mul_le_mul_right ((R + 1) ^ k) (show d + 1 ≤ R + 1 by omega)
  have h2 : (d + 1) * (R + 1) ^ k = d * (R + 1) ^ k + (R + 1) ^ k := Nat.succ_mul d _
  have h3 : (R + 1) ^ (k + 1) = (R + 1) * (R + 1) ^ k := by rw [Nat.pow_succ, Nat.mul_comm]
  rw [h3]
  omega
theorem jT_p {lk : Nat → Nat → Int32} {L : Nat → Nat → Int} {R n : Nat} {le : Int} (hR : R ≤ 6) (hn : n ≤ 6) (hl : ∀ i r : Nat, i < n → r < R → (Int32.toInt (lk i r) = -1 ∧ L i r < le) ∨ (Int32.toInt (lk i r) = L i r ∧ 0 ≤ L i r ∧ L i r ≤ 8 ∧ ¬ L i r < le)) : ∀ k m u : Nat, k + m = n → u < 2 ^ R → (0 ≤ Int32.toInt (jT lk R k m u).1 ∧ Int32.toInt (jT lk R k m u).1 ≤ 65 * (k : Int)) ∧ (∀ w : Nat, w < (R + 1) ^ k → nS L R le k m u w ≤ Int32.toInt (jT lk R k m u).1) ∧ ∃ w : Nat, w < (R + 1) ^ k ∧ nS L R le k m u w = Int32.toInt (jT lk R k m u).1 := by
  intro k
  induction k with
  | zero =>
    intro m u _ _
    have e : Int32.toInt (jT lk R 0 m u).1 = 0 := by show Int32.toInt (0 : Int32) = 0; decide
    rw [e]
    exact ⟨by omega, fun w _ => Int.le_refl 0, 0, by show 0 < 1; decide, rfl⟩
  | succ k ih =>
    intro m u hk hu
    have hm : m < n := by omega
    have hp := jP_p (lk := lk) (S := fun v => (jT lk R k (m + 1) v).1) (V := fun v => (jT lk R k (m + 1) v).2) (m := m) (u := u) (R := R) (M := 65 * (k : Int)) (by omega) hu (fun v hv => (ih (m + 1) v (by omega) hv).1) (fun r hr => by
      rcases hl m r hm hr with ⟨q, _⟩ | ⟨q, q1, q2, _⟩
      · exact Or.inl q
      · exact Or.inr (by omega)) R (Nat.le_refl R)
    rw [← jT_1] at hp
    obtain ⟨⟨p1, p2⟩, p3, p4, p5⟩ := hp
    have p6 : Int32.toInt (jT lk R k (m + 1) u).1 ≤ Int32.toInt (jT lk R (k + 1) m u).1 := p3
    have hok : ∀ d : Nat, d < R → ¬ (u.testBit d = true ∨ L m d < le) → Int32.toInt (jW lk (fun v => (jT lk R k (m + 1) v).1) m u d) = Int32.toInt (jT lk R k (m + 1) (u ||| 2 ^ d)).1 + 8 * L m d + 1 := fun d hd z => by
      have h1 := (ih (m + 1) (u ||| 2 ^ d) (by omega) (jO hu hd)).1
      rcases hl m d hm hd with ⟨q, q1⟩ | ⟨q, q1, q2, q3⟩
      · exact absurd (Or.inr q1) z
      · rw [jW_i (lk := lk) (S := fun v => (jT lk R k (m + 1) v).1) (m := m) (u := u) (d := d) ⟨h1.1, by show Int32.toInt (jT lk R k (m + 1) (u ||| 2 ^ d)).1 ≤ 500; omega⟩ (by omega) (fun y => z (Or.inl y)), q]
    refine ⟨⟨p1, by omega⟩, fun w hw => ?_, ?_⟩
    · have hd : w / (R + 1) ^ k < R + 1 := Nat.div_lt_of_lt_mul (by rw [← Nat.pow_succ]; exact hw)
      have hw1 : w % (R + 1) ^ k < (R + 1) ^ k := Nat.mod_lt _ (Nat.pow_pos (Nat.succ_pos R))
      rw [nS_1]
      by_cases q : w / (R + 1) ^ k = R
      · rw [if_pos q]
        have h1 := (ih (m + 1) u (by omega) hu).2.1 _ hw1
        omega
      · rw [if_neg q]
        have hd2 : w / (R + 1) ^ k < R := by omega
        by_cases z : u.testBit (w / (R + 1) ^ k) = true ∨ L m (w / (R + 1) ^ k) < le
        · rw [if_pos z]; omega
        · rw [if_neg z]
          have h1 := (ih (m + 1) (u ||| 2 ^ (w / (R + 1) ^ k)) (by omega) (jO hu hd2)).2.1 _ hw1
          have h2 := hok _ hd2 z
          have h3 := p4 _ hd2
          by_cases y : nS L R le k (m + 1) (u ||| 2 ^ (w / (R + 1) ^ k)) (w % (R + 1) ^ k) = -1
          · rw [if_pos y]; omega
          · rw [if_neg y]; omega
    · rcases p5 with q | ⟨d, hd, q⟩
      · obtain ⟨w, hw, e⟩ := (ih (m + 1) u (by omega) hu).2.2
        refine ⟨R * (R + 1) ^ k + w, kQ2 (Nat.le_refl R) hw, ?_⟩
        rw [nS_1, (kQ hw).1, (kQ hw).2, if_pos rfl, e]
        exact congrArg Int32.toInt q.symm
      · have z : ¬ (u.testBit d = true ∨ L m d < le) := fun z => by
          have h1 : Int32.toInt (jW lk (fun v => (jT lk R k (m + 1) v).1) m u d) = -1 := jW_j (z.elim Or.inl (fun y => Or.inr (by
            rcases hl m d hm hd with ⟨q1, _⟩ | ⟨_, _, _, q3⟩
            · exact Int32.toInt_inj.mp (q1.trans (by decide))
            · exact absurd y q3)))
          rw [← q] at h1
          omega
        obtain ⟨w, hw, e⟩ := (ih (m + 1) (u ||| 2 ^ d) (by omega) (jO hu hd)).2.2
        have h0 := (ih (m + 1) (u ||| 2 ^ d) (by omega) (jO hu hd)).1.1
        refine ⟨d * (R + 1) ^ k + w, kQ2 (by omega) hw, ?_⟩
        rw [nS_1, (kQ hw).1, (kQ hw).2, if_neg (by omega), if_neg z, e, if_neg (by omega), q, hok d hd z]
theorem kM_b {f : Nat → Int} (m : Nat) : 0 ≤ kM f m ∧ kM f m ≤ (m : Int) := by
  induction m with
  | zero =>
    show (0 : Int) ≤ 0 ∧ (0 : Int) ≤ ((0 : Nat) : Int)
    omega
  | succ m ih =>
    rw [kM_1]
    by_cases q : f m = -1
    · rw [if_pos q]; omega
    · rw [if_neg q]; omega
theorem kF_p {v j : Nat → Int} (hv : ∀ w : Nat, v w = -1 ∨ 0 ≤ v w) (hj : ∀ w : Nat, 0 ≤ j w ∧ j w ≤ 7) : ∀ N : Nat, (kF v j N = (-1, 0) ∧ ∀ w : Nat, w < N → v w = -1) ∨ (∃ w : Nat, w < N ∧ v w ≠ -1 ∧ v w = (kF v j N).1 ∧ j w = (kF v j N).2 ∧ ∀ t : Nat, t < N → v t ≠ -1 → 8 * v t + j t ≤ 8 * (kF v j N).1 + (kF v j N).2) := by
  intro N
  induction N with
  | zero => exact Or.inl ⟨rfl, fun w hw => absurd hw (Nat.not_lt_zero w)⟩
  | succ N ih =>
    have hN := hv N
    have jN := hj N
    rw [kF_1]
    rcases ih with ⟨h1, h2⟩ | ⟨w, h1, h2, h3, h4, h5⟩
    · rw [h1]
      by_cases q : v N = -1
      · rw [if_neg (fun z => z.1 q)]
        refine Or.inl ⟨rfl, fun w hw => ?_⟩
        by_cases z : w = N
        · rw [z]; exact q
        · exact h2 w (by omega)
      · rw [if_pos ⟨q, Or.inl (show (-1 : Int) < v N by omega)⟩]
        refine Or.inr ⟨N, by omega, q, rfl, rfl, fun t ht hq => ?_⟩
        by_cases z : t = N
        · rw [z]; exact Int.le_refl _
        · exact absurd (h2 t (by omega)) hq
    · have jw := hj w
      by_cases q : v N ≠ -1 ∧ ((kF v j N).1 < v N ∨ (v N = (kF v j N).1 ∧ (kF v j N).2 < j N))
      · rw [if_pos q]
        refine Or.inr ⟨N, by omega, q.1, rfl, rfl, fun t ht hq => ?_⟩
        show 8 * v t + j t ≤ 8 * v N + j N
        by_cases z : t = N
        · rw [z]; exact Int.le_refl _
        · have h6 := h5 t (by omega) hq
          have h7 := q.2
          omega
      · rw [if_neg q]
        refine Or.inr ⟨w, by omega, h2, h3, h4, fun t ht hq => ?_⟩
        by_cases z : t = N
        · rw [z] at hq ⊢
          have h7 : ¬ ((kF v j N).1 < v N ∨ (v N = (kF v j N).1 ∧ (kF v j N).2 < j N)) := fun y => q ⟨hq, y⟩
          omega
        · exact h5 t (by omega) hq
theorem jE {a b : Nat → Int32} {le : Int32} {R n : Nat} (hR : R ≤ 6) (hn : n ≤ 6) : (kF (kV (zLk a b) R n (Int32.toInt le)) (kJ R n) ((R + 1) ^ n)).1 = Int32.toInt ((jT (jA a b le) R n 0 0).1 / (8 : Int32)) := by
  have hL : ∀ i j : Nat, 0 ≤ zLk a b i j ∧ zLk a b i j ≤ 8 := fun i j => cFA_b _ _
  have hl : ∀ i r : Nat, i < n → r < R → (Int32.toInt (jA a b le i r) = -1 ∧ zLk a b i r < Int32.toInt le) ∨ (Int32.toInt (jA a b le i r) = zLk a b i r ∧ 0 ≤ zLk a b i r ∧ zLk a b i r ≤ 8 ∧ ¬ zLk a b i r < Int32.toInt le) := fun i r _ _ => by
    unfold jA
    by_cases q : Int32.toInt (cFA (a i) (b r)) < Int32.toInt le
    · rw [if_pos q]; exact Or.inl ⟨by decide, q⟩
    · rw [if_neg q]; exact Or.inr ⟨rfl, (hL i r).1, (hL i r).2, q⟩
  obtain ⟨⟨t1, t2⟩, t3, w0, t4, t5⟩ := jT_p hR hn hl n 0 0 (by omega) (Nat.pow_pos (by decide))
  have hw : ∀ w : Nat, w < (R + 1) ^ n → (kV (zLk a b) R n (Int32.toInt le) w = -1 ∧ nS (zLk a b) R (Int32.toInt le) n 0 0 w = -1) ∨ (0 ≤ kV (zLk a b) R n (Int32.toInt le) w ∧ nS (zLk a b) R (Int32.toInt le) n 0 0 w = 8 * kV (zLk a b) R n (Int32.toInt le) w + kJ R n w) := fun w h => by
    have h1 := nL (L := zLk a b) (R := R) (n := n) (w := w) (le := Int32.toInt le) hR (fun i j _ _ => (hL i j).1) n 0 0 0 (by omega) (by decide) (Int.le_refl 0)
    rw [Nat.mod_eq_of_lt h] at h1
    rcases h1 with ⟨h2, h3⟩ | ⟨h2, h3, h4⟩
    · exact Or.inl ⟨h2, h3⟩
    · refine Or.inr ⟨h2, h3.trans ?_⟩
      have e0 : kM (kD R n w) 0 = 0 := rfl
      show 8 * (kV (zLk a b) R n (Int32.toInt le) w - 0) + (kJ R n w - kM (kD R n w) 0) = _
      rw [e0]
      omega
  have hv : ∀ w : Nat, kV (zLk a b) R n (Int32.toInt le) w = -1 ∨ 0 ≤ kV (zLk a b) R n (Int32.toInt le) w := fun w => by
    have h1 := nL (L := zLk a b) (R := R) (n := n) (w := w) (le := Int32.toInt le) hR (fun i j _ _ => (hL i j).1) n 0 0 0 (by omega) (by decide) (Int.le_refl 0)
    rcases h1 with ⟨h2, _⟩ | ⟨h2, _, _⟩
    · exact Or.inl h2
    · exact Or.inr h2
  have hj : ∀ w : Nat, 0 ≤ kJ R n w ∧ kJ R n w ≤ 7 := fun w => by
    have h1 := kM_b (f := kD R n w) n
    show 0 ≤ kM (kD R n w) n ∧ kM (kD R n w) n ≤ 7
    omega
  have e8 : Int32.toInt ((jT (jA a b le) R n 0 0).1 / (8 : Int32)) = Int32.toInt (jT (jA a b le) R n 0 0).1 / 8 := zo_div 8 t1 rfl (by decide)
  rw [e8]
  have h0 := hw w0 t4
  rcases kF_p hv hj ((R + 1) ^ n) with ⟨h1, h2⟩ | ⟨w, h1, h2, h3, h4, h5⟩
  · have h6 := h2 w0 t4
    omega
  · have h6 := hw w h1
    have h7 := t3 w h1
    have h8 := hj w
    have h9 := hj w0
    by_cases z : kV (zLk a b) R n (Int32.toInt le) w0 = -1
    · omega
    · have h10 := h5 w0 t4 z
      omega
/-! join: steps of the loops -/
theorem zi_0 {G : Nat → Int32} {m : Int32} {i i' : Nat} (e : m = G i) (hi : i = i') : m = G i' := by rw [e, hi]
theorem zi_3 {J L : Nat → Int32} {x : Int32} {i i' j j' : Nat} (e : x = ((J i + (L j * (8 : Int32))) + (1 : Int32))) (hi : i = i') (hj : j = j') : x = ((J i' + (L j' * (8 : Int32))) + (1 : Int32)) := by rw [e, hi, hj]
theorem zUi2 {F F' : Nat → Int32} {i j : Nat} {v v' : Int32} (e : F' = upd F i v) (h : i = j) (hv : v = v') : F' = upd F j v' := by rw [e, h, hv]
theorem jG_0 {lk : Nat → Nat → Int32} {R n t : Nat} {J K : Nat → Int32} (h : jG lk R n J K t) (ht : t = 0) : J 0 = (jT lk R n 0 0).1 := (h 0 0 (by omega) (Nat.zero_le n) (Nat.pow_pos (by decide))).1
noncomputable def jAc (a b : Nat → Int32) (n R le : Int32) : Int := @ite Int (0 ≤ Int32.toInt le ∧ Int32.toInt le ≤ 8) (Classical.propDecidable _) (Int32.toInt ((jT (jA a b le) (Int32.toNatClampNeg R) (Int32.toNatClampNeg n) 0 0).1 / (8 : Int32))) (-1)
noncomputable def jAm (L : Nat → Nat → Int) (n R le : Int32) : Int := @ite Int (0 ≤ Int32.toInt le ∧ Int32.toInt le ≤ 8) (Classical.propDecidable _) (kF (kV L (Int32.toNatClampNeg R) (Int32.toNatClampNeg n) (Int32.toInt le)) (kJ (Int32.toNatClampNeg R) (Int32.toNatClampNeg n)) ((Int32.toNatClampNeg R + 1) ^ Int32.toNatClampNeg n)).1 (-1)
theorem jAc_0 {a b : Nat → Int32} {n R le : Int32} {x : Int} (z : ¬ (0 ≤ Int32.toInt le ∧ Int32.toInt le ≤ 8)) (hx : x = -1) : x = jAc a b n R le := by
  unfold jAc
  rw [if_neg z, hx]
theorem jAc_1 {a b : Nat → Int32} {n R le r : Int32} (z : 0 ≤ Int32.toInt le ∧ Int32.toInt le ≤ 8) (h : r = ((jT (jA a b le) (Int32.toNatClampNeg R) (Int32.toNatClampNeg n) 0 0).1 / (8 : Int32))) : Int32.toInt r = jAc a b n R le := by
  unfold jAc
  rw [if_pos z, h]
theorem jAm_0 {L : Nat → Nat → Int} {n R le : Int32} {x : Int} (z : ¬ (0 ≤ Int32.toInt le ∧ Int32.toInt le ≤ 8)) (hx : x = -1) : x = jAm L n R le := by
  unfold jAm
  rw [if_neg z, hx]
theorem jAm_1 {L : Nat → Nat → Int} {n R le w : Int32} {b c : Int} (z : 0 ≤ Int32.toInt le ∧ Int32.toInt le ≤ 8) (h : (b, c) = kF (kV L (Int32.toNatClampNeg R) (Int32.toNatClampNeg n) (Int32.toInt le)) (kJ (Int32.toNatClampNeg R) (Int32.toNatClampNeg n)) (Int32.toNatClampNeg w)) (hw : Int32.toInt w = (((Int32.toNatClampNeg R + 1) ^ Int32.toNatClampNeg n : Nat) : Int)) : b = jAm L n R le := by
  have c1 := z_cl (x := w) (by omega)
  unfold jAm
  rw [if_pos z, ← show Int32.toNatClampNeg w = (Int32.toNatClampNeg R + 1) ^ Int32.toNatClampNeg n by omega, ← h]
theorem kF_0 {v j : Nat → Int} : (Int32.toInt (-1 : Int32), Int32.toInt (0 : Int32)) = kF v j (Int32.toNatClampNeg (0 : Int32)) := by
  rw [zN0]
  show (Int32.toInt (-1 : Int32), Int32.toInt (0 : Int32)) = ((-1 : Int), (0 : Int))
  decide
theorem kF_n {v j : Nat → Int} {b c x y : Int} {w w' : Int32} (h : (b, c) = kF v j (Int32.toNatClampNeg w)) (e : Int32.toNatClampNeg w' = Int32.toNatClampNeg w + 1) (hn : v (Int32.toNatClampNeg w) = -1 ∨ (x = v (Int32.toNatClampNeg w) ∧ y = j (Int32.toNatClampNeg w) ∧ (x < b ∨ (x = b ∧ y ≤ c)))) : (b, c) = kF v j (Int32.toNatClampNeg w') := by
  rw [e, kF_1, ← h, if_neg]
  intro q
  have q2 : b < v (Int32.toNatClampNeg w) ∨ (v (Int32.toNatClampNeg w) = b ∧ c < j (Int32.toNatClampNeg w)) := q.2
  rcases hn with hn | ⟨h1, h2, h3⟩
  · exact q.1 hn
  · rw [← h1, ← h2] at q2
    omega
theorem kF_y {v j : Nat → Int} {b c x y : Int} {w w' : Int32} (h : (b, c) = kF v j (Int32.toNatClampNeg w)) (e : Int32.toNatClampNeg w' = Int32.toNatClampNeg w + 1) (hx : x = v (Int32.toNatClampNeg w)) (hy : y = j (Int32.toNatClampNeg w)) (hne : x ≠ -1) (hc : b < x ∨ (x = b ∧ c < y)) : (x, y) = kF v j (Int32.toNatClampNeg w') := by
  rw [e, kF_1, ← h, ← hx, ← hy, if_pos ⟨hne, hc⟩]
theorem kD_b (R n w j : Nat) : -1 ≤ kD R n w j := by
  unfold kD
  by_cases q : w / (R + 1) ^ (n - 1 - j) % (R + 1) = R
  · rw [if_pos q]; decide
  · rw [if_neg q]; omega
theorem kV_e {L : Nat → Nat → Int} {J : Nat → Int32} {n rc le : Int32} {R w : Nat} (h : ∀ j : Nat, j < Int32.toNatClampNeg n → Int32.toInt (J j) = kD R (Int32.toNatClampNeg n) w j) (hrc : Int32.toInt rc = (R : Int)) : jKj L n rc le J = kV L R (Int32.toNatClampNeg n) (Int32.toInt le) w := by
  unfold jKj kV
  rw [hrc]
  exact jK_c (Int32.toNatClampNeg n) h (fun j _ => kD_b _ _ _ _) (fun _ _ _ _ => rfl) _ _ _ _ (by omega)
theorem kM_c {f g : Nat → Int} (n : Nat) (h : ∀ j : Nat, j < n → f j = g j) : kM f n = kM g n := by
  induction n with
  | zero => rfl
  | succ n ih => rw [kM_1, kM_1, ih (fun j hj => h j (by omega)), h n (by omega)]
theorem kM_0 {f : Nat → Int} : Int32.toInt (0 : Int32) = kM f (Int32.toNatClampNeg (0 : Int32)) := by
  rw [zN0]
  exact (by decide : Int32.toInt (0 : Int32) = 0)
theorem kM_n {f : Nat → Int} {x : Int} {k k' : Int32} (h : x = kM f (Int32.toNatClampNeg k)) (e : Int32.toNatClampNeg k' = Int32.toNatClampNeg k + 1) (hf : f (Int32.toNatClampNeg k) = -1) : x = kM f (Int32.toNatClampNeg k') := by
  rw [e, kM_1, if_pos hf, Int.add_zero]
  exact h
theorem kM_y {f : Nat → Int} {x x' : Int} {k k' : Int32} (h : x = kM f (Int32.toNatClampNeg k)) (e : Int32.toNatClampNeg k' = Int32.toNatClampNeg k + 1) (hf : f (Int32.toNatClampNeg k) ≠ -1) (hx : x' = x + 1) : x' = kM f (Int32.toNatClampNeg k') := by
  rw [e, kM_1, if_neg hf, ← h]
  exact hx
theorem kA_0 {R : Nat} : Int32.toInt (1 : Int32) = (((R + 1) ^ Int32.toNatClampNeg (0 : Int32) : Nat) : Int) := by
  rw [zN0, Nat.pow_zero]
  decide
theorem kA_b {R i : Nat} (hR : R ≤ 6) (hi : i ≤ 6) : 1 ≤ (R + 1) ^ i ∧ (R + 1) ^ i ≤ 117649 := by
  have h : ∀ b : Nat, b < 7 → ∀ j : Nat, j < 7 → 1 ≤ (b + 1) ^ j ∧ (b + 1) ^ j ≤ 117649 := by decide
  exact h R (by omega) i (by omega)
theorem kA_s {R : Nat} {a a' b i i' : Int32} (h : Int32.toInt a = (((R + 1) ^ Int32.toNatClampNeg i : Nat) : Int)) (hR : R ≤ 6) (hi : Int32.toNatClampNeg i ≤ 5) (hb : Int32.toInt b = (R : Int) + 1) (e : a' = (a * b)) (hi' : Int32.toNatClampNeg i' = Int32.toNatClampNeg i + 1) : Int32.toInt a' = (((R + 1) ^ Int32.toNatClampNeg i' : Nat) : Int) := by
  have h1 := kA_b hR (i := Int32.toNatClampNeg i + 1) (by omega)
  have h2 : (((R + 1) ^ (Int32.toNatClampNeg i + 1) : Nat) : Int) = Int32.toInt a * ((R : Int) + 1) := by rw [h, Nat.pow_succ, Int.natCast_mul]; rfl
  rw [hi', h2, e]
  exact zi_mulc rfl hb (by omega)
theorem kDv {x y : Int32} {a b : Nat} (hx : Int32.toInt x = (a : Int)) (hy : Int32.toInt y = (b : Int)) (hb : 0 < b) : Int32.toInt (x / y) = ((a / b : Nat) : Int) ∧ Int32.toInt (x - x / y * y) = ((a % b : Nat) : Int) := by
  obtain ⟨n, hn, e, en⟩ := zo_nn (x := x) (by omega)
  obtain ⟨k, hk, f, fn⟩ := zo_nn (x := y) (by omega)
  have h1 : n = a := by omega
  have h2 : k = b := by omega
  have h3 : n / k ≤ n := Nat.div_le_self _ _
  have h4 : n % k ≤ n := Nat.mod_le _ _
  refine ⟨?_, ?_⟩
  · rw [e, f, pk_div hn (by omega) hk, nI_toInt (by omega), h1, h2]
  · rw [e, f, pk_rem hn (by omega) hk, nI_toInt (by omega), h1, h2]
theorem kC_0 {J : Nat → Int32} {R : Nat} {n w j : Int32} (hw : 0 ≤ Int32.toInt w) (hn : 0 ≤ Int32.toInt n) (hj : Int32.toInt j = Int32.toInt n - 1) : (∀ i : Nat, Int32.toInt j < (i : Int) → i < Int32.toNatClampNeg n → Int32.toInt (J i) = kD R (Int32.toNatClampNeg n) (Int32.toNatClampNeg w) i) ∧ Int32.toInt w = ((Int32.toNatClampNeg w / (R + 1) ^ (Int32.toInt n - 1 - Int32.toInt j).toNat : Nat) : Int) := by
  have c := z_cl hn
  have c2 := z_cl hw
  refine ⟨fun i h1 h2 => by omega, ?_⟩
  rw [show (Int32.toInt n - 1 - Int32.toInt j).toNat = 0 by omega, Nat.pow_zero, Nat.div_one]
  omega
theorem kC_s {J J' : Nat → Int32} {R : Nat} {n w code code' B t x j j' : Int32} (h1 : ∀ i : Nat, Int32.toInt j < (i : Int) → i < Int32.toNatClampNeg n → Int32.toInt (J i) = kD R (Int32.toNatClampNeg n) (Int32.toNatClampNeg w) i) (h2 : Int32.toInt code = ((Int32.toNatClampNeg w / (R + 1) ^ (Int32.toInt n - 1 - Int32.toInt j).toNat : Nat) : Int)) (hB : Int32.toInt B = (R : Int) + 1) (hj : 0 ≤ Int32.toInt j ∧ Int32.toInt j < Int32.toInt n) (hj' : Int32.toInt j' = Int32.toInt j - 1) (ht : t = (code - code / B * B)) (hx : (Int32.toInt t = Int32.toInt B - 1 ∧ x = -1) ∨ (Int32.toInt t ≠ Int32.toInt B - 1 ∧ x = (code - code / B * B))) (e : J' = upd J (Int32.toNatClampNeg j) x) (ec : code' = (code / B)) : (∀ i : Nat, Int32.toInt j' < (i : Int) → i < Int32.toNatClampNeg n → Int32.toInt (J' i) = kD R (Int32.toNatClampNeg n) (Int32.toNatClampNeg w) i) ∧ Int32.toInt code' = ((Int32.toNatClampNeg w / (R + 1) ^ (Int32.toInt n - 1 - Int32.toInt j').toNat : Nat) : Int) := by
  have c := z_cl hj.1
  have cn := z_cl (x := n) (by omega)
  obtain ⟨d1, d2⟩ := kDv (y := B) (b := R + 1) h2 (by omega) (Nat.succ_pos R)
  have es : (Int32.toInt n - 1 - Int32.toInt j').toNat = (Int32.toInt n - 1 - Int32.toInt j).toNat + 1 := by omega
  have ee : Int32.toNatClampNeg n - 1 - Int32.toNatClampNeg j = (Int32.toInt n - 1 - Int32.toInt j).toNat := by omega
  refine ⟨fun i h3 h4 => ?_, ?_⟩
  · rw [e]
    by_cases z : i = Int32.toNatClampNeg j
    · rw [z, pk_us]
      unfold kD
      rw [ee]
      rw [← ht] at d2
      rcases hx with ⟨x1, x2⟩ | ⟨x1, x2⟩
      · rw [if_pos (by omega), x2]; decide
      · rw [if_neg (by omega), x2, ← ht, d2]
    · rw [pk_un z]
      exact h1 i (by omega) h4
  · rw [ec, d1, es, Nat.pow_succ, Nat.div_div_eq_div_mul]
theorem kV_c {L L' : Nat → Nat → Int} {R n : Nat} {le : Int} (hL : ∀ i j : Nat, i < n → j < R → L i j = L' i j) (w : Nat) : kV L R n le w = kV L' R n le w := by
  unfold kV
  exact jK_c n (fun _ _ => rfl) (fun j _ => kD_b _ _ _ _) (fun i j hi hj => hL i j hi (by omega)) _ _ _ _ (by omega)
theorem kF_c {v v' j : Nat → Int} (h : ∀ w : Nat, v w = v' w) (N : Nat) : kF v j N = kF v' j N := by rw [show v = v' from funext h]
theorem jEq {a b : Nat → Int32} {L : Nat → Nat → Int} {n R le : Int32} (hn : 0 ≤ Int32.toInt n ∧ Int32.toInt n ≤ 6) (hR : 0 ≤ Int32.toInt R ∧ Int32.toInt R ≤ 6) (hL : ∀ i j : Nat, i < Int32.toNatClampNeg n → j < Int32.toNatClampNeg R → L i j = zLk a b i j) : jAm L n R le = jAc a b n R le := by
  have c := z_cl hn.1
  have c2 := z_cl hR.1
  unfold jAm jAc
  by_cases z : 0 ≤ Int32.toInt le ∧ Int32.toInt le ≤ 8
  · rw [if_pos z, if_pos z, kF_c (kV_c hL)]
    exact jE (by omega) (by omega)
  · rw [if_neg z, if_neg z]
/-! joined: in how many ways as good -/
def cN (f : Nat → Int) (T : Int) : Nat → Int
  | 0 => 0
  | w + 1 => cN f T w + (if f w = T then 1 else 0)
theorem cN_1 (f : Nat → Int) (T : Int) (w : Nat) : cN f T (w + 1) = cN f T w + (if f w = T then 1 else 0) := rfl
theorem cN_b {f : Nat → Int} {T : Int} (n : Nat) : 0 ≤ cN f T n ∧ cN f T n ≤ (n : Int) := by
  induction n with
  | zero =>
    show (0 : Int) ≤ 0 ∧ (0 : Int) ≤ ((0 : Nat) : Int)
    omega
  | succ n ih =>
    rw [cN_1]
    by_cases q : f n = T
    · rw [if_pos q]; omega
    · rw [if_neg q]; omega
theorem cN_c {f g : Nat → Int} {T U : Int} (n : Nat) (h : ∀ w : Nat, w < n → (f w = T ↔ g w = U)) : cN f T n = cN g U n := by
  induction n with
  | zero => rfl
  | succ n ih =>
    rw [cN_1, cN_1, ih (fun w hw => h w (by omega))]
    by_cases q : f n = T
    · rw [if_pos q, if_pos ((h n (by omega)).mp q)]
    · rw [if_neg q, if_neg (fun z => q ((h n (by omega)).mpr z))]
theorem cN_z {f : Nat → Int} {T : Int} (n : Nat) (h : ∀ w : Nat, w < n → f w ≠ T) : cN f T n = 0 := by
  induction n with
  | zero => rfl
  | succ n ih => rw [cN_1, ih (fun w hw => h w (by omega)), if_neg (h n (by omega))]; rfl
theorem cN_a {f : Nat → Int} {T : Int} (a b : Nat) : cN f T (a + b) = cN f T a + cN (fun x => f (a + x)) T b := by
  induction b with
  | zero => exact (Int.add_zero _).symm
  | succ b ih =>
    show cN f T ((a + b) + 1) = _
    rw [cN_1, cN_1, ih]
    show cN f T a + cN (fun x => f (a + x)) T b + (if f (a + b) = T then 1 else 0) = cN f T a + (cN (fun x => f (a + x)) T b + (if f (a + b) = T then 1 else 0))
    omega
def jQ (lk : Nat → Nat → Int32) (S V : Nat → Int32) (m u : Nat) (b : Int) : Nat → Int
  | 0 => if Int32.toInt (S u) = b then Int32.toInt (V u) else 0
  | r + 1 => jQ lk S V m u b r + (if Int32.toInt (jW lk S m u r) = b then Int32.toInt (V (u ||| 2 ^ r)) else 0)
theorem jQ_1 (lk : Nat → Nat → Int32) (S V : Nat → Int32) (m u : Nat) (b : Int) (r : Nat) : jQ lk S V m u b (r + 1) = jQ lk S V m u b r + (if Int32.toInt (jW lk S m u r) = b then Int32.toInt (V (u ||| 2 ^ r)) else 0) := rfl
theorem jQ_z {lk : Nat → Nat → Int32} {S V : Nat → Int32} {m u : Nat} {b : Int} (h : Int32.toInt (S u) < b) (r : Nat) (hr : ∀ d : Nat, d < r → Int32.toInt (jW lk S m u d) < b) : jQ lk S V m u b r = 0 := by
  induction r with
  | zero => exact if_neg (by omega)
  | succ r ih =>
    have h1 := hr r (by omega)
    rw [jQ_1, ih (fun d hd => hr d (by omega)), if_neg (by omega)]
    rfl
theorem jQ_b {lk : Nat → Nat → Int32} {S V : Nat → Int32} {m u R : Nat} {b : Int} (hu : u < 2 ^ R) (hV : ∀ v : Nat, v < 2 ^ R → 0 ≤ Int32.toInt (V v) ∧ Int32.toInt (V v) ≤ 117649) (r : Nat) (hr : r ≤ R) : 0 ≤ jQ lk S V m u b r ∧ jQ lk S V m u b r ≤ 117649 * ((r : Int) + 1) := by
  induction r with
  | zero =>
    have h := hV u hu
    show 0 ≤ (if Int32.toInt (S u) = b then Int32.toInt (V u) else 0) ∧ (if Int32.toInt (S u) = b then Int32.toInt (V u) else 0) ≤ _
    by_cases q : Int32.toInt (S u) = b
    · rw [if_pos q]; omega
    · rw [if_neg q]; omega
  | succ r ih =>
    have h := hV _ (jO hu (show r < R by omega))
    have h2 := ih (by omega)
    rw [jQ_1]
    by_cases q : Int32.toInt (jW lk S m u r) = b
    · rw [if_pos q]; omega
    · rw [if_neg q]; omega
theorem jP_q {lk : Nat → Nat → Int32} {S V : Nat → Int32} {m u R : Nat} {M : Int} (hR : R ≤ 6) (hM : M ≤ 400) (hu : u < 2 ^ R) (hS : ∀ v : Nat, v < 2 ^ R → 0 ≤ Int32.toInt (S v) ∧ Int32.toInt (S v) ≤ M) (hV : ∀ v : Nat, v < 2 ^ R → 0 ≤ Int32.toInt (V v) ∧ Int32.toInt (V v) ≤ 117649) (hl : ∀ r : Nat, r < R → Int32.toInt (lk m r) = -1 ∨ (0 ≤ Int32.toInt (lk m r) ∧ Int32.toInt (lk m r) ≤ 8)) : ∀ r : Nat, r ≤ R → Int32.toInt (jP lk S V m u r).2 = jQ lk S V m u (Int32.toInt (jP lk S V m u r).1) r := by
  intro r
  induction r with
  | zero =>
    intro _
    show Int32.toInt (V u) = (if Int32.toInt (S u) = Int32.toInt (S u) then Int32.toInt (V u) else 0)
    rw [if_pos rfl]
  | succ r ih =>
    intro hr
    have i := ih (by omega)
    obtain ⟨⟨i1, i2⟩, i3, i4, i5⟩ := jP_p (V := V) hM hu hS hl r (by omega)
    have hv := hV _ (jO hu (show r < R by omega))
    have hb := jQ_b (lk := lk) (S := S) (m := m) (b := Int32.toInt (jP lk S V m u r).1) hu hV r (by omega)
    have e0 : Int32.toInt (0 : Int32) = 0 := by decide
    rw [jP_1, jQ_1]
    generalize jW lk S m u r = s at *
    by_cases h1 : Int32.toInt (jP lk S V m u r).1 < Int32.toInt s
    · have e : jS (jP lk S V m u r) s (V (u ||| 2 ^ r)) = (s, ((0 : Int32) + V (u ||| 2 ^ r))) := if_pos h1
      rw [e]
      show Int32.toInt ((0 : Int32) + V (u ||| 2 ^ r)) = jQ lk S V m u (Int32.toInt s) r + (if Int32.toInt s = Int32.toInt s then Int32.toInt (V (u ||| 2 ^ r)) else 0)
      have e2 : Int32.toInt ((0 : Int32) + V (u ||| 2 ^ r)) = 0 + Int32.toInt (V (u ||| 2 ^ r)) := zi_addc e0 rfl (by omega)
      rw [if_pos rfl, jQ_z (by omega) r (fun d hd => by have := i4 d hd; omega), e2]
    · by_cases h2 : s = (jP lk S V m u r).1
      · have e : jS (jP lk S V m u r) s (V (u ||| 2 ^ r)) = ((jP lk S V m u r).1, ((jP lk S V m u r).2 + V (u ||| 2 ^ r))) := (if_neg h1).trans (if_pos h2)
        rw [e]
        show Int32.toInt ((jP lk S V m u r).2 + V (u ||| 2 ^ r)) = jQ lk S V m u (Int32.toInt (jP lk S V m u r).1) r + (if Int32.toInt s = Int32.toInt (jP lk S V m u r).1 then Int32.toInt (V (u ||| 2 ^ r)) else 0)
        have e2 : Int32.toInt ((jP lk S V m u r).2 + V (u ||| 2 ^ r)) = Int32.toInt (jP lk S V m u r).2 + Int32.toInt (V (u ||| 2 ^ r)) := zi_addc rfl rfl (by omega)
        rw [if_pos (congrArg Int32.toInt h2), e2, i]
      · have e : jS (jP lk S V m u r) s (V (u ||| 2 ^ r)) = jP lk S V m u r := (if_neg h1).trans (if_neg h2)
        rw [e, if_neg (fun z => h2 (Int32.toInt_inj.mp z)), i, Int.add_zero]
theorem jT_q {lk : Nat → Nat → Int32} {L : Nat → Nat → Int} {R n : Nat} {le : Int} (hR : R ≤ 6) (hn : n ≤ 6) (hl : ∀ i r : Nat, i < n → r < R → (Int32.toInt (lk i r) = -1 ∧ L i r < le) ∨ (Int32.toInt (lk i r) = L i r ∧ 0 ≤ L i r ∧ L i r ≤ 8 ∧ ¬ L i r < le)) : ∀ k m u : Nat, k + m = n → u < 2 ^ R → Int32.toInt (jT lk R k m u).2 = cN (nS L R le k m u) (Int32.toInt (jT lk R k m u).1) ((R + 1) ^ k) := by
  intro k
  induction k with
  | zero =>
    intro m u _ _
    show Int32.toInt (1 : Int32) = (0 : Int) + (if (0 : Int) = Int32.toInt (0 : Int32) then 1 else 0)
    decide
  | succ k ih =>
    intro m u hk hu
    have hm : m < n := by omega
    have hp0 := jT_p hR hn hl
    have hS : ∀ v : Nat, v < 2 ^ R → 0 ≤ Int32.toInt (jT lk R k (m + 1) v).1 ∧ Int32.toInt (jT lk R k (m + 1) v).1 ≤ 65 * (k : Int) := fun v hv => (hp0 k (m + 1) v (by omega) hv).1
    have hV : ∀ v : Nat, v < 2 ^ R → 0 ≤ Int32.toInt (jT lk R k (m + 1) v).2 ∧ Int32.toInt (jT lk R k (m + 1) v).2 ≤ 117649 := fun v hv => by
      rw [ih (m + 1) v (by omega) hv]
      have h1 := cN_b (f := nS L R le k (m + 1) v) (T := Int32.toInt (jT lk R k (m + 1) v).1) ((R + 1) ^ k)
      have h2 := (kA_b hR (i := k) (by omega)).2
      omega
    have hl2 : ∀ r : Nat, r < R → Int32.toInt (lk m r) = -1 ∨ (0 ≤ Int32.toInt (lk m r) ∧ Int32.toInt (lk m r) ≤ 8) := fun r hr => by
      rcases hl m r hm hr with ⟨q, _⟩ | ⟨q, q1, q2, _⟩
      · exact Or.inl q
      · exact Or.inr (by omega)
    have hq := jP_q (lk := lk) (S := fun v => (jT lk R k (m + 1) v).1) (V := fun v => (jT lk R k (m + 1) v).2) (m := m) (u := u) (M := 65 * (k : Int)) hR (by omega) hu hS hV hl2 R (Nat.le_refl R)
    obtain ⟨⟨p1, p2⟩, p3, p4, p5⟩ := jP_p (lk := lk) (S := fun v => (jT lk R k (m + 1) v).1) (V := fun v => (jT lk R k (m + 1) v).2) (m := m) (u := u) (M := 65 * (k : Int)) (by omega) hu hS hl2 R (Nat.le_refl R)
    rw [← jT_1] at hq p1 p2 p3 p4 p5
    rw [hq]
    obtain ⟨T, hT⟩ : ∃ T : Int, T = Int32.toInt (jT lk R (k + 1) m u).1 := ⟨_, rfl⟩
    rw [← hT] at p1 p2 p3 p4 ⊢
    have blk : ∀ d : Nat, d < R → cN (fun x => nS L R le (k + 1) m u (d * (R + 1) ^ k + x)) T ((R + 1) ^ k) = (if Int32.toInt (jW lk (fun v => (jT lk R k (m + 1) v).1) m u d) = T then Int32.toInt (jT lk R k (m + 1) (u ||| 2 ^ d)).2 else 0) := fun d hd => by
      have ho := jO hu hd
      have hs := (hp0 k (m + 1) (u ||| 2 ^ d) (by omega) ho)
      by_cases z : u.testBit d = true ∨ L m d < le
      · have ej : Int32.toInt (jW lk (fun v => (jT lk R k (m + 1) v).1) m u d) = -1 := jW_j (z.elim Or.inl (fun y => Or.inr (by
          rcases hl m d hm hd with ⟨q1, _⟩ | ⟨_, _, _, q3⟩
          · exact Int32.toInt_inj.mp (q1.trans (by decide))
          · exact absurd y q3)))
        rw [ej, if_neg (by omega)]
        refine cN_z _ (fun w hw => ?_)
        rw [nS_1, (kQ hw).1, (kQ hw).2, if_neg (by omega), if_pos z]
        omega
      · have ej : Int32.toInt (jW lk (fun v => (jT lk R k (m + 1) v).1) m u d) = Int32.toInt (jT lk R k (m + 1) (u ||| 2 ^ d)).1 + 8 * L m d + 1 := by
          rcases hl m d hm hd with ⟨q, q1⟩ | ⟨q, q1, q2, q3⟩
          · exact absurd (Or.inr q1) z
          · rw [jW_i (lk := lk) (S := fun v => (jT lk R k (m + 1) v).1) (m := m) (u := u) (d := d) ⟨hs.1.1, by show Int32.toInt (jT lk R k (m + 1) (u ||| 2 ^ d)).1 ≤ 500; omega⟩ (by omega) (fun y => z (Or.inl y)), q]
        have hle := p4 d hd
        have hL0 : 0 ≤ L m d := by
          rcases hl m d hm hd with ⟨_, q1⟩ | ⟨_, q1, _, _⟩
          · exact absurd (Or.inr q1) z
          · exact q1
        by_cases y : Int32.toInt (jW lk (fun v => (jT lk R k (m + 1) v).1) m u d) = T
        · rw [if_pos y, ih (m + 1) (u ||| 2 ^ d) (by omega) ho]
          refine cN_c _ (fun w hw => ?_)
          rw [nS_1, (kQ hw).1, (kQ hw).2, if_neg (by omega), if_neg z]
          by_cases x : nS L R le k (m + 1) (u ||| 2 ^ d) w = -1
          · rw [if_pos x, x]
            exact ⟨fun h9 => by omega, fun h9 => by omega⟩
          · rw [if_neg x]
            exact ⟨fun h9 => by omega, fun h9 => by omega⟩
        · rw [if_neg y]
          refine cN_z _ (fun w hw => ?_)
          rw [nS_1, (kQ hw).1, (kQ hw).2, if_neg (by omega), if_neg z]
          have hx := hs.2.1 w hw
          by_cases x : nS L R le k (m + 1) (u ||| 2 ^ d) w = -1
          · rw [if_pos x]; omega
          · rw [if_neg x]; omega
    have last : cN (fun x => nS L R le (k + 1) m u (R * (R + 1) ^ k + x)) T ((R + 1) ^ k) = (if Int32.toInt (jT lk R k (m + 1) u).1 = T then Int32.toInt (jT lk R k (m + 1) u).2 else 0) := by
      have hs := (hp0 k (m + 1) u (by omega) hu)
      have hle : Int32.toInt (jT lk R k (m + 1) u).1 ≤ T := p3
      by_cases y : Int32.toInt (jT lk R k (m + 1) u).1 = T
      · rw [if_pos y, ih (m + 1) u (by omega) hu]
        refine cN_c _ (fun w hw => ?_)
        rw [nS_1, (kQ hw).1, (kQ hw).2, if_pos rfl, y]
      · rw [if_neg y]
        refine cN_z _ (fun w hw => ?_)
        rw [nS_1, (kQ hw).1, (kQ hw).2, if_pos rfl]
        have hx := hs.2.1 w hw
        omega
    have sum : ∀ d : Nat, d ≤ R → cN (nS L R le (k + 1) m u) T (d * (R + 1) ^ k) + (if Int32.toInt (jT lk R k (m + 1) u).1 = T then Int32.toInt (jT lk R k (m + 1) u).2 else 0) = jQ lk (fun v => (jT lk R k (m + 1) v).1) (fun v => (jT lk R k (m + 1) v).2) m u T d := by
      intro d
      induction d with
      | zero =>
        intro _
        rw [Nat.zero_mul]
        exact Int.zero_add _
      | succ d id =>
        intro hd
        rw [Nat.succ_mul, cN_a, blk d (by omega), jQ_1, ← id (by omega)]
        omega
    rw [← sum R (Nat.le_refl R), show (R + 1) ^ (k + 1) = R * (R + 1) ^ k + (R + 1) ^ k by rw [Nat.pow_succ, Nat.mul_succ, Nat.mul_comm], cN_a, last]
/-! joined: the first row -/
def jC (lk : Nat → Nat → Int32) (S : Nat → Int32) (m u : Nat) (T : Int32) : Nat → Int32
  | 0 => -1
  | r + 1 => if jC lk S m u T r = -1 then (if jW lk S m u r = T then Int32.ofNat r else -1) else jC lk S m u T r
theorem jC_1 (lk : Nat → Nat → Int32) (S : Nat → Int32) (m u : Nat) (T : Int32) (r : Nat) : jC lk S m u T (r + 1) = if jC lk S m u T r = -1 then (if jW lk S m u r = T then Int32.ofNat r else -1) else jC lk S m u T r := rfl
theorem jC_0 {lk : Nat → Nat → Int32} {S : Nat → Int32} {m u : Nat} {T : Int32} : (-1 : Int32) = jC lk S m u T (Int32.toNatClampNeg (0 : Int32)) := by rw [zN0]; rfl
theorem jC_y {lk : Nat → Nat → Int32} {S : Nat → Int32} {m u : Nat} {T c r r' : Int32} (h : c = jC lk S m u T (Int32.toNatClampNeg r)) (e : Int32.toNatClampNeg r' = Int32.toNatClampNeg r + 1) (h1 : c = -1) (h2 : jW lk S m u (Int32.toNatClampNeg r) = T) (hr : 0 ≤ Int32.toInt r) : r = jC lk S m u T (Int32.toNatClampNeg r') := by
  rw [e, jC_1, ← h, if_pos h1, if_pos h2, zi_ofN hr]
theorem jC_n {lk : Nat → Nat → Int32} {S : Nat → Int32} {m u : Nat} {T c r r' : Int32} (h : c = jC lk S m u T (Int32.toNatClampNeg r)) (e : Int32.toNatClampNeg r' = Int32.toNatClampNeg r + 1) (h1 : c = -1) (h2 : ¬ jW lk S m u (Int32.toNatClampNeg r) = T) : c = jC lk S m u T (Int32.toNatClampNeg r') := by
  rw [e, jC_1, ← h, if_pos h1, if_neg h2, h1]
theorem jC_k {lk : Nat → Nat → Int32} {S : Nat → Int32} {m u r : Nat} {T : Int32} (h : ¬ jC lk S m u T r = -1) (k : Nat) : jC lk S m u T (r + k) = jC lk S m u T r := by
  induction k with
  | zero => rfl
  | succ k ih =>
    show jC lk S m u T ((r + k) + 1) = _
    rw [jC_1, ih, if_neg h]
theorem jC_e {lk : Nat → Nat → Int32} {S : Nat → Int32} {m u R : Nat} {T c r : Int32} (h : c = jC lk S m u T (Int32.toNatClampNeg r)) (hr : Int32.toNatClampNeg r ≤ R) (hx : Int32.toNatClampNeg r = R ∨ ¬ c = -1) : c = jC lk S m u T R := by
  rcases hx with hx | hx
  · rw [← hx]; exact h
  · obtain ⟨k, hk⟩ : ∃ k : Nat, R = Int32.toNatClampNeg r + k := ⟨R - Int32.toNatClampNeg r, by omega⟩
    rw [hk, jC_k (by rw [← h]; exact hx)]
    exact h
theorem jC_p {lk : Nat → Nat → Int32} {S : Nat → Int32} {m u : Nat} {T : Int32} (r : Nat) (hr : r ≤ 6) : (jC lk S m u T r = -1 ∧ ∀ d : Nat, d < r → ¬ jW lk S m u d = T) ∨ ∃ d : Nat, d < r ∧ jC lk S m u T r = Int32.ofNat d ∧ jW lk S m u d = T ∧ ∀ e : Nat, e < d → ¬ jW lk S m u e = T := by
  induction r with
  | zero => exact Or.inl ⟨rfl, fun d hd => absurd hd (Nat.not_lt_zero d)⟩
  | succ r ih =>
    rw [jC_1]
    rcases ih (by omega) with ⟨h1, h2⟩ | ⟨d, h1, h2, h3, h4⟩
    · rw [if_pos h1]
      by_cases q : jW lk S m u r = T
      · rw [if_pos q]
        exact Or.inr ⟨r, by omega, rfl, q, h2⟩
      · rw [if_neg q]
        refine Or.inl ⟨rfl, fun d hd => ?_⟩
        by_cases z : d = r
        · rw [z]; exact q
        · exact h2 d (by omega)
    · have ne : ¬ jC lk S m u T r = -1 := fun z => by
        have e : Int32.toInt (Int32.ofNat d) = (d : Int) := nI_toInt (n := d) (by omega)
        rw [h2] at z
        rw [z] at e
        have e2 : Int32.toInt (-1 : Int32) = -1 := by decide
        omega
      rw [if_neg ne]
      exact Or.inr ⟨d, by omega, h2, h3, h4⟩
def rC (lk : Nat → Nat → Int32) (J : Nat → Int32) (R m u : Nat) : Int32 := jC lk (fun v => J (64 * (m + 1) + v)) m u (J (64 * m + u)) R
def rV (c : Int32) (u : Nat) : Nat := if c = -1 then u else u ||| 2 ^ Int32.toNatClampNeg c
def rU (lk : Nat → Nat → Int32) (J : Nat → Int32) (R : Nat) : Nat → Nat
  | 0 => 0
  | m + 1 => rV (rC lk J R m (rU lk J R m)) (rU lk J R m)
theorem rU_1 (lk : Nat → Nat → Int32) (J : Nat → Int32) (R m : Nat) : rU lk J R (m + 1) = rV (rC lk J R m (rU lk J R m)) (rU lk J R m) := rfl
/-- the first row from m on, as a number -/
def rW (lk : Nat → Nat → Int32) (J : Nat → Int32) (R : Nat) : Nat → Nat → Nat → Nat
  | 0, _, _ => 0
  | k + 1, m, u => (if rC lk J R m u = -1 then R else Int32.toNatClampNeg (rC lk J R m u)) * (R + 1) ^ k + rW lk J R k (m + 1) (rV (rC lk J R m u) u)
theorem rW_1 (lk : Nat → Nat → Int32) (J : Nat → Int32) (R k m u : Nat) : rW lk J R (k + 1) m u = (if rC lk J R m u = -1 then R else Int32.toNatClampNeg (rC lk J R m u)) * (R + 1) ^ k + rW lk J R k (m + 1) (rV (rC lk J R m u) u) := rfl
theorem rC_p {lk : Nat → Nat → Int32} {J : Nat → Int32} {R m u : Nat} (hR : R ≤ 6) (hu : u < 2 ^ R) : (rC lk J R m u = -1 ∧ rV (rC lk J R m u) u = u ∧ (if rC lk J R m u = -1 then R else Int32.toNatClampNeg (rC lk J R m u)) = R ∧ ∀ d : Nat, d < R → ¬ jW lk (fun v => J (64 * (m + 1) + v)) m u d = J (64 * m + u)) ∨ ∃ d : Nat, d < R ∧ rC lk J R m u = Int32.ofNat d ∧ rV (rC lk J R m u) u = u ||| 2 ^ d ∧ (if rC lk J R m u = -1 then R else Int32.toNatClampNeg (rC lk J R m u)) = d ∧ jW lk (fun v => J (64 * (m + 1) + v)) m u d = J (64 * m + u) ∧ ∀ e : Nat, e < d → ¬ jW lk (fun v => J (64 * (m + 1) + v)) m u e = J (64 * m + u) := by
  rcases jC_p (lk := lk) (S := fun v => J (64 * (m + 1) + v)) (m := m) (u := u) (T := J (64 * m + u)) R hR with ⟨h1, h2⟩ | ⟨d, h1, h2, h3, h4⟩
  · have e : rC lk J R m u = -1 := h1
    exact Or.inl ⟨e, by unfold rV; rw [if_pos e], if_pos e, h2⟩
  · have e : rC lk J R m u = Int32.ofNat d := h2
    have e2 : Int32.toInt (Int32.ofNat d) = (d : Int) := nI_toInt (n := d) (by omega)
    have e3 : Int32.toNatClampNeg (Int32.ofNat d) = d := nI_clamp (n := d) (by omega)
    have ne : ¬ rC lk J R m u = -1 := fun z => by
      rw [e] at z
      rw [z] at e2
      have e4 : Int32.toInt (-1 : Int32) = -1 := by decide
      omega
    exact Or.inr ⟨d, h1, e, by unfold rV; rw [if_neg ne, e, e3], by rw [if_neg ne, e, e3], h3, h4⟩
theorem rV_b {lk : Nat → Nat → Int32} {J : Nat → Int32} {R m u : Nat} (hR : R ≤ 6) (hu : u < 2 ^ R) : rV (rC lk J R m u) u < 2 ^ R := by
  rcases rC_p (lk := lk) (J := J) (m := m) hR hu with ⟨_, h, _, _⟩ | ⟨d, h0, _, h, _, _, _⟩
  · rw [h]; exact hu
  · rw [h]; exact jO hu h0
theorem rW_b {lk : Nat → Nat → Int32} {J : Nat → Int32} {R : Nat} (hR : R ≤ 6) : ∀ k m u : Nat, u < 2 ^ R → rW lk J R k m u < (R + 1) ^ k := by
  intro k
  induction k with
  | zero => intro m u _; show 0 < (R + 1) ^ 0; rw [Nat.pow_zero]; decide
  | succ k ih =>
    intro m u hu
    have h := ih (m + 1) _ (rV_b (lk := lk) (J := J) (m := m) hR hu)
    rw [rW_1]
    rcases rC_p (lk := lk) (J := J) (m := m) hR hu with ⟨_, _, h3, _⟩ | ⟨d, h0, _, _, h3, _, _⟩
    · rw [h3]; exact kQ2 (Nat.le_refl R) h
    · rw [h3]; exact kQ2 (by omega) h
theorem rW_p {lk : Nat → Nat → Int32} {L : Nat → Nat → Int} {J : Nat → Int32} {R n : Nat} {le : Int} (hR : R ≤ 6) (hn : n ≤ 6) (hl : ∀ i r : Nat, i < n → r < R → (Int32.toInt (lk i r) = -1 ∧ L i r < le) ∨ (Int32.toInt (lk i r) = L i r ∧ 0 ≤ L i r ∧ L i r ≤ 8 ∧ ¬ L i r < le)) (hJ : ∀ j v : Nat, j ≤ n → v < 2 ^ R → J (64 * j + v) = (jT lk R (n - j) j v).1) : ∀ k m u : Nat, k + m = n → u < 2 ^ R → nS L R le k m u (rW lk J R k m u) = Int32.toInt (jT lk R k m u).1 ∧ ∀ w : Nat, w < rW lk J R k m u → nS L R le k m u w ≠ Int32.toInt (jT lk R k m u).1 := by
  intro k
  induction k with
  | zero =>
    intro m u _ _
    refine ⟨?_, fun w hw => absurd hw (Nat.not_lt_zero w)⟩
    show (0 : Int) = Int32.toInt (0 : Int32)
    decide
  | succ k ih =>
    intro m u hk hu
    have hm : m < n := by omega
    have hp0 := jT_p hR hn hl
    have hl2 : ∀ r : Nat, r < R → Int32.toInt (lk m r) = -1 ∨ (0 ≤ Int32.toInt (lk m r) ∧ Int32.toInt (lk m r) ≤ 8) := fun r hr => by
      rcases hl m r hm hr with ⟨q, _⟩ | ⟨q, q1, q2, _⟩
      · exact Or.inl q
      · exact Or.inr (by omega)
    obtain ⟨⟨p1, p2⟩, p3, p4, p5⟩ := jP_p (lk := lk) (S := fun v => (jT lk R k (m + 1) v).1) (V := fun v => (jT lk R k (m + 1) v).2) (m := m) (u := u) (M := 65 * (k : Int)) (by omega) hu (fun v hv => (hp0 k (m + 1) v (by omega) hv).1) hl2 R (Nat.le_refl R)
    rw [← jT_1] at p1 p2 p3 p4 p5
    have eS : ∀ v : Nat, v < 2 ^ R → J (64 * (m + 1) + v) = (jT lk R k (m + 1) v).1 := fun v hv => by
      rw [hJ (m + 1) v (by omega) hv, show n - (m + 1) = k by omega]
    have eT : J (64 * m + u) = (jT lk R (k + 1) m u).1 := by rw [hJ m u (by omega) hu, show n - m = k + 1 by omega]
    have eW : ∀ d : Nat, d < R → jW lk (fun v => J (64 * (m + 1) + v)) m u d = jW lk (fun v => (jT lk R k (m + 1) v).1) m u d := fun d hd => by
      unfold jW
      simp only [eS _ (jO hu hd)]
    have hrv := rV_b (lk := lk) (J := J) (m := m) hR hu
    obtain ⟨i1, i2⟩ := ih (m + 1) _ (by omega) hrv
    have ib := rW_b (lk := lk) (J := J) hR k (m + 1) _ hrv
    have hlow : ∀ d : Nat, d < R → ¬ jW lk (fun v => (jT lk R k (m + 1) v).1) m u d = (jT lk R (k + 1) m u).1 → ∀ w : Nat, w < (R + 1) ^ k → nS L R le (k + 1) m u (d * (R + 1) ^ k + w) ≠ Int32.toInt (jT lk R (k + 1) m u).1 := fun d hd hne w hw => by
      rw [nS_1, (kQ hw).1, (kQ hw).2, if_neg (by omega)]
      have hs := hp0 k (m + 1) (u ||| 2 ^ d) (by omega) (jO hu hd)
      by_cases z : u.testBit d = true ∨ L m d < le
      · rw [if_pos z]; omega
      · rw [if_neg z]
        have ej : Int32.toInt (jW lk (fun v => (jT lk R k (m + 1) v).1) m u d) = Int32.toInt (jT lk R k (m + 1) (u ||| 2 ^ d)).1 + 8 * L m d + 1 := by
          rcases hl m d hm hd with ⟨q, q1⟩ | ⟨q, q1, q2, q3⟩
          · exact absurd (Or.inr q1) z
          · rw [jW_i (lk := lk) (S := fun v => (jT lk R k (m + 1) v).1) (m := m) (u := u) (d := d) ⟨hs.1.1, by show Int32.toInt (jT lk R k (m + 1) (u ||| 2 ^ d)).1 ≤ 500; omega⟩ (by omega) (fun y => z (Or.inl y)), q]
        have h1 := p4 d hd
        have h2 : Int32.toInt (jW lk (fun v => (jT lk R k (m + 1) v).1) m u d) ≠ Int32.toInt (jT lk R (k + 1) m u).1 := fun y => hne (Int32.toInt_inj.mp y)
        have h3 := hs.2.1 w hw
        by_cases x : nS L R le k (m + 1) (u ||| 2 ^ d) w = -1
        · rw [if_pos x]; omega
        · rw [if_neg x]; omega
    have hsplit : ∀ d w W : Nat, W < (R + 1) ^ k → w < d * (R + 1) ^ k + W → (∃ e x : Nat, e < d ∧ x < (R + 1) ^ k ∧ w = e * (R + 1) ^ k + x) ∨ ∃ x : Nat, x < W ∧ w = d * (R + 1) ^ k + x := fun d w W hW hw => by
      by_cases z : w < d * (R + 1) ^ k
      · refine Or.inl ⟨w / (R + 1) ^ k, w % (R + 1) ^ k, ?_, Nat.mod_lt _ (by omega), ?_⟩
        · exact Nat.div_lt_of_lt_mul (by rw [Nat.mul_comm]; exact z)
        · rw [Nat.mul_comm]; exact (Nat.div_add_mod w ((R + 1) ^ k)).symm
      · exact Or.inr ⟨w - d * (R + 1) ^ k, by omega, by omega⟩
    rw [rW_1]
    rcases rC_p (lk := lk) (J := J) (m := m) hR hu with ⟨c1, c2, c3, c4⟩ | ⟨d, c0, c1, c2, c3, c4, c5⟩
    · rw [c2] at i1 i2 ib
      rw [c3, c2]
      have hT : Int32.toInt (jT lk R k (m + 1) u).1 = Int32.toInt (jT lk R (k + 1) m u).1 := by
        rcases p5 with q | ⟨d, hd, q⟩
        · exact congrArg Int32.toInt q.symm
        · exact absurd ((eW d hd).trans (q.symm.trans eT.symm)) (c4 d hd)
      refine ⟨?_, fun w hw => ?_⟩
      · rw [nS_1, (kQ ib).1, (kQ ib).2, if_pos rfl, i1, hT]
      · rcases hsplit R w _ ib hw with ⟨e, x, h1, h2, h3⟩ | ⟨x, h1, h3⟩
        · rw [h3]
          exact hlow e h1 (fun y => c4 e h1 ((eW e h1).trans (y.trans eT.symm))) x h2
        · have hx : x < (R + 1) ^ k := by omega
          rw [h3, nS_1, (kQ hx).1, (kQ hx).2, if_pos rfl, ← hT]
          exact i2 x h1
    · rw [c2] at i1 i2 ib
      rw [c3, c2]
      have hj : Int32.toInt (jW lk (fun v => (jT lk R k (m + 1) v).1) m u d) = Int32.toInt (jT lk R (k + 1) m u).1 := congrArg Int32.toInt ((eW d c0).symm.trans (c4.trans eT))
      have z : ¬ (u.testBit d = true ∨ L m d < le) := fun z => by
        have h1 : Int32.toInt (jW lk (fun v => (jT lk R k (m + 1) v).1) m u d) = -1 := jW_j (z.elim Or.inl (fun y => Or.inr (by
          rcases hl m d hm c0 with ⟨q1, _⟩ | ⟨_, _, _, q3⟩
          · exact Int32.toInt_inj.mp (q1.trans (by decide))
          · exact absurd y q3)))
        omega
      have hs := hp0 k (m + 1) (u ||| 2 ^ d) (by omega) (jO hu c0)
      have ej : Int32.toInt (jW lk (fun v => (jT lk R k (m + 1) v).1) m u d) = Int32.toInt (jT lk R k (m + 1) (u ||| 2 ^ d)).1 + 8 * L m d + 1 := by
        rcases hl m d hm c0 with ⟨q, q1⟩ | ⟨q, q1, q2, q3⟩
        · exact absurd (Or.inr q1) z
        · rw [jW_i (lk := lk) (S := fun v => (jT lk R k (m + 1) v).1) (m := m) (u := u) (d := d) ⟨hs.1.1, by show Int32.toInt (jT lk R k (m + 1) (u ||| 2 ^ d)).1 ≤ 500; omega⟩ (by omega) (fun y => z (Or.inl y)), q]
      refine ⟨?_, fun w hw => ?_⟩
      · rw [nS_1, (kQ ib).1, (kQ ib).2, if_neg (by omega), if_neg z, i1, if_neg (by omega)]
        omega
      · rcases hsplit d w _ ib hw with ⟨e, x, h1, h2, h3⟩ | ⟨x, h1, h3⟩
        · rw [h3]
          exact hlow e (by omega) (fun y => c5 e h1 ((eW e (by omega)).trans (y.trans eT.symm))) x h2
        · have hx : x < (R + 1) ^ k := by omega
          have hne := i2 x h1
          rw [h3, nS_1, (kQ hx).1, (kQ hx).2, if_neg (by omega), if_neg z]
          by_cases y : nS L R le k (m + 1) (u ||| 2 ^ d) x = -1
          · rw [if_pos y]; omega
          · rw [if_neg y]; omega
theorem rU_b {lk : Nat → Nat → Int32} {J : Nat → Int32} {R : Nat} (hR : R ≤ 6) (m : Nat) : rU lk J R m < 2 ^ R := by
  induction m with
  | zero => exact Nat.pow_pos (by decide)
  | succ m ih => rw [rU_1]; exact rV_b hR ih
/-- the first row's digits -/
theorem rW_d {lk : Nat → Nat → Int32} {J : Nat → Int32} {R n : Nat} (hR : R ≤ 6) (j : Nat) (hj : j ≤ n) : rW lk J R n 0 0 % (R + 1) ^ (n - j) = rW lk J R (n - j) j (rU lk J R j) := by
  induction j with
  | zero => exact Nat.mod_eq_of_lt (rW_b hR n 0 0 (Nat.pow_pos (by decide)))
  | succ j ih =>
    have h := ih (by omega)
    obtain ⟨k, hk⟩ : ∃ k : Nat, n - j = k + 1 := ⟨n - j - 1, by omega⟩
    have hk2 : n - (j + 1) = k := by omega
    have hb := rW_b (lk := lk) (J := J) hR k (j + 1) _ (rV_b (lk := lk) (J := J) (m := j) hR (rU_b (lk := lk) (J := J) hR j))
    rw [hk, rW_1] at h
    rw [hk2, rU_1, ← Nat.mod_mod_of_dvd (rW lk J R n 0 0) (show (R + 1) ^ k ∣ (R + 1) ^ (k + 1) from ⟨R + 1, Nat.pow_succ _ _⟩), h]
    exact (kQ hb).2
theorem rW_k {lk : Nat → Nat → Int32} {J : Nat → Int32} {R n : Nat} (hR : R ≤ 6) (j : Nat) (hj : j < n) : kD R n (rW lk J R n 0 0) j = Int32.toInt (rC lk J R j (rU lk J R j)) := by
  have h := rW_d (lk := lk) (J := J) hR j (n := n) (by omega)
  obtain ⟨k, hk⟩ : ∃ k : Nat, n - j = k + 1 := ⟨n - j - 1, by omega⟩
  have hu := rU_b (lk := lk) (J := J) hR j
  have hb := rW_b (lk := lk) (J := J) hR k (j + 1) _ (rV_b (lk := lk) (J := J) (m := j) hR hu)
  rw [hk, rW_1] at h
  have e : rW lk J R n 0 0 / (R + 1) ^ k % (R + 1) = (if rC lk J R j (rU lk J R j) = -1 then R else Int32.toNatClampNeg (rC lk J R j (rU lk J R j))) := by
    rw [← Nat.mod_mul_right_div_self, ← Nat.pow_succ, h]
    exact (kQ hb).1
  unfold kD
  rw [show n - 1 - j = k by omega, e]
  rcases rC_p (lk := lk) (J := J) (m := j) hR hu with ⟨c1, _, c3, _⟩ | ⟨d, c0, c1, _, c3, _, _⟩
  · rw [c3, if_pos rfl, c1]; decide
  · rw [c3, if_neg (by omega), c1]
    exact (nI_toInt (n := d) (by omega)).symm
/-! joined: steps of the loops -/
theorem rU_0 {lk : Nat → Nat → Int32} {J : Nat → Int32} {R : Nat} : Int32.toInt (0 : Int32) = ((rU lk J R (Int32.toNatClampNeg (0 : Int32)) : Nat) : Int) := by
  rw [zN0]
  exact (by decide : Int32.toInt (0 : Int32) = ((0 : Nat) : Int))
theorem rK_0 {lk : Nat → Nat → Int32} {J Rw : Nat → Int32} {R : Nat} : ∀ j : Nat, j < Int32.toNatClampNeg (0 : Int32) → Rw j = rC lk J R j (rU lk J R j) := fun j hj => by
  rw [zN0] at hj
  exact absurd hj (Nat.not_lt_zero j)
theorem rU_s {lk : Nat → Nat → Int32} {J : Nat → Int32} {R : Nat} {m m' used used' c : Int32} (hu : Int32.toInt used = ((rU lk J R (Int32.toNatClampNeg m) : Nat) : Int)) (hk : Int32.toNatClampNeg m' = Int32.toNatClampNeg m + 1) (hc : c = jC lk (fun v => J (64 * (Int32.toNatClampNeg m + 1) + v)) (Int32.toNatClampNeg m) (Int32.toNatClampNeg used) (J (64 * Int32.toNatClampNeg m + Int32.toNatClampNeg used)) R) (hu' : (c = -1 ∧ used' = (used ||| (0 : Int32))) ∨ (¬ c = -1 ∧ Int32.toNatClampNeg used' = Int32.toNatClampNeg used ||| 2 ^ Int32.toNatClampNeg c ∧ 0 ≤ Int32.toInt used')) : Int32.toInt used' = ((rU lk J R (Int32.toNatClampNeg m') : Nat) : Int) := by
  have c0 := z_cl (x := used) (by omega)
  have e : Int32.toNatClampNeg used = rU lk J R (Int32.toNatClampNeg m) := by omega
  have hc2 : c = rC lk J R (Int32.toNatClampNeg m) (rU lk J R (Int32.toNatClampNeg m)) := by rw [← e]; exact hc
  rw [hk, rU_1, ← hc2]
  unfold rV
  rcases hu' with ⟨h1, h2⟩ | ⟨h1, h2, h3⟩
  · rw [if_pos h1, h2, Int32.or_zero]; exact hu
  · have c1 := z_cl h3
    rw [if_neg h1, ← e, ← h2]
    omega
theorem rK_s {lk : Nat → Nat → Int32} {J Rw : Nat → Int32} {R : Nat} {m m' used : Int32} (h : ∀ j : Nat, j < Int32.toNatClampNeg m → Rw j = rC lk J R j (rU lk J R j)) (hu : Int32.toInt used = ((rU lk J R (Int32.toNatClampNeg m) : Nat) : Int)) (hk : Int32.toNatClampNeg m' = Int32.toNatClampNeg m + 1) (hc : Rw (Int32.toNatClampNeg m) = jC lk (fun v => J (64 * (Int32.toNatClampNeg m + 1) + v)) (Int32.toNatClampNeg m) (Int32.toNatClampNeg used) (J (64 * Int32.toNatClampNeg m + Int32.toNatClampNeg used)) R) : ∀ j : Nat, j < Int32.toNatClampNeg m' → Rw j = rC lk J R j (rU lk J R j) := fun j hj => by
  have c0 := z_cl (x := used) (by omega)
  have e : Int32.toNatClampNeg used = rU lk J R (Int32.toNatClampNeg m) := by omega
  by_cases z : j = Int32.toNatClampNeg m
  · rw [z, ← e]; exact hc
  · exact h j (by omega)
theorem jC_c {lk lk' : Nat → Nat → Int32} {S S' : Nat → Int32} {m u R : Nat} {T : Int32} (hu : u < 2 ^ R) (hl : ∀ r : Nat, r < R → lk m r = lk' m r) (hS : ∀ v : Nat, v < 2 ^ R → S v = S' v) : ∀ r : Nat, r ≤ R → jC lk S m u T r = jC lk' S' m u T r := by
  intro r
  induction r with
  | zero => intro _; rfl
  | succ r ih =>
    intro hr
    have e : jW lk S m u r = jW lk' S' m u r := by
      unfold jW
      rw [hl r (by omega), hS _ (jO hu (by omega))]
    rw [jC_1, jC_1, ih (by omega), e]
theorem rC_c {lk lk' : Nat → Nat → Int32} {J J' : Nat → Int32} {R m u : Nat} (hu : u < 2 ^ R) (hl : ∀ r : Nat, r < R → lk m r = lk' m r) (h1 : ∀ v : Nat, v < 2 ^ R → J (64 * (m + 1) + v) = J' (64 * (m + 1) + v)) (h2 : J (64 * m + u) = J' (64 * m + u)) : rC lk J R m u = rC lk' J' R m u := by
  unfold rC
  rw [h2]
  exact jC_c hu hl h1 R (Nat.le_refl R)
theorem rU_c {lk lk' : Nat → Nat → Int32} {J J' : Nat → Int32} {R n : Nat} (hR : R ≤ 6) (hl : ∀ i r : Nat, i < n → r < R → lk i r = lk' i r) (hJ : ∀ j v : Nat, j ≤ n → v < 2 ^ R → J (64 * j + v) = J' (64 * j + v)) : ∀ m : Nat, m ≤ n → rU lk J R m = rU lk' J' R m := by
  intro m
  induction m with
  | zero => intro _; rfl
  | succ m ih =>
    intro hm
    have hb := rU_b (lk := lk') (J := J') hR m
    rw [rU_1, rU_1, ih (by omega), rC_c hb (fun r hr => hl m r (by omega) hr) (fun v hv => hJ (m + 1) v hm hv) (hJ m _ (by omega) hb)]
def jJ (lk : Nat → Nat → Int32) (R n i : Nat) : Int32 := (jT lk R (n - i / 64) (i / 64) (i % 64)).1
theorem jJ_e {lk : Nat → Nat → Int32} {R n j v : Nat} (hv : v < 64) : jJ lk R n (64 * j + v) = (jT lk R (n - j) j v).1 := by
  unfold jJ
  rw [show (64 * j + v) / 64 = j by omega, show (64 * j + v) % 64 = v by omega]
theorem j64 {R v : Nat} (hR : R ≤ 6) (hv : v < 2 ^ R) : v < 64 := Nat.lt_of_lt_of_le hv (Nat.le_trans (show 2 ^ R ≤ 2 ^ 6 from Nat.pow_le_pow_right (by decide) hR) (by decide))
def jRw (lk : Nat → Nat → Int32) (R n j : Nat) : Int32 := rC lk (jJ lk R n) R j (rU lk (jJ lk R n) R j)
theorem jRw_e {lk : Nat → Nat → Int32} {L J K Rw : Nat → Int32} {R n t : Nat} (hR : R ≤ 6) (hL : zLg lk L R n 0) (hG : jG lk R n J K t) (ht : t = 0) (h : ∀ j : Nat, j < n → Rw j = rC (fun i j => L (6 * i + j)) J R j (rU (fun i j => L (6 * i + j)) J R j)) : ∀ j : Nat, j < n → Rw j = jRw lk R n j := fun j hj => by
  have hJ : ∀ i v : Nat, i ≤ n → v < 2 ^ R → J (64 * i + v) = jJ lk R n (64 * i + v) := fun i v hi hv => by
    rw [jJ_e (j64 hR hv)]
    exact (hG i v (by omega) hi hv).1
  have hl : ∀ i r : Nat, i < n → r < R → (fun i j => L (6 * i + j)) i r = lk i r := fun i r hi hr => hL.1 i r hi hr
  have hb := rU_b (lk := lk) (J := jJ lk R n) hR j
  rw [h j hj]
  unfold jRw
  rw [rU_c hR hl hJ j (by omega)]
  exact rC_c hb (fun r hr => hl j r hj hr) (fun v hv => hJ (j + 1) v (by omega) hv) (hJ j _ (by omega) hb)
theorem jG_0b {lk : Nat → Nat → Int32} {R n t : Nat} {J K : Nat → Int32} (h : jG lk R n J K t) (ht : t = 0) : K 0 = (jT lk R n 0 0).2 := (h 0 0 (by omega) (Nat.zero_le n) (Nat.pow_pos (by decide))).2
theorem jT_c {lk lk' : Nat → Nat → Int32} {R n : Nat} (hl : ∀ i r : Nat, i < n → r < R → lk i r = lk' i r) : ∀ k m u : Nat, k + m = n → u < 2 ^ R → jT lk R k m u = jT lk' R k m u := by
  intro k
  induction k with
  | zero => intro m u _ _; rfl
  | succ k ih =>
    intro m u hk hu
    rw [jT_1, jT_1]
    exact jP_c hu (fun r hr => hl m r (by omega) hr) (fun v hv => by
      show (jT lk R k (m + 1) v).1 = (jT lk' R k (m + 1) v).1
      rw [ih (m + 1) v (by omega) hv]) (fun v hv => by
      show (jT lk R k (m + 1) v).2 = (jT lk' R k (m + 1) v).2
      rw [ih (m + 1) v (by omega) hv]) R (Nat.le_refl R)
theorem jRw_c {lk lk' : Nat → Nat → Int32} {R n : Nat} (hR : R ≤ 6) (hl : ∀ i r : Nat, i < n → r < R → lk i r = lk' i r) (j : Nat) (hj : j < n) : jRw lk R n j = jRw lk' R n j := by
  have hJ : ∀ i v : Nat, i ≤ n → v < 2 ^ R → jJ lk R n (64 * i + v) = jJ lk' R n (64 * i + v) := fun i v hi hv => by
    rw [jJ_e (j64 hR hv), jJ_e (j64 hR hv), jT_c hl (n - i) i v (by omega) hv]
  have hb := rU_b (lk := lk') (J := jJ lk' R n) hR j
  unfold jRw
  rw [rU_c hR hl hJ j (by omega)]
  exact rC_c hb (fun r hr => hl j r hj hr) (fun v hv => hJ (j + 1) v (by omega) hv) (hJ j _ (by omega) hb)
/-! joined: the model's rivals -/
def kN (v j : Nat → Int) (b c : Int) : Nat → Int
  | 0 => 0
  | w + 1 => kN v j b c w + (if v w = b ∧ j w = c then 1 else 0)
theorem kN_1 (v j : Nat → Int) (b c : Int) (w : Nat) : kN v j b c (w + 1) = kN v j b c w + (if v w = b ∧ j w = c then 1 else 0) := rfl
theorem kN_z {v j : Nat → Int} {b c : Int} (n : Nat) (h : ∀ w : Nat, w < n → ¬ (v w = b ∧ j w = c)) : kN v j b c n = 0 := by
  induction n with
  | zero => rfl
  | succ n ih => rw [kN_1, ih (fun w hw => h w (by omega)), if_neg (h n (by omega))]; rfl
theorem kN_c {v j f : Nat → Int} {b c T : Int} (n : Nat) (h : ∀ w : Nat, w < n → ((v w = b ∧ j w = c) ↔ f w = T)) : kN v j b c n = cN f T n := by
  induction n with
  | zero => rfl
  | succ n ih =>
    rw [kN_1, cN_1, ih (fun w hw => h w (by omega))]
    by_cases q : f n = T
    · rw [if_pos q, if_pos ((h n (by omega)).mpr q)]
    · rw [if_neg q, if_neg (fun z => q ((h n (by omega)).mp z))]
def kP (v j : Nat → Int) (R n : Nat) (b c r : Int) (B : Nat → Int32) (N : Nat) : Prop := b = -1 ∨ (r = kN v j b c N ∧ ∃ f : Nat, f < N ∧ v f = b ∧ j f = c ∧ (∀ t : Nat, t < f → ¬ (v t = b ∧ j t = c)) ∧ ∀ i : Nat, i < n → Int32.toInt (B i) = kD R n f i)
theorem kP_0 {v j : Nat → Int} {R n N : Nat} {c r : Int} {B : Nat → Int32} : kP v j R n (Int32.toInt (-1 : Int32)) c r B N := Or.inl (by decide)
theorem kP_n {v j : Nat → Int} {R n : Nat} {b c r x y : Int} {B : Nat → Int32} {w w' : Int32} (h : kP v j R n b c r B (Int32.toNatClampNeg w)) (e : Int32.toNatClampNeg w' = Int32.toNatClampNeg w + 1) (hn : v (Int32.toNatClampNeg w) = -1 ∨ (x = v (Int32.toNatClampNeg w) ∧ y = j (Int32.toNatClampNeg w) ∧ ¬ (x = b ∧ y = c))) : kP v j R n b c r B (Int32.toNatClampNeg w') := by
  rw [e]
  by_cases q : b = -1
  · exact Or.inl q
  · rcases h with h | ⟨h1, f, h2, h3, h4, h5, h6⟩
    · exact absurd h q
    · refine Or.inr ⟨?_, f, by omega, h3, h4, h5, h6⟩
      rw [kN_1, if_neg, h1, Int.add_zero]
      rintro ⟨z1, z2⟩
      rcases hn with hn | ⟨g1, g2, g3⟩
      · omega
      · exact g3 ⟨g1.trans z1, g2.trans z2⟩
theorem kP_e {v j : Nat → Int} {R n : Nat} {b c r r' x y : Int} {B : Nat → Int32} {w w' : Int32} (h : kP v j R n b c r B (Int32.toNatClampNeg w)) (e : Int32.toNatClampNeg w' = Int32.toNatClampNeg w + 1) (hx : x = v (Int32.toNatClampNeg w)) (hy : y = j (Int32.toNatClampNeg w)) (hxb : x = b) (hyc : y = c) (hne : x ≠ -1) (hr : r' = r + 1) : kP v j R n b c r' B (Int32.toNatClampNeg w') := by
  rw [e]
  rcases h with h | ⟨h1, f, h2, h3, h4, h5, h6⟩
  · omega
  · refine Or.inr ⟨?_, f, by omega, h3, h4, h5, h6⟩
    rw [kN_1, if_pos ⟨hx.symm.trans hxb, hy.symm.trans hyc⟩, hr, h1]
theorem kN_b (v j : Nat → Int) (b c : Int) : ∀ N : Nat, 0 ≤ kN v j b c N ∧ kN v j b c N ≤ (N : Int) := by
  intro N
  induction N with
  | zero => exact ⟨Int.le_refl 0, Int.le_refl 0⟩
  | succ N ih =>
    rw [kN_1]
    by_cases q : v N = b ∧ j N = c
    · rw [if_pos q]; omega
    · rw [if_neg q]; omega
theorem kP_e2 {v j : Nat → Int} {R n : Nat} {b c x y : Int} {r r' : Int32} {B : Nat → Int32} {w w' : Int32} (h : kP v j R n b c (Int32.toInt r) B (Int32.toNatClampNeg w)) (e : Int32.toNatClampNeg w' = Int32.toNatClampNeg w + 1) (hx : x = v (Int32.toNatClampNeg w)) (hy : y = j (Int32.toNatClampNeg w)) (hxb : x = b) (hyc : y = c) (hne : x ≠ -1) (er : r' = (r + (1 : Int32))) : kP v j R n b c (Int32.toInt r') B (Int32.toNatClampNeg w') := by
  refine kP_e h e hx hy hxb hyc hne ?_
  rcases h with h | ⟨h1, _⟩
  · exact absurd (hxb.trans h) hne
  · have q1 := kN_b v j b c (Int32.toNatClampNeg w)
    have q2 : Int32.toNatClampNeg w' = (Int32.toInt w').toNat := rfl
    have q3 := Int32.toInt_lt w'
    rw [er]
    exact zi_addc rfl (by decide) (by omega)
theorem kP_y {v j : Nat → Int} {R n : Nat} {b c r' x y : Int} {B' : Nat → Int32} {w w' : Int32} (hF : (b, c) = kF v j (Int32.toNatClampNeg w)) (hv : ∀ w : Nat, v w = -1 ∨ 0 ≤ v w) (hj : ∀ w : Nat, 0 ≤ j w ∧ j w ≤ 7) (e : Int32.toNatClampNeg w' = Int32.toNatClampNeg w + 1) (hx : x = v (Int32.toNatClampNeg w)) (hy : y = j (Int32.toNatClampNeg w)) (hne : x ≠ -1) (hc : b < x ∨ (x = b ∧ c < y)) (hr : r' = 1) (hB : ∀ i : Nat, i < n → Int32.toInt (B' i) = kD R n (Int32.toNatClampNeg w) i) : kP v j R n x y r' B' (Int32.toNatClampNeg w') := by
  have jN := hj (Int32.toNatClampNeg w)
  have hz : ∀ t : Nat, t < Int32.toNatClampNeg w → ¬ (v t = x ∧ j t = y) := fun t ht z => by
    have jt := hj t
    rcases kF_p hv hj (Int32.toNatClampNeg w) with ⟨h1, h2⟩ | ⟨f, h1, h2, h3, h4, h5⟩
    · have h3 := h2 t ht
      omega
    · rw [← hF] at h3 h4 h5
      have h3 : v f = b := h3
      have h4 : j f = c := h4
      have h6 : 8 * v t + j t ≤ 8 * b + c := h5 t ht (by omega)
      have jf := hj f
      omega
  rw [e]
  refine Or.inr ⟨?_, Int32.toNatClampNeg w, by omega, hx.symm, hy.symm, hz, hB⟩
  rw [kN_1, kN_z _ hz, if_pos ⟨hx.symm, hy.symm⟩, hr]
  rfl
theorem kV_h {a b : Nat → Int32} {le : Int} {R n : Nat} (hR : R ≤ 6) (w : Nat) : kV (zLk a b) R n le w = -1 ∨ 0 ≤ kV (zLk a b) R n le w := by
  have h1 := nL (L := zLk a b) (R := R) (n := n) (w := w) (le := le) hR (fun i j _ _ => (cFA_b _ _).1) n 0 0 0 (by omega) (by decide) (Int.le_refl 0)
  rcases h1 with ⟨h2, _⟩ | ⟨h2, _, _⟩
  · exact Or.inl h2
  · exact Or.inr h2
theorem kJ_h {R n : Nat} (hn : n ≤ 6) (w : Nat) : 0 ≤ kJ R n w ∧ kJ R n w ≤ 7 := by
  have h1 := kM_b (f := kD R n w) n
  show 0 ≤ kM (kD R n w) n ∧ kM (kD R n w) n ≤ 7
  omega
theorem jA_l {a b : Nat → Int32} {le : Int32} {n R : Nat} : ∀ i r : Nat, i < n → r < R → (Int32.toInt (jA a b le i r) = -1 ∧ zLk a b i r < Int32.toInt le) ∨ (Int32.toInt (jA a b le i r) = zLk a b i r ∧ 0 ≤ zLk a b i r ∧ zLk a b i r ≤ 8 ∧ ¬ zLk a b i r < Int32.toInt le) := fun i r _ _ => by
  have hL : 0 ≤ zLk a b i r ∧ zLk a b i r ≤ 8 := cFA_b _ _
  unfold jA
  by_cases q : Int32.toInt (cFA (a i) (b r)) < Int32.toInt le
  · rw [if_pos q]; exact Or.inl ⟨by decide, q⟩
  · rw [if_neg q]; exact Or.inr ⟨rfl, hL.1, hL.2, q⟩
/-- what the model keeps is what the class keeps -/
theorem jX {a b : Nat → Int32} {le : Int32} {R n : Nat} {bb cc r : Int} {B : Nat → Int32} (hR : R ≤ 6) (hn : n ≤ 6) (hF : (bb, cc) = kF (kV (zLk a b) R n (Int32.toInt le)) (kJ R n) ((R + 1) ^ n)) (h : kP (kV (zLk a b) R n (Int32.toInt le)) (kJ R n) R n bb cc r B ((R + 1) ^ n)) : r = Int32.toInt (jT (jA a b le) R n 0 0).2 ∧ ∀ i : Nat, i < n → Int32.toInt (B i) = Int32.toInt (jRw (jA a b le) R n i) := by
  have hl := jA_l (a := a) (b := b) (le := le) (n := n) (R := R)
  obtain ⟨⟨t1, t2⟩, t3, w0, t4, t5⟩ := jT_p hR hn hl n 0 0 (by omega) (Nat.pow_pos (by decide))
  have hw : ∀ w : Nat, w < (R + 1) ^ n → (kV (zLk a b) R n (Int32.toInt le) w = -1 ∧ nS (zLk a b) R (Int32.toInt le) n 0 0 w = -1) ∨ (0 ≤ kV (zLk a b) R n (Int32.toInt le) w ∧ nS (zLk a b) R (Int32.toInt le) n 0 0 w = 8 * kV (zLk a b) R n (Int32.toInt le) w + kJ R n w) := fun w h => by
    have h1 := nL (L := zLk a b) (R := R) (n := n) (w := w) (le := Int32.toInt le) hR (fun i j _ _ => (cFA_b _ _).1) n 0 0 0 (by omega) (by decide) (Int.le_refl 0)
    rw [Nat.mod_eq_of_lt h] at h1
    rcases h1 with ⟨h2, h3⟩ | ⟨h2, h3, h4⟩
    · exact Or.inl ⟨h2, h3⟩
    · refine Or.inr ⟨h2, h3.trans ?_⟩
      have e0 : kM (kD R n w) 0 = 0 := rfl
      show 8 * (kV (zLk a b) R n (Int32.toInt le) w - 0) + (kJ R n w - kM (kD R n w) 0) = _
      rw [e0]
      omega
  have hv := kV_h (a := a) (b := b) (le := Int32.toInt le) (n := n) hR
  have hj := kJ_h (R := R) hn
  have hT : bb ≠ -1 ∧ 0 ≤ cc ∧ cc ≤ 7 ∧ 8 * bb + cc = Int32.toInt (jT (jA a b le) R n 0 0).1 := by
    have h0 := hw w0 t4
    rcases kF_p hv hj ((R + 1) ^ n) with ⟨h1, h2⟩ | ⟨w, h1, h2, h3, h4, h5⟩
    · have h6 := h2 w0 t4
      omega
    · rw [← hF] at h3 h4 h5
      have h3 : kV (zLk a b) R n (Int32.toInt le) w = bb := h3
      have h4 : kJ R n w = cc := h4
      have h6 := hw w h1
      have h7 := t3 w h1
      have h8 := hj w
      have h9 := hj w0
      by_cases z : kV (zLk a b) R n (Int32.toInt le) w0 = -1
      · omega
      · have h10 : 8 * kV (zLk a b) R n (Int32.toInt le) w0 + kJ R n w0 ≤ 8 * bb + cc := h5 w0 t4 z
        omega
  obtain ⟨g1, g2, g3, g4⟩ := hT
  have hiff : ∀ w : Nat, w < (R + 1) ^ n → ((kV (zLk a b) R n (Int32.toInt le) w = bb ∧ kJ R n w = cc) ↔ nS (zLk a b) R (Int32.toInt le) n 0 0 w = Int32.toInt (jT (jA a b le) R n 0 0).1) := fun w h => by
    have h1 := hw w h
    have h2 := hj w
    exact ⟨fun z => by omega, fun z => by omega⟩
  rcases h with h | ⟨h1, f, h2, h3, h4, h5, h6⟩
  · exact absurd h g1
  · refine ⟨?_, ?_⟩
    · rw [h1, kN_c _ hiff, jT_q hR hn hl n 0 0 (by omega) (Nat.pow_pos (by decide))]
    · obtain ⟨q1, q2⟩ := rW_p (J := jJ (jA a b le) R n) hR hn hl (fun j v _ hv => jJ_e (j64 hR hv)) n 0 0 (by omega) (Nat.pow_pos (by decide))
      have qb := rW_b (lk := jA a b le) (J := jJ (jA a b le) R n) hR n 0 0 (Nat.pow_pos (by decide))
      have ef : f = rW (jA a b le) (jJ (jA a b le) R n) R n 0 0 := by
        rcases Nat.lt_trichotomy f (rW (jA a b le) (jJ (jA a b le) R n) R n 0 0) with z | z | z
        · exact absurd ((hiff f h2).mp ⟨h3, h4⟩) (q2 f z)
        · exact z
        · exact absurd ((hiff _ qb).mpr q1) (h5 _ z)
      intro i hi
      rw [h6 i hi, ef]
      exact rW_k hR i hi
/-! joined: what is kept -/
def jdC (a b : Int32) (A : Nat → Int32) (i : Int32) : Int := if Int32.toInt i = -1 then Int32.toInt a else if 0 ≤ Int32.toInt i ∧ Int32.toInt i ≤ Int32.toInt b - 1 then Int32.toInt (A (Int32.toNatClampNeg i)) else -1
def jdM (h c d : Int32) (B : Nat → Int32) (i : Int32) : Int := if Int32.toInt h = 0 then -1 else if Int32.toInt i = -1 then Int32.toInt d else if 0 ≤ Int32.toInt i ∧ Int32.toInt i ≤ Int32.toInt c - 1 then Int32.toInt (B (Int32.toNatClampNeg i)) else -1
def zJn (a b : Int32) (A : Nat → Int32) (h c d : Int32) (B : Nat → Int32) : Prop := (Int32.toInt h = 0 ∧ Int32.toInt a = -1 ∧ Int32.toInt b = 0) ∨ (Int32.toInt h = 1 ∧ a = d ∧ b = c ∧ ∀ j : Nat, (j : Int) < Int32.toInt c → A j = B j)
theorem jd_e {a b h c d i : Int32} {A B : Nat → Int32} (hJ : zJn a b A h c d B) : jdM h c d B i = jdC a b A i := by
  unfold jdM jdC
  rcases hJ with ⟨h1, h2, h3⟩ | ⟨h1, h2, h3, h4⟩
  · rw [if_pos h1]
    by_cases q : Int32.toInt i = -1
    · rw [if_pos q, h2]
    · rw [if_neg q, if_neg (by omega)]
  · rw [if_neg (by omega), h2, h3]
    by_cases q : Int32.toInt i = -1
    · rw [if_pos q, if_pos q]
    · rw [if_neg q, if_neg q]
      by_cases q2 : 0 ≤ Int32.toInt i ∧ Int32.toInt i ≤ Int32.toInt c - 1
      · have c0 := z_cl q2.1
        rw [if_pos q2, if_pos q2, h4 _ (by omega)]
      · rw [if_neg q2, if_neg q2]
theorem jdC_1 {a b i r : Int32} {A : Nat → Int32} (h : Int32.toInt i = -1) (e : r = a) : Int32.toInt r = jdC a b A i := by
  unfold jdC
  rw [if_pos h, e]
theorem jdC_2 {a b i r : Int32} {A : Nat → Int32} (h : ¬ Int32.toInt i = -1) (h2 : 0 ≤ Int32.toInt i ∧ Int32.toInt i ≤ Int32.toInt b - 1) (e : r = A (Int32.toNatClampNeg i)) : Int32.toInt r = jdC a b A i := by
  unfold jdC
  rw [if_neg h, if_pos h2, e]
theorem jdC_3 {a b i : Int32} {A : Nat → Int32} {x : Int} (h : ¬ Int32.toInt i = -1) (h2 : ¬ (0 ≤ Int32.toInt i ∧ Int32.toInt i ≤ Int32.toInt b - 1)) (e : x = -1) : x = jdC a b A i := by
  unfold jdC
  rw [if_neg h, if_neg h2, e]
theorem jdM_0 {h c d i : Int32} {B : Nat → Int32} {x : Int} (h0 : Int32.toInt h = 0) (e : x = -1) : x = jdM h c d B i := by
  unfold jdM
  rw [if_pos h0, e]
theorem jdM_1 {h c d i r : Int32} {B : Nat → Int32} (h0 : ¬ Int32.toInt h = 0) (h1 : Int32.toInt i = -1) (e : r = d) : Int32.toInt r = jdM h c d B i := by
  unfold jdM
  rw [if_neg h0, if_pos h1, e]
theorem jdM_2 {h c d i r : Int32} {B : Nat → Int32} (h0 : ¬ Int32.toInt h = 0) (h1 : ¬ Int32.toInt i = -1) (h2 : 0 ≤ Int32.toInt i ∧ Int32.toInt i ≤ Int32.toInt c - 1) (e : r = B (Int32.toNatClampNeg i)) : Int32.toInt r = jdM h c d B i := by
  unfold jdM
  rw [if_neg h0, if_neg h1, if_pos h2, e]
theorem jdM_3 {h c d i : Int32} {B : Nat → Int32} {x : Int} (h0 : ¬ Int32.toInt h = 0) (h1 : ¬ Int32.toInt i = -1) (h2 : ¬ (0 ≤ Int32.toInt i ∧ Int32.toInt i ≤ Int32.toInt c - 1)) (e : x = -1) : x = jdM h c d B i := by
  unfold jdM
  rw [if_neg h0, if_neg h1, if_neg h2, e]
theorem zJn_0 {A B : Nat → Int32} {c d : Int32} : zJn (-1) 0 A 0 c d B := Or.inl ⟨by decide, by decide, by decide⟩
/-- what join leaves on a side -/
def jLv (lk : Nat → Nat → Int32) (n R le : Int32) (a b : Int32) (A : Nat → Int32) (a' b' : Int32) (A' : Nat → Int32) : Prop := (0 ≤ Int32.toInt le ∧ Int32.toInt le ≤ 8 ∧ a' = (jT lk (Int32.toNatClampNeg R) (Int32.toNatClampNeg n) 0 0).2 ∧ b' = n ∧ ∀ j : Nat, j < Int32.toNatClampNeg n → A' j = jRw lk (Int32.toNatClampNeg R) (Int32.toNatClampNeg n) j) ∨ (¬ (0 ≤ Int32.toInt le ∧ Int32.toInt le ≤ 8) ∧ a' = a ∧ b' = b ∧ A' = A)
theorem zJn_j {ca cb mm rm : Nat → Int32} {n R le a b h c d a' b' h' c' d' n' R' : Int32} {A B A' B' : Nat → Int32} (hJ : zJn a b A h c d B) (hn : 0 ≤ Int32.toInt n ∧ Int32.toInt n ≤ 6) (hR : 0 ≤ Int32.toInt R ∧ Int32.toInt R ≤ 6) (en : n' = n) (eR : R' = R) (h1 : jLv (jA ca cb le) n R le a b A a' b' A') (h2 : jLv (jA mm rm le) n' R' le d c B d' c' B' ∧ ((0 ≤ Int32.toInt le ∧ Int32.toInt le ≤ 8 ∧ Int32.toInt h' = 1) ∨ (¬ (0 ≤ Int32.toInt le ∧ Int32.toInt le ≤ 8) ∧ h' = h))) (hl : ∀ i r : Nat, i < Int32.toNatClampNeg n → r < Int32.toNatClampNeg R → zLk mm rm i r = zLk ca cb i r) : zJn a' b' A' h' c' d' B' := by
  rw [en, eR] at h2
  obtain ⟨h2, h3⟩ := h2
  have k1 := z_cl hn.1
  have k2 := z_cl hR.1
  have hA : ∀ i r : Nat, i < Int32.toNatClampNeg n → r < Int32.toNatClampNeg R → jA mm rm le i r = jA ca cb le i r := fun i r hi hr => by
    have e : cFA (mm i) (rm r) = cFA (ca i) (cb r) := Int32.toInt_inj.mp (hl i r hi hr)
    unfold jA
    rw [e]
  rcases h1 with ⟨l1, l2, p1, p2, p3⟩ | ⟨l1, p1, p2, p3⟩
  · rcases h2 with ⟨_, _, q1, q2, q3⟩ | ⟨l3, _⟩
    · rcases h3 with ⟨_, _, h3⟩ | ⟨l3, _⟩
      · refine Or.inr ⟨h3, ?_, by rw [p2, q2], fun j hj => ?_⟩
        · rw [p1, q1, jT_c hA (Int32.toNatClampNeg n) 0 0 (by omega) (Nat.pow_pos (by decide))]
        · rw [q2] at hj
          rw [p3 j (by omega), q3 j (by omega), jRw_c (by omega) hA j (by omega)]
      · exact absurd ⟨l1, l2⟩ l3
    · exact absurd ⟨l1, l2⟩ l3
  · rcases h2 with ⟨l2, l3, _⟩ | ⟨_, q1, q2, q3⟩
    · exact absurd ⟨l2, l3⟩ l1
    · rcases h3 with ⟨l2, l3, _⟩ | ⟨_, h3⟩
      · exact absurd ⟨l2, l3⟩ l1
      · rw [p1, p2, p3, q1, q2, q3, h3]; exact hJ
theorem zCz_0 {B J : Nat → Int32} : ∀ i : Nat, i < Int32.toNatClampNeg (0 : Int32) → B i = J i := fun i hi => by
  rw [zN0] at hi
  exact absurd hi (Nat.not_lt_zero i)
theorem zCz_s {B B' J : Nat → Int32} {k k' v : Int32} (h : ∀ i : Nat, i < Int32.toNatClampNeg k → B i = J i) (hk : Int32.toNatClampNeg k' = Int32.toNatClampNeg k + 1) (e : B' = upd B (Int32.toNatClampNeg k) v) (hv : v = J (Int32.toNatClampNeg k)) : ∀ i : Nat, i < Int32.toNatClampNeg k' → B' i = J i := fun i hi => by
  rw [e]
  by_cases z : i = Int32.toNatClampNeg k
  · rw [z, pk_us]; exact hv
  · rw [pk_un z]; exact h i (by omega)
