/-! searches as numbers, rows as updates -/
noncomputable def zQ (p : Prop) : Int32 := @ite Int32 p (Classical.propDecidable p) 1 0
theorem zQ_t {p : Prop} (h : p) : zQ p = 1 := by unfold zQ; exact if_pos h
theorem zQ_f {p : Prop} (h : ¬ p) : zQ p = 0 := by unfold zQ; exact if_neg h
theorem zQ_c {p q : Prop} (h : p ↔ q) : zQ p = zQ q := by rw [propext h]
theorem zN_i {x : Int32} {j : Nat} (h : j < Int32.toNatClampNeg x) : (j : Int) < Int32.toInt x := by
  have e : Int32.toNatClampNeg x = (Int32.toInt x).toNat := rfl
  rw [e] at h
  omega
theorem zN_o {x : Int32} {j : Nat} (h : (j : Int) < Int32.toInt x) : j < Int32.toNatClampNeg x := by
  have e : Int32.toNatClampNeg x = (Int32.toInt x).toNat := rfl
  rw [e]
  omega
theorem zFd_0 {P : Nat → Prop} {k : Int32} (h : Int32.toNatClampNeg k = 0) : ∀ j : Nat, j < Int32.toNatClampNeg k → ¬ P j := fun j hj => absurd hj (by omega)
theorem zFd_s {P : Nat → Prop} {k k2 : Int32} (hI : ∀ j : Nat, j < Int32.toNatClampNeg k → ¬ P j) (e : Int32.toNatClampNeg k2 = Int32.toNatClampNeg k + 1) (hn : ¬ P (Int32.toNatClampNeg k)) : ∀ j : Nat, j < Int32.toNatClampNeg k2 → ¬ P j := by
  intro j hj
  by_cases q : j = Int32.toNatClampNeg k
  · rw [q]; exact hn
  · exact hI j (by omega)
theorem zAc_0 {P : Nat → Prop} {k : Int32} (h : Int32.toNatClampNeg k = 0) : (0 : Int32) = zQ (∃ j : Nat, j < Int32.toNatClampNeg k ∧ P j) := (zQ_f (fun h9 => by obtain ⟨j, h1, h2⟩ := h9; omega)).symm
theorem zAc_s {P : Nat → Prop} {b b' k k2 : Int32} (hI : b = zQ (∃ j : Nat, j < Int32.toNatClampNeg k ∧ P j)) (e : Int32.toNatClampNeg k2 = Int32.toNatClampNeg k + 1) (h : (b' = 1 ∧ (b ≠ 0 ∨ P (Int32.toNatClampNeg k))) ∨ (b' = 0 ∧ b = 0 ∧ ¬ P (Int32.toNatClampNeg k))) : b' = zQ (∃ j : Nat, j < Int32.toNatClampNeg k2 ∧ P j) := by
  rcases h with ⟨rfl, h⟩ | ⟨rfl, h0, hn⟩
  · refine (zQ_t ?_).symm
    rcases h with h | h
    · by_cases q : ∃ j : Nat, j < Int32.toNatClampNeg k ∧ P j
      · obtain ⟨j, h1, h2⟩ := q
        exact ⟨j, by omega, h2⟩
      · exact absurd (hI.trans (zQ_f q)) h
    · exact ⟨_, by omega, h⟩
  · refine (zQ_f (fun h9 => ?_)).symm
    obtain ⟨j, h1, h2⟩ := h9
    by_cases q : j = Int32.toNatClampNeg k
    · rw [q] at h2; exact hn h2
    · have h3 : zQ (∃ j : Nat, j < Int32.toNatClampNeg k ∧ P j) = 1 := zQ_t ⟨j, by omega, h2⟩
      rw [h0, h3] at hI
      exact absurd hI (by decide)
theorem zAc_e {P : Nat → Prop} {b k n : Int32} (hI : b = zQ (∃ j : Nat, j < Int32.toNatClampNeg k ∧ P j)) (e : Int32.toInt k = Int32.toInt n) : b = zQ (∃ j : Nat, j < Int32.toNatClampNeg n ∧ P j) := by
  have q : k = n := Int32.toInt_inj.mp e
  rw [← q]
  exact hI
theorem zU_c {F F' : Nat → Int32} {i i' : Nat} {v v' : Int32} (h : F = F') (hi : i = i') (hv : v = v') : upd F i v = upd F' i' v' := by rw [h, hi, hv]
theorem zX_c (f : Int32 → Int32 → Int32) {a a' b b' : Int32} (h1 : a = a') (h2 : b = b') : f a b = f a' b' := by rw [h1, h2]
theorem z_usc {F G : Nat → Int32} {i v : Int32} (e : G = upd F (Int32.toNatClampNeg i) v) : v = G (Int32.toNatClampNeg i) := by rw [e, pk_us]
abbrev sBus (f g : Nat → Int32) (n r h : Int32) : Prop := ∃ j : Nat, j < Int32.toNatClampNeg n ∧ f (j) = r ∧ g (j) = h
abbrev sAm (f : Nat → Int32) (n : Int32) (m : Nat) (w : Int32) : Prop := ∃ j : Nat, j < Int32.toNatClampNeg n ∧ j < m ∧ f (j) = w
abbrev mBus (F : Nat → Int32) (r h : Int32) : Prop := ∃ j : Nat, j < Int32.toNatClampNeg (F (Int32.toNatClampNeg 9)) ∧ F (3300 + 2 * j) = r ∧ F (3301 + 2 * j) = h
abbrev mMis (F : Nat → Int32) (w : Int32) : Prop := ∃ j : Nat, j < Int32.toNatClampNeg (F (Int32.toNatClampNeg 6)) ∧ F (6986 + 2 * j) = w
abbrev mDrw (F : Nat → Int32) (w : Int32) : Prop := ∃ j : Nat, j < Int32.toNatClampNeg (F (Int32.toNatClampNeg 8)) ∧ F (7025 + 3 * j) = w
/-! the last place, the number of places at which something holds -/
noncomputable def zLast (P : Nat → Prop) : Nat → Int32
  | 0 => -1
  | n + 1 => @ite Int32 (P n) (Classical.propDecidable (P n)) (Int32.ofNat n) (zLast P n)
theorem zLast_y {P : Nat → Prop} {n : Nat} (h : P n) : zLast P (n + 1) = Int32.ofNat n := by
  show @ite Int32 (P n) (Classical.propDecidable (P n)) (Int32.ofNat n) (zLast P n) = Int32.ofNat n
  exact if_pos h
theorem zLast_n {P : Nat → Prop} {n : Nat} (h : ¬ P n) : zLast P (n + 1) = zLast P n := by
  show @ite Int32 (P n) (Classical.propDecidable (P n)) (Int32.ofNat n) (zLast P n) = zLast P n
  exact if_neg h
theorem zLast_c {P Q : Nat → Prop} (n : Nat) (h : ∀ j : Nat, j < n → (P j ↔ Q j)) : zLast P n = zLast Q n := by
  induction n with
  | zero => rfl
  | succ n ih =>
    have h1 := ih (fun j hj => h j (by omega))
    by_cases q : P n
    · rw [zLast_y q, zLast_y ((h n (by omega)).mp q)]
    · rw [zLast_n q, zLast_n (fun z => q ((h n (by omega)).mpr z)), h1]
theorem zLa_of {k : Int32} (h : 0 ≤ Int32.toInt k) : Int32.ofNat (Int32.toNatClampNeg k) = k := by
  obtain ⟨n, hn, e, en⟩ := zo_nn h
  exact (congrArg Int32.ofNat (show Int32.toNatClampNeg k = n by rw [e, nI_clamp hn])).trans e.symm
theorem zLa_0 {P : Nat → Prop} {k n : Int32} (h : Int32.toInt k = Int32.toInt n - 1 ∧ 0 ≤ Int32.toInt n) : zLast P (Int32.toInt k + 1).toNat = zLast P (Int32.toNatClampNeg n) := by
  have e : (Int32.toInt k + 1).toNat = Int32.toNatClampNeg n := by
    have c := z_cl (x := n) h.2
    omega
  rw [e]
theorem zLa_s {P : Nat → Prop} {k k2 L : Int32} (hI : zLast P (Int32.toInt k + 1).toNat = L) (h : Int32.toInt k2 = Int32.toInt k - 1 ∧ 0 ≤ Int32.toInt k) (hn : ¬ P (Int32.toNatClampNeg k)) : zLast P (Int32.toInt k2 + 1).toNat = L := by
  have c := z_cl (x := k) h.2
  have e : (Int32.toInt k + 1).toNat = Int32.toNatClampNeg k + 1 := by omega
  have e2 : (Int32.toInt k2 + 1).toNat = Int32.toNatClampNeg k := by omega
  rw [e, zLast_n hn] at hI
  rw [e2]
  exact hI
theorem zLa_e {P : Nat → Prop} {k L : Int32} (hI : zLast P (Int32.toInt k + 1).toNat = L) (h : Int32.toInt k < 0) : (-1 : Int32) = L := by
  have e : (Int32.toInt k + 1).toNat = 0 := by omega
  rw [e] at hI
  exact hI
theorem zLa_h {P : Nat → Prop} {k L : Int32} (hI : zLast P (Int32.toInt k + 1).toNat = L) (h : 0 ≤ Int32.toInt k) (hp : P (Int32.toNatClampNeg k)) : k = L := by
  have c := z_cl (x := k) h
  have e : (Int32.toInt k + 1).toNat = Int32.toNatClampNeg k + 1 := by omega
  rw [e, zLast_y hp, zLa_of h] at hI
  exact hI
def zLi (P : Nat → Prop) (w : Int32) (m : Nat) : Prop := (Int32.toInt w = -1 ∧ Int32.toInt (zLast P m) = -1) ∨ (0 ≤ Int32.toInt (zLast P m) ∧ Int32.toInt (zLast P m) < (m : Int) ∧ Int32.toInt w = 2700 + 5 * Int32.toInt (zLast P m))
theorem zLi_0 {P : Nat → Prop} {k : Int32} (h : Int32.toNatClampNeg k = 0) : zLi P (-1) (Int32.toNatClampNeg k) := by
  rw [h]
  exact Or.inl ⟨by decide, (by decide : Int32.toInt (-1 : Int32) = -1)⟩
theorem zLi_n {P : Nat → Prop} {w k k2 : Int32} (h : zLi P w (Int32.toNatClampNeg k)) (e : Int32.toNatClampNeg k2 = Int32.toNatClampNeg k + 1) (hn : ¬ P (Int32.toNatClampNeg k)) : zLi P w (Int32.toNatClampNeg k2) := by
  unfold zLi at h ⊢
  rw [e, zLast_n hn]
  omega
theorem zLi_y {P : Nat → Prop} {w k k2 : Int32} (e : Int32.toNatClampNeg k2 = Int32.toNatClampNeg k + 1) (hk : 0 ≤ Int32.toInt k ∧ Int32.toInt k ≤ 1000) (hw : Int32.toInt w = 2700 + 5 * Int32.toInt k) (hp : P (Int32.toNatClampNeg k)) : zLi P w (Int32.toNatClampNeg k2) := by
  unfold zLi
  have c := z_cl (x := k) hk.1
  rw [e, zLast_y hp, zLa_of hk.1]
  omega
theorem zLi_e {P : Nat → Prop} {w k n : Int32} (h : zLi P w (Int32.toNatClampNeg k)) (e : Int32.toInt k = Int32.toInt n) : (Int32.toInt w = -1 ∧ Int32.toInt (zLast P (Int32.toNatClampNeg n)) = -1) ∨ (0 ≤ Int32.toInt (zLast P (Int32.toNatClampNeg n)) ∧ Int32.toInt (zLast P (Int32.toNatClampNeg n)) < Int32.toInt n ∧ Int32.toInt w = 2700 + 5 * Int32.toInt (zLast P (Int32.toNatClampNeg n))) := by
  have q : k = n := Int32.toInt_inj.mp e
  rw [q] at h
  unfold zLi at h
  have c : ((Int32.toNatClampNeg n : Nat) : Int) ≤ Int32.toInt n ∨ Int32.toInt n < 0 := by
    by_cases z : 0 ≤ Int32.toInt n
    · exact Or.inl (Int.le_of_eq (z_cl z))
    · omega
  have c2 : Int32.toInt n < 0 → Int32.toNatClampNeg n = 0 := fun z => by
    have e2 : Int32.toNatClampNeg n = (Int32.toInt n).toNat := rfl
    omega
  omega
noncomputable def zCnt (P : Nat → Prop) : Nat → Nat
  | 0 => 0
  | n + 1 => zCnt P n + @ite Nat (P n) (Classical.propDecidable (P n)) 1 0
theorem zCnt_y {P : Nat → Prop} {n : Nat} (h : P n) : zCnt P (n + 1) = zCnt P n + 1 := by
  show zCnt P n + @ite Nat (P n) (Classical.propDecidable (P n)) 1 0 = zCnt P n + 1
  rw [if_pos h]
theorem zCnt_n {P : Nat → Prop} {n : Nat} (h : ¬ P n) : zCnt P (n + 1) = zCnt P n := by
  show zCnt P n + @ite Nat (P n) (Classical.propDecidable (P n)) 1 0 = zCnt P n
  rw [if_neg h]
  rfl
theorem zCnt_le {P : Nat → Prop} (n : Nat) : zCnt P n ≤ n := by
  induction n with
  | zero => exact Nat.le_refl 0
  | succ n ih =>
    by_cases q : P n
    · rw [zCnt_y q]; omega
    · rw [zCnt_n q]; omega
theorem zCnt_c {P Q : Nat → Prop} (n : Nat) (h : ∀ j : Nat, j < n → (P j ↔ Q j)) : zCnt P n = zCnt Q n := by
  induction n with
  | zero => rfl
  | succ n ih =>
    have h1 := ih (fun j hj => h j (by omega))
    by_cases q : P n
    · rw [zCnt_y q, zCnt_y ((h n (by omega)).mp q), h1]
    · rw [zCnt_n q, zCnt_n (fun z => q ((h n (by omega)).mpr z)), h1]
theorem zCn_0 {P : Nat → Prop} {k : Int32} (h : Int32.toNatClampNeg k = 0) : Int32.toInt (0 : Int32) = ((zCnt P (Int32.toNatClampNeg k) : Nat) : Int) := by
  rw [h]
  exact (by decide : Int32.toInt (0 : Int32) = 0)
theorem zCn_y {P : Nat → Prop} {m m2 k k2 : Int32} (hI : Int32.toInt m = ((zCnt P (Int32.toNatClampNeg k) : Nat) : Int)) (e : Int32.toNatClampNeg k2 = Int32.toNatClampNeg k + 1) (hp : P (Int32.toNatClampNeg k)) (h : Int32.toInt m2 = Int32.toInt m + 1) : Int32.toInt m2 = ((zCnt P (Int32.toNatClampNeg k2) : Nat) : Int) := by
  rw [e, zCnt_y hp]
  omega
theorem zCn_n {P : Nat → Prop} {m k k2 : Int32} (hI : Int32.toInt m = ((zCnt P (Int32.toNatClampNeg k) : Nat) : Int)) (e : Int32.toNatClampNeg k2 = Int32.toNatClampNeg k + 1) (hp : ¬ P (Int32.toNatClampNeg k)) : Int32.toInt m = ((zCnt P (Int32.toNatClampNeg k2) : Nat) : Int) := by
  rw [e, zCnt_n hp]
  exact hI
theorem zCn_b {P : Nat → Prop} {m k : Int32} (hI : Int32.toInt m = ((zCnt P (Int32.toNatClampNeg k) : Nat) : Int)) (hk : 0 ≤ Int32.toInt k ∧ Int32.toInt k ≤ 400) : 0 ≤ Int32.toInt m ∧ Int32.toInt m ≤ 400 := by
  have h1 := zCnt_le (P := P) (Int32.toNatClampNeg k)
  have h2 := z_cl hk.1
  omega
theorem zCn_e {P : Nat → Prop} {m k n : Int32} (hI : Int32.toInt m = ((zCnt P (Int32.toNatClampNeg k) : Nat) : Int)) (e : Int32.toInt k = Int32.toInt n) (hb : Int32.toInt n ≤ 400) : m = Int32.ofNat (zCnt P (Int32.toNatClampNeg n)) := by
  have q : k = n := Int32.toInt_inj.mp e
  rw [q] at hI
  have h1 := zCnt_le (P := P) (Int32.toNatClampNeg n)
  have h2 : Int32.toNatClampNeg n ≤ 400 := by
    have e2 : Int32.toNatClampNeg n = (Int32.toInt n).toNat := rfl
    omega
  have h3 : Int32.toInt (Int32.ofNat (zCnt P (Int32.toNatClampNeg n))) = ((zCnt P (Int32.toNatClampNeg n) : Nat) : Int) := nI_toInt (n := zCnt P (Int32.toNatClampNeg n)) (by omega)
  exact Int32.toInt_inj.mp (hI.trans h3.symm)
noncomputable def cLat (f g : Nat → Int32) (n c s : Int32) : Int32 := zLast (fun j : Nat => Int32.toInt (f j) = Int32.toInt c ∧ Int32.toInt (g j) = Int32.toInt s) (Int32.toNatClampNeg n)
noncomputable def mLat (F : Nat → Int32) (c s : Int32) : Int32 := zLast (fun j : Nat => Int32.toInt (F (2700 + 5 * j)) = Int32.toInt c ∧ Int32.toInt (F (2701 + 5 * j)) = Int32.toInt s) (Int32.toNatClampNeg (F (Int32.toNatClampNeg 2)))
noncomputable def cCnt (f : Nat → Int32) (n d : Int32) : Int32 := Int32.ofNat (zCnt (fun j : Nat => Int32.toInt ((f j) / (2 : Int32)) = Int32.toInt d) (Int32.toNatClampNeg n))
noncomputable def mCnt (F : Nat → Int32) (d : Int32) : Int32 := Int32.ofNat (zCnt (fun j : Nat => Int32.toInt ((F (3782 + 8 * j)) / (2 : Int32)) = Int32.toInt d) (Int32.toNatClampNeg (F (Int32.toNatClampNeg 3))))
abbrev sLis (f g p q : Nat → Int32) (n c s a b : Int32) : Prop := ∃ j : Nat, j < Int32.toNatClampNeg n ∧ (Int32.toInt (f (j)) = Int32.toInt c ∧ Int32.toInt (g (j)) = Int32.toInt s ∧ Int32.toInt (p (j)) ≤ Int32.toInt (q (j)) - 1 ∧ Int32.toInt (p (j)) ≤ Int32.toInt b ∧ Int32.toInt a ≤ Int32.toInt (q (j)) - 1 ∧ Int32.toInt a ≤ Int32.toInt b)
abbrev mOn (F : Nat → Int32) (c s d : Int32) : Prop := ∃ j : Nat, j < Int32.toNatClampNeg (F (Int32.toNatClampNeg 2)) ∧ (Int32.toInt (F (2700 + 5 * j)) = Int32.toInt c ∧ Int32.toInt (F (2701 + 5 * j)) = Int32.toInt s ∧ Int32.toInt (F (2702 + 5 * j)) ≤ Int32.toInt d ∧ (Int32.toInt (F (2703 + 5 * j)) = -1 ∨ Int32.toInt d < Int32.toInt (F (2703 + 5 * j))))
abbrev mCom (F : Nat → Int32) (c s d : Int32) : Prop := ∃ j : Nat, j < Int32.toNatClampNeg (F (Int32.toNatClampNeg 2)) ∧ (Int32.toInt (F (2700 + 5 * j)) = Int32.toInt c ∧ Int32.toInt (F (2701 + 5 * j)) = Int32.toInt s ∧ ((Int32.toInt (F (2702 + 5 * j)) ≤ Int32.toInt d ∧ (Int32.toInt (F (2703 + 5 * j)) = -1 ∨ Int32.toInt d < Int32.toInt (F (2703 + 5 * j)))) ∨ Int32.toInt d ≤ Int32.toInt (F (2702 + 5 * j))))
/-! images: what is copied -/
theorem zIn_c {G0 R G : Nat → Int32} {k i : Int32} (h : zIn G0 R k i G) (e : Int32.toInt i = 27101) : zIn G0 R k 27101 G := by
  intro j
  have h2 := h j
  rw [e] at h2
  exact h2
theorem zBn_c {F0 G F : Nat → Int32} {k i : Int32} (h : zBn F0 G k i F) (e : Int32.toInt i = 27101) : zBn F0 G k 27101 F := by
  intro j
  have h2 := h j
  rw [e] at h2
  exact h2
/-! a text that is stored touches nothing below the texts -/
theorem zC_r {F0 Fa Fb G1 G2 C O R : Nat → Int32} {t t1 f N k1 k2 : Int32} (ht : 8661 ≤ t.toInt) (ht1 : t1.toInt = t.toInt + 1) (ea : Fa = upd F0 (Int32.toNatClampNeg t) f) (eb : Fb = upd Fa (Int32.toNatClampNeg t1) N) (h1 : zCp Fb C t k1 G1) (h2 : zCq G1 O R t k2 G2) : ∀ j : Nat, j < 8661 → G2 j = F0 j := by
  intro j hj
  have c1 := z_cl (x := t) (by omega)
  have c2 := z_cl (x := t1) (by omega)
  rw [h2 j, if_neg (by omega), h1 j, if_neg (by omega), eb, pk_un (by omega), ea, pk_un (by omega)]
/-! places in the script -/
theorem zIx_h {i y c : Int32} {k : Int} (e : y = i + c) (hi : 0 ≤ Int32.toInt i ∧ Int32.toInt i ≤ 3577) (hc : Int32.toInt c = k) (hk : 0 ≤ k ∧ k ≤ 6) : Int32.toInt y = Int32.toInt i + k := by
  rw [e]
  exact zi_addc rfl hc (by omega)
theorem zIx_b {i y : Int32} {k : Int} {L : Nat} (h : Int32.toInt y = Int32.toInt i + k) (hi : 0 ≤ Int32.toInt i ∧ Int32.toInt i ≤ 3577) (hL : Int32.toInt i + 7 ≤ (L : Int)) (hk : 0 ≤ k ∧ k ≤ 6) : 0 ≤ Int32.toInt y ∧ Int32.toInt y < (L : Int) := by omega
