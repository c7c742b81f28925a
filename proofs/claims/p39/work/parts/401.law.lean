/-! the class's rows against the model's row -/
def zAr (f F : Nat → Int32) (B S n : Nat) : Prop := ∀ k : Nat, k < n → f k = F (B + S * k)
theorem zAr_k {f F : Nat → Int32} {B S n i : Nat} {v : Int32} (h : zAr f F B S n) (hn : ∀ k : Nat, k < n → B + S * k ≠ i) : zAr f (upd F i v) B S n := fun k hk => by rw [pk_un (hn k hk)]; exact h k hk
theorem zAr_u {f f' F : Nat → Int32} {B S n i j : Nat} {v v' : Int32} (h : zAr f F B S n) (ef : f' = upd f i v) (ej : j = B + S * i) (hS : 0 < S) (hv : v' = v) : zAr f' (upd F j v') B S n := by
  intro k hk
  rw [ef, ej, hv]
  by_cases q : k = i
  · rw [q, pk_us, pk_us]
  · rw [pk_un q, pk_un (fun e => q (Nat.eq_of_mul_eq_mul_left hS (by omega)))]; exact h k hk
theorem zAr_g {f F G : Nat → Int32} {B S n : Nat} (h : zAr f F B S n) (e : ∀ k : Nat, k < n → G (B + S * k) = F (B + S * k)) : zAr f G B S n := fun k hk => (h k hk).trans (e k hk).symm
theorem zC_k {c : Int32} {F : Nat → Int32} {j i : Nat} {v : Int32} (h : c = F j) (hn : j ≠ i) : c = upd F i v j := by rw [pk_un hn]; exact h
theorem zC_i {c d : Int32} (h : Int32.toInt d = Int32.toInt c + 1) (hb : Int32.toInt c ≤ 1000) : d = c + 1 := Int32.toInt_inj.mp (by
  have h0 := Int32.le_toInt c
  rw [h, zi_addc rfl (show Int32.toInt (1 : Int32) = 1 by decide) (by omega)])
def zGo (f F : Nat → Int32) : Prop := ∀ k : Nat, k < 120 → (Int32.toInt (F (2703 + 5 * k)) = -1 ∧ Int32.toInt (f k) = 400) ∨ (0 ≤ Int32.toInt (F (2703 + 5 * k)) ∧ Int32.toInt (F (2703 + 5 * k)) < 400 ∧ Int32.toInt (f k) = Int32.toInt (F (2703 + 5 * k)))
theorem zGo_g {f F G : Nat → Int32} (h : zGo f F) (e : ∀ k : Nat, k < 120 → G (2703 + 5 * k) = F (2703 + 5 * k)) : zGo f G := fun k hk => by rw [e k hk]; exact h k hk
theorem zGo_k {f F : Nat → Int32} {i : Nat} {v : Int32} (h : zGo f F) (hn : ∀ k : Nat, k < 120 → 2703 + 5 * k ≠ i) : zGo f (upd F i v) := zGo_g h (fun k hk => pk_un (hn k hk))
theorem zGo_u {f f' F : Nat → Int32} {i j : Nat} {v x : Int32} (h : zGo f F) (ef : f' = upd f i x) (ej : j = 2703 + 5 * i) (hv : (Int32.toInt v = -1 ∧ Int32.toInt x = 400) ∨ (0 ≤ Int32.toInt v ∧ Int32.toInt v < 400 ∧ Int32.toInt x = Int32.toInt v)) : zGo f' (upd F j v) := by
  intro k hk
  rw [ef, ej]
  by_cases q : k = i
  · rw [q, pk_us, pk_us]; exact hv
  · rw [pk_un q, pk_un (show 2703 + 5 * k ≠ 2703 + 5 * i by omega)]; exact h k hk
def zNu (l m F : Nat → Int32) : Prop := ∀ k : Nat, k < 400 → (((26 : Int32) * (m k)) + (l k)) = F (3783 + 8 * k)
theorem zNu_g {l m F G : Nat → Int32} (h : zNu l m F) (e : ∀ k : Nat, k < 400 → G (3783 + 8 * k) = F (3783 + 8 * k)) : zNu l m G := fun k hk => by rw [e k hk]; exact h k hk
theorem zNu_k {l m F : Nat → Int32} {i : Nat} {v : Int32} (h : zNu l m F) (hn : ∀ k : Nat, k < 400 → 3783 + 8 * k ≠ i) : zNu l m (upd F i v) := zNu_g h (fun k hk => pk_un (hn k hk))
theorem zNu_u {l l' m m' F : Nat → Int32} {i j : Nat} {v x y : Int32} (h : zNu l m F) (el : l' = upd l i x) (em : m' = upd m i y) (ej : j = 3783 + 8 * i) (hv : (((26 : Int32) * y) + x) = v) : zNu l' m' (upd F j v) := by
  intro k hk
  rw [el, em, ej]
  by_cases q : k = i
  · rw [q, pk_us, pk_us, pk_us]; exact hv
  · rw [pk_un q, pk_un q, pk_un (show 3783 + 8 * k ≠ 3783 + 8 * i by omega)]; exact h k hk
theorem zNu_r {n : Int32} : (((26 : Int32) * (n / (26 : Int32))) + (n - n / (26 : Int32) * (26 : Int32))) = n := by
  rw [Int32.add_comm, Int32.mul_comm, Int32.sub_add_cancel]
def zGr (f F : Nat → Int32) : Prop := ∀ k : Nat, k < 400 → (Int32.toInt (f k) = -1 ↔ Int32.toInt (F (3785 + 8 * k)) = -1)
theorem zGr_g {f F G : Nat → Int32} (h : zGr f F) (e : ∀ k : Nat, k < 400 → G (3785 + 8 * k) = F (3785 + 8 * k)) : zGr f G := fun k hk => by rw [e k hk]; exact h k hk
theorem zGr_k {f F : Nat → Int32} {i : Nat} {v : Int32} (h : zGr f F) (hn : ∀ k : Nat, k < 400 → 3785 + 8 * k ≠ i) : zGr f (upd F i v) := zGr_g h (fun k hk => pk_un (hn k hk))
theorem zGr_u {f f' F : Nat → Int32} {i j : Nat} {v x : Int32} (h : zGr f F) (ef : f' = upd f i x) (ej : j = 3785 + 8 * i) (hv : Int32.toInt x = -1 ↔ Int32.toInt v = -1) : zGr f' (upd F j v) := by
  intro k hk
  rw [ef, ej]
  by_cases q : k = i
  · rw [q, pk_us, pk_us]; exact hv
  · rw [pk_un q, pk_un (show 3785 + 8 * k ≠ 3785 + 8 * i by omega)]; exact h k hk
def zOr (c s p q : Nat → Int32) (n : Int32) : Prop := (∀ i j : Nat, i < j → j < Int32.toNatClampNeg n → Int32.toInt (c i) = Int32.toInt (c j) → Int32.toInt (s i) = Int32.toInt (s j) → Int32.toInt (q i) ≤ Int32.toInt (p j) ∧ Int32.toInt (p i) < Int32.toInt (p j)) ∧ (∀ i : Nat, i < Int32.toNatClampNeg n → Int32.toInt (p i) ≤ Int32.toInt (q i))
/-- the last place: it is one, and none behind it -/
theorem zLast_p {P : Nat → Prop} (n : Nat) (hn : n ≤ 1000) : (Int32.toInt (zLast P n) = -1 ∧ ∀ j : Nat, j < n → ¬ P j) ∨ (0 ≤ Int32.toInt (zLast P n) ∧ Int32.toInt (zLast P n) < (n : Int) ∧ P (Int32.toNatClampNeg (zLast P n)) ∧ ∀ j : Nat, Int32.toNatClampNeg (zLast P n) < j → j < n → ¬ P j) := by
  induction n with
  | zero => exact Or.inl ⟨by show Int32.toInt (-1 : Int32) = -1; decide, fun j hj => absurd hj (Nat.not_lt_zero j)⟩
  | succ n ih =>
    by_cases q : P n
    · have h1 : Int32.toInt (Int32.ofNat n) = (n : Int) := nI_toInt (n := n) (by omega)
      have h2 : Int32.toNatClampNeg (Int32.ofNat n) = n := nI_clamp (n := n) (by omega)
      rw [zLast_y q, h1, h2]
      exact Or.inr ⟨by omega, by omega, q, fun j h3 h4 => by omega⟩
    · rw [zLast_n q]
      rcases ih (by omega) with ⟨h1, h2⟩ | ⟨h1, h2, h3, h4⟩
      · refine Or.inl ⟨h1, fun j hj => ?_⟩
        by_cases z : j = n
        · rw [z]; exact q
        · exact h2 j (by omega)
      · refine Or.inr ⟨h1, by omega, h3, fun j h5 h6 => ?_⟩
        by_cases z : j = n
        · rw [z]; exact q
        · exact h4 j h5 (by omega)
theorem cLat_p {f g : Nat → Int32} {n c s : Int32} (hn : 0 ≤ Int32.toInt n ∧ Int32.toInt n ≤ 120) : (Int32.toInt (cLat f g n c s) = -1 ∧ ∀ j : Nat, j < Int32.toNatClampNeg n → ¬ (Int32.toInt (f j) = Int32.toInt c ∧ Int32.toInt (g j) = Int32.toInt s)) ∨ (0 ≤ Int32.toInt (cLat f g n c s) ∧ Int32.toInt (cLat f g n c s) < Int32.toInt n ∧ (Int32.toInt (f (Int32.toNatClampNeg (cLat f g n c s))) = Int32.toInt c ∧ Int32.toInt (g (Int32.toNatClampNeg (cLat f g n c s))) = Int32.toInt s) ∧ ∀ j : Nat, Int32.toNatClampNeg (cLat f g n c s) < j → j < Int32.toNatClampNeg n → ¬ (Int32.toInt (f j) = Int32.toInt c ∧ Int32.toInt (g j) = Int32.toInt s)) := by
  have h0 := z_cl (x := n) hn.1
  have h := zLast_p (P := fun j : Nat => Int32.toInt (f j) = Int32.toInt c ∧ Int32.toInt (g j) = Int32.toInt s) (Int32.toNatClampNeg n) (by omega)
  rw [h0] at h
  exact h
theorem cLat_b {f g : Nat → Int32} {n c s : Int32} (hn : 0 ≤ Int32.toInt n ∧ Int32.toInt n ≤ 120) : -1 ≤ Int32.toInt (cLat f g n c s) ∧ Int32.toInt (cLat f g n c s) ≤ 119 := by
  rcases cLat_p (f := f) (g := g) (c := c) (s := s) hn with ⟨h, _⟩ | ⟨h1, h2, _, _⟩
  · omega
  · omega
theorem zN_b {x : Int32} (h : Int32.toInt x ≤ 119) : Int32.toNatClampNeg x < 120 := by
  have e : Int32.toNatClampNeg x = (Int32.toInt x).toNat := rfl
  omega
theorem zOr_c {c s p q c' s' p' q' : Nat → Int32} {n m x y d : Int32} (h : zOr c s p q n) (hn : 0 ≤ Int32.toInt n ∧ Int32.toInt n ≤ 119) (hm : Int32.toInt m = Int32.toInt n + 1) (hd : Int32.toInt d ≤ 399) (ec : c' = upd c (Int32.toNatClampNeg n) x) (es : s' = upd s (Int32.toNatClampNeg n) y) (ep : p' = upd p (Int32.toNatClampNeg n) d) (eq : q' = upd q (Int32.toNatClampNeg n) (400 : Int32)) (hL : Int32.toInt (cLat c s n x y) = -1 ∨ (Int32.toInt (p (Int32.toNatClampNeg (cLat c s n x y))) < Int32.toInt d ∧ Int32.toInt (q (Int32.toNatClampNeg (cLat c s n x y))) ≤ Int32.toInt d)) : zOr c' s' p' q' m := by
  have h0 := z_cl (x := n) hn.1
  have h1 := z_cl (x := m) (by omega)
  have hp := cLat_p (f := c) (g := s) (n := n) (c := x) (s := y) (by omega)
  refine ⟨fun i j hij hj e1 e2 => ?_, fun i hi => ?_⟩
  · have hi : i ≠ Int32.toNatClampNeg n := by omega
    rw [ec, pk_un hi] at e1
    rw [es, pk_un hi] at e2
    rw [ep, eq, pk_un hi, pk_un hi]
    by_cases z : j = Int32.toNatClampNeg n
    · rw [z, pk_us] at e1 e2
      rw [z, pk_us]
      have hin : i < Int32.toNatClampNeg n := by omega
      rcases hp with ⟨_, h3⟩ | ⟨h2, h3, h4, h5⟩
      · exact absurd ⟨e1, e2⟩ (h3 i hin)
      · have h6 := z_cl h2
        rcases hL with hL | ⟨hL1, hL2⟩
        · omega
        · by_cases z2 : i = Int32.toNatClampNeg (cLat c s n x y)
          · rw [z2]; exact ⟨hL2, hL1⟩
          · by_cases z3 : Int32.toNatClampNeg (cLat c s n x y) < i
            · exact absurd ⟨e1, e2⟩ (h5 i z3 hin)
            · have h7 := h.1 i (Int32.toNatClampNeg (cLat c s n x y)) (by omega) (by omega) (e1.trans h4.1.symm) (e2.trans h4.2.symm)
              exact ⟨by omega, by omega⟩
    · rw [pk_un z] at e1 e2
      rw [pk_un z]
      exact h.1 i j hij (by omega) e1 e2
  · rw [ep, eq]
    by_cases z : i = Int32.toNatClampNeg n
    · rw [z, pk_us, pk_us]
      have e4 : Int32.toInt (400 : Int32) = 400 := by decide
      omega
    · rw [pk_un z, pk_un z]
      exact h.2 i (by omega)
theorem zOr_o {c s p q q' : Nat → Int32} {n x y d : Int32} (h : zOr c s p q n) (hn : 0 ≤ Int32.toInt n ∧ Int32.toInt n ≤ 120) (hL : 0 ≤ Int32.toInt (cLat c s n x y)) (eq : q' = upd q (Int32.toNatClampNeg (cLat c s n x y)) d) (hd : Int32.toInt (p (Int32.toNatClampNeg (cLat c s n x y))) ≤ Int32.toInt d) : zOr c s p q' n := by
  have h0 := z_cl (x := n) hn.1
  have hp := cLat_p (f := c) (g := s) (n := n) (c := x) (s := y) hn
  rcases hp with ⟨h2, _⟩ | ⟨h2, h3, h4, h5⟩
  · omega
  · refine ⟨fun i j hij hj e1 e2 => ?_, fun i hi => ?_⟩
    · by_cases z : i = Int32.toNatClampNeg (cLat c s n x y)
      · rw [z] at hij e1 e2
        exact absurd ⟨e1.symm.trans h4.1, e2.symm.trans h4.2⟩ (h5 j hij hj)
      · rw [eq, pk_un z]
        exact h.1 i j hij hj e1 e2
    · rw [eq]
      by_cases z : i = Int32.toNatClampNeg (cLat c s n x y)
      · rw [z, pk_us]; exact hd
      · rw [pk_un z]; exact h.2 i hi
/-! days on which a school is shut: bits -/
def zBt (x s : Int32) : Prop := Int32.toInt ((x >>> (s &&& 31)) &&& (1 : Int32)) = 1
theorem zb_and (v : BitVec 32) : v &&& 1#32 = 1#32 ↔ v.getLsbD 0 = true := by
  rw [BitVec.and_one_eq_setWidth_ofBool_getLsbD]
  cases v.getLsbD 0 <;> decide
theorem zb_1 (x : Int32) (k : Nat) (s : Int32) (hk : k < 32) (e : (x >>> (s &&& 31)).toBitVec = x.toBitVec.sshiftRight k) : zBt x s ↔ x.toBitVec.getLsbD k = true := by
  have h1 : zBt x s ↔ ((x >>> (s &&& 31)) &&& (1 : Int32)) = 1 := ⟨fun h => Int32.toInt_inj.mp h, fun h => congrArg Int32.toInt h⟩
  rw [h1, ← Int32.toBitVec_inj]
  have h2 : ((x >>> (s &&& 31)) &&& (1 : Int32)).toBitVec = (x >>> (s &&& 31)).toBitVec &&& 1#32 := rfl
  have h3 : (1 : Int32).toBitVec = 1#32 := rfl
  rw [h2, h3, e, zb_and, BitVec.getLsbD_sshiftRight]
  simp [hk]
theorem zb_s {s : Int32} (h : 0 ≤ Int32.toInt s ∧ Int32.toInt s < 5) : s = 0 ∨ s = 1 ∨ s = 2 ∨ s = 3 ∨ s = 4 := by
  rcases (show Int32.toInt s = 0 ∨ Int32.toInt s = 1 ∨ Int32.toInt s = 2 ∨ Int32.toInt s = 3 ∨ Int32.toInt s = 4 by omega) with q | q | q | q | q
  · exact Or.inl (Int32.toInt_inj.mp (q.trans (by decide)))
  · exact Or.inr (Or.inl (Int32.toInt_inj.mp (q.trans (by decide))))
  · exact Or.inr (Or.inr (Or.inl (Int32.toInt_inj.mp (q.trans (by decide)))))
  · exact Or.inr (Or.inr (Or.inr (Or.inl (Int32.toInt_inj.mp (q.trans (by decide))))))
  · exact Or.inr (Or.inr (Or.inr (Or.inr (Int32.toInt_inj.mp (q.trans (by decide))))))
theorem zb_t {s : Int32} (h : 0 ≤ Int32.toInt s ∧ Int32.toInt s < 5) (x : Int32) : zBt x s ↔ x.toBitVec.getLsbD (Int32.toNatClampNeg s) = true := by
  rcases zb_s h with rfl | rfl | rfl | rfl | rfl
  · exact zb_1 x 0 0 (by decide) rfl
  · exact zb_1 x 1 1 (by decide) rfl
  · exact zb_1 x 2 2 (by decide) rfl
  · exact zb_1 x 3 3 (by decide) rfl
  · exact zb_1 x 4 4 (by decide) rfl
theorem zb_l {s : Int32} (h : 0 ≤ Int32.toInt s ∧ Int32.toInt s < 5) (j : Nat) (hj : j < 5) : ((1 : Int32) <<< (s &&& 31)).toBitVec.getLsbD j = true ↔ j = Int32.toNatClampNeg s := by
  have hj2 : j = 0 ∨ j = 1 ∨ j = 2 ∨ j = 3 ∨ j = 4 := by omega
  rcases zb_s h with rfl | rfl | rfl | rfl | rfl <;> rcases hj2 with rfl | rfl | rfl | rfl | rfl <;> decide
theorem zb_o {s t : Int32} (hs : 0 ≤ Int32.toInt s ∧ Int32.toInt s < 5) (ht : 0 ≤ Int32.toInt t ∧ Int32.toInt t < 5) (x : Int32) : zBt (x ||| ((1 : Int32) <<< (s &&& 31))) t ↔ (zBt x t ∨ Int32.toNatClampNeg t = Int32.toNatClampNeg s) := by
  have h1 := z_cl ht.1
  rw [zb_t ht, zb_t ht]
  have h2 : (x ||| ((1 : Int32) <<< (s &&& 31))).toBitVec = x.toBitVec ||| ((1 : Int32) <<< (s &&& 31)).toBitVec := rfl
  rw [h2, BitVec.getLsbD_or, Bool.or_eq_true, zb_l hs _ (by omega)]
def zSh (f F : Nat → Int32) : Prop := ∀ (s : Int32) (d : Nat), (0 ≤ Int32.toInt s ∧ Int32.toInt s < 5) → d < 400 → (zBt (f d) s ↔ Int32.toInt (F (700 + 400 * Int32.toNatClampNeg s + d)) = 1)
theorem zSh_g {f F G : Nat → Int32} (h : zSh f F) (e : ∀ j : Nat, 700 ≤ j → j < 2700 → G j = F j) : zSh f G := fun s d hs hd => by
  have c := z_cl hs.1
  rw [e _ (by omega) (by omega)]
  exact h s d hs hd
theorem zSh_u {f f' F : Nat → Int32} {s : Int32} {i j : Nat} {v : Int32} (h : zSh f F) (hs : 0 ≤ Int32.toInt s ∧ Int32.toInt s < 5) (hi : i < 400) (ef : f' = upd f i ((f i) ||| ((1 : Int32) <<< (s &&& 31)))) (ej : j = 700 + 400 * Int32.toNatClampNeg s + i) (hv : Int32.toInt v = 1) : zSh f' (upd F j v) := by
  intro t d ht hd
  have c := z_cl hs.1
  have c2 := z_cl ht.1
  rw [ef, ej]
  by_cases q : d = i
  · rw [q, pk_us, zb_o hs ht]
    by_cases z : Int32.toNatClampNeg t = Int32.toNatClampNeg s
    · rw [z, pk_us]
      exact ⟨fun _ => hv, fun _ => Or.inr rfl⟩
    · rw [pk_un (show 700 + 400 * Int32.toNatClampNeg t + i ≠ 700 + 400 * Int32.toNatClampNeg s + i by omega)]
      exact ⟨fun h1 => (h t i ht hi).mp (h1.resolve_right z), fun h1 => Or.inl ((h t i ht hi).mpr h1)⟩
  · rw [pk_un q, pk_un (show 700 + 400 * Int32.toNatClampNeg t + d ≠ 700 + 400 * Int32.toNatClampNeg s + i by omega)]
    exact h t d ht hd
theorem zSh_00 {s : Int32} (hs : 0 ≤ Int32.toInt s ∧ Int32.toInt s < 5) : ¬ zBt 0 s := by
  unfold zBt
  rcases zb_s hs with rfl | rfl | rfl | rfl | rfl <;> decide
theorem zSh_0 : zSh (fun _ => 0) (fun _ => 0) := fun _ _ hs _ => ⟨fun h => absurd h (zSh_00 hs), fun h => absurd (show Int32.toInt (0 : Int32) = 1 from h) (by decide)⟩
theorem zAr_w {f f' F G : Nat → Int32} {B S n i : Nat} {v : Int32} (h : zAr f F B S n) (ef : f' = upd f i v) (eg : G (B + S * i) = v) (eo : ∀ k : Nat, k < n → k ≠ i → G (B + S * k) = F (B + S * k)) : zAr f' G B S n := by
  intro k hk
  rw [ef]
  by_cases q : k = i
  · rw [q, pk_us]; exact eg.symm
  · rw [pk_un q, eo k hk q]; exact h k hk
/-! rolls: the class's rows against the model's row (behind zGo, zOr) -/
def zSc (s : Nat → Int32) (n S : Int32) : Prop := ∀ k : Nat, k < Int32.toNatClampNeg n → 0 ≤ Int32.toInt (s k) ∧ Int32.toInt (s k) < Int32.toInt S
theorem zSc_m {s : Nat → Int32} {n S S' : Int32} (h : zSc s n S) (hS : Int32.toInt S ≤ Int32.toInt S') : zSc s n S' := fun k hk => ⟨(h k hk).1, by have h1 := (h k hk).2; omega⟩
theorem zSc_c {s s' : Nat → Int32} {n m S y : Int32} (h : zSc s n S) (hn : 0 ≤ Int32.toInt n) (hm : Int32.toInt m = Int32.toInt n + 1) (es : s' = upd s (Int32.toNatClampNeg n) y) (hy : 0 ≤ Int32.toInt y ∧ Int32.toInt y < Int32.toInt S) : zSc s' m S := by
  have c := z_cl hn
  have c2 := z_cl (x := m) (by omega)
  intro k hk
  rw [es]
  by_cases z : k = Int32.toNatClampNeg n
  · rw [z, pk_us]; exact hy
  · rw [pk_un z]; exact h k (by omega)
theorem rOn {ch sc fi go F : Nat → Int32} {n c s d : Int32} (e0 : F (Int32.toNatClampNeg 2) = n) (hn : Int32.toInt n ≤ 120) (h1 : zAr ch F 2700 5 120) (h2 : zAr sc F 2701 5 120) (h3 : zAr fi F 2702 5 120) (h4 : zGo go F) (hd : 0 ≤ Int32.toInt d ∧ Int32.toInt d ≤ 399) : mOn F c s d ↔ ∃ j : Nat, j < Int32.toNatClampNeg n ∧ (Int32.toInt (ch j) = Int32.toInt c ∧ Int32.toInt (sc j) = Int32.toInt s ∧ Int32.toInt (fi j) ≤ Int32.toInt d ∧ Int32.toInt d < Int32.toInt (go j)) := by
  constructor
  · intro h
    obtain ⟨j, g1, g2, g3, g4, g5⟩ := h
    rw [e0] at g1
    have q := zN_i g1
    rw [← h1 j (by omega)] at g2
    rw [← h2 j (by omega)] at g3
    rw [← h3 j (by omega)] at g4
    have k4 := h4 j (by omega)
    exact ⟨j, g1, g2, g3, g4, by omega⟩
  · intro h
    obtain ⟨j, g1, g2, g3, g4, g5⟩ := h
    have q := zN_i g1
    have k4 := h4 j (by omega)
    refine ⟨j, by rw [e0]; exact g1, ?_, ?_, ?_, ?_⟩
    · rw [← h1 j (by omega)]; exact g2
    · rw [← h2 j (by omega)]; exact g3
    · rw [← h3 j (by omega)]; exact g4
    · omega
theorem rSch {ch sc fi go F : Nat → Int32} {n S c d : Int32} (e0 : F (Int32.toNatClampNeg 2) = n) (e1 : F (Int32.toNatClampNeg 1) = S) (hn : 0 ≤ Int32.toInt n ∧ Int32.toInt n ≤ 120) (hS : 0 ≤ Int32.toInt S ∧ Int32.toInt S ≤ 5) (h1 : zAr ch F 2700 5 120) (h2 : zAr sc F 2701 5 120) (h3 : zAr fi F 2702 5 120) (h4 : zGo go F) (h6 : zOr ch sc fi go n) (h7 : zSc sc n S) (hd : 0 ≤ Int32.toInt d ∧ Int32.toInt d ≤ 399) : mSch F c d = cSch ch fi go n c d := by
  unfold mSch cSch
  rw [e1]
  have cS := z_cl hS.1
  refine congrArg Int32.ofNat ?_
  have g := rCnt_s (T := fun j : Nat => Int32.toInt (ch j) = Int32.toInt c ∧ Int32.toInt (fi j) ≤ Int32.toInt d ∧ Int32.toInt d < Int32.toInt (go j)) (s := fun j : Nat => Int32.toNatClampNeg (sc j)) (Int32.toNatClampNeg S) (Int32.toNatClampNeg n) (fun j hj => by
    have q := h7 j hj
    have q2 := z_cl q.1
    show Int32.toNatClampNeg (sc j) < Int32.toNatClampNeg S
    omega) (fun i j hij hj ti tj e => by
    have qi := h7 i (by omega)
    have qj := h7 j hj
    have ci := z_cl qi.1
    have cj := z_cl qj.1
    have e2 : Int32.toNatClampNeg (sc i) = Int32.toNatClampNeg (sc j) := e
    have o := h6.1 i j hij hj (ti.1.trans tj.1.symm) (by omega)
    have t1 := ti.2.2
    have t2 := tj.2.1
    omega)
  rw [← g]
  refine zCnt_c _ (fun a ha => ?_)
  have ea : Int32.toInt (Int32.ofNat a) = (a : Int) := nI_toInt (n := a) (by omega)
  rw [rOn e0 hn.2 h1 h2 h3 h4 hd]
  constructor
  · intro h
    obtain ⟨j, g1, g2, g3, g4, g5⟩ := h
    have q := h7 j g1
    have q2 := z_cl q.1
    exact ⟨j, g1, ⟨g2, g4, g5⟩, by show Int32.toNatClampNeg (sc j) = a; omega⟩
  · intro h
    obtain ⟨j, g1, ⟨g2, g4, g5⟩, g3⟩ := h
    have g3 : Int32.toNatClampNeg (sc j) = a := g3
    have q := h7 j g1
    have q2 := z_cl q.1
    exact ⟨j, g1, g2, by omega, g4, g5⟩
theorem rLos {ch sc fi go wh F : Nat → Int32} {n c d : Int32} (e0 : F (Int32.toNatClampNeg 2) = n) (hn : Int32.toInt n ≤ 120) (h1 : zAr ch F 2700 5 120) (h2 : zAr sc F 2701 5 120) (h3 : zAr fi F 2702 5 120) (h4 : zGo go F) (h5 : zAr wh F 2704 5 120) (hd : 0 ≤ Int32.toInt d ∧ Int32.toInt d ≤ 399) : mLos F c d ↔ cLos ch sc fi go wh n c d := by
  have key : ∀ (w : Int32) (a : Int), 0 ≤ a → a ≤ Int32.toInt d → (mCam F c w a (Int32.toInt d) ↔ ∃ j : Nat, j < Int32.toNatClampNeg n ∧ (Int32.toInt (ch j) = Int32.toInt c ∧ Int32.toInt (sc j) = Int32.toInt w ∧ Int32.toInt (fi j) ≤ Int32.toInt (go j) - 1 ∧ Int32.toInt (fi j) ≤ Int32.toInt d ∧ a ≤ Int32.toInt (go j) - 1)) := by
    intro w a ha had
    constructor
    · intro h
      obtain ⟨e, g1, g2, g3⟩ := h
      have ee : Int32.toInt (Int32.ofInt e) = e := Int32.toInt_ofInt_of_le (by omega) (by omega)
      obtain ⟨j, k1, k2, k3, k4, k5⟩ := (rOn e0 hn h1 h2 h3 h4 (by omega)).mp g3
      exact ⟨j, k1, k2, k3, by omega, by omega, by omega⟩
    · intro h
      obtain ⟨j, k1, k2, k3, k4, k5, k6⟩ := h
      by_cases q : a ≤ Int32.toInt (fi j)
      · exact ⟨Int32.toInt (fi j), q, k5, by rw [Int32.ofInt_toInt]; exact (rOn e0 hn h1 h2 h3 h4 (by omega)).mpr ⟨j, k1, k2, k3, by omega, by omega⟩⟩
      · have ee : Int32.toInt (Int32.ofInt a) = a := Int32.toInt_ofInt_of_le (by omega) (by omega)
        exact ⟨a, Int.le_refl _, had, (rOn e0 hn h1 h2 h3 h4 (by omega)).mpr ⟨j, k1, k2, k3, by omega, by omega⟩⟩
  constructor
  · intro h
    obtain ⟨j, g1, g2, g3, g4, g5, g6⟩ := h
    rw [e0] at g1
    have q := zN_i g1
    have k4 := h4 j (by omega)
    rw [← h1 j (by omega)] at g2
    rw [← h5 j (by omega)] at g5 g6
    refine ⟨j, g1, g2, by omega, g5, ?_⟩
    rw [zQ_f (fun z => g6 ((key (wh j) _ (by omega) g4).mpr ?_))]
    · decide
    · obtain ⟨i, z1, z2, z3, z4, z5, z6, z7⟩ := z
      exact ⟨i, z1, z2, z3, z4, z5, by omega⟩
  · intro h
    obtain ⟨j, g1, g2, g3, g4, g5⟩ := h
    have q := zN_i g1
    have k4 := h4 j (by omega)
    refine ⟨j, by rw [e0]; exact g1, by rw [← h1 j (by omega)]; exact g2, by omega, by omega, by rw [← h5 j (by omega)]; exact g4, fun z => ?_⟩
    rw [← h5 j (by omega)] at z
    obtain ⟨i, z1, z2, z3, z4, z5, z6⟩ := (key (wh j) _ (by omega) (by omega)).mp z
    rw [zQ_t (⟨i, z1, z2, z3, z4, z5, by omega, by omega⟩ : sLis ch sc fi go n c (wh j) (go j) d)] at g5
    exact absurd g5 (by decide)
theorem rHom {f p q F : Nat → Int32} {n c d : Int32} (e0 : F (Int32.toNatClampNeg 11) = n) (hn : 0 ≤ Int32.toInt n ∧ Int32.toInt n ≤ 60) (h1 : zAr f F 3420 3 120) (h2 : zAr p F 3421 3 120) (h3 : zAr q F 3422 3 120) : mHom F c d ↔ cHom f p q n c d := by
  have cn := z_cl hn.1
  constructor
  · intro h
    obtain ⟨j, g1, g2, g3, g4⟩ := h
    rw [e0] at g1
    refine ⟨60 + j, by omega, by omega, ?_, ?_, ?_⟩
    · rw [h1 (60 + j) (by omega), show 3420 + 3 * (60 + j) = 3600 + 3 * j by omega]; exact g2
    · rw [h2 (60 + j) (by omega), show 3421 + 3 * (60 + j) = 3601 + 3 * j by omega]; exact g3
    · rw [h3 (60 + j) (by omega), show 3422 + 3 * (60 + j) = 3602 + 3 * j by omega]; exact g4
  · intro h
    obtain ⟨j, g0, g1, g2, g3, g4⟩ := h
    obtain ⟨i, rfl⟩ : ∃ i : Nat, j = 60 + i := ⟨j - 60, by omega⟩
    rw [h1 (60 + i) (by omega), show 3420 + 3 * (60 + i) = 3600 + 3 * i by omega] at g2
    rw [h2 (60 + i) (by omega), show 3421 + 3 * (60 + i) = 3601 + 3 * i by omega] at g3
    rw [h3 (60 + i) (by omega), show 3422 + 3 * (60 + i) = 3602 + 3 * i by omega] at g4
    exact ⟨i, by rw [e0]; omega, g2, g3, g4⟩
/-! visits: minutes at the doors -/
def zVm (f : Nat → Int32) (n : Int32) : Prop := ∀ k : Nat, k < Int32.toNatClampNeg n → 0 ≤ Int32.toInt (f k) ∧ Int32.toInt (f k) ≤ 200
theorem zVm_c {f f' : Nat → Int32} {n m y : Int32} (h : zVm f n) (hn : 0 ≤ Int32.toInt n) (hm : Int32.toInt m = Int32.toInt n + 1) (e : f' = upd f (Int32.toNatClampNeg n) y) (hy : 0 ≤ Int32.toInt y ∧ Int32.toInt y ≤ 200) : zVm f' m := by
  have c := z_cl hn
  have c2 := z_cl (x := m) (by omega)
  intro k hk
  rw [e]
  by_cases z : k = Int32.toNatClampNeg n
  · rw [z, pk_us]; exact hy
  · rw [pk_un z]; exact h k (by omega)

theorem zcl0 : Int32.toNatClampNeg (0 : Int32) = 0 := by decide
theorem zcl1 : Int32.toNatClampNeg (1 : Int32) = 1 := by decide
theorem zcl2 : Int32.toNatClampNeg (2 : Int32) = 2 := by decide
theorem zcl3 : Int32.toNatClampNeg (3 : Int32) = 3 := by decide
theorem zcl5 : Int32.toNatClampNeg (5 : Int32) = 5 := by decide
theorem zcl6 : Int32.toNatClampNeg (6 : Int32) = 6 := by decide
theorem zcl7 : Int32.toNatClampNeg (7 : Int32) = 7 := by decide
theorem zcl8 : Int32.toNatClampNeg (8 : Int32) = 8 := by decide
theorem zcl9 : Int32.toNatClampNeg (9 : Int32) = 9 := by decide
theorem zcl10 : Int32.toNatClampNeg (10 : Int32) = 10 := by decide
theorem zcl11 : Int32.toNatClampNeg (11 : Int32) = 11 := by decide
def zTs (c0 c1 c2 c3 c4 c5 c6 c7 c8 : Int32) (a0 a1 a2 a3 a4 a5 a6 a7 a8 a9 a10 a11 a12 a13 a14 a15 a16 a17 a18 a19 a20 a21 a22 a23 a24 a25 a26 a27 a28 a29 : Nat → Int32) (F : Nat → Int32) : Prop := c0 = F 0 ∧ c1 = F 1 ∧ c2 = F 2 ∧ c3 = F 3 ∧ c4 = F 5 ∧ c5 = F 6 ∧ c6 = F 7 ∧ c7 = F 8 ∧ c8 = F 9 ∧ zAr a0 F 3300 2 60 ∧ zAr a1 F 3301 2 60 ∧ zAr a2 F 10 1 2 ∧ zAr a3 F 6986 2 6 ∧ zAr a4 F 7025 3 12 ∧ zAr a5 F 2700 5 120 ∧ zAr a6 F 2701 5 120 ∧ zAr a7 F 2702 5 120 ∧ zAr a8 F 2704 5 120 ∧ zAr a9 F 3780 8 400 ∧ zAr a10 F 3781 8 400 ∧ zAr a11 F 3782 8 400 ∧ zAr a12 F 6980 1 6 ∧ zAr a13 F 6987 2 6 ∧ zAr a14 F 7026 3 12 ∧ zAr a15 F 7027 3 12 ∧ zAr a16 F 20 17 40 ∧ zAr a17 F 3420 3 120 ∧ zAr a18 F 3421 3 120 ∧ zAr a19 F 3422 3 120 ∧ zAr a20 F 6998 3 9 ∧ zAr a21 F 6999 3 9 ∧ zAr a22 F 7000 3 9 ∧ zAr a23 F 23 17 40 ∧ zAr a24 F 24 17 40 ∧ zSh a25 F ∧ zGo a26 F ∧ zNu a27 a28 F ∧ zGr a29 F ∧ zOr a5 a6 a7 a26 c2 ∧ zSc a6 c2 c1 ∧ zVm a21 c6
theorem zTs_0 {c0 c1 c2 c3 c4 c5 c6 c7 c8 : Int32} {a0 a1 a2 a3 a4 a5 a6 a7 a8 a9 a10 a11 a12 a13 a14 a15 a16 a17 a18 a19 a20 a21 a22 a23 a24 a25 a26 a27 a28 a29 : Nat → Int32} {F : Nat → Int32} (h : zTs c0 c1 c2 c3 c4 c5 c6 c7 c8 a0 a1 a2 a3 a4 a5 a6 a7 a8 a9 a10 a11 a12 a13 a14 a15 a16 a17 a18 a19 a20 a21 a22 a23 a24 a25 a26 a27 a28 a29 F) : c0 = F 0 := h.1
theorem zTs_1 {c0 c1 c2 c3 c4 c5 c6 c7 c8 : Int32} {a0 a1 a2 a3 a4 a5 a6 a7 a8 a9 a10 a11 a12 a13 a14 a15 a16 a17 a18 a19 a20 a21 a22 a23 a24 a25 a26 a27 a28 a29 : Nat → Int32} {F : Nat → Int32} (h : zTs c0 c1 c2 c3 c4 c5 c6 c7 c8 a0 a1 a2 a3 a4 a5 a6 a7 a8 a9 a10 a11 a12 a13 a14 a15 a16 a17 a18 a19 a20 a21 a22 a23 a24 a25 a26 a27 a28 a29 F) : c1 = F 1 := h.2.1
theorem zTs_2 {c0 c1 c2 c3 c4 c5 c6 c7 c8 : Int32} {a0 a1 a2 a3 a4 a5 a6 a7 a8 a9 a10 a11 a12 a13 a14 a15 a16 a17 a18 a19 a20 a21 a22 a23 a24 a25 a26 a27 a28 a29 : Nat → Int32} {F : Nat → Int32} (h : zTs c0 c1 c2 c3 c4 c5 c6 c7 c8 a0 a1 a2 a3 a4 a5 a6 a7 a8 a9 a10 a11 a12 a13 a14 a15 a16 a17 a18 a19 a20 a21 a22 a23 a24 a25 a26 a27 a28 a29 F) : c2 = F 2 := h.2.2.1
theorem zTs_3 {c0 c1 c2 c3 c4 c5 c6 c7 c8 : Int32} {a0 a1 a2 a3 a4 a5 a6 a7 a8 a9 a10 a11 a12 a13 a14 a15 a16 a17 a18 a19 a20 a21 a22 a23 a24 a25 a26 a27 a28 a29 : Nat → Int32} {F : Nat → Int32} (h : zTs c0 c1 c2 c3 c4 c5 c6 c7 c8 a0 a1 a2 a3 a4 a5 a6 a7 a8 a9 a10 a11 a12 a13 a14 a15 a16 a17 a18 a19 a20 a21 a22 a23 a24 a25 a26 a27 a28 a29 F) : c3 = F 3 := h.2.2.2.1
theorem zTs_4 {c0 c1 c2 c3 c4 c5 c6 c7 c8 : Int32} {a0 a1 a2 a3 a4 a5 a6 a7 a8 a9 a10 a11 a12 a13 a14 a15 a16 a17 a18 a19 a20 a21 a22 a23 a24 a25 a26 a27 a28 a29 : Nat → Int32} {F : Nat → Int32} (h : zTs c0 c1 c2 c3 c4 c5 c6 c7 c8 a0 a1 a2 a3 a4 a5 a6 a7 a8 a9 a10 a11 a12 a13 a14 a15 a16 a17 a18 a19 a20 a21 a22 a23 a24 a25 a26 a27 a28 a29 F) : c4 = F 5 := h.2.2.2.2.1
theorem zTs_5 {c0 c1 c2 c3 c4 c5 c6 c7 c8 : Int32} {a0 a1 a2 a3 a4 a5 a6 a7 a8 a9 a10 a11 a12 a13 a14 a15 a16 a17 a18 a19 a20 a21 a22 a23 a24 a25 a26 a27 a28 a29 : Nat → Int32} {F : Nat → Int32} (h : zTs c0 c1 c2 c3 c4 c5 c6 c7 c8 a0 a1 a2 a3 a4 a5 a6 a7 a8 a9 a10 a11 a12 a13 a14 a15 a16 a17 a18 a19 a20 a21 a22 a23 a24 a25 a26 a27 a28 a29 F) : c5 = F 6 := h.2.2.2.2.2.1
theorem zTs_6 {c0 c1 c2 c3 c4 c5 c6 c7 c8 : Int32} {a0 a1 a2 a3 a4 a5 a6 a7 a8 a9 a10 a11 a12 a13 a14 a15 a16 a17 a18 a19 a20 a21 a22 a23 a24 a25 a26 a27 a28 a29 : Nat → Int32} {F : Nat → Int32} (h : zTs c0 c1 c2 c3 c4 c5 c6 c7 c8 a0 a1 a2 a3 a4 a5 a6 a7 a8 a9 a10 a11 a12 a13 a14 a15 a16 a17 a18 a19 a20 a21 a22 a23 a24 a25 a26 a27 a28 a29 F) : c6 = F 7 := h.2.2.2.2.2.2.1
theorem zTs_7 {c0 c1 c2 c3 c4 c5 c6 c7 c8 : Int32} {a0 a1 a2 a3 a4 a5 a6 a7 a8 a9 a10 a11 a12 a13 a14 a15 a16 a17 a18 a19 a20 a21 a22 a23 a24 a25 a26 a27 a28 a29 : Nat → Int32} {F : Nat → Int32} (h : zTs c0 c1 c2 c3 c4 c5 c6 c7 c8 a0 a1 a2 a3 a4 a5 a6 a7 a8 a9 a10 a11 a12 a13 a14 a15 a16 a17 a18 a19 a20 a21 a22 a23 a24 a25 a26 a27 a28 a29 F) : c7 = F 8 := h.2.2.2.2.2.2.2.1
theorem zTs_8 {c0 c1 c2 c3 c4 c5 c6 c7 c8 : Int32} {a0 a1 a2 a3 a4 a5 a6 a7 a8 a9 a10 a11 a12 a13 a14 a15 a16 a17 a18 a19 a20 a21 a22 a23 a24 a25 a26 a27 a28 a29 : Nat → Int32} {F : Nat → Int32} (h : zTs c0 c1 c2 c3 c4 c5 c6 c7 c8 a0 a1 a2 a3 a4 a5 a6 a7 a8 a9 a10 a11 a12 a13 a14 a15 a16 a17 a18 a19 a20 a21 a22 a23 a24 a25 a26 a27 a28 a29 F) : c8 = F 9 := h.2.2.2.2.2.2.2.2.1
theorem zTs_9 {c0 c1 c2 c3 c4 c5 c6 c7 c8 : Int32} {a0 a1 a2 a3 a4 a5 a6 a7 a8 a9 a10 a11 a12 a13 a14 a15 a16 a17 a18 a19 a20 a21 a22 a23 a24 a25 a26 a27 a28 a29 : Nat → Int32} {F : Nat → Int32} (h : zTs c0 c1 c2 c3 c4 c5 c6 c7 c8 a0 a1 a2 a3 a4 a5 a6 a7 a8 a9 a10 a11 a12 a13 a14 a15 a16 a17 a18 a19 a20 a21 a22 a23 a24 a25 a26 a27 a28 a29 F) : zAr a0 F 3300 2 60 := h.2.2.2.2.2.2.2.2.2.1
theorem zTs_10 {c0 c1 c2 c3 c4 c5 c6 c7 c8 : Int32} {a0 a1 a2 a3 a4 a5 a6 a7 a8 a9 a10 a11 a12 a13 a14 a15 a16 a17 a18 a19 a20 a21 a22 a23 a24 a25 a26 a27 a28 a29 : Nat → Int32} {F : Nat → Int32} (h : zTs c0 c1 c2 c3 c4 c5 c6 c7 c8 a0 a1 a2 a3 a4 a5 a6 a7 a8 a9 a10 a11 a12 a13 a14 a15 a16 a17 a18 a19 a20 a21 a22 a23 a24 a25 a26 a27 a28 a29 F) : zAr a1 F 3301 2 60 := h.2.2.2.2.2.2.2.2.2.2.1
theorem zTs_11 {c0 c1 c2 c3 c4 c5 c6 c7 c8 : Int32} {a0 a1 a2 a3 a4 a5 a6 a7 a8 a9 a10 a11 a12 a13 a14 a15 a16 a17 a18 a19 a20 a21 a22 a23 a24 a25 a26 a27 a28 a29 : Nat → Int32} {F : Nat → Int32} (h : zTs c0 c1 c2 c3 c4 c5 c6 c7 c8 a0 a1 a2 a3 a4 a5 a6 a7 a8 a9 a10 a11 a12 a13 a14 a15 a16 a17 a18 a19 a20 a21 a22 a23 a24 a25 a26 a27 a28 a29 F) : zAr a2 F 10 1 2 := h.2.2.2.2.2.2.2.2.2.2.2.1
theorem zTs_12 {c0 c1 c2 c3 c4 c5 c6 c7 c8 : Int32} {a0 a1 a2 a3 a4 a5 a6 a7 a8 a9 a10 a11 a12 a13 a14 a15 a16 a17 a18 a19 a20 a21 a22 a23 a24 a25 a26 a27 a28 a29 : Nat → Int32} {F : Nat → Int32} (h : zTs c0 c1 c2 c3 c4 c5 c6 c7 c8 a0 a1 a2 a3 a4 a5 a6 a7 a8 a9 a10 a11 a12 a13 a14 a15 a16 a17 a18 a19 a20 a21 a22 a23 a24 a25 a26 a27 a28 a29 F) : zAr a3 F 6986 2 6 := h.2.2.2.2.2.2.2.2.2.2.2.2.1
theorem zTs_13 {c0 c1 c2 c3 c4 c5 c6 c7 c8 : Int32} {a0 a1 a2 a3 a4 a5 a6 a7 a8 a9 a10 a11 a12 a13 a14 a15 a16 a17 a18 a19 a20 a21 a22 a23 a24 a25 a26 a27 a28 a29 : Nat → Int32} {F : Nat → Int32} (h : zTs c0 c1 c2 c3 c4 c5 c6 c7 c8 a0 a1 a2 a3 a4 a5 a6 a7 a8 a9 a10 a11 a12 a13 a14 a15 a16 a17 a18 a19 a20 a21 a22 a23 a24 a25 a26 a27 a28 a29 F) : zAr a4 F 7025 3 12 := h.2.2.2.2.2.2.2.2.2.2.2.2.2.1
theorem zTs_14 {c0 c1 c2 c3 c4 c5 c6 c7 c8 : Int32} {a0 a1 a2 a3 a4 a5 a6 a7 a8 a9 a10 a11 a12 a13 a14 a15 a16 a17 a18 a19 a20 a21 a22 a23 a24 a25 a26 a27 a28 a29 : Nat → Int32} {F : Nat → Int32} (h : zTs c0 c1 c2 c3 c4 c5 c6 c7 c8 a0 a1 a2 a3 a4 a5 a6 a7 a8 a9 a10 a11 a12 a13 a14 a15 a16 a17 a18 a19 a20 a21 a22 a23 a24 a25 a26 a27 a28 a29 F) : zAr a5 F 2700 5 120 := h.2.2.2.2.2.2.2.2.2.2.2.2.2.2.1
theorem zTs_15 {c0 c1 c2 c3 c4 c5 c6 c7 c8 : Int32} {a0 a1 a2 a3 a4 a5 a6 a7 a8 a9 a10 a11 a12 a13 a14 a15 a16 a17 a18 a19 a20 a21 a22 a23 a24 a25 a26 a27 a28 a29 : Nat → Int32} {F : Nat → Int32} (h : zTs c0 c1 c2 c3 c4 c5 c6 c7 c8 a0 a1 a2 a3 a4 a5 a6 a7 a8 a9 a10 a11 a12 a13 a14 a15 a16 a17 a18 a19 a20 a21 a22 a23 a24 a25 a26 a27 a28 a29 F) : zAr a6 F 2701 5 120 := h.2.2.2.2.2.2.2.2.2.2.2.2.2.2.2.1
theorem zTs_16 {c0 c1 c2 c3 c4 c5 c6 c7 c8 : Int32} {a0 a1 a2 a3 a4 a5 a6 a7 a8 a9 a10 a11 a12 a13 a14 a15 a16 a17 a18 a19 a20 a21 a22 a23 a24 a25 a26 a27 a28 a29 : Nat → Int32} {F : Nat → Int32} (h : zTs c0 c1 c2 c3 c4 c5 c6 c7 c8 a0 a1 a2 a3 a4 a5 a6 a7 a8 a9 a10 a11 a12 a13 a14 a15 a16 a17 a18 a19 a20 a21 a22 a23 a24 a25 a26 a27 a28 a29 F) : zAr a7 F 2702 5 120 := h.2.2.2.2.2.2.2.2.2.2.2.2.2.2.2.2.1
theorem zTs_17 {c0 c1 c2 c3 c4 c5 c6 c7 c8 : Int32} {a0 a1 a2 a3 a4 a5 a6 a7 a8 a9 a10 a11 a12 a13 a14 a15 a16 a17 a18 a19 a20 a21 a22 a23 a24 a25 a26 a27 a28 a29 : Nat → Int32} {F : Nat → Int32} (h : zTs c0 c1 c2 c3 c4 c5 c6 c7 c8 a0 a1 a2 a3 a4 a5 a6 a7 a8 a9 a10 a11 a12 a13 a14 a15 a16 a17 a18 a19 a20 a21 a22 a23 a24 a25 a26 a27 a28 a29 F) : zAr a8 F 2704 5 120 := h.2.2.2.2.2.2.2.2.2.2.2.2.2.2.2.2.2.1
theorem zTs_18 {c0 c1 c2 c3 c4 c5 c6 c7 c8 : Int32} {a0 a1 a2 a3 a4 a5 a6 a7 a8 a9 a10 a11 a12 a13 a14 a15 a16 a17 a18 a19 a20 a21 a22 a23 a24 a25 a26 a27 a28 a29 : Nat → Int32} {F : Nat → Int32} (h : zTs c0 c1 c2 c3 c4 c5 c6 c7 c8 a0 a1 a2 a3 a4 a5 a6 a7 a8 a9 a10 a11 a12 a13 a14 a15 a16 a17 a18 a19 a20 a21 a22 a23 a24 a25 a26 a27 a28 a29 F) : zAr a9 F 3780 8 400 := h.2.2.2.2.2.2.2.2.2.2.2.2.2.2.2.2.2.2.1
theorem zTs_19 {c0 c1 c2 c3 c4 c5 c6 c7 c8 : Int32} {a0 a1 a2 a3 a4 a5 a6 a7 a8 a9 a10 a11 a12 a13 a14 a15 a16 a17 a18 a19 a20 a21 a22 a23 a24 a25 a26 a27 a28 a29 : Nat → Int32} {F : Nat → Int32} (h : zTs c0 c1 c2 c3 c4 c5 c6 c7 c8 a0 a1 a2 a3 a4 a5 a6 a7 a8 a9 a10 a11 a12 a13 a14 a15 a16 a17 a18 a19 a20 a21 a22 a23 a24 a25 a26 a27 a28 a29 F) : zAr a10 F 3781 8 400 := h.2.2.2.2.2.2.2.2.2.2.2.2.2.2.2.2.2.2.2.1
theorem zTs_20 {c0 c1 c2 c3 c4 c5 c6 c7 c8 : Int32} {a0 a1 a2 a3 a4 a5 a6 a7 a8 a9 a10 a11 a12 a13 a14 a15 a16 a17 a18 a19 a20 a21 a22 a23 a24 a25 a26 a27 a28 a29 : Nat → Int32} {F : Nat → Int32} (h : zTs c0 c1 c2 c3 c4 c5 c6 c7 c8 a0 a1 a2 a3 a4 a5 a6 a7 a8 a9 a10 a11 a12 a13 a14 a15 a16 a17 a18 a19 a20 a21 a22 a23 a24 a25 a26 a27 a28 a29 F) : zAr a11 F 3782 8 400 := h.2.2.2.2.2.2.2.2.2.2.2.2.2.2.2.2.2.2.2.2.1
theorem zTs_21 {c0 c1 c2 c3 c4 c5 c6 c7 c8 : Int32} {a0 a1 a2 a3 a4 a5 a6 a7 a8 a9 a10 a11 a12 a13 a14 a15 a16 a17 a18 a19 a20 a21 a22 a23 a24 a25 a26 a27 a28 a29 : Nat → Int32} {F : Nat → Int32} (h : zTs c0 c1 c2 c3 c4 c5 c6 c7 c8 a0 a1 a2 a3 a4 a5 a6 a7 a8 a9 a10 a11 a12 a13 a14 a15 a16 a17 a18 a19 a20 a21 a22 a23 a24 a25 a26 a27 a28 a29 F) : zAr a12 F 6980 1 6 := h.2.2.2.2.2.2.2.2.2.2.2.2.2.2.2.2.2.2.2.2.2.1
theorem zTs_22 {c0 c1 c2 c3 c4 c5 c6 c7 c8 : Int32} {a0 a1 a2 a3 a4 a5 a6 a7 a8 a9 a10 a11 a12 a13 a14 a15 a16 a17 a18 a19 a20 a21 a22 a23 a24 a25 a26 a27 a28 a29 : Nat → Int32} {F : Nat → Int32} (h : zTs c0 c1 c2 c3 c4 c5 c6 c7 c8 a0 a1 a2 a3 a4 a5 a6 a7 a8 a9 a10 a11 a12 a13 a14 a15 a16 a17 a18 a19 a20 a21 a22 a23 a24 a25 a26 a27 a28 a29 F) : zAr a13 F 6987 2 6 := h.2.2.2.2.2.2.2.2.2.2.2.2.2.2.2.2.2.2.2.2.2.2.1
theorem zTs_23 {c0 c1 c2 c3 c4 c5 c6 c7 c8 : Int32} {a0 a1 a2 a3 a4 a5 a6 a7 a8 a9 a10 a11 a12 a13 a14 a15 a16 a17 a18 a19 a20 a21 a22 a23 a24 a25 a26 a27 a28 a29 : Nat → Int32} {F : Nat → Int32} (h : zTs c0 c1 c2 c3 c4 c5 c6 c7 c8 a0 a1 a2 a3 a4 a5 a6 a7 a8 a9 a10 a11 a12 a13 a14 a15 a16 a17 a18 a19 a20 a21 a22 a23 a24 a25 a26 a27 a28 a29 F) : zAr a14 F 7026 3 12 := h.2.2.2.2.2.2.2.2.2.2.2.2.2.2.2.2.2.2.2.2.2.2.2.1
theorem zTs_24 {c0 c1 c2 c3 c4 c5 c6 c7 c8 : Int32} {a0 a1 a2 a3 a4 a5 a6 a7 a8 a9 a10 a11 a12 a13 a14 a15 a16 a17 a18 a19 a20 a21 a22 a23 a24 a25 a26 a27 a28 a29 : Nat → Int32} {F : Nat → Int32} (h : zTs c0 c1 c2 c3 c4 c5 c6 c7 c8 a0 a1 a2 a3 a4 a5 a6 a7 a8 a9 a10 a11 a12 a13 a14 a15 a16 a17 a18 a19 a20 a21 a22 a23 a24 a25 a26 a27 a28 a29 F) : zAr a15 F 7027 3 12 := h.2.2.2.2.2.2.2.2.2.2.2.2.2.2.2.2.2.2.2.2.2.2.2.2.1
theorem zTs_25 {c0 c1 c2 c3 c4 c5 c6 c7 c8 : Int32} {a0 a1 a2 a3 a4 a5 a6 a7 a8 a9 a10 a11 a12 a13 a14 a15 a16 a17 a18 a19 a20 a21 a22 a23 a24 a25 a26 a27 a28 a29 : Nat → Int32} {F : Nat → Int32} (h : zTs c0 c1 c2 c3 c4 c5 c6 c7 c8 a0 a1 a2 a3 a4 a5 a6 a7 a8 a9 a10 a11 a12 a13 a14 a15 a16 a17 a18 a19 a20 a21 a22 a23 a24 a25 a26 a27 a28 a29 F) : zAr a16 F 20 17 40 := h.2.2.2.2.2.2.2.2.2.2.2.2.2.2.2.2.2.2.2.2.2.2.2.2.2.1
theorem zTs_26 {c0 c1 c2 c3 c4 c5 c6 c7 c8 : Int32} {a0 a1 a2 a3 a4 a5 a6 a7 a8 a9 a10 a11 a12 a13 a14 a15 a16 a17 a18 a19 a20 a21 a22 a23 a24 a25 a26 a27 a28 a29 : Nat → Int32} {F : Nat → Int32} (h : zTs c0 c1 c2 c3 c4 c5 c6 c7 c8 a0 a1 a2 a3 a4 a5 a6 a7 a8 a9 a10 a11 a12 a13 a14 a15 a16 a17 a18 a19 a20 a21 a22 a23 a24 a25 a26 a27 a28 a29 F) : zAr a17 F 3420 3 120 := h.2.2.2.2.2.2.2.2.2.2.2.2.2.2.2.2.2.2.2.2.2.2.2.2.2.2.1
theorem zTs_27 {c0 c1 c2 c3 c4 c5 c6 c7 c8 : Int32} {a0 a1 a2 a3 a4 a5 a6 a7 a8 a9 a10 a11 a12 a13 a14 a15 a16 a17 a18 a19 a20 a21 a22 a23 a24 a25 a26 a27 a28 a29 : Nat → Int32} {F : Nat → Int32} (h : zTs c0 c1 c2 c3 c4 c5 c6 c7 c8 a0 a1 a2 a3 a4 a5 a6 a7 a8 a9 a10 a11 a12 a13 a14 a15 a16 a17 a18 a19 a20 a21 a22 a23 a24 a25 a26 a27 a28 a29 F) : zAr a18 F 3421 3 120 := h.2.2.2.2.2.2.2.2.2.2.2.2.2.2.2.2.2.2.2.2.2.2.2.2.2.2.2.1
theorem zTs_28 {c0 c1 c2 c3 c4 c5 c6 c7 c8 : Int32} {a0 a1 a2 a3 a4 a5 a6 a7 a8 a9 a10 a11 a12 a13 a14 a15 a16 a17 a18 a19 a20 a21 a22 a23 a24 a25 a26 a27 a28 a29 : Nat → Int32} {F : Nat → Int32} (h : zTs c0 c1 c2 c3 c4 c5 c6 c7 c8 a0 a1 a2 a3 a4 a5 a6 a7 a8 a9 a10 a11 a12 a13 a14 a15 a16 a17 a18 a19 a20 a21 a22 a23 a24 a25 a26 a27 a28 a29 F) : zAr a19 F 3422 3 120 := h.2.2.2.2.2.2.2.2.2.2.2.2.2.2.2.2.2.2.2.2.2.2.2.2.2.2.2.2.1
theorem zTs_29 {c0 c1 c2 c3 c4 c5 c6 c7 c8 : Int32} {a0 a1 a2 a3 a4 a5 a6 a7 a8 a9 a10 a11 a12 a13 a14 a15 a16 a17 a18 a19 a20 a21 a22 a23 a24 a25 a26 a27 a28 a29 : Nat → Int32} {F : Nat → Int32} (h : zTs c0 c1 c2 c3 c4 c5 c6 c7 c8 a0 a1 a2 a3 a4 a5 a6 a7 a8 a9 a10 a11 a12 a13 a14 a15 a16 a17 a18 a19 a20 a21 a22 a23 a24 a25 a26 a27 a28 a29 F) : zAr a20 F 6998 3 9 := h.2.2.2.2.2.2.2.2.2.2.2.2.2.2.2.2.2.2.2.2.2.2.2.2.2.2.2.2.2.1
theorem zTs_30 {c0 c1 c2 c3 c4 c5 c6 c7 c8 : Int32} {a0 a1 a2 a3 a4 a5 a6 a7 a8 a9 a10 a11 a12 a13 a14 a15 a16 a17 a18 a19 a20 a21 a22 a23 a24 a25 a26 a27 a28 a29 : Nat → Int32} {F : Nat → Int32} (h : zTs c0 c1 c2 c3 c4 c5 c6 c7 c8 a0 a1 a2 a3 a4 a5 a6 a7 a8 a9 a10 a11 a12 a13 a14 a15 a16 a17 a18 a19 a20 a21 a22 a23 a24 a25 a26 a27 a28 a29 F) : zAr a21 F 6999 3 9 := h.2.2.2.2.2.2.2.2.2.2.2.2.2.2.2.2.2.2.2.2.2.2.2.2.2.2.2.2.2.2.1
theorem zTs_31 {c0 c1 c2 c3 c4 c5 c6 c7 c8 : Int32} {a0 a1 a2 a3 a4 a5 a6 a7 a8 a9 a10 a11 a12 a13 a14 a15 a16 a17 a18 a19 a20 a21 a22 a23 a24 a25 a26 a27 a28 a29 : Nat → Int32} {F : Nat → Int32} (h : zTs c0 c1 c2 c3 c4 c5 c6 c7 c8 a0 a1 a2 a3 a4 a5 a6 a7 a8 a9 a10 a11 a12 a13 a14 a15 a16 a17 a18 a19 a20 a21 a22 a23 a24 a25 a26 a27 a28 a29 F) : zAr a22 F 7000 3 9 := h.2.2.2.2.2.2.2.2.2.2.2.2.2.2.2.2.2.2.2.2.2.2.2.2.2.2.2.2.2.2.2.1
theorem zTs_32 {c0 c1 c2 c3 c4 c5 c6 c7 c8 : Int32} {a0 a1 a2 a3 a4 a5 a6 a7 a8 a9 a10 a11 a12 a13 a14 a15 a16 a17 a18 a19 a20 a21 a22 a23 a24 a25 a26 a27 a28 a29 : Nat → Int32} {F : Nat → Int32} (h : zTs c0 c1 c2 c3 c4 c5 c6 c7 c8 a0 a1 a2 a3 a4 a5 a6 a7 a8 a9 a10 a11 a12 a13 a14 a15 a16 a17 a18 a19 a20 a21 a22 a23 a24 a25 a26 a27 a28 a29 F) : zAr a23 F 23 17 40 := h.2.2.2.2.2.2.2.2.2.2.2.2.2.2.2.2.2.2.2.2.2.2.2.2.2.2.2.2.2.2.2.2.1
theorem zTs_33 {c0 c1 c2 c3 c4 c5 c6 c7 c8 : Int32} {a0 a1 a2 a3 a4 a5 a6 a7 a8 a9 a10 a11 a12 a13 a14 a15 a16 a17 a18 a19 a20 a21 a22 a23 a24 a25 a26 a27 a28 a29 : Nat → Int32} {F : Nat → Int32} (h : zTs c0 c1 c2 c3 c4 c5 c6 c7 c8 a0 a1 a2 a3 a4 a5 a6 a7 a8 a9 a10 a11 a12 a13 a14 a15 a16 a17 a18 a19 a20 a21 a22 a23 a24 a25 a26 a27 a28 a29 F) : zAr a24 F 24 17 40 := h.2.2.2.2.2.2.2.2.2.2.2.2.2.2.2.2.2.2.2.2.2.2.2.2.2.2.2.2.2.2.2.2.2.1
theorem zTs_34 {c0 c1 c2 c3 c4 c5 c6 c7 c8 : Int32} {a0 a1 a2 a3 a4 a5 a6 a7 a8 a9 a10 a11 a12 a13 a14 a15 a16 a17 a18 a19 a20 a21 a22 a23 a24 a25 a26 a27 a28 a29 : Nat → Int32} {F : Nat → Int32} (h : zTs c0 c1 c2 c3 c4 c5 c6 c7 c8 a0 a1 a2 a3 a4 a5 a6 a7 a8 a9 a10 a11 a12 a13 a14 a15 a16 a17 a18 a19 a20 a21 a22 a23 a24 a25 a26 a27 a28 a29 F) : zSh a25 F := h.2.2.2.2.2.2.2.2.2.2.2.2.2.2.2.2.2.2.2.2.2.2.2.2.2.2.2.2.2.2.2.2.2.2.1
theorem zTs_35 {c0 c1 c2 c3 c4 c5 c6 c7 c8 : Int32} {a0 a1 a2 a3 a4 a5 a6 a7 a8 a9 a10 a11 a12 a13 a14 a15 a16 a17 a18 a19 a20 a21 a22 a23 a24 a25 a26 a27 a28 a29 : Nat → Int32} {F : Nat → Int32} (h : zTs c0 c1 c2 c3 c4 c5 c6 c7 c8 a0 a1 a2 a3 a4 a5 a6 a7 a8 a9 a10 a11 a12 a13 a14 a15 a16 a17 a18 a19 a20 a21 a22 a23 a24 a25 a26 a27 a28 a29 F) : zGo a26 F := h.2.2.2.2.2.2.2.2.2.2.2.2.2.2.2.2.2.2.2.2.2.2.2.2.2.2.2.2.2.2.2.2.2.2.2.1
theorem zTs_36 {c0 c1 c2 c3 c4 c5 c6 c7 c8 : Int32} {a0 a1 a2 a3 a4 a5 a6 a7 a8 a9 a10 a11 a12 a13 a14 a15 a16 a17 a18 a19 a20 a21 a22 a23 a24 a25 a26 a27 a28 a29 : Nat → Int32} {F : Nat → Int32} (h : zTs c0 c1 c2 c3 c4 c5 c6 c7 c8 a0 a1 a2 a3 a4 a5 a6 a7 a8 a9 a10 a11 a12 a13 a14 a15 a16 a17 a18 a19 a20 a21 a22 a23 a24 a25 a26 a27 a28 a29 F) : zNu a27 a28 F := h.2.2.2.2.2.2.2.2.2.2.2.2.2.2.2.2.2.2.2.2.2.2.2.2.2.2.2.2.2.2.2.2.2.2.2.2.1
theorem zTs_37 {c0 c1 c2 c3 c4 c5 c6 c7 c8 : Int32} {a0 a1 a2 a3 a4 a5 a6 a7 a8 a9 a10 a11 a12 a13 a14 a15 a16 a17 a18 a19 a20 a21 a22 a23 a24 a25 a26 a27 a28 a29 : Nat → Int32} {F : Nat → Int32} (h : zTs c0 c1 c2 c3 c4 c5 c6 c7 c8 a0 a1 a2 a3 a4 a5 a6 a7 a8 a9 a10 a11 a12 a13 a14 a15 a16 a17 a18 a19 a20 a21 a22 a23 a24 a25 a26 a27 a28 a29 F) : zGr a29 F := h.2.2.2.2.2.2.2.2.2.2.2.2.2.2.2.2.2.2.2.2.2.2.2.2.2.2.2.2.2.2.2.2.2.2.2.2.2.1
theorem zTs_38 {c0 c1 c2 c3 c4 c5 c6 c7 c8 : Int32} {a0 a1 a2 a3 a4 a5 a6 a7 a8 a9 a10 a11 a12 a13 a14 a15 a16 a17 a18 a19 a20 a21 a22 a23 a24 a25 a26 a27 a28 a29 : Nat → Int32} {F : Nat → Int32} (h : zTs c0 c1 c2 c3 c4 c5 c6 c7 c8 a0 a1 a2 a3 a4 a5 a6 a7 a8 a9 a10 a11 a12 a13 a14 a15 a16 a17 a18 a19 a20 a21 a22 a23 a24 a25 a26 a27 a28 a29 F) : zOr a5 a6 a7 a26 c2 := h.2.2.2.2.2.2.2.2.2.2.2.2.2.2.2.2.2.2.2.2.2.2.2.2.2.2.2.2.2.2.2.2.2.2.2.2.2.2.1
theorem zTs_39 {c0 c1 c2 c3 c4 c5 c6 c7 c8 : Int32} {a0 a1 a2 a3 a4 a5 a6 a7 a8 a9 a10 a11 a12 a13 a14 a15 a16 a17 a18 a19 a20 a21 a22 a23 a24 a25 a26 a27 a28 a29 : Nat → Int32} {F : Nat → Int32} (h : zTs c0 c1 c2 c3 c4 c5 c6 c7 c8 a0 a1 a2 a3 a4 a5 a6 a7 a8 a9 a10 a11 a12 a13 a14 a15 a16 a17 a18 a19 a20 a21 a22 a23 a24 a25 a26 a27 a28 a29 F) : zSc a6 c2 c1 := h.2.2.2.2.2.2.2.2.2.2.2.2.2.2.2.2.2.2.2.2.2.2.2.2.2.2.2.2.2.2.2.2.2.2.2.2.2.2.2.1
theorem zTs_40 {c0 c1 c2 c3 c4 c5 c6 c7 c8 : Int32} {a0 a1 a2 a3 a4 a5 a6 a7 a8 a9 a10 a11 a12 a13 a14 a15 a16 a17 a18 a19 a20 a21 a22 a23 a24 a25 a26 a27 a28 a29 : Nat → Int32} {F : Nat → Int32} (h : zTs c0 c1 c2 c3 c4 c5 c6 c7 c8 a0 a1 a2 a3 a4 a5 a6 a7 a8 a9 a10 a11 a12 a13 a14 a15 a16 a17 a18 a19 a20 a21 a22 a23 a24 a25 a26 a27 a28 a29 F) : zVm a21 c6 := h.2.2.2.2.2.2.2.2.2.2.2.2.2.2.2.2.2.2.2.2.2.2.2.2.2.2.2.2.2.2.2.2.2.2.2.2.2.2.2.2
theorem zTs_mk {c0 c1 c2 c3 c4 c5 c6 c7 c8 : Int32} {a0 a1 a2 a3 a4 a5 a6 a7 a8 a9 a10 a11 a12 a13 a14 a15 a16 a17 a18 a19 a20 a21 a22 a23 a24 a25 a26 a27 a28 a29 : Nat → Int32} {F : Nat → Int32} (h0 : c0 = F 0) (h1 : c1 = F 1) (h2 : c2 = F 2) (h3 : c3 = F 3) (h4 : c4 = F 5) (h5 : c5 = F 6) (h6 : c6 = F 7) (h7 : c7 = F 8) (h8 : c8 = F 9) (h9 : zAr a0 F 3300 2 60) (h10 : zAr a1 F 3301 2 60) (h11 : zAr a2 F 10 1 2) (h12 : zAr a3 F 6986 2 6) (h13 : zAr a4 F 7025 3 12) (h14 : zAr a5 F 2700 5 120) (h15 : zAr a6 F 2701 5 120) (h16 : zAr a7 F 2702 5 120) (h17 : zAr a8 F 2704 5 120) (h18 : zAr a9 F 3780 8 400) (h19 : zAr a10 F 3781 8 400) (h20 : zAr a11 F 3782 8 400) (h21 : zAr a12 F 6980 1 6) (h22 : zAr a13 F 6987 2 6) (h23 : zAr a14 F 7026 3 12) (h24 : zAr a15 F 7027 3 12) (h25 : zAr a16 F 20 17 40) (h26 : zAr a17 F 3420 3 120) (h27 : zAr a18 F 3421 3 120) (h28 : zAr a19 F 3422 3 120) (h29 : zAr a20 F 6998 3 9) (h30 : zAr a21 F 6999 3 9) (h31 : zAr a22 F 7000 3 9) (h32 : zAr a23 F 23 17 40) (h33 : zAr a24 F 24 17 40) (h34 : zSh a25 F) (h35 : zGo a26 F) (h36 : zNu a27 a28 F) (h37 : zGr a29 F) (h38 : zOr a5 a6 a7 a26 c2) (h39 : zSc a6 c2 c1) (h40 : zVm a21 c6) : zTs c0 c1 c2 c3 c4 c5 c6 c7 c8 a0 a1 a2 a3 a4 a5 a6 a7 a8 a9 a10 a11 a12 a13 a14 a15 a16 a17 a18 a19 a20 a21 a22 a23 a24 a25 a26 a27 a28 a29 F := ⟨h0, h1, h2, h3, h4, h5, h6, h7, h8, h9, h10, h11, h12, h13, h14, h15, h16, h17, h18, h19, h20, h21, h22, h23, h24, h25, h26, h27, h28, h29, h30, h31, h32, h33, h34, h35, h36, h37, h38, h39, h40⟩
def zTd (j : Nat) : Prop := j = 0 ∨ j = 1 ∨ j = 2 ∨ j = 3 ∨ j = 5 ∨ j = 6 ∨ j = 7 ∨ j = 8 ∨ j = 9 ∨ (10 ≤ j ∧ j < 12) ∨ (700 ≤ j ∧ j < 3420) ∨ (3780 ≤ j ∧ j < 6980) ∨ (6986 ≤ j ∧ j < 6998) ∨ (7025 ≤ j ∧ j < 7061) ∨ (6980 ≤ j ∧ j < 6986) ∨ (6998 ≤ j ∧ j < 7025) ∨ (3420 ≤ j ∧ j < 3780) ∨ (20 ≤ j ∧ j < 700 ∧ (j - 20) % 17 = 0) ∨ (20 ≤ j ∧ j < 700 ∧ (j - 20) % 17 = 3) ∨ (20 ≤ j ∧ j < 700 ∧ (j - 20) % 17 = 4)
theorem zTd_o {j : Nat} (h : zTd j) : j = 0 ∨ j = 1 ∨ j = 2 ∨ j = 3 ∨ j = 5 ∨ j = 6 ∨ j = 7 ∨ j = 8 ∨ j = 9 ∨ (10 ≤ j ∧ j < 12) ∨ (700 ≤ j ∧ j < 3420) ∨ (3780 ≤ j ∧ j < 6980) ∨ (6986 ≤ j ∧ j < 6998) ∨ (7025 ≤ j ∧ j < 7061) ∨ (6980 ≤ j ∧ j < 6986) ∨ (6998 ≤ j ∧ j < 7025) ∨ (3420 ≤ j ∧ j < 3780) ∨ (20 ≤ j ∧ j < 700 ∧ (j - 20) % 17 = 0) ∨ (20 ≤ j ∧ j < 700 ∧ (j - 20) % 17 = 3) ∨ (20 ≤ j ∧ j < 700 ∧ (j - 20) % 17 = 4) := h
theorem zTs_g {c0 c1 c2 c3 c4 c5 c6 c7 c8 : Int32} {a0 a1 a2 a3 a4 a5 a6 a7 a8 a9 a10 a11 a12 a13 a14 a15 a16 a17 a18 a19 a20 a21 a22 a23 a24 a25 a26 a27 a28 a29 : Nat → Int32} {F G : Nat → Int32} (h : zTs c0 c1 c2 c3 c4 c5 c6 c7 c8 a0 a1 a2 a3 a4 a5 a6 a7 a8 a9 a10 a11 a12 a13 a14 a15 a16 a17 a18 a19 a20 a21 a22 a23 a24 a25 a26 a27 a28 a29 F) (e : ∀ j : Nat, zTd j → G j = F j) : zTs c0 c1 c2 c3 c4 c5 c6 c7 c8 a0 a1 a2 a3 a4 a5 a6 a7 a8 a9 a10 a11 a12 a13 a14 a15 a16 a17 a18 a19 a20 a21 a22 a23 a24 a25 a26 a27 a28 a29 G := zTs_mk ((zTs_0 h).trans (e 0 (show zTd 0 by unfold zTd; omega)).symm) ((zTs_1 h).trans (e 1 (show zTd 1 by unfold zTd; omega)).symm) ((zTs_2 h).trans (e 2 (show zTd 2 by unfold zTd; omega)).symm) ((zTs_3 h).trans (e 3 (show zTd 3 by unfold zTd; omega)).symm) ((zTs_4 h).trans (e 5 (show zTd 5 by unfold zTd; omega)).symm) ((zTs_5 h).trans (e 6 (show zTd 6 by unfold zTd; omega)).symm) ((zTs_6 h).trans (e 7 (show zTd 7 by unfold zTd; omega)).symm) ((zTs_7 h).trans (e 8 (show zTd 8 by unfold zTd; omega)).symm) ((zTs_8 h).trans (e 9 (show zTd 9 by unfold zTd; omega)).symm) (zAr_g (zTs_9 h) (fun k hk => e _ (show zTd (3300 + 2 * k) by unfold zTd; omega))) (zAr_g (zTs_10 h) (fun k hk => e _ (show zTd (3301 + 2 * k) by unfold zTd; omega))) (zAr_g (zTs_11 h) (fun k hk => e _ (show zTd (10 + 1 * k) by unfold zTd; omega))) (zAr_g (zTs_12 h) (fun k hk => e _ (show zTd (6986 + 2 * k) by unfold zTd; omega))) (zAr_g (zTs_13 h) (fun k hk => e _ (show zTd (7025 + 3 * k) by unfold zTd; omega))) (zAr_g (zTs_14 h) (fun k hk => e _ (show zTd (2700 + 5 * k) by unfold zTd; omega))) (zAr_g (zTs_15 h) (fun k hk => e _ (show zTd (2701 + 5 * k) by unfold zTd; omega))) (zAr_g (zTs_16 h) (fun k hk => e _ (show zTd (2702 + 5 * k) by unfold zTd; omega))) (zAr_g (zTs_17 h) (fun k hk => e _ (show zTd (2704 + 5 * k) by unfold zTd; omega))) (zAr_g (zTs_18 h) (fun k hk => e _ (show zTd (3780 + 8 * k) by unfold zTd; omega))) (zAr_g (zTs_19 h) (fun k hk => e _ (show zTd (3781 + 8 * k) by unfold zTd; omega))) (zAr_g (zTs_20 h) (fun k hk => e _ (show zTd (3782 + 8 * k) by unfold zTd; omega))) (zAr_g (zTs_21 h) (fun k hk => e _ (show zTd (6980 + 1 * k) by unfold zTd; omega))) (zAr_g (zTs_22 h) (fun k hk => e _ (show zTd (6987 + 2 * k) by unfold zTd; omega))) (zAr_g (zTs_23 h) (fun k hk => e _ (show zTd (7026 + 3 * k) by unfold zTd; omega))) (zAr_g (zTs_24 h) (fun k hk => e _ (show zTd (7027 + 3 * k) by unfold zTd; omega))) (zAr_g (zTs_25 h) (fun k hk => e _ (show zTd (20 + 17 * k) by unfold zTd; omega))) (zAr_g (zTs_26 h) (fun k hk => e _ (show zTd (3420 + 3 * k) by unfold zTd; omega))) (zAr_g (zTs_27 h) (fun k hk => e _ (show zTd (3421 + 3 * k) by unfold zTd; omega))) (zAr_g (zTs_28 h) (fun k hk => e _ (show zTd (3422 + 3 * k) by unfold zTd; omega))) (zAr_g (zTs_29 h) (fun k hk => e _ (show zTd (6998 + 3 * k) by unfold zTd; omega))) (zAr_g (zTs_30 h) (fun k hk => e _ (show zTd (6999 + 3 * k) by unfold zTd; omega))) (zAr_g (zTs_31 h) (fun k hk => e _ (show zTd (7000 + 3 * k) by unfold zTd; omega))) (zAr_g (zTs_32 h) (fun k hk => e _ (show zTd (23 + 17 * k) by unfold zTd; omega))) (zAr_g (zTs_33 h) (fun k hk => e _ (show zTd (24 + 17 * k) by unfold zTd; omega))) (zSh_g (zTs_34 h) (fun j h1 h2 => e _ (show zTd j by unfold zTd; omega))) (zGo_g (zTs_35 h) (fun k hk => e _ (show zTd (2703 + 5 * k) by unfold zTd; omega))) (zNu_g (zTs_36 h) (fun k hk => e _ (show zTd (3783 + 8 * k) by unfold zTd; omega))) (zGr_g (zTs_37 h) (fun k hk => e _ (show zTd (3785 + 8 * k) by unfold zTd; omega))) (zTs_38 h) (zTs_39 h) (zTs_40 h)
theorem zTs_all {c0 c1 c2 c3 c4 c5 c6 c7 c8 : Int32} {a0 a1 a2 a3 a4 a5 a6 a7 a8 a9 a10 a11 a12 a13 a14 a15 a16 a17 a18 a19 a20 a21 a22 a23 a24 a25 a26 a27 a28 a29 : Nat → Int32} {F G : Nat → Int32} (h : zTs c0 c1 c2 c3 c4 c5 c6 c7 c8 a0 a1 a2 a3 a4 a5 a6 a7 a8 a9 a10 a11 a12 a13 a14 a15 a16 a17 a18 a19 a20 a21 a22 a23 a24 a25 a26 a27 a28 a29 F) (e : ∀ j : Nat, j < 8661 → j ≠ 4 → G j = F j) : zTs c0 c1 c2 c3 c4 c5 c6 c7 c8 a0 a1 a2 a3 a4 a5 a6 a7 a8 a9 a10 a11 a12 a13 a14 a15 a16 a17 a18 a19 a20 a21 a22 a23 a24 a25 a26 a27 a28 a29 G := zTs_g h (fun j hj => e j (by have h1 := zTd_o hj; omega) (by have h1 := zTd_o hj; omega))
theorem zTs_0s : zTs 0 0 0 0 0 0 0 0 0 (fun _ => 0) (fun _ => 0) (fun _ => 0) (fun _ => 0) (fun _ => 0) (fun _ => 0) (fun _ => 0) (fun _ => 0) (fun _ => 0) (fun _ => 0) (fun _ => 0) (fun _ => 0) (fun _ => 0) (fun _ => 0) (fun _ => 0) (fun _ => 0) (fun _ => 0) (fun _ => 0) (fun _ => 0) (fun _ => 0) (fun _ => 0) (fun _ => 0) (fun _ => 0) (fun _ => 0) (fun _ => 0) (fun _ => 0) (fun _ => 0) (fun _ => 0) (fun _ => 0) (fun _ => 0) (fun _ => 0) := zTs_mk rfl rfl rfl rfl rfl rfl rfl rfl rfl (fun _ _ => rfl) (fun _ _ => rfl) (fun _ _ => rfl) (fun _ _ => rfl) (fun _ _ => rfl) (fun _ _ => rfl) (fun _ _ => rfl) (fun _ _ => rfl) (fun _ _ => rfl) (fun _ _ => rfl) (fun _ _ => rfl) (fun _ _ => rfl) (fun _ _ => rfl) (fun _ _ => rfl) (fun _ _ => rfl) (fun _ _ => rfl) (fun _ _ => rfl) (fun _ _ => rfl) (fun _ _ => rfl) (fun _ _ => rfl) (fun _ _ => rfl) (fun _ _ => rfl) (fun _ _ => rfl) (fun _ _ => rfl) (fun _ _ => rfl) zSh_0 (fun _ _ => Or.inr ⟨show (0 : Int) ≤ Int32.toInt (0 : Int32) by decide, show Int32.toInt (0 : Int32) < 400 by decide, rfl⟩) (fun _ _ => show ((26 : Int32) * 0) + 0 = 0 by decide) (fun _ _ => ⟨fun h => h, fun h => h⟩) ⟨fun i j _ hj => absurd hj (Nat.not_lt_zero j), fun i hi => absurd hi (Nat.not_lt_zero i)⟩ (fun k hk => absurd hk (Nat.not_lt_zero k)) (fun k hk => absurd hk (Nat.not_lt_zero k))
theorem eq_failed {c0 c1 c2 c3 c4 c5 c6 c7 c8 : Int32} {a0 a1 a2 a3 a4 a5 a6 a7 a8 a9 a10 a11 a12 a13 a14 a15 a16 a17 a18 a19 a20 a21 a22 a23 a24 a25 a26 a27 a28 a29 : Nat → Int32} {F : Nat → Int32} {r q : Int32} (h : zTs c0 c1 c2 c3 c4 c5 c6 c7 c8 a0 a1 a2 a3 a4 a5 a6 a7 a8 a9 a10 a11 a12 a13 a14 a15 a16 a17 a18 a19 a20 a21 a22 a23 a24 a25 a26 a27 a28 a29 F) (hb : Int32.toInt c8 ≤ 60) : Int32.toInt (zQ (mBus F r q)) = Int32.toInt (zQ (sBus a0 a1 c8 r q)) := by
  have e0 : F (Int32.toNatClampNeg 9) = c8 := by rw [zcl9]; exact (zTs_8 h).symm
  refine congrArg Int32.toInt (zQ_c ⟨fun h1 => ?_, fun h1 => ?_⟩)
  · obtain ⟨j, h2, h3, h4⟩ := h1
    rw [e0] at h2
    have h5 := zN_i h2
    have h6 := zTs_9 h j (by omega)
    have h7 := zTs_10 h j (by omega)
    exact ⟨j, h2, h6.trans h3, h7.trans h4⟩
  · obtain ⟨j, h2, h3, h4⟩ := h1
    have h5 := zN_i h2
    have h6 := zTs_9 h j (by omega)
    have h7 := zTs_10 h j (by omega)
    exact ⟨j, by rw [e0]; exact h2, h6.symm.trans h3, h7.symm.trans h4⟩
theorem eq_missing {c0 c1 c2 c3 c4 c5 c6 c7 c8 : Int32} {a0 a1 a2 a3 a4 a5 a6 a7 a8 a9 a10 a11 a12 a13 a14 a15 a16 a17 a18 a19 a20 a21 a22 a23 a24 a25 a26 a27 a28 a29 : Nat → Int32} {F : Nat → Int32} {r : Int32} (h : zTs c0 c1 c2 c3 c4 c5 c6 c7 c8 a0 a1 a2 a3 a4 a5 a6 a7 a8 a9 a10 a11 a12 a13 a14 a15 a16 a17 a18 a19 a20 a21 a22 a23 a24 a25 a26 a27 a28 a29 F) (hb : Int32.toInt c5 ≤ 6) : Int32.toInt (zQ (mMis F r)) = Int32.toInt (zQ (sAm a3 c5 6 r)) := by
  have e0 : F (Int32.toNatClampNeg 6) = c5 := by rw [zcl6]; exact (zTs_5 h).symm
  refine congrArg Int32.toInt (zQ_c ⟨fun h1 => ?_, fun h1 => ?_⟩)
  · obtain ⟨j, h2, h3⟩ := h1
    rw [e0] at h2
    have h5 := zN_i h2
    have h6 := zTs_12 h j (by omega)
    exact ⟨j, h2, by omega, h6.trans h3⟩
  · obtain ⟨j, h2, h4, h3⟩ := h1
    have h6 := zTs_12 h j (by omega)
    exact ⟨j, by rw [e0]; exact h2, h6.symm.trans h3⟩
theorem eq_draw {c0 c1 c2 c3 c4 c5 c6 c7 c8 : Int32} {a0 a1 a2 a3 a4 a5 a6 a7 a8 a9 a10 a11 a12 a13 a14 a15 a16 a17 a18 a19 a20 a21 a22 a23 a24 a25 a26 a27 a28 a29 : Nat → Int32} {F : Nat → Int32} {r : Int32} (h : zTs c0 c1 c2 c3 c4 c5 c6 c7 c8 a0 a1 a2 a3 a4 a5 a6 a7 a8 a9 a10 a11 a12 a13 a14 a15 a16 a17 a18 a19 a20 a21 a22 a23 a24 a25 a26 a27 a28 a29 F) (hb : Int32.toInt c7 ≤ 12) : Int32.toInt (zQ (mDrw F r)) = Int32.toInt (zQ (sAm a4 c7 12 r)) := by
  have e0 : F (Int32.toNatClampNeg 8) = c7 := by rw [zcl8]; exact (zTs_7 h).symm
  refine congrArg Int32.toInt (zQ_c ⟨fun h1 => ?_, fun h1 => ?_⟩)
  · obtain ⟨j, h2, h3⟩ := h1
    rw [e0] at h2
    have h5 := zN_i h2
    have h6 := zTs_13 h j (by omega)
    exact ⟨j, h2, by omega, h6.trans h3⟩
  · obtain ⟨j, h2, h4, h3⟩ := h1
    have h6 := zTs_13 h j (by omega)
    exact ⟨j, by rw [e0]; exact h2, h6.symm.trans h3⟩
theorem eq_has {c0 c1 c2 c3 c4 c5 c6 c7 c8 : Int32} {a0 a1 a2 a3 a4 a5 a6 a7 a8 a9 a10 a11 a12 a13 a14 a15 a16 a17 a18 a19 a20 a21 a22 a23 a24 a25 a26 a27 a28 a29 : Nat → Int32} {F : Nat → Int32} {w : Int32} (h : zTs c0 c1 c2 c3 c4 c5 c6 c7 c8 a0 a1 a2 a3 a4 a5 a6 a7 a8 a9 a10 a11 a12 a13 a14 a15 a16 a17 a18 a19 a20 a21 a22 a23 a24 a25 a26 a27 a28 a29 F) (hw : 0 ≤ Int32.toInt w ∧ Int32.toInt w ≤ 1) : Int32.toInt (F (10 + Int32.toNatClampNeg w)) = Int32.toInt (a2 (Int32.toNatClampNeg w)) := by
  have q1 := z_cl hw.1
  have h1 := zTs_11 h (Int32.toNatClampNeg w) (by omega)
  rw [Nat.one_mul] at h1
  rw [h1]
theorem eq_lat {c0 c1 c2 c3 c4 c5 c6 c7 c8 : Int32} {a0 a1 a2 a3 a4 a5 a6 a7 a8 a9 a10 a11 a12 a13 a14 a15 a16 a17 a18 a19 a20 a21 a22 a23 a24 a25 a26 a27 a28 a29 : Nat → Int32} {F : Nat → Int32} {c s : Int32} (h : zTs c0 c1 c2 c3 c4 c5 c6 c7 c8 a0 a1 a2 a3 a4 a5 a6 a7 a8 a9 a10 a11 a12 a13 a14 a15 a16 a17 a18 a19 a20 a21 a22 a23 a24 a25 a26 a27 a28 a29 F) (hb : Int32.toInt c2 ≤ 120) : Int32.toInt (mLat F c s) = Int32.toInt (cLat a5 a6 c2 c s) := by
  have e0 : F (Int32.toNatClampNeg 2) = c2 := by rw [zcl2]; exact (zTs_2 h).symm
  unfold mLat cLat
  rw [e0]
  refine congrArg Int32.toInt (zLast_c _ (fun j hj => ?_))
  have h5 := zN_i hj
  have h6 := zTs_14 h j (by omega)
  have h7 := zTs_15 h j (by omega)
  show (Int32.toInt (F (2700 + 5 * j)) = Int32.toInt c ∧ Int32.toInt (F (2701 + 5 * j)) = Int32.toInt s) ↔ (Int32.toInt (a5 j) = Int32.toInt c ∧ Int32.toInt (a6 j) = Int32.toInt s)
  rw [h6, h7]
theorem eq_first {c0 c1 c2 c3 c4 c5 c6 c7 c8 : Int32} {a0 a1 a2 a3 a4 a5 a6 a7 a8 a9 a10 a11 a12 a13 a14 a15 a16 a17 a18 a19 a20 a21 a22 a23 a24 a25 a26 a27 a28 a29 : Nat → Int32} {F : Nat → Int32} {i : Nat} (h : zTs c0 c1 c2 c3 c4 c5 c6 c7 c8 a0 a1 a2 a3 a4 a5 a6 a7 a8 a9 a10 a11 a12 a13 a14 a15 a16 a17 a18 a19 a20 a21 a22 a23 a24 a25 a26 a27 a28 a29 F) (hi : i < 120) : Int32.toInt (F (2702 + 5 * i)) = Int32.toInt (a7 i) := congrArg Int32.toInt (zTs_16 h i hi).symm
theorem eq_gone {c0 c1 c2 c3 c4 c5 c6 c7 c8 : Int32} {a0 a1 a2 a3 a4 a5 a6 a7 a8 a9 a10 a11 a12 a13 a14 a15 a16 a17 a18 a19 a20 a21 a22 a23 a24 a25 a26 a27 a28 a29 : Nat → Int32} {F : Nat → Int32} {i : Nat} (h : zTs c0 c1 c2 c3 c4 c5 c6 c7 c8 a0 a1 a2 a3 a4 a5 a6 a7 a8 a9 a10 a11 a12 a13 a14 a15 a16 a17 a18 a19 a20 a21 a22 a23 a24 a25 a26 a27 a28 a29 F) (hi : i < 120) : (Int32.toInt (F (2703 + 5 * i)) = -1 ∧ Int32.toInt (a26 i) = 400) ∨ (0 ≤ Int32.toInt (F (2703 + 5 * i)) ∧ Int32.toInt (F (2703 + 5 * i)) < 400 ∧ Int32.toInt (a26 i) = Int32.toInt (F (2703 + 5 * i))) := zTs_35 h i hi
theorem eq_isOn {c0 c1 c2 c3 c4 c5 c6 c7 c8 : Int32} {a0 a1 a2 a3 a4 a5 a6 a7 a8 a9 a10 a11 a12 a13 a14 a15 a16 a17 a18 a19 a20 a21 a22 a23 a24 a25 a26 a27 a28 a29 : Nat → Int32} {F : Nat → Int32} {c s d : Int32} (h : zTs c0 c1 c2 c3 c4 c5 c6 c7 c8 a0 a1 a2 a3 a4 a5 a6 a7 a8 a9 a10 a11 a12 a13 a14 a15 a16 a17 a18 a19 a20 a21 a22 a23 a24 a25 a26 a27 a28 a29 F) (hb : Int32.toInt c2 ≤ 120) (hd : 0 ≤ Int32.toInt d ∧ Int32.toInt d ≤ 399) : Int32.toInt (zQ (mOn F c s d)) = Int32.toInt (zQ (sLis a5 a6 a7 a26 c2 c s d d)) := by
  have e0 : F (Int32.toNatClampNeg 2) = c2 := by rw [zcl2]; exact (zTs_2 h).symm
  refine congrArg Int32.toInt (zQ_c ⟨fun h1 => ?_, fun h1 => ?_⟩)
  · obtain ⟨j, h2, h3, h4, h5, h6⟩ := h1
    rw [e0] at h2
    have q := zN_i h2
    have k1 := zTs_14 h j (by omega)
    have k2 := zTs_15 h j (by omega)
    have k3 := zTs_16 h j (by omega)
    have k4 := zTs_35 h j (by omega)
    rw [← k1] at h3
    rw [← k2] at h4
    rw [← k3] at h5
    exact ⟨j, h2, h3, h4, by omega, by omega, by omega, by omega⟩
  · obtain ⟨j, h2, h3, h4, h5, h6, h7, h8⟩ := h1
    have q := zN_i h2
    have k1 := zTs_14 h j (by omega)
    have k2 := zTs_15 h j (by omega)
    have k3 := zTs_16 h j (by omega)
    have k4 := zTs_35 h j (by omega)
    refine ⟨j, by rw [e0]; exact h2, by rw [← k1]; exact h3, by rw [← k2]; exact h4, by rw [← k3]; exact h6, by omega⟩
theorem eq_comes {c0 c1 c2 c3 c4 c5 c6 c7 c8 : Int32} {a0 a1 a2 a3 a4 a5 a6 a7 a8 a9 a10 a11 a12 a13 a14 a15 a16 a17 a18 a19 a20 a21 a22 a23 a24 a25 a26 a27 a28 a29 : Nat → Int32} {F : Nat → Int32} {c s d : Int32} (h : zTs c0 c1 c2 c3 c4 c5 c6 c7 c8 a0 a1 a2 a3 a4 a5 a6 a7 a8 a9 a10 a11 a12 a13 a14 a15 a16 a17 a18 a19 a20 a21 a22 a23 a24 a25 a26 a27 a28 a29 F) (hn : 0 ≤ Int32.toInt c2 ∧ Int32.toInt c2 ≤ 120) (hd : 0 ≤ Int32.toInt d ∧ Int32.toInt d ≤ 399) : (Int32.toInt (zQ (mCom F c s d)) = 1 ∧ Int32.toInt (cLat a5 a6 c2 c s) ≠ -1 ∧ (Int32.toInt d ≤ Int32.toInt (a7 (Int32.toNatClampNeg (cLat a5 a6 c2 c s))) ∨ Int32.toInt d < Int32.toInt (a26 (Int32.toNatClampNeg (cLat a5 a6 c2 c s))))) ∨ (Int32.toInt (zQ (mCom F c s d)) = 0 ∧ (Int32.toInt (cLat a5 a6 c2 c s) = -1 ∨ (Int32.toInt (a7 (Int32.toNatClampNeg (cLat a5 a6 c2 c s))) < Int32.toInt d ∧ Int32.toInt (a26 (Int32.toNatClampNeg (cLat a5 a6 c2 c s))) ≤ Int32.toInt d))) := by
  have e0 : F (Int32.toNatClampNeg 2) = c2 := by rw [zcl2]; exact (zTs_2 h).symm
  have h0 := z_cl hn.1
  have hp := cLat_p (f := a5) (g := a6) (n := c2) (c := c) (s := s) hn
  have hO := zTs_38 h
  by_cases q : mCom F c s d
  · refine Or.inl ⟨by rw [zQ_t q]; decide, ?_⟩
    obtain ⟨j, h2, h3, h4, h5⟩ := q
    rw [e0] at h2
    have k1 := zTs_14 h j (by omega)
    have k2 := zTs_15 h j (by omega)
    have k3 := zTs_16 h j (by omega)
    have k4 := zTs_35 h j (by omega)
    rw [← k1] at h3
    rw [← k2] at h4
    rw [← k3] at h5
    rcases hp with ⟨_, p2⟩ | ⟨p1, p2, p3, p4⟩
    · exact absurd ⟨h3, h4⟩ (p2 j h2)
    · have p5 := z_cl p1
      refine ⟨by omega, ?_⟩
      by_cases z : j = Int32.toNatClampNeg (cLat a5 a6 c2 c s)
      · rw [← z]; omega
      · by_cases z2 : Int32.toNatClampNeg (cLat a5 a6 c2 c s) < j
        · exact absurd ⟨h3, h4⟩ (p4 j z2 h2)
        · have h6 := hO.1 j (Int32.toNatClampNeg (cLat a5 a6 c2 c s)) (by omega) (by omega) (h3.trans p3.1.symm) (h4.trans p3.2.symm)
          have h7 := hO.2 (Int32.toNatClampNeg (cLat a5 a6 c2 c s)) (by omega)
          omega
  · refine Or.inr ⟨by rw [zQ_f q]; decide, ?_⟩
    rcases hp with ⟨p1, _⟩ | ⟨p1, p2, p3, p4⟩
    · exact Or.inl p1
    · have p5 := z_cl p1
      refine Or.inr ?_
      have k1 := zTs_14 h (Int32.toNatClampNeg (cLat a5 a6 c2 c s)) (by omega)
      have k2 := zTs_15 h (Int32.toNatClampNeg (cLat a5 a6 c2 c s)) (by omega)
      have k3 := zTs_16 h (Int32.toNatClampNeg (cLat a5 a6 c2 c s)) (by omega)
      have k4 := zTs_35 h (Int32.toNatClampNeg (cLat a5 a6 c2 c s)) (by omega)
      have q2 : ¬ ((Int32.toInt (a7 (Int32.toNatClampNeg (cLat a5 a6 c2 c s))) ≤ Int32.toInt d ∧ (Int32.toInt (F (2703 + 5 * Int32.toNatClampNeg (cLat a5 a6 c2 c s))) = -1 ∨ Int32.toInt d < Int32.toInt (F (2703 + 5 * Int32.toNatClampNeg (cLat a5 a6 c2 c s))))) ∨ Int32.toInt d ≤ Int32.toInt (a7 (Int32.toNatClampNeg (cLat a5 a6 c2 c s)))) := fun z => q ⟨Int32.toNatClampNeg (cLat a5 a6 c2 c s), by rw [e0]; omega, by rw [← k1]; exact p3.1, by rw [← k2]; exact p3.2, by rw [← k3]; exact z⟩
      omega
theorem eq_shut {c0 c1 c2 c3 c4 c5 c6 c7 c8 : Int32} {a0 a1 a2 a3 a4 a5 a6 a7 a8 a9 a10 a11 a12 a13 a14 a15 a16 a17 a18 a19 a20 a21 a22 a23 a24 a25 a26 a27 a28 a29 : Nat → Int32} {F : Nat → Int32} {s : Int32} {i : Nat} (h : zTs c0 c1 c2 c3 c4 c5 c6 c7 c8 a0 a1 a2 a3 a4 a5 a6 a7 a8 a9 a10 a11 a12 a13 a14 a15 a16 a17 a18 a19 a20 a21 a22 a23 a24 a25 a26 a27 a28 a29 F) (hs : 0 ≤ Int32.toInt s ∧ Int32.toInt s < 5) (hi : i < 400) : Int32.toInt (((a25 i) >>> (s &&& 31)) &&& (1 : Int32)) = 1 ↔ Int32.toInt (F (700 + 400 * Int32.toNatClampNeg s + i)) = 1 := zTs_34 h s i hs hi
theorem eq_appeal {c0 c1 c2 c3 c4 c5 c6 c7 c8 : Int32} {a0 a1 a2 a3 a4 a5 a6 a7 a8 a9 a10 a11 a12 a13 a14 a15 a16 a17 a18 a19 a20 a21 a22 a23 a24 a25 a26 a27 a28 a29 : Nat → Int32} {F : Nat → Int32} {i : Nat} (h : zTs c0 c1 c2 c3 c4 c5 c6 c7 c8 a0 a1 a2 a3 a4 a5 a6 a7 a8 a9 a10 a11 a12 a13 a14 a15 a16 a17 a18 a19 a20 a21 a22 a23 a24 a25 a26 a27 a28 a29 F) (hi : i < 400) : Int32.toInt (a29 i) = -1 ↔ Int32.toInt (F (3785 + 8 * i)) = -1 := zTs_37 h i hi
theorem eq_alter {c0 c1 c2 c3 c4 c5 c6 c7 c8 : Int32} {a0 a1 a2 a3 a4 a5 a6 a7 a8 a9 a10 a11 a12 a13 a14 a15 a16 a17 a18 a19 a20 a21 a22 a23 a24 a25 a26 a27 a28 a29 : Nat → Int32} {F : Nat → Int32} {p : Int32} {i : Nat} (h : zTs c0 c1 c2 c3 c4 c5 c6 c7 c8 a0 a1 a2 a3 a4 a5 a6 a7 a8 a9 a10 a11 a12 a13 a14 a15 a16 a17 a18 a19 a20 a21 a22 a23 a24 a25 a26 a27 a28 a29 F) (hi : i < 400) : Int32.toInt ((F (3783 + 8 * i)) ^^^ p) = Int32.toInt ((((26 : Int32) * (a28 i)) + (a27 i)) ^^^ p) := by rw [zTs_36 h i hi]
theorem eq_seal {c0 c1 c2 c3 c4 c5 c6 c7 c8 : Int32} {a0 a1 a2 a3 a4 a5 a6 a7 a8 a9 a10 a11 a12 a13 a14 a15 a16 a17 a18 a19 a20 a21 a22 a23 a24 a25 a26 a27 a28 a29 : Nat → Int32} {F : Nat → Int32} {d : Int32} (h : zTs c0 c1 c2 c3 c4 c5 c6 c7 c8 a0 a1 a2 a3 a4 a5 a6 a7 a8 a9 a10 a11 a12 a13 a14 a15 a16 a17 a18 a19 a20 a21 a22 a23 a24 a25 a26 a27 a28 a29 F) (hb : Int32.toInt c3 ≤ 400) : Int32.toInt (mCnt F d) = Int32.toInt (cCnt a11 c3 d) := by
  have e0 : F (Int32.toNatClampNeg 3) = c3 := by rw [zcl3]; exact (zTs_3 h).symm
  unfold mCnt cCnt
  rw [e0, zCnt_c (P := fun j : Nat => Int32.toInt ((F (3782 + 8 * j)) / (2 : Int32)) = Int32.toInt d) (Q := fun j : Nat => Int32.toInt ((a11 j) / (2 : Int32)) = Int32.toInt d) _ (fun j hj => by
    have h5 := zN_i hj
    have h6 := zTs_20 h j (by omega)
    show Int32.toInt ((F (3782 + 8 * j)) / (2 : Int32)) = Int32.toInt d ↔ Int32.toInt ((a11 j) / (2 : Int32)) = Int32.toInt d
    rw [h6])]
theorem eq_judge {c0 c1 c2 c3 c4 c5 c6 c7 c8 : Int32} {a0 a1 a2 a3 a4 a5 a6 a7 a8 a9 a10 a11 a12 a13 a14 a15 a16 a17 a18 a19 a20 a21 a22 a23 a24 a25 a26 a27 a28 a29 : Nat → Int32} {F : Nat → Int32} {q le : Int32} (h : zTs c0 c1 c2 c3 c4 c5 c6 c7 c8 a0 a1 a2 a3 a4 a5 a6 a7 a8 a9 a10 a11 a12 a13 a14 a15 a16 a17 a18 a19 a20 a21 a22 a23 a24 a25 a26 a27 a28 a29 F) (hb : Int32.toInt c5 ≤ 6 ∧ Int32.toInt c4 ≤ 6) : cJu (zLk (mMM F) (mRM F)) (F (Int32.toNatClampNeg 6)) (F (Int32.toNatClampNeg 5)) q le = cJu (zLk a13 a12) c5 c4 q le := by
  have e0 : F (Int32.toNatClampNeg 6) = c5 := by rw [zcl6]; exact (zTs_5 h).symm
  have e1 : F (Int32.toNatClampNeg 5) = c4 := by rw [zcl5]; exact (zTs_4 h).symm
  rw [e0, e1]
  refine cJu_c (fun i j hi hj => ?_)
  have h1 := zN_i hi
  have h2 := zTs_22 h i (by omega)
  have h3 := zTs_21 h j (by omega)
  rw [Nat.one_mul] at h3
  unfold zLk mMM mRM
  rw [h2, h3]
theorem eq_join {c0 c1 c2 c3 c4 c5 c6 c7 c8 : Int32} {a0 a1 a2 a3 a4 a5 a6 a7 a8 a9 a10 a11 a12 a13 a14 a15 a16 a17 a18 a19 a20 a21 a22 a23 a24 a25 a26 a27 a28 a29 : Nat → Int32} {F : Nat → Int32} {le : Int32} (h : zTs c0 c1 c2 c3 c4 c5 c6 c7 c8 a0 a1 a2 a3 a4 a5 a6 a7 a8 a9 a10 a11 a12 a13 a14 a15 a16 a17 a18 a19 a20 a21 a22 a23 a24 a25 a26 a27 a28 a29 F) (hb : 0 ≤ Int32.toInt c5 ∧ Int32.toInt c5 ≤ 6) (hr : 0 ≤ Int32.toInt c4 ∧ Int32.toInt c4 ≤ 6) : jAm (zLk (mMM F) (mRM F)) (F (Int32.toNatClampNeg 6)) (F (Int32.toNatClampNeg 5)) le = jAc a13 a12 c5 c4 le := by
  have e0 : F (Int32.toNatClampNeg 6) = c5 := by rw [zcl6]; exact (zTs_5 h).symm
  have e1 : F (Int32.toNatClampNeg 5) = c4 := by rw [zcl5]; exact (zTs_4 h).symm
  have c1 := z_cl hb.1
  have c2 := z_cl hr.1
  rw [e0, e1]
  refine jEq hb hr (fun i j hi hj => ?_)
  have h2 := zTs_22 h i (by omega)
  have h3 := zTs_21 h j (by omega)
  rw [Nat.one_mul] at h3
  unfold zLk mMM mRM
  rw [h2, h3]
theorem eq_jl {c0 c1 c2 c3 c4 c5 c6 c7 c8 : Int32} {a0 a1 a2 a3 a4 a5 a6 a7 a8 a9 a10 a11 a12 a13 a14 a15 a16 a17 a18 a19 a20 a21 a22 a23 a24 a25 a26 a27 a28 a29 : Nat → Int32} {F : Nat → Int32} (h : zTs c0 c1 c2 c3 c4 c5 c6 c7 c8 a0 a1 a2 a3 a4 a5 a6 a7 a8 a9 a10 a11 a12 a13 a14 a15 a16 a17 a18 a19 a20 a21 a22 a23 a24 a25 a26 a27 a28 a29 F) (hb : 0 ≤ Int32.toInt c5 ∧ Int32.toInt c5 ≤ 6) (hr : 0 ≤ Int32.toInt c4 ∧ Int32.toInt c4 ≤ 6) : ∀ i r : Nat, i < Int32.toNatClampNeg c5 → r < Int32.toNatClampNeg c4 → zLk (mMM F) (mRM F) i r = zLk a13 a12 i r := by
  have c1 := z_cl hb.1
  have c2 := z_cl hr.1
  intro i j hi hj
  have h2 := zTs_22 h i (by omega)
  have h3 := zTs_21 h j (by omega)
  rw [Nat.one_mul] at h3
  unfold zLk mMM mRM
  rw [h2, h3]
theorem eq_helped {c0 c1 c2 c3 c4 c5 c6 c7 c8 : Int32} {a0 a1 a2 a3 a4 a5 a6 a7 a8 a9 a10 a11 a12 a13 a14 a15 a16 a17 a18 a19 a20 a21 a22 a23 a24 a25 a26 a27 a28 a29 : Nat → Int32} {F : Nat → Int32} {w : Int32} (h : zTs c0 c1 c2 c3 c4 c5 c6 c7 c8 a0 a1 a2 a3 a4 a5 a6 a7 a8 a9 a10 a11 a12 a13 a14 a15 a16 a17 a18 a19 a20 a21 a22 a23 a24 a25 a26 a27 a28 a29 F) (hn : 0 ≤ Int32.toInt c7 ∧ Int32.toInt c7 ≤ 12) (hg : ∀ k : Nat, k < 12 → a14 k = 0 ∨ a14 k = 1) : mHe (mD F) (mG F) (F (Int32.toNatClampNeg 8)) w = cHe a15 a14 c7 w := by
  have e0 : F (Int32.toNatClampNeg 8) = c7 := by rw [zcl8]; exact (zTs_7 h).symm
  rw [e0]
  have c := z_cl hn.1
  exact wHe_c hn hg (fun k hk => (zTs_23 h k (by omega)).symm) (fun k hk => (zTs_24 h k (by omega)).symm)
theorem eq_rolls {c0 c1 c2 c3 c4 c5 c6 c7 c8 : Int32} {a0 a1 a2 a3 a4 a5 a6 a7 a8 a9 a10 a11 a12 a13 a14 a15 a16 a17 a18 a19 a20 a21 a22 a23 a24 a25 a26 a27 a28 a29 : Nat → Int32} {F : Nat → Int32} {d w i : Int32} (h : zTs c0 c1 c2 c3 c4 c5 c6 c7 c8 a0 a1 a2 a3 a4 a5 a6 a7 a8 a9 a10 a11 a12 a13 a14 a15 a16 a17 a18 a19 a20 a21 a22 a23 a24 a25 a26 a27 a28 a29 F) (hm : 0 ≤ Int32.toInt c0 ∧ Int32.toInt c0 ≤ 40) (hn : 0 ≤ Int32.toInt c2 ∧ Int32.toInt c2 ≤ 120) (hS : 0 ≤ Int32.toInt c1 ∧ Int32.toInt c1 ≤ 5) (hs : 0 ≤ Int32.toInt (a2 1) ∧ Int32.toInt (a2 1) ≤ 60) : rAns (rPm F d w) (F (Int32.toNatClampNeg 0)) d w i = rAns (rPc a5 a6 a7 a26 a8 c2 a16 a17 a18 a19 (a2 1) d w) c0 d w i := by
  have e0 : F (Int32.toNatClampNeg 0) = c0 := by rw [zcl0]; exact (zTs_0 h).symm
  have e1 : F (Int32.toNatClampNeg 2) = c2 := by rw [zcl2]; exact (zTs_2 h).symm
  have e2 : F (Int32.toNatClampNeg 1) = c1 := by rw [zcl1]; exact (zTs_1 h).symm
  have e3 : F (Int32.toNatClampNeg 11) = a2 1 := by rw [zcl11]; exact (zTs_11 h 1 (by decide)).symm
  rw [e0]
  refine rAns_c (fun z c hc => ?_)
  have c0 := z_cl hm.1
  unfold rPm rPc
  rw [rSch e1 e2 hn hS (zTs_14 h) (zTs_15 h) (zTs_16 h) (zTs_35 h) (zTs_38 h) (zTs_39 h) ⟨z.1, z.2.1⟩, (zTs_25 h c (by omega)).symm, zQ_c (rLos e1 hn.2 (zTs_14 h) (zTs_15 h) (zTs_16 h) (zTs_35 h) (zTs_17 h) ⟨z.1, z.2.1⟩), zQ_c (rHom e3 hs (zTs_26 h) (zTs_27 h) (zTs_28 h))]
theorem eq_round {c0 c1 c2 c3 c4 c5 c6 c7 c8 : Int32} {a0 a1 a2 a3 a4 a5 a6 a7 a8 a9 a10 a11 a12 a13 a14 a15 a16 a17 a18 a19 a20 a21 a22 a23 a24 a25 a26 a27 a28 a29 : Nat → Int32} {F : Nat → Int32} {x y q w : Int32} (h : zTs c0 c1 c2 c3 c4 c5 c6 c7 c8 a0 a1 a2 a3 a4 a5 a6 a7 a8 a9 a10 a11 a12 a13 a14 a15 a16 a17 a18 a19 a20 a21 a22 a23 a24 a25 a26 a27 a28 a29 F) (hn : 0 ≤ Int32.toInt c6 ∧ Int32.toInt c6 ≤ 9) (rX : zR a23 0 99) (rY : zR a24 0 99) (rC : zR a20 0 39) : rdA (zRb (zMf (fun v : Nat => zMo F v x y) (zMu F) (fun l : Nat => F (6999 + 3 * l)) (Int32.toNatClampNeg (F (Int32.toNatClampNeg 7)))) (fun s : Nat => wS (fun l : Nat => F (7000 + 3 * l)) (Int32.ofNat s) (Int32.toNatClampNeg (F (Int32.toNatClampNeg 7)))) q (zTp (F (Int32.toNatClampNeg 7)))) x y q w = rdA (zRb (zFe (fun j : Nat => zWo a23 a24 a20 j x y) (zWu a23 a24 a20) a21 (Int32.toNatClampNeg c6)) (fun s : Nat => wS a22 (Int32.ofNat s) (Int32.toNatClampNeg c6)) q (zTp c6)) x y q w := by
  have e0 : F (Int32.toNatClampNeg 7) = c6 := by rw [zcl7]; exact (zTs_6 h).symm
  rw [e0]
  exact zRd_e hn rX rY rC (zTs_32 h) (zTs_33 h) (zTs_29 h) (zTs_30 h) (zTs_31 h) (zTs_40 h)
theorem te_record {c0 c1 c2 c3 c4 c5 c6 c7 c8 : Int32} {a0 a1 a2 a3 a4 a5 a6 a7 a8 a9 a10 a11 a12 a13 a14 a15 a16 a17 a18 a19 a20 a21 a22 a23 a24 a25 a26 a27 a28 a29 : Nat → Int32} {F G : Nat → Int32} {d : Int32} {b12 : Nat → Int32} {p0 : Int32} (h : zTs c0 c1 c2 c3 c4 c5 c6 c7 c8 a0 a1 a2 a3 a4 a5 a6 a7 a8 a9 a10 a11 a12 a13 a14 a15 a16 a17 a18 a19 a20 a21 a22 a23 a24 a25 a26 a27 a28 a29 F) (hz : 0 ≤ Int32.toInt c4 ∧ Int32.toInt c4 ≤ 5) (hd : Int32.toInt d = Int32.toInt c4 + 1) (hb12 : b12 = upd a12 (Int32.toNatClampNeg c4) p0) (hG : G = (upd (upd F (6980 + Int32.toNatClampNeg (F (Int32.toNatClampNeg 5))) p0) (5) ((F (Int32.toNatClampNeg 5)) + (1 : Int32)))) : zTs c0 c1 c2 c3 d c5 c6 c7 c8 a0 a1 a2 a3 a4 a5 a6 a7 a8 a9 a10 a11 b12 a13 a14 a15 a16 a17 a18 a19 a20 a21 a22 a23 a24 a25 a26 a27 a28 a29 G := by
  have e0 : (F (Int32.toNatClampNeg 5)) = c4 := by rw [zcl5]; exact (zTs_4 h).symm
  rw [e0] at hG
  have q0 := z_cl (x := c4) hz.1
  obtain ⟨Z, eZ⟩ : ∃ Z : Nat, Z = Int32.toNatClampNeg c4 := ⟨_, rfl⟩
  rw [← eZ] at hG q0 hb12
  have hq : ∀ j : Nat, ¬ ((6980 ≤ j ∧ j < 6986)) → j ≠ 5 → G j = F j := fun j h1 h2 => by rw [hG]; rw [pk_un (show j ≠ 5 by omega)]; rw [pk_un (show j ≠ 6980 + Z by omega)]
  exact zTs_mk ((zTs_0 h).trans (hq 0 (by omega) (by omega)).symm) ((zTs_1 h).trans (hq 1 (by omega) (by omega)).symm) ((zTs_2 h).trans (hq 2 (by omega) (by omega)).symm) ((zTs_3 h).trans (hq 3 (by omega) (by omega)).symm) (show d = G 5 by rw [hG, pk_us]; exact zC_i hd (by omega)) ((zTs_5 h).trans (hq 6 (by omega) (by omega)).symm) ((zTs_6 h).trans (hq 7 (by omega) (by omega)).symm) ((zTs_7 h).trans (hq 8 (by omega) (by omega)).symm) ((zTs_8 h).trans (hq 9 (by omega) (by omega)).symm) (zAr_g (zTs_9 h) (fun k hk => hq _ (by omega) (by omega))) (zAr_g (zTs_10 h) (fun k hk => hq _ (by omega) (by omega))) (zAr_g (zTs_11 h) (fun k hk => hq _ (by omega) (by omega))) (zAr_g (zTs_12 h) (fun k hk => hq _ (by omega) (by omega))) (zAr_g (zTs_13 h) (fun k hk => hq _ (by omega) (by omega))) (zAr_g (zTs_14 h) (fun k hk => hq _ (by omega) (by omega))) (zAr_g (zTs_15 h) (fun k hk => hq _ (by omega) (by omega))) (zAr_g (zTs_16 h) (fun k hk => hq _ (by omega) (by omega))) (zAr_g (zTs_17 h) (fun k hk => hq _ (by omega) (by omega))) (zAr_g (zTs_18 h) (fun k hk => hq _ (by omega) (by omega))) (zAr_g (zTs_19 h) (fun k hk => hq _ (by omega) (by omega))) (zAr_g (zTs_20 h) (fun k hk => hq _ (by omega) (by omega))) (show zAr b12 G 6980 1 6 by rw [hG]; exact (zAr_k (zAr_u (zTs_21 h) hb12 (show 6980 + Z = 6980 + 1 * (Z) by omega) (by decide) rfl) (fun k hk => show 6980 + 1 * k ≠ 5 by omega))) (zAr_g (zTs_22 h) (fun k hk => hq _ (by omega) (by omega))) (zAr_g (zTs_23 h) (fun k hk => hq _ (by omega) (by omega))) (zAr_g (zTs_24 h) (fun k hk => hq _ (by omega) (by omega))) (zAr_g (zTs_25 h) (fun k hk => hq _ (by omega) (by omega))) (zAr_g (zTs_26 h) (fun k hk => hq _ (by omega) (by omega))) (zAr_g (zTs_27 h) (fun k hk => hq _ (by omega) (by omega))) (zAr_g (zTs_28 h) (fun k hk => hq _ (by omega) (by omega))) (zAr_g (zTs_29 h) (fun k hk => hq _ (by omega) (by omega))) (zAr_g (zTs_30 h) (fun k hk => hq _ (by omega) (by omega))) (zAr_g (zTs_31 h) (fun k hk => hq _ (by omega) (by omega))) (zAr_g (zTs_32 h) (fun k hk => hq _ (by omega) (by omega))) (zAr_g (zTs_33 h) (fun k hk => hq _ (by omega) (by omega))) (zSh_g (zTs_34 h) (fun j h1 h2 => hq _ (by omega) (by omega))) (zGo_g (zTs_35 h) (fun k hk => hq _ (by omega) (by omega))) (zNu_g (zTs_36 h) (fun k hk => hq _ (by omega) (by omega))) (zGr_g (zTs_37 h) (fun k hk => hq _ (by omega) (by omega))) (zTs_38 h) (zTs_39 h) (zTs_40 h)
theorem te_missing {c0 c1 c2 c3 c4 c5 c6 c7 c8 : Int32} {a0 a1 a2 a3 a4 a5 a6 a7 a8 a9 a10 a11 a12 a13 a14 a15 a16 a17 a18 a19 a20 a21 a22 a23 a24 a25 a26 a27 a28 a29 : Nat → Int32} {F G : Nat → Int32} {d : Int32} {b3 b13 : Nat → Int32} {p0 p1 : Int32} (h : zTs c0 c1 c2 c3 c4 c5 c6 c7 c8 a0 a1 a2 a3 a4 a5 a6 a7 a8 a9 a10 a11 a12 a13 a14 a15 a16 a17 a18 a19 a20 a21 a22 a23 a24 a25 a26 a27 a28 a29 F) (hz : 0 ≤ Int32.toInt c5 ∧ Int32.toInt c5 ≤ 5) (hd : Int32.toInt d = Int32.toInt c5 + 1) (hb3 : b3 = upd a3 (Int32.toNatClampNeg c5) p0) (hb13 : b13 = upd a13 (Int32.toNatClampNeg c5) p1) (hG : G = (upd (upd (upd F (6986 + 2 * Int32.toNatClampNeg (F (Int32.toNatClampNeg 6))) p0) (6987 + 2 * Int32.toNatClampNeg (F (Int32.toNatClampNeg 6))) p1) (6) ((F (Int32.toNatClampNeg 6)) + (1 : Int32)))) : zTs c0 c1 c2 c3 c4 d c6 c7 c8 a0 a1 a2 b3 a4 a5 a6 a7 a8 a9 a10 a11 a12 b13 a14 a15 a16 a17 a18 a19 a20 a21 a22 a23 a24 a25 a26 a27 a28 a29 G := by
  have e0 : (F (Int32.toNatClampNeg 6)) = c5 := by rw [zcl6]; exact (zTs_5 h).symm
  rw [e0] at hG
  have q0 := z_cl (x := c5) hz.1
  obtain ⟨Z, eZ⟩ : ∃ Z : Nat, Z = Int32.toNatClampNeg c5 := ⟨_, rfl⟩
  rw [← eZ] at hG q0 hb3 hb13
  have hq : ∀ j : Nat, ¬ ((6986 ≤ j ∧ j < 6998)) → j ≠ 6 → G j = F j := fun j h1 h2 => by rw [hG]; rw [pk_un (show j ≠ 6 by omega)]; rw [pk_un (show j ≠ 6987 + 2 * Z by omega)]; rw [pk_un (show j ≠ 6986 + 2 * Z by omega)]
  exact zTs_mk ((zTs_0 h).trans (hq 0 (by omega) (by omega)).symm) ((zTs_1 h).trans (hq 1 (by omega) (by omega)).symm) ((zTs_2 h).trans (hq 2 (by omega) (by omega)).symm) ((zTs_3 h).trans (hq 3 (by omega) (by omega)).symm) ((zTs_4 h).trans (hq 5 (by omega) (by omega)).symm) (show d = G 6 by rw [hG, pk_us]; exact zC_i hd (by omega)) ((zTs_6 h).trans (hq 7 (by omega) (by omega)).symm) ((zTs_7 h).trans (hq 8 (by omega) (by omega)).symm) ((zTs_8 h).trans (hq 9 (by omega) (by omega)).symm) (zAr_g (zTs_9 h) (fun k hk => hq _ (by omega) (by omega))) (zAr_g (zTs_10 h) (fun k hk => hq _ (by omega) (by omega))) (zAr_g (zTs_11 h) (fun k hk => hq _ (by omega) (by omega))) (show zAr b3 G 6986 2 6 by rw [hG]; exact (zAr_k (zAr_k (zAr_u (zTs_12 h) hb3 (show 6986 + 2 * Z = 6986 + 2 * (Z) by omega) (by decide) rfl) (fun k hk => show 6986 + 2 * k ≠ 6987 + 2 * Z by omega)) (fun k hk => show 6986 + 2 * k ≠ 6 by omega))) (zAr_g (zTs_13 h) (fun k hk => hq _ (by omega) (by omega))) (zAr_g (zTs_14 h) (fun k hk => hq _ (by omega) (by omega))) (zAr_g (zTs_15 h) (fun k hk => hq _ (by omega) (by omega))) (zAr_g (zTs_16 h) (fun k hk => hq _ (by omega) (by omega))) (zAr_g (zTs_17 h) (fun k hk => hq _ (by omega) (by omega))) (zAr_g (zTs_18 h) (fun k hk => hq _ (by omega) (by omega))) (zAr_g (zTs_19 h) (fun k hk => hq _ (by omega) (by omega))) (zAr_g (zTs_20 h) (fun k hk => hq _ (by omega) (by omega))) (zAr_g (zTs_21 h) (fun k hk => hq _ (by omega) (by omega))) (show zAr b13 G 6987 2 6 by rw [hG]; exact (zAr_k (zAr_u (zAr_k (zTs_22 h) (fun k hk => show 6987 + 2 * k ≠ 6986 + 2 * Z by omega)) hb13 (show 6987 + 2 * Z = 6987 + 2 * (Z) by omega) (by decide) rfl) (fun k hk => show 6987 + 2 * k ≠ 6 by omega))) (zAr_g (zTs_23 h) (fun k hk => hq _ (by omega) (by omega))) (zAr_g (zTs_24 h) (fun k hk => hq _ (by omega) (by omega))) (zAr_g (zTs_25 h) (fun k hk => hq _ (by omega) (by omega))) (zAr_g (zTs_26 h) (fun k hk => hq _ (by omega) (by omega))) (zAr_g (zTs_27 h) (fun k hk => hq _ (by omega) (by omega))) (zAr_g (zTs_28 h) (fun k hk => hq _ (by omega) (by omega))) (zAr_g (zTs_29 h) (fun k hk => hq _ (by omega) (by omega))) (zAr_g (zTs_30 h) (fun k hk => hq _ (by omega) (by omega))) (zAr_g (zTs_31 h) (fun k hk => hq _ (by omega) (by omega))) (zAr_g (zTs_32 h) (fun k hk => hq _ (by omega) (by omega))) (zAr_g (zTs_33 h) (fun k hk => hq _ (by omega) (by omega))) (zSh_g (zTs_34 h) (fun j h1 h2 => hq _ (by omega) (by omega))) (zGo_g (zTs_35 h) (fun k hk => hq _ (by omega) (by omega))) (zNu_g (zTs_36 h) (fun k hk => hq _ (by omega) (by omega))) (zGr_g (zTs_37 h) (fun k hk => hq _ (by omega) (by omega))) (zTs_38 h) (zTs_39 h) (zTs_40 h)
theorem te_visit {c0 c1 c2 c3 c4 c5 c6 c7 c8 : Int32} {a0 a1 a2 a3 a4 a5 a6 a7 a8 a9 a10 a11 a12 a13 a14 a15 a16 a17 a18 a19 a20 a21 a22 a23 a24 a25 a26 a27 a28 a29 : Nat → Int32} {F G : Nat → Int32} {d : Int32} {b20 b21 b22 : Nat → Int32} {p0 p1 p2 : Int32} (h : zTs c0 c1 c2 c3 c4 c5 c6 c7 c8 a0 a1 a2 a3 a4 a5 a6 a7 a8 a9 a10 a11 a12 a13 a14 a15 a16 a17 a18 a19 a20 a21 a22 a23 a24 a25 a26 a27 a28 a29 F) (hz : 0 ≤ Int32.toInt c6 ∧ Int32.toInt c6 ≤ 8) (hvm : 0 ≤ Int32.toInt p1 ∧ Int32.toInt p1 ≤ 200) (hd : Int32.toInt d = Int32.toInt c6 + 1) (hb20 : b20 = upd a20 (Int32.toNatClampNeg c6) p0) (hb21 : b21 = upd a21 (Int32.toNatClampNeg c6) p1) (hb22 : b22 = upd a22 (Int32.toNatClampNeg c6) p2) (hG : G = (upd (upd (upd (upd F (6998 + 3 * Int32.toNatClampNeg (F (Int32.toNatClampNeg 7))) p0) (6999 + 3 * Int32.toNatClampNeg (F (Int32.toNatClampNeg 7))) p1) (7000 + 3 * Int32.toNatClampNeg (F (Int32.toNatClampNeg 7))) p2) (7) ((F (Int32.toNatClampNeg 7)) + (1 : Int32)))) : zTs c0 c1 c2 c3 c4 c5 d c7 c8 a0 a1 a2 a3 a4 a5 a6 a7 a8 a9 a10 a11 a12 a13 a14 a15 a16 a17 a18 a19 b20 b21 b22 a23 a24 a25 a26 a27 a28 a29 G := by
  have hVm := zVm_c (zTs_40 h) hz.1 hd hb21 hvm
  have e0 : (F (Int32.toNatClampNeg 7)) = c6 := by rw [zcl7]; exact (zTs_6 h).symm
  rw [e0] at hG
  have q0 := z_cl (x := c6) hz.1
  obtain ⟨Z, eZ⟩ : ∃ Z : Nat, Z = Int32.toNatClampNeg c6 := ⟨_, rfl⟩
  rw [← eZ] at hG q0 hb20 hb21 hb22
  have hq : ∀ j : Nat, ¬ ((6998 ≤ j ∧ j < 7025)) → j ≠ 7 → G j = F j := fun j h1 h2 => by rw [hG]; rw [pk_un (show j ≠ 7 by omega)]; rw [pk_un (show j ≠ 7000 + 3 * Z by omega)]; rw [pk_un (show j ≠ 6999 + 3 * Z by omega)]; rw [pk_un (show j ≠ 6998 + 3 * Z by omega)]
  exact zTs_mk ((zTs_0 h).trans (hq 0 (by omega) (by omega)).symm) ((zTs_1 h).trans (hq 1 (by omega) (by omega)).symm) ((zTs_2 h).trans (hq 2 (by omega) (by omega)).symm) ((zTs_3 h).trans (hq 3 (by omega) (by omega)).symm) ((zTs_4 h).trans (hq 5 (by omega) (by omega)).symm) ((zTs_5 h).trans (hq 6 (by omega) (by omega)).symm) (show d = G 7 by rw [hG, pk_us]; exact zC_i hd (by omega)) ((zTs_7 h).trans (hq 8 (by omega) (by omega)).symm) ((zTs_8 h).trans (hq 9 (by omega) (by omega)).symm) (zAr_g (zTs_9 h) (fun k hk => hq _ (by omega) (by omega))) (zAr_g (zTs_10 h) (fun k hk => hq _ (by omega) (by omega))) (zAr_g (zTs_11 h) (fun k hk => hq _ (by omega) (by omega))) (zAr_g (zTs_12 h) (fun k hk => hq _ (by omega) (by omega))) (zAr_g (zTs_13 h) (fun k hk => hq _ (by omega) (by omega))) (zAr_g (zTs_14 h) (fun k hk => hq _ (by omega) (by omega))) (zAr_g (zTs_15 h) (fun k hk => hq _ (by omega) (by omega))) (zAr_g (zTs_16 h) (fun k hk => hq _ (by omega) (by omega))) (zAr_g (zTs_17 h) (fun k hk => hq _ (by omega) (by omega))) (zAr_g (zTs_18 h) (fun k hk => hq _ (by omega) (by omega))) (zAr_g (zTs_19 h) (fun k hk => hq _ (by omega) (by omega))) (zAr_g (zTs_20 h) (fun k hk => hq _ (by omega) (by omega))) (zAr_g (zTs_21 h) (fun k hk => hq _ (by omega) (by omega))) (zAr_g (zTs_22 h) (fun k hk => hq _ (by omega) (by omega))) (zAr_g (zTs_23 h) (fun k hk => hq _ (by omega) (by omega))) (zAr_g (zTs_24 h) (fun k hk => hq _ (by omega) (by omega))) (zAr_g (zTs_25 h) (fun k hk => hq _ (by omega) (by omega))) (zAr_g (zTs_26 h) (fun k hk => hq _ (by omega) (by omega))) (zAr_g (zTs_27 h) (fun k hk => hq _ (by omega) (by omega))) (zAr_g (zTs_28 h) (fun k hk => hq _ (by omega) (by omega))) (show zAr b20 G 6998 3 9 by rw [hG]; exact (zAr_k (zAr_k (zAr_k (zAr_u (zTs_29 h) hb20 (show 6998 + 3 * Z = 6998 + 3 * (Z) by omega) (by decide) rfl) (fun k hk => show 6998 + 3 * k ≠ 6999 + 3 * Z by omega)) (fun k hk => show 6998 + 3 * k ≠ 7000 + 3 * Z by omega)) (fun k hk => show 6998 + 3 * k ≠ 7 by omega))) (show zAr b21 G 6999 3 9 by rw [hG]; exact (zAr_k (zAr_k (zAr_u (zAr_k (zTs_30 h) (fun k hk => show 6999 + 3 * k ≠ 6998 + 3 * Z by omega)) hb21 (show 6999 + 3 * Z = 6999 + 3 * (Z) by omega) (by decide) rfl) (fun k hk => show 6999 + 3 * k ≠ 7000 + 3 * Z by omega)) (fun k hk => show 6999 + 3 * k ≠ 7 by omega))) (show zAr b22 G 7000 3 9 by rw [hG]; exact (zAr_k (zAr_u (zAr_k (zAr_k (zTs_31 h) (fun k hk => show 7000 + 3 * k ≠ 6998 + 3 * Z by omega)) (fun k hk => show 7000 + 3 * k ≠ 6999 + 3 * Z by omega)) hb22 (show 7000 + 3 * Z = 7000 + 3 * (Z) by omega) (by decide) rfl) (fun k hk => show 7000 + 3 * k ≠ 7 by omega))) (zAr_g (zTs_32 h) (fun k hk => hq _ (by omega) (by omega))) (zAr_g (zTs_33 h) (fun k hk => hq _ (by omega) (by omega))) (zSh_g (zTs_34 h) (fun j h1 h2 => hq _ (by omega) (by omega))) (zGo_g (zTs_35 h) (fun k hk => hq _ (by omega) (by omega))) (zNu_g (zTs_36 h) (fun k hk => hq _ (by omega) (by omega))) (zGr_g (zTs_37 h) (fun k hk => hq _ (by omega) (by omega))) (zTs_38 h) (zTs_39 h) hVm
theorem te_draw {c0 c1 c2 c3 c4 c5 c6 c7 c8 : Int32} {a0 a1 a2 a3 a4 a5 a6 a7 a8 a9 a10 a11 a12 a13 a14 a15 a16 a17 a18 a19 a20 a21 a22 a23 a24 a25 a26 a27 a28 a29 : Nat → Int32} {F G : Nat → Int32} {d : Int32} {b4 b14 b15 : Nat → Int32} {p0 p1 p2 : Int32} (h : zTs c0 c1 c2 c3 c4 c5 c6 c7 c8 a0 a1 a2 a3 a4 a5 a6 a7 a8 a9 a10 a11 a12 a13 a14 a15 a16 a17 a18 a19 a20 a21 a22 a23 a24 a25 a26 a27 a28 a29 F) (hz : 0 ≤ Int32.toInt c7 ∧ Int32.toInt c7 ≤ 11) (hd : Int32.toInt d = Int32.toInt c7 + 1) (hb4 : b4 = upd a4 (Int32.toNatClampNeg c7) p0) (hb14 : b14 = upd a14 (Int32.toNatClampNeg c7) p1) (hb15 : b15 = upd a15 (Int32.toNatClampNeg c7) p2) (hG : G = (upd (upd (upd (upd F (7025 + 3 * Int32.toNatClampNeg (F (Int32.toNatClampNeg 8))) p0) (7026 + 3 * Int32.toNatClampNeg (F (Int32.toNatClampNeg 8))) p1) (7027 + 3 * Int32.toNatClampNeg (F (Int32.toNatClampNeg 8))) p2) (8) ((F (Int32.toNatClampNeg 8)) + (1 : Int32)))) : zTs c0 c1 c2 c3 c4 c5 c6 d c8 a0 a1 a2 a3 b4 a5 a6 a7 a8 a9 a10 a11 a12 a13 b14 b15 a16 a17 a18 a19 a20 a21 a22 a23 a24 a25 a26 a27 a28 a29 G := by
  have e0 : (F (Int32.toNatClampNeg 8)) = c7 := by rw [zcl8]; exact (zTs_7 h).symm
  rw [e0] at hG
  have q0 := z_cl (x := c7) hz.1
  obtain ⟨Z, eZ⟩ : ∃ Z : Nat, Z = Int32.toNatClampNeg c7 := ⟨_, rfl⟩
  rw [← eZ] at hG q0 hb4 hb14 hb15
  have hq : ∀ j : Nat, ¬ ((7025 ≤ j ∧ j < 7061)) → j ≠ 8 → G j = F j := fun j h1 h2 => by rw [hG]; rw [pk_un (show j ≠ 8 by omega)]; rw [pk_un (show j ≠ 7027 + 3 * Z by omega)]; rw [pk_un (show j ≠ 7026 + 3 * Z by omega)]; rw [pk_un (show j ≠ 7025 + 3 * Z by omega)]
  exact zTs_mk ((zTs_0 h).trans (hq 0 (by omega) (by omega)).symm) ((zTs_1 h).trans (hq 1 (by omega) (by omega)).symm) ((zTs_2 h).trans (hq 2 (by omega) (by omega)).symm) ((zTs_3 h).trans (hq 3 (by omega) (by omega)).symm) ((zTs_4 h).trans (hq 5 (by omega) (by omega)).symm) ((zTs_5 h).trans (hq 6 (by omega) (by omega)).symm) ((zTs_6 h).trans (hq 7 (by omega) (by omega)).symm) (show d = G 8 by rw [hG, pk_us]; exact zC_i hd (by omega)) ((zTs_8 h).trans (hq 9 (by omega) (by omega)).symm) (zAr_g (zTs_9 h) (fun k hk => hq _ (by omega) (by omega))) (zAr_g (zTs_10 h) (fun k hk => hq _ (by omega) (by omega))) (zAr_g (zTs_11 h) (fun k hk => hq _ (by omega) (by omega))) (zAr_g (zTs_12 h) (fun k hk => hq _ (by omega) (by omega))) (show zAr b4 G 7025 3 12 by rw [hG]; exact (zAr_k (zAr_k (zAr_k (zAr_u (zTs_13 h) hb4 (show 7025 + 3 * Z = 7025 + 3 * (Z) by omega) (by decide) rfl) (fun k hk => show 7025 + 3 * k ≠ 7026 + 3 * Z by omega)) (fun k hk => show 7025 + 3 * k ≠ 7027 + 3 * Z by omega)) (fun k hk => show 7025 + 3 * k ≠ 8 by omega))) (zAr_g (zTs_14 h) (fun k hk => hq _ (by omega) (by omega))) (zAr_g (zTs_15 h) (fun k hk => hq _ (by omega) (by omega))) (zAr_g (zTs_16 h) (fun k hk => hq _ (by omega) (by omega))) (zAr_g (zTs_17 h) (fun k hk => hq _ (by omega) (by omega))) (zAr_g (zTs_18 h) (fun k hk => hq _ (by omega) (by omega))) (zAr_g (zTs_19 h) (fun k hk => hq _ (by omega) (by omega))) (zAr_g (zTs_20 h) (fun k hk => hq _ (by omega) (by omega))) (zAr_g (zTs_21 h) (fun k hk => hq _ (by omega) (by omega))) (zAr_g (zTs_22 h) (fun k hk => hq _ (by omega) (by omega))) (show zAr b14 G 7026 3 12 by rw [hG]; exact (zAr_k (zAr_k (zAr_u (zAr_k (zTs_23 h) (fun k hk => show 7026 + 3 * k ≠ 7025 + 3 * Z by omega)) hb14 (show 7026 + 3 * Z = 7026 + 3 * (Z) by omega) (by decide) rfl) (fun k hk => show 7026 + 3 * k ≠ 7027 + 3 * Z by omega)) (fun k hk => show 7026 + 3 * k ≠ 8 by omega))) (show zAr b15 G 7027 3 12 by rw [hG]; exact (zAr_k (zAr_u (zAr_k (zAr_k (zTs_24 h) (fun k hk => show 7027 + 3 * k ≠ 7025 + 3 * Z by omega)) (fun k hk => show 7027 + 3 * k ≠ 7026 + 3 * Z by omega)) hb15 (show 7027 + 3 * Z = 7027 + 3 * (Z) by omega) (by decide) rfl) (fun k hk => show 7027 + 3 * k ≠ 8 by omega))) (zAr_g (zTs_25 h) (fun k hk => hq _ (by omega) (by omega))) (zAr_g (zTs_26 h) (fun k hk => hq _ (by omega) (by omega))) (zAr_g (zTs_27 h) (fun k hk => hq _ (by omega) (by omega))) (zAr_g (zTs_28 h) (fun k hk => hq _ (by omega) (by omega))) (zAr_g (zTs_29 h) (fun k hk => hq _ (by omega) (by omega))) (zAr_g (zTs_30 h) (fun k hk => hq _ (by omega) (by omega))) (zAr_g (zTs_31 h) (fun k hk => hq _ (by omega) (by omega))) (zAr_g (zTs_32 h) (fun k hk => hq _ (by omega) (by omega))) (zAr_g (zTs_33 h) (fun k hk => hq _ (by omega) (by omega))) (zSh_g (zTs_34 h) (fun j h1 h2 => hq _ (by omega) (by omega))) (zGo_g (zTs_35 h) (fun k hk => hq _ (by omega) (by omega))) (zNu_g (zTs_36 h) (fun k hk => hq _ (by omega) (by omega))) (zGr_g (zTs_37 h) (fun k hk => hq _ (by omega) (by omega))) (zTs_38 h) (zTs_39 h) (zTs_40 h)
theorem te_failed {c0 c1 c2 c3 c4 c5 c6 c7 c8 : Int32} {a0 a1 a2 a3 a4 a5 a6 a7 a8 a9 a10 a11 a12 a13 a14 a15 a16 a17 a18 a19 a20 a21 a22 a23 a24 a25 a26 a27 a28 a29 : Nat → Int32} {F G : Nat → Int32} {d : Int32} {b0 b1 : Nat → Int32} {p0 p1 : Int32} (h : zTs c0 c1 c2 c3 c4 c5 c6 c7 c8 a0 a1 a2 a3 a4 a5 a6 a7 a8 a9 a10 a11 a12 a13 a14 a15 a16 a17 a18 a19 a20 a21 a22 a23 a24 a25 a26 a27 a28 a29 F) (hz : 0 ≤ Int32.toInt c8 ∧ Int32.toInt c8 ≤ 59) (hd : Int32.toInt d = Int32.toInt c8 + 1) (hb0 : b0 = upd a0 (Int32.toNatClampNeg c8) p0) (hb1 : b1 = upd a1 (Int32.toNatClampNeg c8) p1) (hG : G = (upd (upd (upd F (3300 + 2 * Int32.toNatClampNeg (F (Int32.toNatClampNeg 9))) p0) (3301 + 2 * Int32.toNatClampNeg (F (Int32.toNatClampNeg 9))) p1) (9) ((F (Int32.toNatClampNeg 9)) + (1 : Int32)))) : zTs c0 c1 c2 c3 c4 c5 c6 c7 d b0 b1 a2 a3 a4 a5 a6 a7 a8 a9 a10 a11 a12 a13 a14 a15 a16 a17 a18 a19 a20 a21 a22 a23 a24 a25 a26 a27 a28 a29 G := by
  have e0 : (F (Int32.toNatClampNeg 9)) = c8 := by rw [zcl9]; exact (zTs_8 h).symm
  rw [e0] at hG
  have q0 := z_cl (x := c8) hz.1
  obtain ⟨Z, eZ⟩ : ∃ Z : Nat, Z = Int32.toNatClampNeg c8 := ⟨_, rfl⟩
  rw [← eZ] at hG q0 hb0 hb1
  have hq : ∀ j : Nat, ¬ ((3300 ≤ j ∧ j < 3420)) → j ≠ 9 → G j = F j := fun j h1 h2 => by rw [hG]; rw [pk_un (show j ≠ 9 by omega)]; rw [pk_un (show j ≠ 3301 + 2 * Z by omega)]; rw [pk_un (show j ≠ 3300 + 2 * Z by omega)]
  exact zTs_mk ((zTs_0 h).trans (hq 0 (by omega) (by omega)).symm) ((zTs_1 h).trans (hq 1 (by omega) (by omega)).symm) ((zTs_2 h).trans (hq 2 (by omega) (by omega)).symm) ((zTs_3 h).trans (hq 3 (by omega) (by omega)).symm) ((zTs_4 h).trans (hq 5 (by omega) (by omega)).symm) ((zTs_5 h).trans (hq 6 (by omega) (by omega)).symm) ((zTs_6 h).trans (hq 7 (by omega) (by omega)).symm) ((zTs_7 h).trans (hq 8 (by omega) (by omega)).symm) (show d = G 9 by rw [hG, pk_us]; exact zC_i hd (by omega)) (show zAr b0 G 3300 2 60 by rw [hG]; exact (zAr_k (zAr_k (zAr_u (zTs_9 h) hb0 (show 3300 + 2 * Z = 3300 + 2 * (Z) by omega) (by decide) rfl) (fun k hk => show 3300 + 2 * k ≠ 3301 + 2 * Z by omega)) (fun k hk => show 3300 + 2 * k ≠ 9 by omega))) (show zAr b1 G 3301 2 60 by rw [hG]; exact (zAr_k (zAr_u (zAr_k (zTs_10 h) (fun k hk => show 3301 + 2 * k ≠ 3300 + 2 * Z by omega)) hb1 (show 3301 + 2 * Z = 3301 + 2 * (Z) by omega) (by decide) rfl) (fun k hk => show 3301 + 2 * k ≠ 9 by omega))) (zAr_g (zTs_11 h) (fun k hk => hq _ (by omega) (by omega))) (zAr_g (zTs_12 h) (fun k hk => hq _ (by omega) (by omega))) (zAr_g (zTs_13 h) (fun k hk => hq _ (by omega) (by omega))) (zAr_g (zTs_14 h) (fun k hk => hq _ (by omega) (by omega))) (zAr_g (zTs_15 h) (fun k hk => hq _ (by omega) (by omega))) (zAr_g (zTs_16 h) (fun k hk => hq _ (by omega) (by omega))) (zAr_g (zTs_17 h) (fun k hk => hq _ (by omega) (by omega))) (zAr_g (zTs_18 h) (fun k hk => hq _ (by omega) (by omega))) (zAr_g (zTs_19 h) (fun k hk => hq _ (by omega) (by omega))) (zAr_g (zTs_20 h) (fun k hk => hq _ (by omega) (by omega))) (zAr_g (zTs_21 h) (fun k hk => hq _ (by omega) (by omega))) (zAr_g (zTs_22 h) (fun k hk => hq _ (by omega) (by omega))) (zAr_g (zTs_23 h) (fun k hk => hq _ (by omega) (by omega))) (zAr_g (zTs_24 h) (fun k hk => hq _ (by omega) (by omega))) (zAr_g (zTs_25 h) (fun k hk => hq _ (by omega) (by omega))) (zAr_g (zTs_26 h) (fun k hk => hq _ (by omega) (by omega))) (zAr_g (zTs_27 h) (fun k hk => hq _ (by omega) (by omega))) (zAr_g (zTs_28 h) (fun k hk => hq _ (by omega) (by omega))) (zAr_g (zTs_29 h) (fun k hk => hq _ (by omega) (by omega))) (zAr_g (zTs_30 h) (fun k hk => hq _ (by omega) (by omega))) (zAr_g (zTs_31 h) (fun k hk => hq _ (by omega) (by omega))) (zAr_g (zTs_32 h) (fun k hk => hq _ (by omega) (by omega))) (zAr_g (zTs_33 h) (fun k hk => hq _ (by omega) (by omega))) (zSh_g (zTs_34 h) (fun j h1 h2 => hq _ (by omega) (by omega))) (zGo_g (zTs_35 h) (fun k hk => hq _ (by omega) (by omega))) (zNu_g (zTs_36 h) (fun k hk => hq _ (by omega) (by omega))) (zGr_g (zTs_37 h) (fun k hk => hq _ (by omega) (by omega))) (zTs_38 h) (zTs_39 h) (zTs_40 h)
theorem te_comes {c0 c1 c2 c3 c4 c5 c6 c7 c8 : Int32} {a0 a1 a2 a3 a4 a5 a6 a7 a8 a9 a10 a11 a12 a13 a14 a15 a16 a17 a18 a19 a20 a21 a22 a23 a24 a25 a26 a27 a28 a29 : Nat → Int32} {F G : Nat → Int32} {d : Int32} {b5 b6 b7 b26 b8 : Nat → Int32} {p0 p1 p2 : Int32} (h : zTs c0 c1 c2 c3 c4 c5 c6 c7 c8 a0 a1 a2 a3 a4 a5 a6 a7 a8 a9 a10 a11 a12 a13 a14 a15 a16 a17 a18 a19 a20 a21 a22 a23 a24 a25 a26 a27 a28 a29 F) (hz : 0 ≤ Int32.toInt c2 ∧ Int32.toInt c2 ≤ 119) (hsc : 0 ≤ Int32.toInt p1 ∧ Int32.toInt p1 < Int32.toInt c1) (hdy : Int32.toInt p2 ≤ 399) (hL : Int32.toInt (cLat a5 a6 c2 p0 p1) = -1 ∨ (Int32.toInt (a7 (Int32.toNatClampNeg (cLat a5 a6 c2 p0 p1))) < Int32.toInt p2 ∧ Int32.toInt (a26 (Int32.toNatClampNeg (cLat a5 a6 c2 p0 p1))) ≤ Int32.toInt p2)) (hd : Int32.toInt d = Int32.toInt c2 + 1) (hb5 : b5 = upd a5 (Int32.toNatClampNeg c2) p0) (hb6 : b6 = upd a6 (Int32.toNatClampNeg c2) p1) (hb7 : b7 = upd a7 (Int32.toNatClampNeg c2) p2) (hb8 : b8 = upd a8 (Int32.toNatClampNeg c2) ((-1) : Int32)) (hb26 : b26 = upd a26 (Int32.toNatClampNeg c2) (400 : Int32)) (hG : G = (upd (upd (upd (upd (upd (upd F (2700 + 5 * Int32.toNatClampNeg (F (Int32.toNatClampNeg 2))) p0) (2701 + 5 * Int32.toNatClampNeg (F (Int32.toNatClampNeg 2))) p1) (2702 + 5 * Int32.toNatClampNeg (F (Int32.toNatClampNeg 2))) p2) (2703 + 5 * Int32.toNatClampNeg (F (Int32.toNatClampNeg 2))) ((-1) : Int32)) (2704 + 5 * Int32.toNatClampNeg (F (Int32.toNatClampNeg 2))) ((-1) : Int32)) (2) ((F (Int32.toNatClampNeg 2)) + (1 : Int32)))) : zTs c0 c1 d c3 c4 c5 c6 c7 c8 a0 a1 a2 a3 a4 b5 b6 b7 b8 a9 a10 a11 a12 a13 a14 a15 a16 a17 a18 a19 a20 a21 a22 a23 a24 a25 b26 a27 a28 a29 G := by
  have hOr := zOr_c (zTs_38 h) hz hd hdy hb5 hb6 hb7 hb26 hL
  have hSc := zSc_c (zTs_39 h) hz.1 hd hb6 hsc
  have e0 : (F (Int32.toNatClampNeg 2)) = c2 := by rw [zcl2]; exact (zTs_2 h).symm
  rw [e0] at hG
  have q0 := z_cl (x := c2) hz.1
  obtain ⟨Z, eZ⟩ : ∃ Z : Nat, Z = Int32.toNatClampNeg c2 := ⟨_, rfl⟩
  rw [← eZ] at hG q0 hb5 hb6 hb7 hb8 hb26
  have hq : ∀ j : Nat, ¬ ((2700 ≤ j ∧ j < 3300)) → j ≠ 2 → G j = F j := fun j h1 h2 => by rw [hG]; rw [pk_un (show j ≠ 2 by omega)]; rw [pk_un (show j ≠ 2704 + 5 * Z by omega)]; rw [pk_un (show j ≠ 2703 + 5 * Z by omega)]; rw [pk_un (show j ≠ 2702 + 5 * Z by omega)]; rw [pk_un (show j ≠ 2701 + 5 * Z by omega)]; rw [pk_un (show j ≠ 2700 + 5 * Z by omega)]
  exact zTs_mk ((zTs_0 h).trans (hq 0 (by omega) (by omega)).symm) ((zTs_1 h).trans (hq 1 (by omega) (by omega)).symm) (show d = G 2 by rw [hG, pk_us]; exact zC_i hd (by omega)) ((zTs_3 h).trans (hq 3 (by omega) (by omega)).symm) ((zTs_4 h).trans (hq 5 (by omega) (by omega)).symm) ((zTs_5 h).trans (hq 6 (by omega) (by omega)).symm) ((zTs_6 h).trans (hq 7 (by omega) (by omega)).symm) ((zTs_7 h).trans (hq 8 (by omega) (by omega)).symm) ((zTs_8 h).trans (hq 9 (by omega) (by omega)).symm) (zAr_g (zTs_9 h) (fun k hk => hq _ (by omega) (by omega))) (zAr_g (zTs_10 h) (fun k hk => hq _ (by omega) (by omega))) (zAr_g (zTs_11 h) (fun k hk => hq _ (by omega) (by omega))) (zAr_g (zTs_12 h) (fun k hk => hq _ (by omega) (by omega))) (zAr_g (zTs_13 h) (fun k hk => hq _ (by omega) (by omega))) (show zAr b5 G 2700 5 120 by rw [hG]; exact (zAr_k (zAr_k (zAr_k (zAr_k (zAr_k (zAr_u (zTs_14 h) hb5 (show 2700 + 5 * Z = 2700 + 5 * (Z) by omega) (by decide) rfl) (fun k hk => show 2700 + 5 * k ≠ 2701 + 5 * Z by omega)) (fun k hk => show 2700 + 5 * k ≠ 2702 + 5 * Z by omega)) (fun k hk => show 2700 + 5 * k ≠ 2703 + 5 * Z by omega)) (fun k hk => show 2700 + 5 * k ≠ 2704 + 5 * Z by omega)) (fun k hk => show 2700 + 5 * k ≠ 2 by omega))) (show zAr b6 G 2701 5 120 by rw [hG]; exact (zAr_k (zAr_k (zAr_k (zAr_k (zAr_u (zAr_k (zTs_15 h) (fun k hk => show 2701 + 5 * k ≠ 2700 + 5 * Z by omega)) hb6 (show 2701 + 5 * Z = 2701 + 5 * (Z) by omega) (by decide) rfl) (fun k hk => show 2701 + 5 * k ≠ 2702 + 5 * Z by omega)) (fun k hk => show 2701 + 5 * k ≠ 2703 + 5 * Z by omega)) (fun k hk => show 2701 + 5 * k ≠ 2704 + 5 * Z by omega)) (fun k hk => show 2701 + 5 * k ≠ 2 by omega))) (show zAr b7 G 2702 5 120 by rw [hG]; exact (zAr_k (zAr_k (zAr_k (zAr_u (zAr_k (zAr_k (zTs_16 h) (fun k hk => show 2702 + 5 * k ≠ 2700 + 5 * Z by omega)) (fun k hk => show 2702 + 5 * k ≠ 2701 + 5 * Z by omega)) hb7 (show 2702 + 5 * Z = 2702 + 5 * (Z) by omega) (by decide) rfl) (fun k hk => show 2702 + 5 * k ≠ 2703 + 5 * Z by omega)) (fun k hk => show 2702 + 5 * k ≠ 2704 + 5 * Z by omega)) (fun k hk => show 2702 + 5 * k ≠ 2 by omega))) (show zAr b8 G 2704 5 120 by rw [hG]; exact (zAr_k (zAr_u (zAr_k (zAr_k (zAr_k (zAr_k (zTs_17 h) (fun k hk => show 2704 + 5 * k ≠ 2700 + 5 * Z by omega)) (fun k hk => show 2704 + 5 * k ≠ 2701 + 5 * Z by omega)) (fun k hk => show 2704 + 5 * k ≠ 2702 + 5 * Z by omega)) (fun k hk => show 2704 + 5 * k ≠ 2703 + 5 * Z by omega)) hb8 (show 2704 + 5 * Z = 2704 + 5 * (Z) by omega) (by decide) rfl) (fun k hk => show 2704 + 5 * k ≠ 2 by omega))) (zAr_g (zTs_18 h) (fun k hk => hq _ (by omega) (by omega))) (zAr_g (zTs_19 h) (fun k hk => hq _ (by omega) (by omega))) (zAr_g (zTs_20 h) (fun k hk => hq _ (by omega) (by omega))) (zAr_g (zTs_21 h) (fun k hk => hq _ (by omega) (by omega))) (zAr_g (zTs_22 h) (fun k hk => hq _ (by omega) (by omega))) (zAr_g (zTs_23 h) (fun k hk => hq _ (by omega) (by omega))) (zAr_g (zTs_24 h) (fun k hk => hq _ (by omega) (by omega))) (zAr_g (zTs_25 h) (fun k hk => hq _ (by omega) (by omega))) (zAr_g (zTs_26 h) (fun k hk => hq _ (by omega) (by omega))) (zAr_g (zTs_27 h) (fun k hk => hq _ (by omega) (by omega))) (zAr_g (zTs_28 h) (fun k hk => hq _ (by omega) (by omega))) (zAr_g (zTs_29 h) (fun k hk => hq _ (by omega) (by omega))) (zAr_g (zTs_30 h) (fun k hk => hq _ (by omega) (by omega))) (zAr_g (zTs_31 h) (fun k hk => hq _ (by omega) (by omega))) (zAr_g (zTs_32 h) (fun k hk => hq _ (by omega) (by omega))) (zAr_g (zTs_33 h) (fun k hk => hq _ (by omega) (by omega))) (zSh_g (zTs_34 h) (fun j h1 h2 => hq _ (by omega) (by omega))) (show zGo b26 G by rw [hG]; exact (zGo_k (zGo_k (zGo_u (zGo_k (zGo_k (zGo_k (zTs_35 h) (fun k hk => show 2703 + 5 * k ≠ 2700 + 5 * Z by omega)) (fun k hk => show 2703 + 5 * k ≠ 2701 + 5 * Z by omega)) (fun k hk => show 2703 + 5 * k ≠ 2702 + 5 * Z by omega)) hb26 (show 2703 + 5 * Z = 2703 + 5 * Z from rfl) (by decide)) (fun k hk => show 2703 + 5 * k ≠ 2704 + 5 * Z by omega)) (fun k hk => show 2703 + 5 * k ≠ 2 by omega))) (zNu_g (zTs_36 h) (fun k hk => hq _ (by omega) (by omega))) (zGr_g (zTs_37 h) (fun k hk => hq _ (by omega) (by omega))) hOr hSc (zTs_40 h)
theorem te_mark {c0 c1 c2 c3 c4 c5 c6 c7 c8 : Int32} {a0 a1 a2 a3 a4 a5 a6 a7 a8 a9 a10 a11 a12 a13 a14 a15 a16 a17 a18 a19 a20 a21 a22 a23 a24 a25 a26 a27 a28 a29 : Nat → Int32} {F G : Nat → Int32} {d : Int32} {b9 b10 b11 b27 b28 b29 : Nat → Int32} {p0 p1 p2 p3 p4 p5 : Int32} (h : zTs c0 c1 c2 c3 c4 c5 c6 c7 c8 a0 a1 a2 a3 a4 a5 a6 a7 a8 a9 a10 a11 a12 a13 a14 a15 a16 a17 a18 a19 a20 a21 a22 a23 a24 a25 a26 a27 a28 a29 F) (hz : 0 ≤ Int32.toInt c3 ∧ Int32.toInt c3 ≤ 399) (hd : Int32.toInt d = Int32.toInt c3 + 1) (hb9 : b9 = upd a9 (Int32.toNatClampNeg c3) p0) (hb10 : b10 = upd a10 (Int32.toNatClampNeg c3) p1) (hb11 : b11 = upd a11 (Int32.toNatClampNeg c3) p2) (hb27 : b27 = upd a27 (Int32.toNatClampNeg c3) p3) (hb28 : b28 = upd a28 (Int32.toNatClampNeg c3) p4) (hb29 : b29 = upd a29 (Int32.toNatClampNeg c3) ((-1) : Int32)) (hG : G = (upd (upd (upd (upd (upd (upd (upd (upd F (3780 + 8 * Int32.toNatClampNeg (F (Int32.toNatClampNeg 3))) p0) (3781 + 8 * Int32.toNatClampNeg (F (Int32.toNatClampNeg 3))) p1) (3782 + 8 * Int32.toNatClampNeg (F (Int32.toNatClampNeg 3))) p2) (3783 + 8 * Int32.toNatClampNeg (F (Int32.toNatClampNeg 3))) (((26 : Int32) * p4) + p3)) (3784 + 8 * Int32.toNatClampNeg (F (Int32.toNatClampNeg 3))) p5) (3785 + 8 * Int32.toNatClampNeg (F (Int32.toNatClampNeg 3))) ((-1) : Int32)) (3786 + 8 * Int32.toNatClampNeg (F (Int32.toNatClampNeg 3))) ((-1) : Int32)) (3) ((F (Int32.toNatClampNeg 3)) + (1 : Int32)))) : zTs c0 c1 c2 d c4 c5 c6 c7 c8 a0 a1 a2 a3 a4 a5 a6 a7 a8 b9 b10 b11 a12 a13 a14 a15 a16 a17 a18 a19 a20 a21 a22 a23 a24 a25 a26 b27 b28 b29 G := by
  have e0 : (F (Int32.toNatClampNeg 3)) = c3 := by rw [zcl3]; exact (zTs_3 h).symm
  rw [e0] at hG
  have q0 := z_cl (x := c3) hz.1
  obtain ⟨Z, eZ⟩ : ∃ Z : Nat, Z = Int32.toNatClampNeg c3 := ⟨_, rfl⟩
  rw [← eZ] at hG q0 hb9 hb10 hb11 hb27 hb28 hb29
  have hq : ∀ j : Nat, ¬ ((3780 ≤ j ∧ j < 6980)) → j ≠ 3 → G j = F j := fun j h1 h2 => by rw [hG]; rw [pk_un (show j ≠ 3 by omega)]; rw [pk_un (show j ≠ 3786 + 8 * Z by omega)]; rw [pk_un (show j ≠ 3785 + 8 * Z by omega)]; rw [pk_un (show j ≠ 3784 + 8 * Z by omega)]; rw [pk_un (show j ≠ 3783 + 8 * Z by omega)]; rw [pk_un (show j ≠ 3782 + 8 * Z by omega)]; rw [pk_un (show j ≠ 3781 + 8 * Z by omega)]; rw [pk_un (show j ≠ 3780 + 8 * Z by omega)]
  exact zTs_mk ((zTs_0 h).trans (hq 0 (by omega) (by omega)).symm) ((zTs_1 h).trans (hq 1 (by omega) (by omega)).symm) ((zTs_2 h).trans (hq 2 (by omega) (by omega)).symm) (show d = G 3 by rw [hG, pk_us]; exact zC_i hd (by omega)) ((zTs_4 h).trans (hq 5 (by omega) (by omega)).symm) ((zTs_5 h).trans (hq 6 (by omega) (by omega)).symm) ((zTs_6 h).trans (hq 7 (by omega) (by omega)).symm) ((zTs_7 h).trans (hq 8 (by omega) (by omega)).symm) ((zTs_8 h).trans (hq 9 (by omega) (by omega)).symm) (zAr_g (zTs_9 h) (fun k hk => hq _ (by omega) (by omega))) (zAr_g (zTs_10 h) (fun k hk => hq _ (by omega) (by omega))) (zAr_g (zTs_11 h) (fun k hk => hq _ (by omega) (by omega))) (zAr_g (zTs_12 h) (fun k hk => hq _ (by omega) (by omega))) (zAr_g (zTs_13 h) (fun k hk => hq _ (by omega) (by omega))) (zAr_g (zTs_14 h) (fun k hk => hq _ (by omega) (by omega))) (zAr_g (zTs_15 h) (fun k hk => hq _ (by omega) (by omega))) (zAr_g (zTs_16 h) (fun k hk => hq _ (by omega) (by omega))) (zAr_g (zTs_17 h) (fun k hk => hq _ (by omega) (by omega))) (show zAr b9 G 3780 8 400 by rw [hG]; exact (zAr_k (zAr_k (zAr_k (zAr_k (zAr_k (zAr_k (zAr_k (zAr_u (zTs_18 h) hb9 (show 3780 + 8 * Z = 3780 + 8 * (Z) by omega) (by decide) rfl) (fun k hk => show 3780 + 8 * k ≠ 3781 + 8 * Z by omega)) (fun k hk => show 3780 + 8 * k ≠ 3782 + 8 * Z by omega)) (fun k hk => show 3780 + 8 * k ≠ 3783 + 8 * Z by omega)) (fun k hk => show 3780 + 8 * k ≠ 3784 + 8 * Z by omega)) (fun k hk => show 3780 + 8 * k ≠ 3785 + 8 * Z by omega)) (fun k hk => show 3780 + 8 * k ≠ 3786 + 8 * Z by omega)) (fun k hk => show 3780 + 8 * k ≠ 3 by omega))) (show zAr b10 G 3781 8 400 by rw [hG]; exact (zAr_k (zAr_k (zAr_k (zAr_k (zAr_k (zAr_k (zAr_u (zAr_k (zTs_19 h) (fun k hk => show 3781 + 8 * k ≠ 3780 + 8 * Z by omega)) hb10 (show 3781 + 8 * Z = 3781 + 8 * (Z) by omega) (by decide) rfl) (fun k hk => show 3781 + 8 * k ≠ 3782 + 8 * Z by omega)) (fun k hk => show 3781 + 8 * k ≠ 3783 + 8 * Z by omega)) (fun k hk => show 3781 + 8 * k ≠ 3784 + 8 * Z by omega)) (fun k hk => show 3781 + 8 * k ≠ 3785 + 8 * Z by omega)) (fun k hk => show 3781 + 8 * k ≠ 3786 + 8 * Z by omega)) (fun k hk => show 3781 + 8 * k ≠ 3 by omega))) (show zAr b11 G 3782 8 400 by rw [hG]; exact (zAr_k (zAr_k (zAr_k (zAr_k (zAr_k (zAr_u (zAr_k (zAr_k (zTs_20 h) (fun k hk => show 3782 + 8 * k ≠ 3780 + 8 * Z by omega)) (fun k hk => show 3782 + 8 * k ≠ 3781 + 8 * Z by omega)) hb11 (show 3782 + 8 * Z = 3782 + 8 * (Z) by omega) (by decide) rfl) (fun k hk => show 3782 + 8 * k ≠ 3783 + 8 * Z by omega)) (fun k hk => show 3782 + 8 * k ≠ 3784 + 8 * Z by omega)) (fun k hk => show 3782 + 8 * k ≠ 3785 + 8 * Z by omega)) (fun k hk => show 3782 + 8 * k ≠ 3786 + 8 * Z by omega)) (fun k hk => show 3782 + 8 * k ≠ 3 by omega))) (zAr_g (zTs_21 h) (fun k hk => hq _ (by omega) (by omega))) (zAr_g (zTs_22 h) (fun k hk => hq _ (by omega) (by omega))) (zAr_g (zTs_23 h) (fun k hk => hq _ (by omega) (by omega))) (zAr_g (zTs_24 h) (fun k hk => hq _ (by omega) (by omega))) (zAr_g (zTs_25 h) (fun k hk => hq _ (by omega) (by omega))) (zAr_g (zTs_26 h) (fun k hk => hq _ (by omega) (by omega))) (zAr_g (zTs_27 h) (fun k hk => hq _ (by omega) (by omega))) (zAr_g (zTs_28 h) (fun k hk => hq _ (by omega) (by omega))) (zAr_g (zTs_29 h) (fun k hk => hq _ (by omega) (by omega))) (zAr_g (zTs_30 h) (fun k hk => hq _ (by omega) (by omega))) (zAr_g (zTs_31 h) (fun k hk => hq _ (by omega) (by omega))) (zAr_g (zTs_32 h) (fun k hk => hq _ (by omega) (by omega))) (zAr_g (zTs_33 h) (fun k hk => hq _ (by omega) (by omega))) (zSh_g (zTs_34 h) (fun j h1 h2 => hq _ (by omega) (by omega))) (zGo_g (zTs_35 h) (fun k hk => hq _ (by omega) (by omega))) (show zNu b27 b28 G by rw [hG]; exact (zNu_k (zNu_k (zNu_k (zNu_k (zNu_u (zNu_k (zNu_k (zNu_k (zTs_36 h) (fun k hk => show 3783 + 8 * k ≠ 3780 + 8 * Z by omega)) (fun k hk => show 3783 + 8 * k ≠ 3781 + 8 * Z by omega)) (fun k hk => show 3783 + 8 * k ≠ 3782 + 8 * Z by omega)) hb27 hb28 rfl rfl) (fun k hk => show 3783 + 8 * k ≠ 3784 + 8 * Z by omega)) (fun k hk => show 3783 + 8 * k ≠ 3785 + 8 * Z by omega)) (fun k hk => show 3783 + 8 * k ≠ 3786 + 8 * Z by omega)) (fun k hk => show 3783 + 8 * k ≠ 3 by omega))) (show zGr b29 G by rw [hG]; exact (zGr_k (zGr_k (zGr_u (zGr_k (zGr_k (zGr_k (zGr_k (zGr_k (zTs_37 h) (fun k hk => show 3785 + 8 * k ≠ 3780 + 8 * Z by omega)) (fun k hk => show 3785 + 8 * k ≠ 3781 + 8 * Z by omega)) (fun k hk => show 3785 + 8 * k ≠ 3782 + 8 * Z by omega)) (fun k hk => show 3785 + 8 * k ≠ 3783 + 8 * Z by omega)) (fun k hk => show 3785 + 8 * k ≠ 3784 + 8 * Z by omega)) hb29 rfl (by decide)) (fun k hk => show 3785 + 8 * k ≠ 3786 + 8 * Z by omega)) (fun k hk => show 3785 + 8 * k ≠ 3 by omega))) (zTs_38 h) (zTs_39 h) (zTs_40 h)
theorem te_school {c0 c1 c2 c3 c4 c5 c6 c7 c8 : Int32} {a0 a1 a2 a3 a4 a5 a6 a7 a8 a9 a10 a11 a12 a13 a14 a15 a16 a17 a18 a19 a20 a21 a22 a23 a24 a25 a26 a27 a28 a29 : Nat → Int32} {F G : Nat → Int32} {d : Int32} (h : zTs c0 c1 c2 c3 c4 c5 c6 c7 c8 a0 a1 a2 a3 a4 a5 a6 a7 a8 a9 a10 a11 a12 a13 a14 a15 a16 a17 a18 a19 a20 a21 a22 a23 a24 a25 a26 a27 a28 a29 F) (hz : 0 ≤ Int32.toInt c1 ∧ Int32.toInt c1 ≤ 4) (hd : Int32.toInt d = Int32.toInt c1 + 1) (hG : G = (upd F (1) ((F (Int32.toNatClampNeg 1)) + (1 : Int32)))) : zTs c0 d c2 c3 c4 c5 c6 c7 c8 a0 a1 a2 a3 a4 a5 a6 a7 a8 a9 a10 a11 a12 a13 a14 a15 a16 a17 a18 a19 a20 a21 a22 a23 a24 a25 a26 a27 a28 a29 G := by
  have e0 : (F (Int32.toNatClampNeg 1)) = c1 := by rw [zcl1]; exact (zTs_1 h).symm
  rw [e0] at hG
  have hq : ∀ j : Nat, ¬ (False) → j ≠ 1 → G j = F j := fun j h1 h2 => by rw [hG]; rw [pk_un (show j ≠ 1 by omega)]
  exact zTs_mk ((zTs_0 h).trans (hq 0 id (by omega)).symm) (show d = G 1 by rw [hG, pk_us]; exact zC_i hd (by omega)) ((zTs_2 h).trans (hq 2 id (by omega)).symm) ((zTs_3 h).trans (hq 3 id (by omega)).symm) ((zTs_4 h).trans (hq 5 id (by omega)).symm) ((zTs_5 h).trans (hq 6 id (by omega)).symm) ((zTs_6 h).trans (hq 7 id (by omega)).symm) ((zTs_7 h).trans (hq 8 id (by omega)).symm) ((zTs_8 h).trans (hq 9 id (by omega)).symm) (zAr_g (zTs_9 h) (fun k hk => hq _ id (by omega))) (zAr_g (zTs_10 h) (fun k hk => hq _ id (by omega))) (zAr_g (zTs_11 h) (fun k hk => hq _ id (by omega))) (zAr_g (zTs_12 h) (fun k hk => hq _ id (by omega))) (zAr_g (zTs_13 h) (fun k hk => hq _ id (by omega))) (zAr_g (zTs_14 h) (fun k hk => hq _ id (by omega))) (zAr_g (zTs_15 h) (fun k hk => hq _ id (by omega))) (zAr_g (zTs_16 h) (fun k hk => hq _ id (by omega))) (zAr_g (zTs_17 h) (fun k hk => hq _ id (by omega))) (zAr_g (zTs_18 h) (fun k hk => hq _ id (by omega))) (zAr_g (zTs_19 h) (fun k hk => hq _ id (by omega))) (zAr_g (zTs_20 h) (fun k hk => hq _ id (by omega))) (zAr_g (zTs_21 h) (fun k hk => hq _ id (by omega))) (zAr_g (zTs_22 h) (fun k hk => hq _ id (by omega))) (zAr_g (zTs_23 h) (fun k hk => hq _ id (by omega))) (zAr_g (zTs_24 h) (fun k hk => hq _ id (by omega))) (zAr_g (zTs_25 h) (fun k hk => hq _ id (by omega))) (zAr_g (zTs_26 h) (fun k hk => hq _ id (by omega))) (zAr_g (zTs_27 h) (fun k hk => hq _ id (by omega))) (zAr_g (zTs_28 h) (fun k hk => hq _ id (by omega))) (zAr_g (zTs_29 h) (fun k hk => hq _ id (by omega))) (zAr_g (zTs_30 h) (fun k hk => hq _ id (by omega))) (zAr_g (zTs_31 h) (fun k hk => hq _ id (by omega))) (zAr_g (zTs_32 h) (fun k hk => hq _ id (by omega))) (zAr_g (zTs_33 h) (fun k hk => hq _ id (by omega))) (zSh_g (zTs_34 h) (fun j h1 h2 => hq _ id (by omega))) (zGo_g (zTs_35 h) (fun k hk => hq _ id (by omega))) (zNu_g (zTs_36 h) (fun k hk => hq _ id (by omega))) (zGr_g (zTs_37 h) (fun k hk => hq _ id (by omega))) (zTs_38 h) (zSc_m (zTs_39 h) (by omega)) (zTs_40 h)
theorem te_shut {c0 c1 c2 c3 c4 c5 c6 c7 c8 : Int32} {a0 a1 a2 a3 a4 a5 a6 a7 a8 a9 a10 a11 a12 a13 a14 a15 a16 a17 a18 a19 a20 a21 a22 a23 a24 a25 a26 a27 a28 a29 : Nat → Int32} {F G : Nat → Int32} {b25 : Nat → Int32} {p0 p1 : Int32} (h : zTs c0 c1 c2 c3 c4 c5 c6 c7 c8 a0 a1 a2 a3 a4 a5 a6 a7 a8 a9 a10 a11 a12 a13 a14 a15 a16 a17 a18 a19 a20 a21 a22 a23 a24 a25 a26 a27 a28 a29 F) (hs : 0 ≤ Int32.toInt p0 ∧ Int32.toInt p0 < 5) (hdy : 0 ≤ Int32.toInt p1 ∧ Int32.toInt p1 ≤ 399) (hb25 : b25 = upd a25 (Int32.toNatClampNeg p1) ((a25 (Int32.toNatClampNeg p1)) ||| ((1 : Int32) <<< (p0 &&& 31)))) (hG : G = (upd F (700 + 400 * Int32.toNatClampNeg p0 + Int32.toNatClampNeg p1) (1 : Int32))) : zTs c0 c1 c2 c3 c4 c5 c6 c7 c8 a0 a1 a2 a3 a4 a5 a6 a7 a8 a9 a10 a11 a12 a13 a14 a15 a16 a17 a18 a19 a20 a21 a22 a23 a24 b25 a26 a27 a28 a29 G := by
  have q0 := z_cl hs.1
  have q1 := z_cl hdy.1
  have hq : ∀ j : Nat, ¬ ((700 ≤ j ∧ j < 2700)) → G j = F j := fun j h1 => by rw [hG]; rw [pk_un (show j ≠ 700 + 400 * Int32.toNatClampNeg p0 + Int32.toNatClampNeg p1 by omega)]
  exact zTs_mk ((zTs_0 h).trans (hq 0 (by omega)).symm) ((zTs_1 h).trans (hq 1 (by omega)).symm) ((zTs_2 h).trans (hq 2 (by omega)).symm) ((zTs_3 h).trans (hq 3 (by omega)).symm) ((zTs_4 h).trans (hq 5 (by omega)).symm) ((zTs_5 h).trans (hq 6 (by omega)).symm) ((zTs_6 h).trans (hq 7 (by omega)).symm) ((zTs_7 h).trans (hq 8 (by omega)).symm) ((zTs_8 h).trans (hq 9 (by omega)).symm) (zAr_g (zTs_9 h) (fun k hk => hq _ (by omega))) (zAr_g (zTs_10 h) (fun k hk => hq _ (by omega))) (zAr_g (zTs_11 h) (fun k hk => hq _ (by omega))) (zAr_g (zTs_12 h) (fun k hk => hq _ (by omega))) (zAr_g (zTs_13 h) (fun k hk => hq _ (by omega))) (zAr_g (zTs_14 h) (fun k hk => hq _ (by omega))) (zAr_g (zTs_15 h) (fun k hk => hq _ (by omega))) (zAr_g (zTs_16 h) (fun k hk => hq _ (by omega))) (zAr_g (zTs_17 h) (fun k hk => hq _ (by omega))) (zAr_g (zTs_18 h) (fun k hk => hq _ (by omega))) (zAr_g (zTs_19 h) (fun k hk => hq _ (by omega))) (zAr_g (zTs_20 h) (fun k hk => hq _ (by omega))) (zAr_g (zTs_21 h) (fun k hk => hq _ (by omega))) (zAr_g (zTs_22 h) (fun k hk => hq _ (by omega))) (zAr_g (zTs_23 h) (fun k hk => hq _ (by omega))) (zAr_g (zTs_24 h) (fun k hk => hq _ (by omega))) (zAr_g (zTs_25 h) (fun k hk => hq _ (by omega))) (zAr_g (zTs_26 h) (fun k hk => hq _ (by omega))) (zAr_g (zTs_27 h) (fun k hk => hq _ (by omega))) (zAr_g (zTs_28 h) (fun k hk => hq _ (by omega))) (zAr_g (zTs_29 h) (fun k hk => hq _ (by omega))) (zAr_g (zTs_30 h) (fun k hk => hq _ (by omega))) (zAr_g (zTs_31 h) (fun k hk => hq _ (by omega))) (zAr_g (zTs_32 h) (fun k hk => hq _ (by omega))) (zAr_g (zTs_33 h) (fun k hk => hq _ (by omega))) (show zSh b25 G by rw [hG]; exact zSh_u (zTs_34 h) hs (show Int32.toNatClampNeg p1 < 400 by omega) hb25 rfl (by decide)) (zGo_g (zTs_35 h) (fun k hk => hq _ (by omega))) (zNu_g (zTs_36 h) (fun k hk => hq _ (by omega))) (zGr_g (zTs_37 h) (fun k hk => hq _ (by omega))) (zTs_38 h) (zTs_39 h) (zTs_40 h)
theorem te_goes {c0 c1 c2 c3 c4 c5 c6 c7 c8 : Int32} {a0 a1 a2 a3 a4 a5 a6 a7 a8 a9 a10 a11 a12 a13 a14 a15 a16 a17 a18 a19 a20 a21 a22 a23 a24 a25 a26 a27 a28 a29 : Nat → Int32} {F G : Nat → Int32} {b26 b8 : Nat → Int32} {p0 p1 p2 p3 : Int32} (h : zTs c0 c1 c2 c3 c4 c5 c6 c7 c8 a0 a1 a2 a3 a4 a5 a6 a7 a8 a9 a10 a11 a12 a13 a14 a15 a16 a17 a18 a19 a20 a21 a22 a23 a24 a25 a26 a27 a28 a29 F) (hn : 0 ≤ Int32.toInt c2 ∧ Int32.toInt c2 ≤ 120) (hL : 0 ≤ Int32.toInt (cLat a5 a6 c2 p0 p1) ∧ Int32.toInt (cLat a5 a6 c2 p0 p1) ≤ 119) (hdy : 0 ≤ Int32.toInt p2 ∧ Int32.toInt p2 ≤ 399) (hfi : Int32.toInt (a7 (Int32.toNatClampNeg (cLat a5 a6 c2 p0 p1))) ≤ Int32.toInt p2) (hb8 : b8 = upd a8 (Int32.toNatClampNeg (cLat a5 a6 c2 p0 p1)) p3) (hb26 : b26 = upd a26 (Int32.toNatClampNeg (cLat a5 a6 c2 p0 p1)) p2) (hG : G = (upd (upd F (2703 + 5 * Int32.toNatClampNeg (mLat F p0 p1)) p2) (2704 + 5 * Int32.toNatClampNeg (mLat F p0 p1)) p3)) : zTs c0 c1 c2 c3 c4 c5 c6 c7 c8 a0 a1 a2 a3 a4 a5 a6 a7 b8 a9 a10 a11 a12 a13 a14 a15 a16 a17 a18 a19 a20 a21 a22 a23 a24 a25 b26 a27 a28 a29 G := by
  have hOr := zOr_o (zTs_38 h) hn hL.1 hb26 hfi
  have eL : (mLat F p0 p1) = (cLat a5 a6 c2 p0 p1) := Int32.toInt_inj.mp (eq_lat h hn.2)
  rw [eL] at hG
  have q0 := z_cl hL.1
  obtain ⟨Z, eZ⟩ : ∃ Z : Nat, Z = Int32.toNatClampNeg (cLat a5 a6 c2 p0 p1) := ⟨_, rfl⟩
  rw [← eZ] at hG q0 hb8 hb26
  have hq : ∀ j : Nat, ¬ ((2700 ≤ j ∧ j < 3300)) → G j = F j := fun j h1 => by rw [hG]; rw [pk_un (show j ≠ 2704 + 5 * Z by omega)]; rw [pk_un (show j ≠ 2703 + 5 * Z by omega)]
  exact zTs_mk ((zTs_0 h).trans (hq 0 (by omega)).symm) ((zTs_1 h).trans (hq 1 (by omega)).symm) ((zTs_2 h).trans (hq 2 (by omega)).symm) ((zTs_3 h).trans (hq 3 (by omega)).symm) ((zTs_4 h).trans (hq 5 (by omega)).symm) ((zTs_5 h).trans (hq 6 (by omega)).symm) ((zTs_6 h).trans (hq 7 (by omega)).symm) ((zTs_7 h).trans (hq 8 (by omega)).symm) ((zTs_8 h).trans (hq 9 (by omega)).symm) (zAr_g (zTs_9 h) (fun k hk => hq _ (by omega))) (zAr_g (zTs_10 h) (fun k hk => hq _ (by omega))) (zAr_g (zTs_11 h) (fun k hk => hq _ (by omega))) (zAr_g (zTs_12 h) (fun k hk => hq _ (by omega))) (zAr_g (zTs_13 h) (fun k hk => hq _ (by omega))) (show zAr a5 G 2700 5 120 by rw [hG]; exact (zAr_k (zAr_k (zTs_14 h) (fun k hk => show 2700 + 5 * k ≠ 2703 + 5 * Z by omega)) (fun k hk => show 2700 + 5 * k ≠ 2704 + 5 * Z by omega))) (show zAr a6 G 2701 5 120 by rw [hG]; exact (zAr_k (zAr_k (zTs_15 h) (fun k hk => show 2701 + 5 * k ≠ 2703 + 5 * Z by omega)) (fun k hk => show 2701 + 5 * k ≠ 2704 + 5 * Z by omega))) (show zAr a7 G 2702 5 120 by rw [hG]; exact (zAr_k (zAr_k (zTs_16 h) (fun k hk => show 2702 + 5 * k ≠ 2703 + 5 * Z by omega)) (fun k hk => show 2702 + 5 * k ≠ 2704 + 5 * Z by omega))) (show zAr b8 G 2704 5 120 by rw [hG]; exact (zAr_u (zAr_k (zTs_17 h) (fun k hk => show 2704 + 5 * k ≠ 2703 + 5 * Z by omega)) hb8 (show 2704 + 5 * Z = 2704 + 5 * (Z) by omega) (by decide) rfl)) (zAr_g (zTs_18 h) (fun k hk => hq _ (by omega))) (zAr_g (zTs_19 h) (fun k hk => hq _ (by omega))) (zAr_g (zTs_20 h) (fun k hk => hq _ (by omega))) (zAr_g (zTs_21 h) (fun k hk => hq _ (by omega))) (zAr_g (zTs_22 h) (fun k hk => hq _ (by omega))) (zAr_g (zTs_23 h) (fun k hk => hq _ (by omega))) (zAr_g (zTs_24 h) (fun k hk => hq _ (by omega))) (zAr_g (zTs_25 h) (fun k hk => hq _ (by omega))) (zAr_g (zTs_26 h) (fun k hk => hq _ (by omega))) (zAr_g (zTs_27 h) (fun k hk => hq _ (by omega))) (zAr_g (zTs_28 h) (fun k hk => hq _ (by omega))) (zAr_g (zTs_29 h) (fun k hk => hq _ (by omega))) (zAr_g (zTs_30 h) (fun k hk => hq _ (by omega))) (zAr_g (zTs_31 h) (fun k hk => hq _ (by omega))) (zAr_g (zTs_32 h) (fun k hk => hq _ (by omega))) (zAr_g (zTs_33 h) (fun k hk => hq _ (by omega))) (zSh_g (zTs_34 h) (fun j h1 h2 => hq _ (by omega))) (show zGo b26 G by rw [hG]; exact (zGo_k (zGo_u (zTs_35 h) hb26 rfl (Or.inr ⟨hdy.1, by omega, rfl⟩)) (fun k hk => show 2703 + 5 * k ≠ 2704 + 5 * Z by omega))) (zNu_g (zTs_36 h) (fun k hk => hq _ (by omega))) (zGr_g (zTs_37 h) (fun k hk => hq _ (by omega))) hOr (zTs_39 h) (zTs_40 h)
theorem te_appeal {c0 c1 c2 c3 c4 c5 c6 c7 c8 : Int32} {a0 a1 a2 a3 a4 a5 a6 a7 a8 a9 a10 a11 a12 a13 a14 a15 a16 a17 a18 a19 a20 a21 a22 a23 a24 a25 a26 a27 a28 a29 : Nat → Int32} {F G : Nat → Int32} {b29 : Nat → Int32} {p0 p1 p2 : Int32} (h : zTs c0 c1 c2 c3 c4 c5 c6 c7 c8 a0 a1 a2 a3 a4 a5 a6 a7 a8 a9 a10 a11 a12 a13 a14 a15 a16 a17 a18 a19 a20 a21 a22 a23 a24 a25 a26 a27 a28 a29 F) (hm : 0 ≤ Int32.toInt p0 ∧ Int32.toInt p0 ≤ 399) (h1 : 0 ≤ Int32.toInt p1) (h2 : 0 ≤ Int32.toInt p2) (hb29 : b29 = upd a29 (Int32.toNatClampNeg p0) p2) (hG : G = (upd (upd F (3785 + 8 * Int32.toNatClampNeg p0) p1) (3786 + 8 * Int32.toNatClampNeg p0) p2)) : zTs c0 c1 c2 c3 c4 c5 c6 c7 c8 a0 a1 a2 a3 a4 a5 a6 a7 a8 a9 a10 a11 a12 a13 a14 a15 a16 a17 a18 a19 a20 a21 a22 a23 a24 a25 a26 a27 a28 b29 G := by
  have q0 := z_cl hm.1
  obtain ⟨Z, eZ⟩ : ∃ Z : Nat, Z = Int32.toNatClampNeg p0 := ⟨_, rfl⟩
  rw [← eZ] at hG q0 hb29
  have hq : ∀ j : Nat, ¬ ((3780 ≤ j ∧ j < 6980)) → G j = F j := fun j h1 => by rw [hG]; rw [pk_un (show j ≠ 3786 + 8 * Z by omega)]; rw [pk_un (show j ≠ 3785 + 8 * Z by omega)]
  exact zTs_mk ((zTs_0 h).trans (hq 0 (by omega)).symm) ((zTs_1 h).trans (hq 1 (by omega)).symm) ((zTs_2 h).trans (hq 2 (by omega)).symm) ((zTs_3 h).trans (hq 3 (by omega)).symm) ((zTs_4 h).trans (hq 5 (by omega)).symm) ((zTs_5 h).trans (hq 6 (by omega)).symm) ((zTs_6 h).trans (hq 7 (by omega)).symm) ((zTs_7 h).trans (hq 8 (by omega)).symm) ((zTs_8 h).trans (hq 9 (by omega)).symm) (zAr_g (zTs_9 h) (fun k hk => hq _ (by omega))) (zAr_g (zTs_10 h) (fun k hk => hq _ (by omega))) (zAr_g (zTs_11 h) (fun k hk => hq _ (by omega))) (zAr_g (zTs_12 h) (fun k hk => hq _ (by omega))) (zAr_g (zTs_13 h) (fun k hk => hq _ (by omega))) (zAr_g (zTs_14 h) (fun k hk => hq _ (by omega))) (zAr_g (zTs_15 h) (fun k hk => hq _ (by omega))) (zAr_g (zTs_16 h) (fun k hk => hq _ (by omega))) (zAr_g (zTs_17 h) (fun k hk => hq _ (by omega))) (show zAr a9 G 3780 8 400 by rw [hG]; exact (zAr_k (zAr_k (zTs_18 h) (fun k hk => show 3780 + 8 * k ≠ 3785 + 8 * Z by omega)) (fun k hk => show 3780 + 8 * k ≠ 3786 + 8 * Z by omega))) (show zAr a10 G 3781 8 400 by rw [hG]; exact (zAr_k (zAr_k (zTs_19 h) (fun k hk => show 3781 + 8 * k ≠ 3785 + 8 * Z by omega)) (fun k hk => show 3781 + 8 * k ≠ 3786 + 8 * Z by omega))) (show zAr a11 G 3782 8 400 by rw [hG]; exact (zAr_k (zAr_k (zTs_20 h) (fun k hk => show 3782 + 8 * k ≠ 3785 + 8 * Z by omega)) (fun k hk => show 3782 + 8 * k ≠ 3786 + 8 * Z by omega))) (zAr_g (zTs_21 h) (fun k hk => hq _ (by omega))) (zAr_g (zTs_22 h) (fun k hk => hq _ (by omega))) (zAr_g (zTs_23 h) (fun k hk => hq _ (by omega))) (zAr_g (zTs_24 h) (fun k hk => hq _ (by omega))) (zAr_g (zTs_25 h) (fun k hk => hq _ (by omega))) (zAr_g (zTs_26 h) (fun k hk => hq _ (by omega))) (zAr_g (zTs_27 h) (fun k hk => hq _ (by omega))) (zAr_g (zTs_28 h) (fun k hk => hq _ (by omega))) (zAr_g (zTs_29 h) (fun k hk => hq _ (by omega))) (zAr_g (zTs_30 h) (fun k hk => hq _ (by omega))) (zAr_g (zTs_31 h) (fun k hk => hq _ (by omega))) (zAr_g (zTs_32 h) (fun k hk => hq _ (by omega))) (zAr_g (zTs_33 h) (fun k hk => hq _ (by omega))) (zSh_g (zTs_34 h) (fun j h1 h2 => hq _ (by omega))) (zGo_g (zTs_35 h) (fun k hk => hq _ (by omega))) (show zNu a27 a28 G by rw [hG]; exact (zNu_k (zNu_k (zTs_36 h) (fun k hk => show 3783 + 8 * k ≠ 3785 + 8 * Z by omega)) (fun k hk => show 3783 + 8 * k ≠ 3786 + 8 * Z by omega))) (show zGr b29 G by rw [hG]; exact (zGr_k (zGr_u (zTs_37 h) hb29 rfl ⟨fun z => by omega, fun z => by omega⟩) (fun k hk => show 3785 + 8 * k ≠ 3786 + 8 * Z by omega))) (zTs_38 h) (zTs_39 h) (zTs_40 h)
theorem te_alter {c0 c1 c2 c3 c4 c5 c6 c7 c8 : Int32} {a0 a1 a2 a3 a4 a5 a6 a7 a8 a9 a10 a11 a12 a13 a14 a15 a16 a17 a18 a19 a20 a21 a22 a23 a24 a25 a26 a27 a28 a29 : Nat → Int32} {F G : Nat → Int32} {b27 b28 : Nat → Int32} {p0 p1 : Int32} (h : zTs c0 c1 c2 c3 c4 c5 c6 c7 c8 a0 a1 a2 a3 a4 a5 a6 a7 a8 a9 a10 a11 a12 a13 a14 a15 a16 a17 a18 a19 a20 a21 a22 a23 a24 a25 a26 a27 a28 a29 F) (hm : 0 ≤ Int32.toInt p0 ∧ Int32.toInt p0 ≤ 399) (hb27 : b27 = upd a27 (Int32.toNatClampNeg p0) (((((26 : Int32) * (a28 (Int32.toNatClampNeg p0))) + (a27 (Int32.toNatClampNeg p0))) ^^^ p1) - ((((26 : Int32) * (a28 (Int32.toNatClampNeg p0))) + (a27 (Int32.toNatClampNeg p0))) ^^^ p1) / (26 : Int32) * (26 : Int32))) (hb28 : b28 = upd a28 (Int32.toNatClampNeg p0) (((((26 : Int32) * (a28 (Int32.toNatClampNeg p0))) + (a27 (Int32.toNatClampNeg p0))) ^^^ p1) / (26 : Int32))) (hG : G = (upd F (3783 + 8 * Int32.toNatClampNeg p0) ((F (3783 + 8 * Int32.toNatClampNeg p0)) ^^^ p1))) : zTs c0 c1 c2 c3 c4 c5 c6 c7 c8 a0 a1 a2 a3 a4 a5 a6 a7 a8 a9 a10 a11 a12 a13 a14 a15 a16 a17 a18 a19 a20 a21 a22 a23 a24 a25 a26 b27 b28 a29 G := by
  have q0 := z_cl hm.1
  have e1 : (((26 : Int32) * (a28 (Int32.toNatClampNeg p0))) + (a27 (Int32.toNatClampNeg p0))) = F (3783 + 8 * Int32.toNatClampNeg p0) := zTs_36 h _ (by omega)
  rw [e1] at hb27 hb28
  obtain ⟨W, eW⟩ : ∃ W : Int32, W = F (3783 + 8 * Int32.toNatClampNeg p0) ^^^ p1 := ⟨_, rfl⟩
  rw [← eW] at hG hb27 hb28
  obtain ⟨Z, eZ⟩ : ∃ Z : Nat, Z = Int32.toNatClampNeg p0 := ⟨_, rfl⟩
  rw [← eZ] at hG q0 hb27 hb28
  have hq : ∀ j : Nat, ¬ ((3780 ≤ j ∧ j < 6980)) → G j = F j := fun j h1 => by rw [hG]; rw [pk_un (show j ≠ 3783 + 8 * Z by omega)]
  exact zTs_mk ((zTs_0 h).trans (hq 0 (by omega)).symm) ((zTs_1 h).trans (hq 1 (by omega)).symm) ((zTs_2 h).trans (hq 2 (by omega)).symm) ((zTs_3 h).trans (hq 3 (by omega)).symm) ((zTs_4 h).trans (hq 5 (by omega)).symm) ((zTs_5 h).trans (hq 6 (by omega)).symm) ((zTs_6 h).trans (hq 7 (by omega)).symm) ((zTs_7 h).trans (hq 8 (by omega)).symm) ((zTs_8 h).trans (hq 9 (by omega)).symm) (zAr_g (zTs_9 h) (fun k hk => hq _ (by omega))) (zAr_g (zTs_10 h) (fun k hk => hq _ (by omega))) (zAr_g (zTs_11 h) (fun k hk => hq _ (by omega))) (zAr_g (zTs_12 h) (fun k hk => hq _ (by omega))) (zAr_g (zTs_13 h) (fun k hk => hq _ (by omega))) (zAr_g (zTs_14 h) (fun k hk => hq _ (by omega))) (zAr_g (zTs_15 h) (fun k hk => hq _ (by omega))) (zAr_g (zTs_16 h) (fun k hk => hq _ (by omega))) (zAr_g (zTs_17 h) (fun k hk => hq _ (by omega))) (show zAr a9 G 3780 8 400 by rw [hG]; exact (zAr_k (zTs_18 h) (fun k hk => show 3780 + 8 * k ≠ 3783 + 8 * Z by omega))) (show zAr a10 G 3781 8 400 by rw [hG]; exact (zAr_k (zTs_19 h) (fun k hk => show 3781 + 8 * k ≠ 3783 + 8 * Z by omega))) (show zAr a11 G 3782 8 400 by rw [hG]; exact (zAr_k (zTs_20 h) (fun k hk => show 3782 + 8 * k ≠ 3783 + 8 * Z by omega))) (zAr_g (zTs_21 h) (fun k hk => hq _ (by omega))) (zAr_g (zTs_22 h) (fun k hk => hq _ (by omega))) (zAr_g (zTs_23 h) (fun k hk => hq _ (by omega))) (zAr_g (zTs_24 h) (fun k hk => hq _ (by omega))) (zAr_g (zTs_25 h) (fun k hk => hq _ (by omega))) (zAr_g (zTs_26 h) (fun k hk => hq _ (by omega))) (zAr_g (zTs_27 h) (fun k hk => hq _ (by omega))) (zAr_g (zTs_28 h) (fun k hk => hq _ (by omega))) (zAr_g (zTs_29 h) (fun k hk => hq _ (by omega))) (zAr_g (zTs_30 h) (fun k hk => hq _ (by omega))) (zAr_g (zTs_31 h) (fun k hk => hq _ (by omega))) (zAr_g (zTs_32 h) (fun k hk => hq _ (by omega))) (zAr_g (zTs_33 h) (fun k hk => hq _ (by omega))) (zSh_g (zTs_34 h) (fun j h1 h2 => hq _ (by omega))) (zGo_g (zTs_35 h) (fun k hk => hq _ (by omega))) (show zNu b27 b28 G by rw [hG]; exact zNu_u (zTs_36 h) hb27 hb28 rfl zNu_r) (show zGr a29 G by rw [hG]; exact (zGr_k (zTs_37 h) (fun k hk => show 3785 + 8 * k ≠ 3783 + 8 * Z by omega))) (zTs_38 h) (zTs_39 h) (zTs_40 h)
theorem te_child {c0 c1 c2 c3 c4 c5 c6 c7 c8 : Int32} {a0 a1 a2 a3 a4 a5 a6 a7 a8 a9 a10 a11 a12 a13 a14 a15 a16 a17 a18 a19 a20 a21 a22 a23 a24 a25 a26 a27 a28 a29 : Nat → Int32} {F G : Nat → Int32} {d : Int32} {b16 : Nat → Int32} {p0 : Int32} {b23 : Nat → Int32} {p3 : Int32} {b24 : Nat → Int32} {p4 : Int32} (h : zTs c0 c1 c2 c3 c4 c5 c6 c7 c8 a0 a1 a2 a3 a4 a5 a6 a7 a8 a9 a10 a11 a12 a13 a14 a15 a16 a17 a18 a19 a20 a21 a22 a23 a24 a25 a26 a27 a28 a29 F) (hz : 0 ≤ Int32.toInt c0 ∧ Int32.toInt c0 ≤ 39) (hd : Int32.toInt d = Int32.toInt c0 + 1) (hb16 : b16 = upd a16 (Int32.toNatClampNeg c0) p0) (hb23 : b23 = upd a23 (Int32.toNatClampNeg c0) p3) (hb24 : b24 = upd a24 (Int32.toNatClampNeg c0) p4) (hG : ∀ j : Nat, j ≠ 0 → (j < 20 + 17 * Int32.toNatClampNeg (F (Int32.toNatClampNeg 0)) ∨ 37 + 17 * Int32.toNatClampNeg (F (Int32.toNatClampNeg 0)) ≤ j) → G j = F j) (hG0 : G 0 = (F (Int32.toNatClampNeg 0)) + 1) (hGb : G (20 + 17 * Int32.toNatClampNeg (F (Int32.toNatClampNeg 0))) = p0) (hGx : G (23 + 17 * Int32.toNatClampNeg (F (Int32.toNatClampNeg 0))) = p3) (hGy : G (24 + 17 * Int32.toNatClampNeg (F (Int32.toNatClampNeg 0))) = p4) : zTs d c1 c2 c3 c4 c5 c6 c7 c8 a0 a1 a2 a3 a4 a5 a6 a7 a8 a9 a10 a11 a12 a13 a14 a15 b16 a17 a18 a19 a20 a21 a22 b23 b24 a25 a26 a27 a28 a29 G := by
  have e0 : (F (Int32.toNatClampNeg 0)) = c0 := by rw [zcl0]; exact (zTs_0 h).symm
  rw [e0] at hG hG0 hGb hGx hGy
  have q0 := z_cl (x := c0) hz.1
  exact zTs_mk ((zC_i hd (by omega)).trans hG0.symm) ((zTs_1 h).trans (hG 1 (by omega) (by omega)).symm) ((zTs_2 h).trans (hG 2 (by omega) (by omega)).symm) ((zTs_3 h).trans (hG 3 (by omega) (by omega)).symm) ((zTs_4 h).trans (hG 5 (by omega) (by omega)).symm) ((zTs_5 h).trans (hG 6 (by omega) (by omega)).symm) ((zTs_6 h).trans (hG 7 (by omega) (by omega)).symm) ((zTs_7 h).trans (hG 8 (by omega) (by omega)).symm) ((zTs_8 h).trans (hG 9 (by omega) (by omega)).symm) (zAr_g (zTs_9 h) (fun k hk => hG _ (by omega) (by omega))) (zAr_g (zTs_10 h) (fun k hk => hG _ (by omega) (by omega))) (zAr_g (zTs_11 h) (fun k hk => hG _ (by omega) (by omega))) (zAr_g (zTs_12 h) (fun k hk => hG _ (by omega) (by omega))) (zAr_g (zTs_13 h) (fun k hk => hG _ (by omega) (by omega))) (zAr_g (zTs_14 h) (fun k hk => hG _ (by omega) (by omega))) (zAr_g (zTs_15 h) (fun k hk => hG _ (by omega) (by omega))) (zAr_g (zTs_16 h) (fun k hk => hG _ (by omega) (by omega))) (zAr_g (zTs_17 h) (fun k hk => hG _ (by omega) (by omega))) (zAr_g (zTs_18 h) (fun k hk => hG _ (by omega) (by omega))) (zAr_g (zTs_19 h) (fun k hk => hG _ (by omega) (by omega))) (zAr_g (zTs_20 h) (fun k hk => hG _ (by omega) (by omega))) (zAr_g (zTs_21 h) (fun k hk => hG _ (by omega) (by omega))) (zAr_g (zTs_22 h) (fun k hk => hG _ (by omega) (by omega))) (zAr_g (zTs_23 h) (fun k hk => hG _ (by omega) (by omega))) (zAr_g (zTs_24 h) (fun k hk => hG _ (by omega) (by omega))) (zAr_w (zTs_25 h) hb16 hGb (fun k hk hn => hG _ (by omega) (by omega))) (zAr_g (zTs_26 h) (fun k hk => hG _ (by omega) (by omega))) (zAr_g (zTs_27 h) (fun k hk => hG _ (by omega) (by omega))) (zAr_g (zTs_28 h) (fun k hk => hG _ (by omega) (by omega))) (zAr_g (zTs_29 h) (fun k hk => hG _ (by omega) (by omega))) (zAr_g (zTs_30 h) (fun k hk => hG _ (by omega) (by omega))) (zAr_g (zTs_31 h) (fun k hk => hG _ (by omega) (by omega))) (zAr_w (zTs_32 h) hb23 hGx (fun k hk hn => hG _ (by omega) (by omega))) (zAr_w (zTs_33 h) hb24 hGy (fun k hk hn => hG _ (by omega) (by omega))) (zSh_g (zTs_34 h) (fun j h1 h2 => hG _ (by omega) (by omega))) (zGo_g (zTs_35 h) (fun k hk => hG _ (by omega) (by omega))) (zNu_g (zTs_36 h) (fun k hk => hG _ (by omega) (by omega))) (zGr_g (zTs_37 h) (fun k hk => hG _ (by omega) (by omega))) (zTs_38 h) (zTs_39 h) (zTs_40 h)
theorem te_has0 {c0 c1 c2 c3 c4 c5 c6 c7 c8 : Int32} {a0 a1 a2 a3 a4 a5 a6 a7 a8 a9 a10 a11 a12 a13 a14 a15 a16 a17 a18 a19 a20 a21 a22 a23 a24 a25 a26 a27 a28 a29 : Nat → Int32} {F G : Nat → Int32} {b17 b18 b19 b2 : Nat → Int32} {w p0 p2 p3 : Int32} (h : zTs c0 c1 c2 c3 c4 c5 c6 c7 c8 a0 a1 a2 a3 a4 a5 a6 a7 a8 a9 a10 a11 a12 a13 a14 a15 a16 a17 a18 a19 a20 a21 a22 a23 a24 a25 a26 a27 a28 a29 F) (hw : Int32.toInt w = 0) (hz : 0 ≤ Int32.toInt (a2 (Int32.toNatClampNeg w)) ∧ Int32.toInt (a2 (Int32.toNatClampNeg w)) ≤ 59) (hb2 : b2 = upd a2 (Int32.toNatClampNeg w) ((a2 (Int32.toNatClampNeg w)) + (1 : Int32))) (hb17 : b17 = upd a17 (60 * Int32.toNatClampNeg w + Int32.toNatClampNeg (a2 (Int32.toNatClampNeg w))) p0) (hb18 : b18 = upd a18 (60 * Int32.toNatClampNeg w + Int32.toNatClampNeg (a2 (Int32.toNatClampNeg w))) p2) (hb19 : b19 = upd a19 (60 * Int32.toNatClampNeg w + Int32.toNatClampNeg (a2 (Int32.toNatClampNeg w))) p3) (hG : G = (upd (upd (upd (upd F (3420 + 3 * Int32.toNatClampNeg (F (10 + Int32.toNatClampNeg w))) p0) (3421 + 3 * Int32.toNatClampNeg (F (10 + Int32.toNatClampNeg w))) p2) (3422 + 3 * Int32.toNatClampNeg (F (10 + Int32.toNatClampNeg w))) p3) (10 + Int32.toNatClampNeg w) ((F (10 + Int32.toNatClampNeg w)) + (1 : Int32)))) : zTs c0 c1 c2 c3 c4 c5 c6 c7 c8 a0 a1 b2 a3 a4 a5 a6 a7 a8 a9 a10 a11 a12 a13 a14 a15 a16 b17 b18 b19 a20 a21 a22 a23 a24 a25 a26 a27 a28 a29 G := by
  have q1 := z_cl (x := w) (by omega)
  have e0 : F (10 + Int32.toNatClampNeg w) = a2 (Int32.toNatClampNeg w) := by
    have h1 := zTs_11 h (Int32.toNatClampNeg w) (by omega)
    rw [Nat.one_mul] at h1
    exact h1.symm
  rw [e0] at hG
  have q0 := z_cl hz.1
  obtain ⟨Z, eZ⟩ : ∃ Z : Nat, Z = Int32.toNatClampNeg (a2 (Int32.toNatClampNeg w)) := ⟨_, rfl⟩
  obtain ⟨V, eV⟩ : ∃ V : Nat, V = Int32.toNatClampNeg w := ⟨_, rfl⟩
  rw [← eZ, ← eV] at hG hb17 hb18 hb19
  rw [← eZ] at q0
  rw [← eV] at q1 hb2
  have hq : ∀ j : Nat, ¬ ((3420 ≤ j ∧ j < 3780) ∨ (10 ≤ j ∧ j < 12)) → G j = F j := fun j h1 => by rw [hG]; rw [pk_un (show j ≠ 10 + V by omega)]; rw [pk_un (show j ≠ 3422 + 3 * Z by omega)]; rw [pk_un (show j ≠ 3421 + 3 * Z by omega)]; rw [pk_un (show j ≠ 3420 + 3 * Z by omega)]
  exact zTs_mk ((zTs_0 h).trans (hq 0 (by omega)).symm) ((zTs_1 h).trans (hq 1 (by omega)).symm) ((zTs_2 h).trans (hq 2 (by omega)).symm) ((zTs_3 h).trans (hq 3 (by omega)).symm) ((zTs_4 h).trans (hq 5 (by omega)).symm) ((zTs_5 h).trans (hq 6 (by omega)).symm) ((zTs_6 h).trans (hq 7 (by omega)).symm) ((zTs_7 h).trans (hq 8 (by omega)).symm) ((zTs_8 h).trans (hq 9 (by omega)).symm) (zAr_g (zTs_9 h) (fun k hk => hq _ (by omega))) (zAr_g (zTs_10 h) (fun k hk => hq _ (by omega))) (show zAr b2 G 10 1 2 by rw [hG]; exact (zAr_u (zAr_k (zAr_k (zAr_k (zTs_11 h) (fun k hk => show 10 + 1 * k ≠ 3420 + 3 * Z by omega)) (fun k hk => show 10 + 1 * k ≠ 3421 + 3 * Z by omega)) (fun k hk => show 10 + 1 * k ≠ 3422 + 3 * Z by omega)) hb2 (show 10 + V = 10 + 1 * (V) by omega) (by decide) rfl)) (zAr_g (zTs_12 h) (fun k hk => hq _ (by omega))) (zAr_g (zTs_13 h) (fun k hk => hq _ (by omega))) (zAr_g (zTs_14 h) (fun k hk => hq _ (by omega))) (zAr_g (zTs_15 h) (fun k hk => hq _ (by omega))) (zAr_g (zTs_16 h) (fun k hk => hq _ (by omega))) (zAr_g (zTs_17 h) (fun k hk => hq _ (by omega))) (zAr_g (zTs_18 h) (fun k hk => hq _ (by omega))) (zAr_g (zTs_19 h) (fun k hk => hq _ (by omega))) (zAr_g (zTs_20 h) (fun k hk => hq _ (by omega))) (zAr_g (zTs_21 h) (fun k hk => hq _ (by omega))) (zAr_g (zTs_22 h) (fun k hk => hq _ (by omega))) (zAr_g (zTs_23 h) (fun k hk => hq _ (by omega))) (zAr_g (zTs_24 h) (fun k hk => hq _ (by omega))) (zAr_g (zTs_25 h) (fun k hk => hq _ (by omega))) (show zAr b17 G 3420 3 120 by rw [hG]; exact (zAr_k (zAr_k (zAr_k (zAr_u (zTs_26 h) hb17 (show 3420 + 3 * Z = 3420 + 3 * (60 * V + Z) by omega) (by decide) rfl) (fun k hk => show 3420 + 3 * k ≠ 3421 + 3 * Z by omega)) (fun k hk => show 3420 + 3 * k ≠ 3422 + 3 * Z by omega)) (fun k hk => show 3420 + 3 * k ≠ 10 + V by omega))) (show zAr b18 G 3421 3 120 by rw [hG]; exact (zAr_k (zAr_k (zAr_u (zAr_k (zTs_27 h) (fun k hk => show 3421 + 3 * k ≠ 3420 + 3 * Z by omega)) hb18 (show 3421 + 3 * Z = 3421 + 3 * (60 * V + Z) by omega) (by decide) rfl) (fun k hk => show 3421 + 3 * k ≠ 3422 + 3 * Z by omega)) (fun k hk => show 3421 + 3 * k ≠ 10 + V by omega))) (show zAr b19 G 3422 3 120 by rw [hG]; exact (zAr_k (zAr_u (zAr_k (zAr_k (zTs_28 h) (fun k hk => show 3422 + 3 * k ≠ 3420 + 3 * Z by omega)) (fun k hk => show 3422 + 3 * k ≠ 3421 + 3 * Z by omega)) hb19 (show 3422 + 3 * Z = 3422 + 3 * (60 * V + Z) by omega) (by decide) rfl) (fun k hk => show 3422 + 3 * k ≠ 10 + V by omega))) (zAr_g (zTs_29 h) (fun k hk => hq _ (by omega))) (zAr_g (zTs_30 h) (fun k hk => hq _ (by omega))) (zAr_g (zTs_31 h) (fun k hk => hq _ (by omega))) (zAr_g (zTs_32 h) (fun k hk => hq _ (by omega))) (zAr_g (zTs_33 h) (fun k hk => hq _ (by omega))) (zSh_g (zTs_34 h) (fun j h1 h2 => hq _ (by omega))) (zGo_g (zTs_35 h) (fun k hk => hq _ (by omega))) (zNu_g (zTs_36 h) (fun k hk => hq _ (by omega))) (zGr_g (zTs_37 h) (fun k hk => hq _ (by omega))) (zTs_38 h) (zTs_39 h) (zTs_40 h)
theorem te_has1 {c0 c1 c2 c3 c4 c5 c6 c7 c8 : Int32} {a0 a1 a2 a3 a4 a5 a6 a7 a8 a9 a10 a11 a12 a13 a14 a15 a16 a17 a18 a19 a20 a21 a22 a23 a24 a25 a26 a27 a28 a29 : Nat → Int32} {F G : Nat → Int32} {b17 b18 b19 b2 : Nat → Int32} {w p0 p2 p3 : Int32} (h : zTs c0 c1 c2 c3 c4 c5 c6 c7 c8 a0 a1 a2 a3 a4 a5 a6 a7 a8 a9 a10 a11 a12 a13 a14 a15 a16 a17 a18 a19 a20 a21 a22 a23 a24 a25 a26 a27 a28 a29 F) (hw : Int32.toInt w = 1) (hz : 0 ≤ Int32.toInt (a2 (Int32.toNatClampNeg w)) ∧ Int32.toInt (a2 (Int32.toNatClampNeg w)) ≤ 59) (hb2 : b2 = upd a2 (Int32.toNatClampNeg w) ((a2 (Int32.toNatClampNeg w)) + (1 : Int32))) (hb17 : b17 = upd a17 (60 * Int32.toNatClampNeg w + Int32.toNatClampNeg (a2 (Int32.toNatClampNeg w))) p0) (hb18 : b18 = upd a18 (60 * Int32.toNatClampNeg w + Int32.toNatClampNeg (a2 (Int32.toNatClampNeg w))) p2) (hb19 : b19 = upd a19 (60 * Int32.toNatClampNeg w + Int32.toNatClampNeg (a2 (Int32.toNatClampNeg w))) p3) (hG : G = (upd (upd (upd (upd F (3600 + 3 * Int32.toNatClampNeg (F (10 + Int32.toNatClampNeg w))) p0) (3601 + 3 * Int32.toNatClampNeg (F (10 + Int32.toNatClampNeg w))) p2) (3602 + 3 * Int32.toNatClampNeg (F (10 + Int32.toNatClampNeg w))) p3) (10 + Int32.toNatClampNeg w) ((F (10 + Int32.toNatClampNeg w)) + (1 : Int32)))) : zTs c0 c1 c2 c3 c4 c5 c6 c7 c8 a0 a1 b2 a3 a4 a5 a6 a7 a8 a9 a10 a11 a12 a13 a14 a15 a16 b17 b18 b19 a20 a21 a22 a23 a24 a25 a26 a27 a28 a29 G := by
  have q1 := z_cl (x := w) (by omega)
  have e0 : F (10 + Int32.toNatClampNeg w) = a2 (Int32.toNatClampNeg w) := by
    have h1 := zTs_11 h (Int32.toNatClampNeg w) (by omega)
    rw [Nat.one_mul] at h1
    exact h1.symm
  rw [e0] at hG
  have q0 := z_cl hz.1
  obtain ⟨Z, eZ⟩ : ∃ Z : Nat, Z = Int32.toNatClampNeg (a2 (Int32.toNatClampNeg w)) := ⟨_, rfl⟩
  obtain ⟨V, eV⟩ : ∃ V : Nat, V = Int32.toNatClampNeg w := ⟨_, rfl⟩
  rw [← eZ, ← eV] at hG hb17 hb18 hb19
  rw [← eZ] at q0
  rw [← eV] at q1 hb2
  have hq : ∀ j : Nat, ¬ ((3420 ≤ j ∧ j < 3780) ∨ (10 ≤ j ∧ j < 12)) → G j = F j := fun j h1 => by rw [hG]; rw [pk_un (show j ≠ 10 + V by omega)]; rw [pk_un (show j ≠ 3602 + 3 * Z by omega)]; rw [pk_un (show j ≠ 3601 + 3 * Z by omega)]; rw [pk_un (show j ≠ 3600 + 3 * Z by omega)]
  exact zTs_mk ((zTs_0 h).trans (hq 0 (by omega)).symm) ((zTs_1 h).trans (hq 1 (by omega)).symm) ((zTs_2 h).trans (hq 2 (by omega)).symm) ((zTs_3 h).trans (hq 3 (by omega)).symm) ((zTs_4 h).trans (hq 5 (by omega)).symm) ((zTs_5 h).trans (hq 6 (by omega)).symm) ((zTs_6 h).trans (hq 7 (by omega)).symm) ((zTs_7 h).trans (hq 8 (by omega)).symm) ((zTs_8 h).trans (hq 9 (by omega)).symm) (zAr_g (zTs_9 h) (fun k hk => hq _ (by omega))) (zAr_g (zTs_10 h) (fun k hk => hq _ (by omega))) (show zAr b2 G 10 1 2 by rw [hG]; exact (zAr_u (zAr_k (zAr_k (zAr_k (zTs_11 h) (fun k hk => show 10 + 1 * k ≠ 3600 + 3 * Z by omega)) (fun k hk => show 10 + 1 * k ≠ 3601 + 3 * Z by omega)) (fun k hk => show 10 + 1 * k ≠ 3602 + 3 * Z by omega)) hb2 (show 10 + V = 10 + 1 * (V) by omega) (by decide) rfl)) (zAr_g (zTs_12 h) (fun k hk => hq _ (by omega))) (zAr_g (zTs_13 h) (fun k hk => hq _ (by omega))) (zAr_g (zTs_14 h) (fun k hk => hq _ (by omega))) (zAr_g (zTs_15 h) (fun k hk => hq _ (by omega))) (zAr_g (zTs_16 h) (fun k hk => hq _ (by omega))) (zAr_g (zTs_17 h) (fun k hk => hq _ (by omega))) (zAr_g (zTs_18 h) (fun k hk => hq _ (by omega))) (zAr_g (zTs_19 h) (fun k hk => hq _ (by omega))) (zAr_g (zTs_20 h) (fun k hk => hq _ (by omega))) (zAr_g (zTs_21 h) (fun k hk => hq _ (by omega))) (zAr_g (zTs_22 h) (fun k hk => hq _ (by omega))) (zAr_g (zTs_23 h) (fun k hk => hq _ (by omega))) (zAr_g (zTs_24 h) (fun k hk => hq _ (by omega))) (zAr_g (zTs_25 h) (fun k hk => hq _ (by omega))) (show zAr b17 G 3420 3 120 by rw [hG]; exact (zAr_k (zAr_k (zAr_k (zAr_u (zTs_26 h) hb17 (show 3600 + 3 * Z = 3420 + 3 * (60 * V + Z) by omega) (by decide) rfl) (fun k hk => show 3420 + 3 * k ≠ 3601 + 3 * Z by omega)) (fun k hk => show 3420 + 3 * k ≠ 3602 + 3 * Z by omega)) (fun k hk => show 3420 + 3 * k ≠ 10 + V by omega))) (show zAr b18 G 3421 3 120 by rw [hG]; exact (zAr_k (zAr_k (zAr_u (zAr_k (zTs_27 h) (fun k hk => show 3421 + 3 * k ≠ 3600 + 3 * Z by omega)) hb18 (show 3601 + 3 * Z = 3421 + 3 * (60 * V + Z) by omega) (by decide) rfl) (fun k hk => show 3421 + 3 * k ≠ 3602 + 3 * Z by omega)) (fun k hk => show 3421 + 3 * k ≠ 10 + V by omega))) (show zAr b19 G 3422 3 120 by rw [hG]; exact (zAr_k (zAr_u (zAr_k (zAr_k (zTs_28 h) (fun k hk => show 3422 + 3 * k ≠ 3600 + 3 * Z by omega)) (fun k hk => show 3422 + 3 * k ≠ 3601 + 3 * Z by omega)) hb19 (show 3602 + 3 * Z = 3422 + 3 * (60 * V + Z) by omega) (by decide) rfl) (fun k hk => show 3422 + 3 * k ≠ 10 + V by omega))) (zAr_g (zTs_29 h) (fun k hk => hq _ (by omega))) (zAr_g (zTs_30 h) (fun k hk => hq _ (by omega))) (zAr_g (zTs_31 h) (fun k hk => hq _ (by omega))) (zAr_g (zTs_32 h) (fun k hk => hq _ (by omega))) (zAr_g (zTs_33 h) (fun k hk => hq _ (by omega))) (zSh_g (zTs_34 h) (fun j h1 h2 => hq _ (by omega))) (zGo_g (zTs_35 h) (fun k hk => hq _ (by omega))) (zNu_g (zTs_36 h) (fun k hk => hq _ (by omega))) (zGr_g (zTs_37 h) (fun k hk => hq _ (by omega))) (zTs_38 h) (zTs_39 h) (zTs_40 h)
abbrev WX (k : Nat → ClassId) (hX : Nat) (u : zS) : va_W := [((u.2.1 0), .inl (k 0, 40, .inl (u.2.2.2.2.1 0))), ((u.2.1 1), .inl (k 0, 40, .inl (u.2.2.2.2.1 1))), ((u.2.1 2), .inl (k 0, 40, .inl (u.2.2.2.2.1 2))), ((u.2.1 3), .inl (k 0, 40, .inl (u.2.2.2.2.1 3))), ((u.2.1 4), .inl (k 0, 40, .inl (u.2.2.2.2.1 4))), ((u.2.1 5), .inl (k 0, 400, .inl (u.2.2.2.2.1 5))), ((u.2.1 6), .inl (k 0, 60, .inl (u.2.2.2.2.1 6))), ((u.2.1 7), .inl (k 0, 60, .inl (u.2.2.2.2.1 7))), ((u.2.1 8), .inl (k 0, 2, .inl (u.2.2.2.2.1 8))), ((u.2.1 9), .inl (k 0, 120, .inl (u.2.2.2.2.1 9))), ((u.2.1 10), .inl (k 0, 120, .inl (u.2.2.2.2.1 10))), ((u.2.1 11), .inl (k 0, 120, .inl (u.2.2.2.2.1 11))), ((u.2.1 12), .inr (6, [.int (u.2.2.1 0), .ref (u.2.1 0), .ref (u.2.1 1), .ref (u.2.1 2), .ref (u.2.1 3), .ref (u.2.1 4), .int (u.2.2.1 1), .ref (u.2.1 5), .int (u.2.2.1 2), .ref (u.2.1 6), .ref (u.2.1 7), .ref (u.2.1 8), .ref (u.2.1 9), .ref (u.2.1 10), .ref (u.2.1 11)])), ((u.2.1 13), .inl (k 0, 120, .inl (u.2.2.2.2.1 12))), ((u.2.1 14), .inl (k 0, 120, .inl (u.2.2.2.2.1 13))), ((u.2.1 15), .inl (k 0, 120, .inl (u.2.2.2.2.1 14))), ((u.2.1 16), .inl (k 0, 120, .inl (u.2.2.2.2.1 15))), ((u.2.1 17), .inl (k 0, 120, .inl (u.2.2.2.2.1 16))), ((u.2.1 18), .inr (8, [.int (u.2.2.1 3), .ref (u.2.1 13), .ref (u.2.1 14), .ref (u.2.1 15), .ref (u.2.1 16), .ref (u.2.1 17)])), ((u.2.1 19), .inl (k 0, 400, .inl (u.2.2.2.2.1 17))), ((u.2.1 20), .inl (k 0, 400, .inl (u.2.2.2.2.1 18))), ((u.2.1 21), .inl (k 0, 400, .inl (u.2.2.2.2.1 19))), ((u.2.1 22), .inl (k 0, 400, .inl (u.2.2.2.2.1 20))), ((u.2.1 23), .inl (k 0, 400, .inl (u.2.2.2.2.1 21))), ((u.2.1 24), .inl (k 0, 400, .inl (u.2.2.2.2.1 22))), ((u.2.1 25), .inl (k 0, 400, .inl (u.2.2.2.2.1 23))), ((u.2.1 26), .inl (k 0, 400, .inl (u.2.2.2.2.1 24))), ((u.2.1 27), .inl (k 0, 400, .inl (u.2.2.2.2.1 25))), ((u.2.1 28), .inl (k 0, 400, .inl (u.2.2.2.2.1 26))), ((u.2.1 29), .inl (k 0, 400, .inl (u.2.2.2.2.1 27))), ((u.2.1 30), .inl (k 0, 400, .inl (u.2.2.2.2.1 28))), ((u.2.1 31), .inr (5, [.int (u.2.2.1 4), .ref (u.2.1 19), .ref (u.2.1 20), .ref (u.2.1 21), .ref (u.2.1 22), .ref (u.2.1 23), .ref (u.2.1 24), .ref (u.2.1 25), .ref (u.2.1 26), .ref (u.2.1 27), .ref (u.2.1 28), .ref (u.2.1 29), .ref (u.2.1 30), .int (u.2.2.1 5), .int (u.2.2.1 6)])), ((u.2.1 32), .inl (k 3, 20, .inr (.inr (.inr (.inr (u.2.2.2.2.2.2 0)))))), ((u.2.1 33), .inl (k 0, 20, .inl (u.2.2.2.2.1 29))), ((u.2.1 34), .inr (0, [.int (u.2.2.1 7), .ref (u.2.1 32), .ref (u.2.1 33)])), ((u.2.1 35), .inl (k 0, 160, .inl (u.2.2.2.2.1 30))), ((u.2.1 36), .inl (k 0, 160, .inl (u.2.2.2.2.1 31))), ((u.2.1 37), .inl (k 0, 160, .inl (u.2.2.2.2.1 32))), ((u.2.1 38), .inr (9, [.ref (u.2.1 35), .ref (u.2.1 36), .ref (u.2.1 37)])), ((u.2.1 39), .inl (k 0, 6, .inl (u.2.2.2.2.1 33))), ((u.2.1 40), .inl (k 0, 6, .inl (u.2.2.2.2.1 34))), ((u.2.1 41), .inl (k 0, 6, .inl (u.2.2.2.2.1 35))), ((u.2.1 42), .inl (k 0, 9, .inl (u.2.2.2.2.1 36))), ((u.2.1 43), .inl (k 0, 9, .inl (u.2.2.2.2.1 37))), ((u.2.1 44), .inl (k 0, 9, .inl (u.2.2.2.2.1 38))), ((u.2.1 45), .inl (k 0, 12, .inl (u.2.2.2.2.1 39))), ((u.2.1 46), .inl (k 0, 12, .inl (u.2.2.2.2.1 40))), ((u.2.1 47), .inl (k 0, 12, .inl (u.2.2.2.2.1 41))), ((u.2.1 48), .inr (4, [.int (u.2.2.1 8), .ref (u.2.1 39), .int (u.2.2.1 9), .ref (u.2.1 40), .ref (u.2.1 41), .int (u.2.2.1 10), .ref (u.2.1 42), .ref (u.2.1 43), .ref (u.2.1 44), .int (u.2.2.1 11), .ref (u.2.1 45), .ref (u.2.1 46), .ref (u.2.1 47)])), ((u.2.1 49), .inr (3, [.ref (u.2.1 12), .ref (u.2.1 18), .ref (u.2.1 31), .ref (u.2.1 34), .ref (u.2.1 38), .ref (u.2.1 48)])), ((u.2.1 50), .inl (k 0, 400, .inl (u.2.2.2.2.1 42))), ((u.2.1 51), .inl (k 0, 12, .inl (u.2.2.2.2.1 43))), ((u.2.1 52), .inl (k 0, 12, .inl (u.2.2.2.2.1 44))), ((u.2.1 53), .inl (k 0, 25, .inl (u.2.2.2.2.1 45))), ((u.2.1 54), .inl (k 0, 400, .inl (u.2.2.2.2.1 46))), ((u.2.1 55), .inr (7, [.ref (u.2.1 50), .int (u.2.2.1 12), .int (u.2.2.1 13), .int (u.2.2.1 14), .ref (u.2.1 51), .ref (u.2.1 52), .ref (u.2.1 53), .ref (u.2.1 54), .int (u.2.2.1 15), .int (u.2.2.1 16), .int (u.2.2.1 17), .int (u.2.2.1 18), .int (u.2.2.1 19), .int (u.2.2.1 20), .long (u.2.2.2.1 0), .int (u.2.2.1 21)])), ((u.2.1 56), .inl (k 1, 51, .inr (.inl (u.2.2.2.2.2.1 0)))), ((u.2.1 57), .inl (k 0, 20, .inl (u.2.2.2.2.1 47))), ((u.2.1 58), .inl (k 0, 400, .inl (u.2.2.2.2.1 48))), ((u.2.1 59), .inl (k 0, 401, .inl (u.2.2.2.2.1 49))), ((u.2.1 60), .inl (k 0, 401, .inl (u.2.2.2.2.1 50))), ((u.2.1 61), .inl (k 0, 5, .inl (u.2.2.2.2.1 51))), ((u.2.1 62), .inl (k 0, 5, .inl (u.2.2.2.2.1 52))), ((u.2.1 63), .inr (1, [.ref (u.2.1 49), .ref (u.2.1 56), .ref (u.2.1 57), .ref (u.2.1 58), .ref (u.2.1 59), .ref (u.2.1 60), .ref (u.2.1 61), .ref (u.2.1 62), .int (u.2.2.1 22), .int (u.2.2.1 23), .int (u.2.2.1 24), .int (u.2.2.1 25), .int (u.2.2.1 26), .int (u.2.2.1 27), .int (u.2.2.1 28), .int (u.2.2.1 29), .int (u.2.2.1 30), .int (u.2.2.1 31), .int (u.2.2.1 32)])), ((u.2.1 64), .inl (k 0, 6, .inl (u.2.2.2.2.1 53))), ((u.2.1 65), .inl (k 0, 36, .inl (u.2.2.2.2.1 54))), ((u.2.1 66), .inl (k 0, 448, .inl (u.2.2.2.2.1 55))), ((u.2.1 67), .inl (k 0, 448, .inl (u.2.2.2.2.1 56))), ((u.2.1 68), .inl (k 0, 81, .inl (u.2.2.2.2.1 57))), ((u.2.1 69), .inl (k 0, 9, .inl (u.2.2.2.2.1 58))), ((u.2.1 70), .inl (k 0, 4608, .inl (u.2.2.2.2.1 59))), ((u.2.1 71), .inr (2, [.ref (u.2.1 12), .ref (u.2.1 48), .ref (u.2.1 64), .int (u.2.2.1 33), .int (u.2.2.1 34), .ref (u.2.1 65), .ref (u.2.1 66), .ref (u.2.1 67), .int (u.2.2.1 35), .int (u.2.2.1 36), .int (u.2.2.1 37), .ref (u.2.1 68), .ref (u.2.1 69), .ref (u.2.1 70)])), ((u.2.1 72), .inl (k 4, 2, .inr (.inr (.inr (.inr (u.2.2.2.2.2.2 1)))))), (hX, .inr (11, [.ref (u.2.1 49), .ref (u.2.1 72), .ref (u.2.1 55), .ref (u.2.1 63), .ref (u.2.1 71), .int (u.2.2.1 38)]))]
abbrev WM (k : Nat → ClassId) (hM : Nat) (u : zS) : va_W := [((u.2.1 0), .inl (k 0, 27101, .inl (u.2.2.2.2.1 0))), ((u.2.1 1), .inl (k 0, 54202, .inl (u.2.2.2.2.1 1))), ((u.2.1 2), .inl (k 2, 2, .inl (u.2.2.2.2.1 2))), ((u.2.1 3), .inl (k 2, 400, .inl (u.2.2.2.2.1 3))), ((u.2.1 4), .inl (k 0, 400, .inl (u.2.2.2.2.1 4))), ((u.2.1 5), .inl (k 0, 400, .inl (u.2.2.2.2.1 5))), ((u.2.1 6), .inl (k 0, 400, .inl (u.2.2.2.2.1 6))), ((u.2.1 7), .inl (k 0, 400, .inl (u.2.2.2.2.1 7))), ((u.2.1 8), .inl (k 0, 120, .inl (u.2.2.2.2.1 8))), ((u.2.1 9), .inl (k 0, 400, .inl (u.2.2.2.2.1 9))), ((u.2.1 10), .inl (k 0, 400, .inl (u.2.2.2.2.1 10))), ((u.2.1 11), .inl (k 0, 400, .inl (u.2.2.2.2.1 11))), ((u.2.1 12), .inl (k 0, 400, .inl (u.2.2.2.2.1 12))), ((u.2.1 13), .inl (k 2, 20, .inl (u.2.2.2.2.1 13))), ((u.2.1 14), .inl (k 2, 240, .inl (u.2.2.2.2.1 14))), ((u.2.1 15), .inl (k 1, 16, .inr (.inl (u.2.2.2.2.2.1 0)))), ((u.2.1 16), .inl (k 1, 400, .inr (.inl (u.2.2.2.2.2.1 1)))), ((u.2.1 17), .inl (k 0, 401, .inl (u.2.2.2.2.1 15))), ((u.2.1 18), .inl (k 0, 401, .inl (u.2.2.2.2.1 16))), ((u.2.1 19), .inl (k 0, 6, .inl (u.2.2.2.2.1 17))), ((u.2.1 20), .inl (k 0, 6, .inl (u.2.2.2.2.1 18))), ((u.2.1 21), .inl (k 0, 4608, .inl (u.2.2.2.2.1 19))), ((u.2.1 22), .inl (k 0, 5, .inl (u.2.2.2.2.1 20))), ((u.2.1 23), .inl (k 0, 5, .inl (u.2.2.2.2.1 21))), ((u.2.1 24), .inl (k 0, 400, .inl (u.2.2.2.2.1 22))), (hM, .inr (12, [.int (u.2.2.1 0), .int (u.2.2.1 1), .ref (u.2.1 0), .ref (u.2.1 1), .ref (u.2.1 2), .int (u.2.2.1 2), .ref (u.2.1 3), .ref (u.2.1 4), .ref (u.2.1 5), .ref (u.2.1 6), .ref (u.2.1 7), .int (u.2.2.1 3), .int (u.2.2.1 4), .int (u.2.2.1 5), .int (u.2.2.1 6), .long (u.2.2.2.1 0), .int (u.2.2.1 7), .int (u.2.2.1 8), .int (u.2.2.1 9), .ref (u.2.1 8), .int (u.2.2.1 10), .ref (u.2.1 9), .ref (u.2.1 10), .int (u.2.2.1 11), .ref (u.2.1 11), .ref (u.2.1 12), .int (u.2.2.1 12), .int (u.2.2.1 13), .ref (u.2.1 13), .ref (u.2.1 14), .ref (u.2.1 15), .ref (u.2.1 16), .int (u.2.2.1 14), .long (u.2.2.2.1 1), .long (u.2.2.2.1 2), .int (u.2.2.1 15), .int (u.2.2.1 16), .int (u.2.2.1 17), .int (u.2.2.1 18), .ref (u.2.1 17), .ref (u.2.1 18), .int (u.2.2.1 19), .int (u.2.2.1 20), .int (u.2.2.1 21), .int (u.2.2.1 22), .ref (u.2.1 19), .ref (u.2.1 20), .int (u.2.2.1 23), .int (u.2.2.1 24), .ref (u.2.1 21), .ref (u.2.1 22), .ref (u.2.1 23), .ref (u.2.1 24), .int (u.2.2.1 25), .int (u.2.2.1 26), .int (u.2.2.1 27)]))]
abbrev WI (k : Nat → ClassId) (u : zS) : va_W := [((u.2.1 0), .inl (k 0, 40, .inl (u.2.2.2.2.1 0))), ((u.2.1 1), .inl (k 0, 40, .inl (u.2.2.2.2.1 1))), ((u.2.1 2), .inl (k 0, 40, .inl (u.2.2.2.2.1 2))), ((u.2.1 3), .inl (k 0, 40, .inl (u.2.2.2.2.1 3))), ((u.2.1 4), .inl (k 0, 40, .inl (u.2.2.2.2.1 4))), ((u.2.1 5), .inl (k 0, 400, .inl (u.2.2.2.2.1 5))), ((u.2.1 6), .inl (k 0, 60, .inl (u.2.2.2.2.1 6))), ((u.2.1 7), .inl (k 0, 60, .inl (u.2.2.2.2.1 7))), ((u.2.1 8), .inl (k 0, 2, .inl (u.2.2.2.2.1 8))), ((u.2.1 9), .inl (k 0, 120, .inl (u.2.2.2.2.1 9))), ((u.2.1 10), .inl (k 0, 120, .inl (u.2.2.2.2.1 10))), ((u.2.1 11), .inl (k 0, 120, .inl (u.2.2.2.2.1 11))), ((u.2.1 12), .inr (6, [.int (u.2.2.1 0), .ref (u.2.1 0), .ref (u.2.1 1), .ref (u.2.1 2), .ref (u.2.1 3), .ref (u.2.1 4), .int (u.2.2.1 1), .ref (u.2.1 5), .int (u.2.2.1 2), .ref (u.2.1 6), .ref (u.2.1 7), .ref (u.2.1 8), .ref (u.2.1 9), .ref (u.2.1 10), .ref (u.2.1 11)])), ((u.2.1 13), .inl (k 0, 120, .inl (u.2.2.2.2.1 12))), ((u.2.1 14), .inl (k 0, 120, .inl (u.2.2.2.2.1 13))), ((u.2.1 15), .inl (k 0, 120, .inl (u.2.2.2.2.1 14))), ((u.2.1 16), .inl (k 0, 120, .inl (u.2.2.2.2.1 15))), ((u.2.1 17), .inl (k 0, 120, .inl (u.2.2.2.2.1 16))), ((u.2.1 18), .inr (8, [.int (u.2.2.1 3), .ref (u.2.1 13), .ref (u.2.1 14), .ref (u.2.1 15), .ref (u.2.1 16), .ref (u.2.1 17)])), ((u.2.1 19), .inl (k 0, 400, .inl (u.2.2.2.2.1 17))), ((u.2.1 20), .inl (k 0, 400, .inl (u.2.2.2.2.1 18))), ((u.2.1 21), .inl (k 0, 400, .inl (u.2.2.2.2.1 19))), ((u.2.1 22), .inl (k 0, 400, .inl (u.2.2.2.2.1 20))), ((u.2.1 23), .inl (k 0, 400, .inl (u.2.2.2.2.1 21))), ((u.2.1 24), .inl (k 0, 400, .inl (u.2.2.2.2.1 22))), ((u.2.1 25), .inl (k 0, 400, .inl (u.2.2.2.2.1 23))), ((u.2.1 26), .inl (k 0, 400, .inl (u.2.2.2.2.1 24))), ((u.2.1 27), .inl (k 0, 400, .inl (u.2.2.2.2.1 25))), ((u.2.1 28), .inl (k 0, 400, .inl (u.2.2.2.2.1 26))), ((u.2.1 29), .inl (k 0, 400, .inl (u.2.2.2.2.1 27))), ((u.2.1 30), .inl (k 0, 400, .inl (u.2.2.2.2.1 28))), ((u.2.1 31), .inr (5, [.int (u.2.2.1 4), .ref (u.2.1 19), .ref (u.2.1 20), .ref (u.2.1 21), .ref (u.2.1 22), .ref (u.2.1 23), .ref (u.2.1 24), .ref (u.2.1 25), .ref (u.2.1 26), .ref (u.2.1 27), .ref (u.2.1 28), .ref (u.2.1 29), .ref (u.2.1 30), .int (u.2.2.1 5), .int (u.2.2.1 6)])), ((u.2.1 32), .inl (k 3, 20, .inr (.inr (.inr (.inr (u.2.2.2.2.2.2 0)))))), ((u.2.1 33), .inl (k 0, 20, .inl (u.2.2.2.2.1 29))), ((u.2.1 34), .inr (0, [.int (u.2.2.1 7), .ref (u.2.1 32), .ref (u.2.1 33)])), ((u.2.1 35), .inl (k 0, 160, .inl (u.2.2.2.2.1 30))), ((u.2.1 36), .inl (k 0, 160, .inl (u.2.2.2.2.1 31))), ((u.2.1 37), .inl (k 0, 160, .inl (u.2.2.2.2.1 32))), ((u.2.1 38), .inr (9, [.ref (u.2.1 35), .ref (u.2.1 36), .ref (u.2.1 37)])), ((u.2.1 39), .inl (k 0, 6, .inl (u.2.2.2.2.1 33))), ((u.2.1 40), .inl (k 0, 6, .inl (u.2.2.2.2.1 34))), ((u.2.1 41), .inl (k 0, 6, .inl (u.2.2.2.2.1 35))), ((u.2.1 42), .inl (k 0, 9, .inl (u.2.2.2.2.1 36))), ((u.2.1 43), .inl (k 0, 9, .inl (u.2.2.2.2.1 37))), ((u.2.1 44), .inl (k 0, 9, .inl (u.2.2.2.2.1 38))), ((u.2.1 45), .inl (k 0, 12, .inl (u.2.2.2.2.1 39))), ((u.2.1 46), .inl (k 0, 12, .inl (u.2.2.2.2.1 40))), ((u.2.1 47), .inl (k 0, 12, .inl (u.2.2.2.2.1 41))), ((u.2.1 48), .inr (4, [.int (u.2.2.1 8), .ref (u.2.1 39), .int (u.2.2.1 9), .ref (u.2.1 40), .ref (u.2.1 41), .int (u.2.2.1 10), .ref (u.2.1 42), .ref (u.2.1 43), .ref (u.2.1 44), .int (u.2.2.1 11), .ref (u.2.1 45), .ref (u.2.1 46), .ref (u.2.1 47)])), ((u.2.1 49), .inr (3, [.ref (u.2.1 12), .ref (u.2.1 18), .ref (u.2.1 31), .ref (u.2.1 34), .ref (u.2.1 38), .ref (u.2.1 48)]))]
def LX (k : Nat → ClassId) (T : zTy) (u : zS) : Prop := zR (u.2.2.2.2.1 0) 0 18 ∧ zR (u.2.2.2.2.1 1) 0 1 ∧ zR (u.2.2.2.2.1 2) (-1) 7 ∧ zR (u.2.2.2.2.1 3) 0 99 ∧ zR (u.2.2.2.2.1 4) 0 99 ∧ zR (u.2.2.2.2.1 6) 0 7 ∧ zR (u.2.2.2.2.1 7) 0 799 ∧ zR (u.2.2.2.2.1 8) 0 60 ∧ zR (u.2.2.2.2.1 9) 0 39 ∧ zR (u.2.2.2.2.1 10) 0 399 ∧ zR (u.2.2.2.2.1 11) 0 399 ∧ (0 ≤ Int32.toInt (u.2.2.1 0) ∧ Int32.toInt (u.2.2.1 0) ≤ 40) ∧ (0 ≤ Int32.toInt (u.2.2.1 1) ∧ Int32.toInt (u.2.2.1 1) ≤ 5) ∧ (0 ≤ Int32.toInt (u.2.2.1 2) ∧ Int32.toInt (u.2.2.1 2) ≤ 60) ∧ zR (u.2.2.2.2.1 12) 0 39 ∧ zR (u.2.2.2.2.1 13) 0 4 ∧ zR (u.2.2.2.2.1 14) 0 399 ∧ zR (u.2.2.2.2.1 15) 0 400 ∧ zR (u.2.2.2.2.1 16) (-1) 4 ∧ (0 ≤ Int32.toInt (u.2.2.1 3) ∧ Int32.toInt (u.2.2.1 3) ≤ 120) ∧ zR (u.2.2.2.2.1 17) 0 4 ∧ zR (u.2.2.2.2.1 18) 0 39 ∧ zR (u.2.2.2.2.1 19) 0 799 ∧ zR (u.2.2.2.2.1 25) (-1) 399 ∧ (0 ≤ Int32.toInt (u.2.2.1 4) ∧ Int32.toInt (u.2.2.1 4) ≤ 400) ∧ zRo k T (u.2.2.2.2.2.2 0) ∧ (0 ≤ Int32.toInt (u.2.2.1 7) ∧ Int32.toInt (u.2.2.1 7) ≤ 20) ∧ zR (u.2.2.2.2.1 30) (-1) 399 ∧ zR (u.2.2.2.2.1 33) 0 99999999 ∧ zR (u.2.2.2.2.1 35) 0 99999999 ∧ zR (u.2.2.2.2.1 36) 0 39 ∧ zR (u.2.2.2.2.1 40) 0 1 ∧ (0 ≤ Int32.toInt (u.2.2.1 8) ∧ Int32.toInt (u.2.2.1 8) ≤ 6) ∧ (0 ≤ Int32.toInt (u.2.2.1 9) ∧ Int32.toInt (u.2.2.1 9) ≤ 6) ∧ (0 ≤ Int32.toInt (u.2.2.1 10) ∧ Int32.toInt (u.2.2.1 10) ≤ 9) ∧ (0 ≤ Int32.toInt (u.2.2.1 11) ∧ Int32.toInt (u.2.2.1 11) ≤ 12) ∧ zR (u.2.2.2.2.1 42) 0 255 ∧ zR (u.2.2.2.2.1 44) 0 400 ∧ zR (u.2.2.2.2.1 45) 0 400 ∧ (0 ≤ Int32.toInt (u.2.2.1 12) ∧ Int32.toInt (u.2.2.1 12) ≤ 400) ∧ (0 ≤ Int32.toInt (u.2.2.1 14) ∧ Int32.toInt (u.2.2.1 14) ≤ 12) ∧ (0 ≤ Int32.toInt (u.2.2.1 15) ∧ Int32.toInt (u.2.2.1 15) ≤ 400) ∧ (0 ≤ Int32.toInt (u.2.2.1 16) ∧ Int32.toInt (u.2.2.1 16) ≤ 50) ∧ (0 ≤ Int32.toInt (u.2.2.1 18) ∧ Int32.toInt (u.2.2.1 18) ≤ 400) ∧ (0 ≤ Int32.toInt (u.2.2.1 19) ∧ Int32.toInt (u.2.2.1 19) ≤ 400) ∧ (0 ≤ Int32.toInt (u.2.2.1 20) ∧ Int32.toInt (u.2.2.1 20) ≤ 10001) ∧ (0 ≤ Int32.toInt (u.2.2.1 22) ∧ Int32.toInt (u.2.2.1 22) ≤ 39) ∧ (0 ≤ Int32.toInt (u.2.2.1 23) ∧ Int32.toInt (u.2.2.1 23) ≤ 799) ∧ (0 ≤ Int32.toInt (u.2.2.1 26) ∧ Int32.toInt (u.2.2.1 26) ≤ 1) ∧ (0 ≤ Int32.toInt (u.2.2.1 32) ∧ Int32.toInt (u.2.2.1 32) ≤ 400) ∧ zR (u.2.2.2.2.1 53) (-1) 5 ∧ (0 ≤ Int32.toInt (u.2.2.1 33) ∧ Int32.toInt (u.2.2.1 33) ≤ 6)
def LM (u : zS) : Prop := zRw (u.2.2.2.2.1 0) ∧ zRi (u.2.2.2.2.1 1) ∧ zR (u.2.2.2.2.1 7) 0 255 ∧ zR (u.2.2.2.2.1 11) 0 31 ∧ zR (u.2.2.2.2.1 12) 0 399 ∧ zR (u.2.2.2.2.1 18) (-1) 6 ∧ (0 ≤ Int32.toInt (u.2.2.1 3) ∧ Int32.toInt (u.2.2.1 3) ≤ 400) ∧ (0 ≤ Int32.toInt (u.2.2.1 4) ∧ Int32.toInt (u.2.2.1 4) ≤ 400) ∧ (0 ≤ Int32.toInt (u.2.2.1 5) ∧ Int32.toInt (u.2.2.1 5) ≤ 400) ∧ (0 ≤ Int32.toInt (u.2.2.1 6) ∧ Int32.toInt (u.2.2.1 6) ≤ 3) ∧ (0 ≤ Int32.toInt (u.2.2.1 8) ∧ Int32.toInt (u.2.2.1 8) ≤ 1) ∧ (0 ≤ Int32.toInt (u.2.2.1 9) ∧ Int32.toInt (u.2.2.1 9) ≤ 12) ∧ (0 ≤ Int32.toInt (u.2.2.1 10) ∧ Int32.toInt (u.2.2.1 10) ≤ 400) ∧ (0 ≤ Int32.toInt (u.2.2.1 11) ∧ Int32.toInt (u.2.2.1 11) ≤ 50) ∧ (0 ≤ Int32.toInt (u.2.2.1 12) ∧ Int32.toInt (u.2.2.1 12) ≤ 400) ∧ (0 ≤ Int32.toInt (u.2.2.1 14) ∧ Int32.toInt (u.2.2.1 14) ≤ 1) ∧ (0 ≤ Int32.toInt (u.2.2.1 15) ∧ Int32.toInt (u.2.2.1 15) ≤ 400) ∧ (0 ≤ Int32.toInt (u.2.2.1 17) ∧ Int32.toInt (u.2.2.1 17) ≤ 400) ∧ (0 ≤ Int32.toInt (u.2.2.1 18) ∧ Int32.toInt (u.2.2.1 18) ≤ 400) ∧ (0 ≤ Int32.toInt (u.2.2.1 20) ∧ Int32.toInt (u.2.2.1 20) ≤ 1) ∧ (0 ≤ Int32.toInt (u.2.2.1 21) ∧ Int32.toInt (u.2.2.1 21) ≤ 6)
def LI (k : Nat → ClassId) (T : zTy) (u : zS) : Prop := zR (u.2.2.2.2.1 0) 0 18 ∧ zR (u.2.2.2.2.1 1) 0 1 ∧ zR (u.2.2.2.2.1 2) (-1) 7 ∧ zR (u.2.2.2.2.1 3) 0 99 ∧ zR (u.2.2.2.2.1 4) 0 99 ∧ zR (u.2.2.2.2.1 6) 0 7 ∧ zR (u.2.2.2.2.1 7) 0 799 ∧ zR (u.2.2.2.2.1 8) 0 60 ∧ zR (u.2.2.2.2.1 9) 0 39 ∧ zR (u.2.2.2.2.1 10) 0 399 ∧ zR (u.2.2.2.2.1 11) 0 399 ∧ (0 ≤ Int32.toInt (u.2.2.1 0) ∧ Int32.toInt (u.2.2.1 0) ≤ 40) ∧ (0 ≤ Int32.toInt (u.2.2.1 1) ∧ Int32.toInt (u.2.2.1 1) ≤ 5) ∧ (0 ≤ Int32.toInt (u.2.2.1 2) ∧ Int32.toInt (u.2.2.1 2) ≤ 60) ∧ zR (u.2.2.2.2.1 12) 0 39 ∧ zR (u.2.2.2.2.1 13) 0 4 ∧ zR (u.2.2.2.2.1 14) 0 399 ∧ zR (u.2.2.2.2.1 15) 0 400 ∧ zR (u.2.2.2.2.1 16) (-1) 4 ∧ (0 ≤ Int32.toInt (u.2.2.1 3) ∧ Int32.toInt (u.2.2.1 3) ≤ 120) ∧ zR (u.2.2.2.2.1 17) 0 4 ∧ zR (u.2.2.2.2.1 18) 0 39 ∧ zR (u.2.2.2.2.1 19) 0 799 ∧ zR (u.2.2.2.2.1 25) (-1) 399 ∧ (0 ≤ Int32.toInt (u.2.2.1 4) ∧ Int32.toInt (u.2.2.1 4) ≤ 400) ∧ zRo k T (u.2.2.2.2.2.2 0) ∧ (0 ≤ Int32.toInt (u.2.2.1 7) ∧ Int32.toInt (u.2.2.1 7) ≤ 20) ∧ zR (u.2.2.2.2.1 30) (-1) 399 ∧ zR (u.2.2.2.2.1 33) 0 99999999 ∧ zR (u.2.2.2.2.1 35) 0 99999999 ∧ zR (u.2.2.2.2.1 36) 0 39 ∧ zR (u.2.2.2.2.1 40) 0 1 ∧ (0 ≤ Int32.toInt (u.2.2.1 8) ∧ Int32.toInt (u.2.2.1 8) ≤ 6) ∧ (0 ≤ Int32.toInt (u.2.2.1 9) ∧ Int32.toInt (u.2.2.1 9) ≤ 6) ∧ (0 ≤ Int32.toInt (u.2.2.1 10) ∧ Int32.toInt (u.2.2.1 10) ≤ 9) ∧ (0 ≤ Int32.toInt (u.2.2.1 11) ∧ Int32.toInt (u.2.2.1 11) ≤ 12)
abbrev zTwX (u : zS) (F : Nat → Int32) : Prop := zTs (u.2.2.1 0) (u.2.2.1 1) (u.2.2.1 3) (u.2.2.1 4) (u.2.2.1 8) (u.2.2.1 9) (u.2.2.1 10) (u.2.2.1 11) (u.2.2.1 2) (u.2.2.2.2.1 6) (u.2.2.2.2.1 7) (u.2.2.2.2.1 8) (u.2.2.2.2.1 34) (u.2.2.2.2.1 39) (u.2.2.2.2.1 12) (u.2.2.2.2.1 13) (u.2.2.2.2.1 14) (u.2.2.2.2.1 16) (u.2.2.2.2.1 17) (u.2.2.2.2.1 18) (u.2.2.2.2.1 19) (u.2.2.2.2.1 33) (u.2.2.2.2.1 35) (u.2.2.2.2.1 40) (u.2.2.2.2.1 41) (u.2.2.2.2.1 0) (u.2.2.2.2.1 9) (u.2.2.2.2.1 10) (u.2.2.2.2.1 11) (u.2.2.2.2.1 36) (u.2.2.2.2.1 37) (u.2.2.2.2.1 38) (u.2.2.2.2.1 3) (u.2.2.2.2.1 4) (u.2.2.2.2.1 5) (u.2.2.2.2.1 15) (u.2.2.2.2.1 20) (u.2.2.2.2.1 21) (u.2.2.2.2.1 24) F
abbrev zTwA (u : zS) (F : Nat → Int32) : Prop := zTs (u.2.2.1 0) (u.2.2.1 1) (u.2.2.1 3) (u.2.2.1 4) (u.2.2.1 8) (u.2.2.1 9) (u.2.2.1 10) (u.2.2.1 11) (u.2.2.1 2) (u.2.2.2.2.1 6) (u.2.2.2.2.1 7) (u.2.2.2.2.1 8) (u.2.2.2.2.1 34) (u.2.2.2.2.1 39) (u.2.2.2.2.1 12) (u.2.2.2.2.1 13) (u.2.2.2.2.1 14) (u.2.2.2.2.1 16) (u.2.2.2.2.1 17) (u.2.2.2.2.1 18) (u.2.2.2.2.1 19) (u.2.2.2.2.1 33) (u.2.2.2.2.1 35) (u.2.2.2.2.1 40) (u.2.2.2.2.1 41) (u.2.2.2.2.1 0) (u.2.2.2.2.1 9) (u.2.2.2.2.1 10) (u.2.2.2.2.1 11) (u.2.2.2.2.1 36) (u.2.2.2.2.1 37) (u.2.2.2.2.1 38) (u.2.2.2.2.1 3) (u.2.2.2.2.1 4) (u.2.2.2.2.1 5) (u.2.2.2.2.1 15) (u.2.2.2.2.1 20) (u.2.2.2.2.1 21) (u.2.2.2.2.1 24) F
theorem zIn_at {G0 F G : Nat → Int32} {k : Int32} (b kk n : Nat) (hb : b = 27101 * kk) (hk : Int32.toInt k = (kk : Int)) (hn : n < 27101) (h : zIn G0 F k 27101 G) : G (b + n) = F n := by
  have c := z_cl (x := k) (by omega)
  have e : Int32.toInt (27101 : Int32) = 27101 := by decide
  rw [h (b + n), if_pos (by omega)]
  congr 1
  omega
theorem zIn_ne {G0 F G : Nat → Int32} {k : Int32} (b kk n : Nat) (hb : b = 0 ∨ b = 27101) (hbk : b ≠ 27101 * kk) (hkk : kk ≤ 1) (hk : Int32.toInt k = (kk : Int)) (hn : n < 27101) (h : zIn G0 F k 27101 G) : G (b + n) = G0 (b + n) := by
  have e : Int32.toInt (27101 : Int32) = 27101 := by decide
  rw [h (b + n), if_neg (by omega)]
theorem zBn_at {F0 G F : Nat → Int32} {k : Int32} (b kk n : Nat) (hb : b = 27101 * kk) (hk : Int32.toInt k = (kk : Int)) (hn : n < 27101) (h : zBn F0 G k 27101 F) : F n = G (b + n) := by
  have c := z_cl (x := k) (by omega)
  have e : Int32.toInt (27101 : Int32) = 27101 := by decide
  rw [h n, if_pos (by omega)]
  congr 1
  omega
def zIm (k : Nat → ClassId) (T : zTy) (o : Nat → Option Nat) (Z : va_W) (G : Nat → Int32) : Prop := ∃ (P : va_W) (uA uB : zS), (∀ pw : va_W, T.1 pw → ∀ q : Nat × va_E, q ∈ pw → q ∈ P) ∧ (((o 0 = none ∧ o 1 = none) ∧ Z = P) ∨ ((o 0 = some (uA.2.1 49) ∧ o 1 = none) ∧ LI k T uA ∧ zTwA uA (fun n => G (0 + n)) ∧ Z = WI k uA ++ P) ∨ ((o 0 = none ∧ o 1 = some (uB.2.1 49)) ∧ LI k T uB ∧ zTwA uB (fun n => G (27101 + n)) ∧ Z = WI k uB ++ P) ∨ ((o 0 = some (uA.2.1 49) ∧ o 1 = some (uB.2.1 49)) ∧ LI k T uA ∧ LI k T uB ∧ zTwA uA (fun n => G (0 + n)) ∧ zTwA uB (fun n => G (27101 + n)) ∧ Z = WI k uA ++ (WI k uB ++ P)))
theorem z_mvP {D : va_G} {cl : List vw_C} {a b c : va_W} {H : Heap} (h : va_P D cl (a ++ (b ++ c)) H) : va_P D cl (b ++ (a ++ c)) H := by
  have h1 : va_P D cl (([] ++ a) ++ (b ++ c)) H := h
  have h2 : va_P D cl (([] ++ (b ++ c)) ++ a) H := va_P.swap h1
  have h3 : va_P D cl ((b ++ c) ++ a) H := h2
  exact z_saP (va_P.swap h3)
theorem z_mvD {A : Nat → Prop} {a b c : va_W} (h : va_D A (a ++ (b ++ c))) : va_D A (b ++ (a ++ c)) := by
  have h1 : va_D A (([] ++ a) ++ (b ++ c)) := h
  have h2 : va_D A (([] ++ (b ++ c)) ++ a) := va_D.swap h1
  have h3 : va_D A ((b ++ c) ++ a) := h2
  exact z_saD (va_D.swap h3)
theorem z_rP {D : va_G} {cl : List vw_C} {a b c d : va_W} {H : Heap} (h : va_P D cl (a ++ (b ++ (c ++ d))) H) : va_P D cl (a ++ ((b ++ c) ++ d)) H := by rw [List.append_assoc b c d]; exact h
theorem z_cP {D : va_G} {cl : List vw_C} {a b c d : va_W} {H : Heap} (h : va_P D cl (a ++ ((b ++ c) ++ d)) H) : va_P D cl (a ++ (b ++ (c ++ d))) H := by rw [List.append_assoc b c d] at h; exact h
theorem z_cD {A : Nat → Prop} {a b c d : va_W} (h : va_D A (a ++ ((b ++ c) ++ d))) : va_D A (a ++ (b ++ (c ++ d))) := by rw [List.append_assoc b c d] at h; exact h
theorem z_rD {A : Nat → Prop} {a b c d : va_W} (h : va_D A (a ++ (b ++ (c ++ d)))) : va_D A (a ++ ((b ++ c) ++ d)) := by rw [List.append_assoc b c d]; exact h
theorem z_qP {D : va_G} {cl : List vw_C} {a b c d : va_W} {H : Heap} (h : va_P D cl (a ++ ((b ++ c) ++ d)) H) : va_P D cl (a ++ (b ++ (c ++ d))) H := by rw [List.append_assoc b c d] at h; exact h
theorem z_qD {A : Nat → Prop} {a b c d : va_W} (h : va_D A (a ++ ((b ++ c) ++ d))) : va_D A (a ++ (b ++ (c ++ d))) := by rw [List.append_assoc b c d] at h; exact h
def zU {α : Type} (f : Nat → α) (i : Nat) (v : α) : Nat → α := fun j => cond (Nat.beq j i) v (f j)
def zKp (o : Nat → Option Nat) (f : Nat → Int32) : Prop := (o 0 = none ↔ f 0 = 0) ∧ (o 1 = none ↔ f 1 = 0)
theorem zKp_at {f : Nat → Int32} {k : Int32} (j : Nat) (hk : Int32.toInt k = (j : Int)) : f (Int32.toNatClampNeg k) = f j := by
  have h := z_cl (x := k) (by omega)
  rw [show Int32.toNatClampNeg k = j by omega]
theorem zKp_s {f g : Nat → Int32} {k : Int32} (j : Nat) (hk : Int32.toInt k = (j : Int)) (e : g = upd f (Int32.toNatClampNeg k) (vp_nar .boolean 1)) : g j ≠ 0 := by
  have h := z_cl (x := k) (by omega)
  rw [e, show j = Int32.toNatClampNeg k by omega, pk_us]
  decide
theorem zKp_u {f g : Nat → Int32} {k : Int32} (j : Nat) (h : f j ≠ 0) (e : g = upd f (Int32.toNatClampNeg k) (vp_nar .boolean 1)) : g j ≠ 0 := by
  rw [e]
  by_cases q : j = Int32.toNatClampNeg k
  · rw [q, pk_us]; decide
  · rw [pk_un q]; exact h
theorem zKp_n {f g : Nat → Int32} {k : Int32} (j : Nat) (hk : 0 ≤ Int32.toInt k ∧ Int32.toInt k ≠ (j : Int)) (h : f j = 0) (e : g = upd f (Int32.toNatClampNeg k) (vp_nar .boolean 1)) : g j = 0 := by
  have h1 := z_cl hk.1
  rw [e, pk_un (by omega)]
  exact h
theorem zKp_p {o : Nat → Option Nat} {f : Nat → Int32} {j a : Nat} (h : o j = some a) (hn : f j ≠ 0) : o j = none ↔ f j = 0 := ⟨fun q => (by rw [h] at q; cases q), fun q => absurd q hn⟩
theorem zKp_a {o : Nat → Option Nat} {f : Nat → Int32} {j : Nat} (h : o j = none) (h0 : f j = 0) : o j = none ↔ f j = 0 := ⟨fun _ => h0, fun _ => h⟩
theorem zKp_ne {o : Nat → Option Nat} {f : Nat → Int32} {j a : Nat} (h : o j = none ↔ f j = 0) (e : o j = some a) : f j ≠ 0 := fun q => by rw [h.mpr q] at e; cases e
abbrev zJX (uX uM : zS) : Prop := zJn (uX.2.2.1 34) (uX.2.2.1 33) (uX.2.2.2.2.1 53) (uM.2.2.1 20) (uM.2.2.1 21) (uM.2.2.1 22) (uM.2.2.2.2.1 17)
def zI (k : Nat → ClassId) (tb : Nat → Nat) (T : zTy) (Z : va_W) (uX uM : zS) : Prop := T.2 = tb ∧ LX k T uX ∧ LM uM ∧ zKp (uX.2.2.2.2.2.2 1) (uM.2.2.2.2.1 2) ∧ zTwX uX (uM.2.2.2.2.1 0) ∧ zJX uX uM ∧ zIm k T (uX.2.2.2.2.2.2 1) Z (uM.2.2.2.2.1 1)
theorem LXp_0 {k : Nat → ClassId} {T : zTy} {u : zS} (h : LX k T u) : zR (u.2.2.2.2.1 0) 0 18 := h.1
theorem LXp_1 {k : Nat → ClassId} {T : zTy} {u : zS} (h : LX k T u) : zR (u.2.2.2.2.1 1) 0 1 := h.2.1
theorem LXp_2 {k : Nat → ClassId} {T : zTy} {u : zS} (h : LX k T u) : zR (u.2.2.2.2.1 2) (-1) 7 := h.2.2.1
theorem LXp_3 {k : Nat → ClassId} {T : zTy} {u : zS} (h : LX k T u) : zR (u.2.2.2.2.1 3) 0 99 := h.2.2.2.1
theorem LXp_4 {k : Nat → ClassId} {T : zTy} {u : zS} (h : LX k T u) : zR (u.2.2.2.2.1 4) 0 99 := h.2.2.2.2.1
theorem LXp_5 {k : Nat → ClassId} {T : zTy} {u : zS} (h : LX k T u) : zR (u.2.2.2.2.1 6) 0 7 := h.2.2.2.2.2.1
theorem LXp_6 {k : Nat → ClassId} {T : zTy} {u : zS} (h : LX k T u) : zR (u.2.2.2.2.1 7) 0 799 := h.2.2.2.2.2.2.1
theorem LXp_7 {k : Nat → ClassId} {T : zTy} {u : zS} (h : LX k T u) : zR (u.2.2.2.2.1 8) 0 60 := h.2.2.2.2.2.2.2.1
theorem LXp_8 {k : Nat → ClassId} {T : zTy} {u : zS} (h : LX k T u) : zR (u.2.2.2.2.1 9) 0 39 := h.2.2.2.2.2.2.2.2.1
theorem LXp_9 {k : Nat → ClassId} {T : zTy} {u : zS} (h : LX k T u) : zR (u.2.2.2.2.1 10) 0 399 := h.2.2.2.2.2.2.2.2.2.1
theorem LXp_10 {k : Nat → ClassId} {T : zTy} {u : zS} (h : LX k T u) : zR (u.2.2.2.2.1 11) 0 399 := h.2.2.2.2.2.2.2.2.2.2.1
theorem LXp_11 {k : Nat → ClassId} {T : zTy} {u : zS} (h : LX k T u) : (0 ≤ Int32.toInt (u.2.2.1 0) ∧ Int32.toInt (u.2.2.1 0) ≤ 40) := h.2.2.2.2.2.2.2.2.2.2.2.1
theorem LXp_12 {k : Nat → ClassId} {T : zTy} {u : zS} (h : LX k T u) : (0 ≤ Int32.toInt (u.2.2.1 1) ∧ Int32.toInt (u.2.2.1 1) ≤ 5) := h.2.2.2.2.2.2.2.2.2.2.2.2.1
theorem LXp_13 {k : Nat → ClassId} {T : zTy} {u : zS} (h : LX k T u) : (0 ≤ Int32.toInt (u.2.2.1 2) ∧ Int32.toInt (u.2.2.1 2) ≤ 60) := h.2.2.2.2.2.2.2.2.2.2.2.2.2.1
theorem LXp_14 {k : Nat → ClassId} {T : zTy} {u : zS} (h : LX k T u) : zR (u.2.2.2.2.1 12) 0 39 := h.2.2.2.2.2.2.2.2.2.2.2.2.2.2.1
theorem LXp_15 {k : Nat → ClassId} {T : zTy} {u : zS} (h : LX k T u) : zR (u.2.2.2.2.1 13) 0 4 := h.2.2.2.2.2.2.2.2.2.2.2.2.2.2.2.1
theorem LXp_16 {k : Nat → ClassId} {T : zTy} {u : zS} (h : LX k T u) : zR (u.2.2.2.2.1 14) 0 399 := h.2.2.2.2.2.2.2.2.2.2.2.2.2.2.2.2.1
theorem LXp_17 {k : Nat → ClassId} {T : zTy} {u : zS} (h : LX k T u) : zR (u.2.2.2.2.1 15) 0 400 := h.2.2.2.2.2.2.2.2.2.2.2.2.2.2.2.2.2.1
theorem LXp_18 {k : Nat → ClassId} {T : zTy} {u : zS} (h : LX k T u) : zR (u.2.2.2.2.1 16) (-1) 4 := h.2.2.2.2.2.2.2.2.2.2.2.2.2.2.2.2.2.2.1
theorem LXp_19 {k : Nat → ClassId} {T : zTy} {u : zS} (h : LX k T u) : (0 ≤ Int32.toInt (u.2.2.1 3) ∧ Int32.toInt (u.2.2.1 3) ≤ 120) := h.2.2.2.2.2.2.2.2.2.2.2.2.2.2.2.2.2.2.2.1
theorem LXp_20 {k : Nat → ClassId} {T : zTy} {u : zS} (h : LX k T u) : zR (u.2.2.2.2.1 17) 0 4 := h.2.2.2.2.2.2.2.2.2.2.2.2.2.2.2.2.2.2.2.2.1
theorem LXp_21 {k : Nat → ClassId} {T : zTy} {u : zS} (h : LX k T u) : zR (u.2.2.2.2.1 18) 0 39 := h.2.2.2.2.2.2.2.2.2.2.2.2.2.2.2.2.2.2.2.2.2.1
theorem LXp_22 {k : Nat → ClassId} {T : zTy} {u : zS} (h : LX k T u) : zR (u.2.2.2.2.1 19) 0 799 := h.2.2.2.2.2.2.2.2.2.2.2.2.2.2.2.2.2.2.2.2.2.2.1
theorem LXp_23 {k : Nat → ClassId} {T : zTy} {u : zS} (h : LX k T u) : zR (u.2.2.2.2.1 25) (-1) 399 := h.2.2.2.2.2.2.2.2.2.2.2.2.2.2.2.2.2.2.2.2.2.2.2.1
theorem LXp_24 {k : Nat → ClassId} {T : zTy} {u : zS} (h : LX k T u) : (0 ≤ Int32.toInt (u.2.2.1 4) ∧ Int32.toInt (u.2.2.1 4) ≤ 400) := h.2.2.2.2.2.2.2.2.2.2.2.2.2.2.2.2.2.2.2.2.2.2.2.2.1
theorem LXp_25 {k : Nat → ClassId} {T : zTy} {u : zS} (h : LX k T u) : zRo k T (u.2.2.2.2.2.2 0) := h.2.2.2.2.2.2.2.2.2.2.2.2.2.2.2.2.2.2.2.2.2.2.2.2.2.1
theorem LXp_26 {k : Nat → ClassId} {T : zTy} {u : zS} (h : LX k T u) : (0 ≤ Int32.toInt (u.2.2.1 7) ∧ Int32.toInt (u.2.2.1 7) ≤ 20) := h.2.2.2.2.2.2.2.2.2.2.2.2.2.2.2.2.2.2.2.2.2.2.2.2.2.2.1
theorem LXp_27 {k : Nat → ClassId} {T : zTy} {u : zS} (h : LX k T u) : zR (u.2.2.2.2.1 30) (-1) 399 := h.2.2.2.2.2.2.2.2.2.2.2.2.2.2.2.2.2.2.2.2.2.2.2.2.2.2.2.1
theorem LXp_28 {k : Nat → ClassId} {T : zTy} {u : zS} (h : LX k T u) : zR (u.2.2.2.2.1 33) 0 99999999 := h.2.2.2.2.2.2.2.2.2.2.2.2.2.2.2.2.2.2.2.2.2.2.2.2.2.2.2.2.1
theorem LXp_29 {k : Nat → ClassId} {T : zTy} {u : zS} (h : LX k T u) : zR (u.2.2.2.2.1 35) 0 99999999 := h.2.2.2.2.2.2.2.2.2.2.2.2.2.2.2.2.2.2.2.2.2.2.2.2.2.2.2.2.2.1
theorem LXp_30 {k : Nat → ClassId} {T : zTy} {u : zS} (h : LX k T u) : zR (u.2.2.2.2.1 36) 0 39 := h.2.2.2.2.2.2.2.2.2.2.2.2.2.2.2.2.2.2.2.2.2.2.2.2.2.2.2.2.2.2.1
theorem LXp_31 {k : Nat → ClassId} {T : zTy} {u : zS} (h : LX k T u) : zR (u.2.2.2.2.1 40) 0 1 := h.2.2.2.2.2.2.2.2.2.2.2.2.2.2.2.2.2.2.2.2.2.2.2.2.2.2.2.2.2.2.2.1
theorem LXp_32 {k : Nat → ClassId} {T : zTy} {u : zS} (h : LX k T u) : (0 ≤ Int32.toInt (u.2.2.1 8) ∧ Int32.toInt (u.2.2.1 8) ≤ 6) := h.2.2.2.2.2.2.2.2.2.2.2.2.2.2.2.2.2.2.2.2.2.2.2.2.2.2.2.2.2.2.2.2.1
theorem LXp_33 {k : Nat → ClassId} {T : zTy} {u : zS} (h : LX k T u) : (0 ≤ Int32.toInt (u.2.2.1 9) ∧ Int32.toInt (u.2.2.1 9) ≤ 6) := h.2.2.2.2.2.2.2.2.2.2.2.2.2.2.2.2.2.2.2.2.2.2.2.2.2.2.2.2.2.2.2.2.2.1
theorem LXp_34 {k : Nat → ClassId} {T : zTy} {u : zS} (h : LX k T u) : (0 ≤ Int32.toInt (u.2.2.1 10) ∧ Int32.toInt (u.2.2.1 10) ≤ 9) := h.2.2.2.2.2.2.2.2.2.2.2.2.2.2.2.2.2.2.2.2.2.2.2.2.2.2.2.2.2.2.2.2.2.2.1
theorem LXp_35 {k : Nat → ClassId} {T : zTy} {u : zS} (h : LX k T u) : (0 ≤ Int32.toInt (u.2.2.1 11) ∧ Int32.toInt (u.2.2.1 11) ≤ 12) := h.2.2.2.2.2.2.2.2.2.2.2.2.2.2.2.2.2.2.2.2.2.2.2.2.2.2.2.2.2.2.2.2.2.2.2.1
theorem LXp_36 {k : Nat → ClassId} {T : zTy} {u : zS} (h : LX k T u) : zR (u.2.2.2.2.1 42) 0 255 := h.2.2.2.2.2.2.2.2.2.2.2.2.2.2.2.2.2.2.2.2.2.2.2.2.2.2.2.2.2.2.2.2.2.2.2.2.1
theorem LXp_37 {k : Nat → ClassId} {T : zTy} {u : zS} (h : LX k T u) : zR (u.2.2.2.2.1 44) 0 400 := h.2.2.2.2.2.2.2.2.2.2.2.2.2.2.2.2.2.2.2.2.2.2.2.2.2.2.2.2.2.2.2.2.2.2.2.2.2.1
theorem LXp_38 {k : Nat → ClassId} {T : zTy} {u : zS} (h : LX k T u) : zR (u.2.2.2.2.1 45) 0 400 := h.2.2.2.2.2.2.2.2.2.2.2.2.2.2.2.2.2.2.2.2.2.2.2.2.2.2.2.2.2.2.2.2.2.2.2.2.2.2.1
theorem LXp_39 {k : Nat → ClassId} {T : zTy} {u : zS} (h : LX k T u) : (0 ≤ Int32.toInt (u.2.2.1 12) ∧ Int32.toInt (u.2.2.1 12) ≤ 400) := h.2.2.2.2.2.2.2.2.2.2.2.2.2.2.2.2.2.2.2.2.2.2.2.2.2.2.2.2.2.2.2.2.2.2.2.2.2.2.2.1
theorem LXp_40 {k : Nat → ClassId} {T : zTy} {u : zS} (h : LX k T u) : (0 ≤ Int32.toInt (u.2.2.1 14) ∧ Int32.toInt (u.2.2.1 14) ≤ 12) := h.2.2.2.2.2.2.2.2.2.2.2.2.2.2.2.2.2.2.2.2.2.2.2.2.2.2.2.2.2.2.2.2.2.2.2.2.2.2.2.2.1
theorem LXp_41 {k : Nat → ClassId} {T : zTy} {u : zS} (h : LX k T u) : (0 ≤ Int32.toInt (u.2.2.1 15) ∧ Int32.toInt (u.2.2.1 15) ≤ 400) := h.2.2.2.2.2.2.2.2.2.2.2.2.2.2.2.2.2.2.2.2.2.2.2.2.2.2.2.2.2.2.2.2.2.2.2.2.2.2.2.2.2.1
theorem LXp_42 {k : Nat → ClassId} {T : zTy} {u : zS} (h : LX k T u) : (0 ≤ Int32.toInt (u.2.2.1 16) ∧ Int32.toInt (u.2.2.1 16) ≤ 50) := h.2.2.2.2.2.2.2.2.2.2.2.2.2.2.2.2.2.2.2.2.2.2.2.2.2.2.2.2.2.2.2.2.2.2.2.2.2.2.2.2.2.2.1
theorem LXp_43 {k : Nat → ClassId} {T : zTy} {u : zS} (h : LX k T u) : (0 ≤ Int32.toInt (u.2.2.1 18) ∧ Int32.toInt (u.2.2.1 18) ≤ 400) := h.2.2.2.2.2.2.2.2.2.2.2.2.2.2.2.2.2.2.2.2.2.2.2.2.2.2.2.2.2.2.2.2.2.2.2.2.2.2.2.2.2.2.2.1
theorem LXp_44 {k : Nat → ClassId} {T : zTy} {u : zS} (h : LX k T u) : (0 ≤ Int32.toInt (u.2.2.1 19) ∧ Int32.toInt (u.2.2.1 19) ≤ 400) := h.2.2.2.2.2.2.2.2.2.2.2.2.2.2.2.2.2.2.2.2.2.2.2.2.2.2.2.2.2.2.2.2.2.2.2.2.2.2.2.2.2.2.2.2.1
theorem LXp_45 {k : Nat → ClassId} {T : zTy} {u : zS} (h : LX k T u) : (0 ≤ Int32.toInt (u.2.2.1 20) ∧ Int32.toInt (u.2.2.1 20) ≤ 10001) := h.2.2.2.2.2.2.2.2.2.2.2.2.2.2.2.2.2.2.2.2.2.2.2.2.2.2.2.2.2.2.2.2.2.2.2.2.2.2.2.2.2.2.2.2.2.1
theorem LXp_46 {k : Nat → ClassId} {T : zTy} {u : zS} (h : LX k T u) : (0 ≤ Int32.toInt (u.2.2.1 22) ∧ Int32.toInt (u.2.2.1 22) ≤ 39) := h.2.2.2.2.2.2.2.2.2.2.2.2.2.2.2.2.2.2.2.2.2.2.2.2.2.2.2.2.2.2.2.2.2.2.2.2.2.2.2.2.2.2.2.2.2.2.1
theorem LXp_47 {k : Nat → ClassId} {T : zTy} {u : zS} (h : LX k T u) : (0 ≤ Int32.toInt (u.2.2.1 23) ∧ Int32.toInt (u.2.2.1 23) ≤ 799) := h.2.2.2.2.2.2.2.2.2.2.2.2.2.2.2.2.2.2.2.2.2.2.2.2.2.2.2.2.2.2.2.2.2.2.2.2.2.2.2.2.2.2.2.2.2.2.2.1
theorem LXp_48 {k : Nat → ClassId} {T : zTy} {u : zS} (h : LX k T u) : (0 ≤ Int32.toInt (u.2.2.1 26) ∧ Int32.toInt (u.2.2.1 26) ≤ 1) := h.2.2.2.2.2.2.2.2.2.2.2.2.2.2.2.2.2.2.2.2.2.2.2.2.2.2.2.2.2.2.2.2.2.2.2.2.2.2.2.2.2.2.2.2.2.2.2.2.1
theorem LXp_49 {k : Nat → ClassId} {T : zTy} {u : zS} (h : LX k T u) : (0 ≤ Int32.toInt (u.2.2.1 32) ∧ Int32.toInt (u.2.2.1 32) ≤ 400) := h.2.2.2.2.2.2.2.2.2.2.2.2.2.2.2.2.2.2.2.2.2.2.2.2.2.2.2.2.2.2.2.2.2.2.2.2.2.2.2.2.2.2.2.2.2.2.2.2.2.1
theorem LXp_50 {k : Nat → ClassId} {T : zTy} {u : zS} (h : LX k T u) : zR (u.2.2.2.2.1 53) (-1) 5 := h.2.2.2.2.2.2.2.2.2.2.2.2.2.2.2.2.2.2.2.2.2.2.2.2.2.2.2.2.2.2.2.2.2.2.2.2.2.2.2.2.2.2.2.2.2.2.2.2.2.2.1
theorem LXp_51 {k : Nat → ClassId} {T : zTy} {u : zS} (h : LX k T u) : (0 ≤ Int32.toInt (u.2.2.1 33) ∧ Int32.toInt (u.2.2.1 33) ≤ 6) := h.2.2.2.2.2.2.2.2.2.2.2.2.2.2.2.2.2.2.2.2.2.2.2.2.2.2.2.2.2.2.2.2.2.2.2.2.2.2.2.2.2.2.2.2.2.2.2.2.2.2.2
theorem LMp_0 {u : zS} (h : LM u) : zRw (u.2.2.2.2.1 0) := h.1
theorem LMp_1 {u : zS} (h : LM u) : zRi (u.2.2.2.2.1 1) := h.2.1
theorem LMp_2 {u : zS} (h : LM u) : zR (u.2.2.2.2.1 7) 0 255 := h.2.2.1
theorem LMp_3 {u : zS} (h : LM u) : zR (u.2.2.2.2.1 11) 0 31 := h.2.2.2.1
theorem LMp_4 {u : zS} (h : LM u) : zR (u.2.2.2.2.1 12) 0 399 := h.2.2.2.2.1
theorem LMp_5 {u : zS} (h : LM u) : zR (u.2.2.2.2.1 18) (-1) 6 := h.2.2.2.2.2.1
theorem LMp_6 {u : zS} (h : LM u) : (0 ≤ Int32.toInt (u.2.2.1 3) ∧ Int32.toInt (u.2.2.1 3) ≤ 400) := h.2.2.2.2.2.2.1
theorem LMp_7 {u : zS} (h : LM u) : (0 ≤ Int32.toInt (u.2.2.1 4) ∧ Int32.toInt (u.2.2.1 4) ≤ 400) := h.2.2.2.2.2.2.2.1
theorem LMp_8 {u : zS} (h : LM u) : (0 ≤ Int32.toInt (u.2.2.1 5) ∧ Int32.toInt (u.2.2.1 5) ≤ 400) := h.2.2.2.2.2.2.2.2.1
theorem LMp_9 {u : zS} (h : LM u) : (0 ≤ Int32.toInt (u.2.2.1 6) ∧ Int32.toInt (u.2.2.1 6) ≤ 3) := h.2.2.2.2.2.2.2.2.2.1
theorem LMp_10 {u : zS} (h : LM u) : (0 ≤ Int32.toInt (u.2.2.1 8) ∧ Int32.toInt (u.2.2.1 8) ≤ 1) := h.2.2.2.2.2.2.2.2.2.2.1
theorem LMp_11 {u : zS} (h : LM u) : (0 ≤ Int32.toInt (u.2.2.1 9) ∧ Int32.toInt (u.2.2.1 9) ≤ 12) := h.2.2.2.2.2.2.2.2.2.2.2.1
theorem LMp_12 {u : zS} (h : LM u) : (0 ≤ Int32.toInt (u.2.2.1 10) ∧ Int32.toInt (u.2.2.1 10) ≤ 400) := h.2.2.2.2.2.2.2.2.2.2.2.2.1
theorem LMp_13 {u : zS} (h : LM u) : (0 ≤ Int32.toInt (u.2.2.1 11) ∧ Int32.toInt (u.2.2.1 11) ≤ 50) := h.2.2.2.2.2.2.2.2.2.2.2.2.2.1
theorem LMp_14 {u : zS} (h : LM u) : (0 ≤ Int32.toInt (u.2.2.1 12) ∧ Int32.toInt (u.2.2.1 12) ≤ 400) := h.2.2.2.2.2.2.2.2.2.2.2.2.2.2.1
theorem LMp_15 {u : zS} (h : LM u) : (0 ≤ Int32.toInt (u.2.2.1 14) ∧ Int32.toInt (u.2.2.1 14) ≤ 1) := h.2.2.2.2.2.2.2.2.2.2.2.2.2.2.2.1
theorem LMp_16 {u : zS} (h : LM u) : (0 ≤ Int32.toInt (u.2.2.1 15) ∧ Int32.toInt (u.2.2.1 15) ≤ 400) := h.2.2.2.2.2.2.2.2.2.2.2.2.2.2.2.2.1
theorem LMp_17 {u : zS} (h : LM u) : (0 ≤ Int32.toInt (u.2.2.1 17) ∧ Int32.toInt (u.2.2.1 17) ≤ 400) := h.2.2.2.2.2.2.2.2.2.2.2.2.2.2.2.2.2.1
theorem LMp_18 {u : zS} (h : LM u) : (0 ≤ Int32.toInt (u.2.2.1 18) ∧ Int32.toInt (u.2.2.1 18) ≤ 400) := h.2.2.2.2.2.2.2.2.2.2.2.2.2.2.2.2.2.2.1
theorem LMp_19 {u : zS} (h : LM u) : (0 ≤ Int32.toInt (u.2.2.1 20) ∧ Int32.toInt (u.2.2.1 20) ≤ 1) := h.2.2.2.2.2.2.2.2.2.2.2.2.2.2.2.2.2.2.2.1
theorem LMp_20 {u : zS} (h : LM u) : (0 ≤ Int32.toInt (u.2.2.1 21) ∧ Int32.toInt (u.2.2.1 21) ≤ 6) := h.2.2.2.2.2.2.2.2.2.2.2.2.2.2.2.2.2.2.2.2
theorem LIp_0 {k : Nat → ClassId} {T : zTy} {u : zS} (h : LI k T u) : zR (u.2.2.2.2.1 0) 0 18 := h.1
theorem LIp_1 {k : Nat → ClassId} {T : zTy} {u : zS} (h : LI k T u) : zR (u.2.2.2.2.1 1) 0 1 := h.2.1
theorem LIp_2 {k : Nat → ClassId} {T : zTy} {u : zS} (h : LI k T u) : zR (u.2.2.2.2.1 2) (-1) 7 := h.2.2.1
theorem LIp_3 {k : Nat → ClassId} {T : zTy} {u : zS} (h : LI k T u) : zR (u.2.2.2.2.1 3) 0 99 := h.2.2.2.1
theorem LIp_4 {k : Nat → ClassId} {T : zTy} {u : zS} (h : LI k T u) : zR (u.2.2.2.2.1 4) 0 99 := h.2.2.2.2.1
theorem LIp_5 {k : Nat → ClassId} {T : zTy} {u : zS} (h : LI k T u) : zR (u.2.2.2.2.1 6) 0 7 := h.2.2.2.2.2.1
theorem LIp_6 {k : Nat → ClassId} {T : zTy} {u : zS} (h : LI k T u) : zR (u.2.2.2.2.1 7) 0 799 := h.2.2.2.2.2.2.1
theorem LIp_7 {k : Nat → ClassId} {T : zTy} {u : zS} (h : LI k T u) : zR (u.2.2.2.2.1 8) 0 60 := h.2.2.2.2.2.2.2.1
theorem LIp_8 {k : Nat → ClassId} {T : zTy} {u : zS} (h : LI k T u) : zR (u.2.2.2.2.1 9) 0 39 := h.2.2.2.2.2.2.2.2.1
theorem LIp_9 {k : Nat → ClassId} {T : zTy} {u : zS} (h : LI k T u) : zR (u.2.2.2.2.1 10) 0 399 := h.2.2.2.2.2.2.2.2.2.1
theorem LIp_10 {k : Nat → ClassId} {T : zTy} {u : zS} (h : LI k T u) : zR (u.2.2.2.2.1 11) 0 399 := h.2.2.2.2.2.2.2.2.2.2.1
theorem LIp_11 {k : Nat → ClassId} {T : zTy} {u : zS} (h : LI k T u) : (0 ≤ Int32.toInt (u.2.2.1 0) ∧ Int32.toInt (u.2.2.1 0) ≤ 40) := h.2.2.2.2.2.2.2.2.2.2.2.1
theorem LIp_12 {k : Nat → ClassId} {T : zTy} {u : zS} (h : LI k T u) : (0 ≤ Int32.toInt (u.2.2.1 1) ∧ Int32.toInt (u.2.2.1 1) ≤ 5) := h.2.2.2.2.2.2.2.2.2.2.2.2.1
theorem LIp_13 {k : Nat → ClassId} {T : zTy} {u : zS} (h : LI k T u) : (0 ≤ Int32.toInt (u.2.2.1 2) ∧ Int32.toInt (u.2.2.1 2) ≤ 60) := h.2.2.2.2.2.2.2.2.2.2.2.2.2.1
theorem LIp_14 {k : Nat → ClassId} {T : zTy} {u : zS} (h : LI k T u) : zR (u.2.2.2.2.1 12) 0 39 := h.2.2.2.2.2.2.2.2.2.2.2.2.2.2.1
theorem LIp_15 {k : Nat → ClassId} {T : zTy} {u : zS} (h : LI k T u) : zR (u.2.2.2.2.1 13) 0 4 := h.2.2.2.2.2.2.2.2.2.2.2.2.2.2.2.1
theorem LIp_16 {k : Nat → ClassId} {T : zTy} {u : zS} (h : LI k T u) : zR (u.2.2.2.2.1 14) 0 399 := h.2.2.2.2.2.2.2.2.2.2.2.2.2.2.2.2.1
theorem LIp_17 {k : Nat → ClassId} {T : zTy} {u : zS} (h : LI k T u) : zR (u.2.2.2.2.1 15) 0 400 := h.2.2.2.2.2.2.2.2.2.2.2.2.2.2.2.2.2.1
theorem LIp_18 {k : Nat → ClassId} {T : zTy} {u : zS} (h : LI k T u) : zR (u.2.2.2.2.1 16) (-1) 4 := h.2.2.2.2.2.2.2.2.2.2.2.2.2.2.2.2.2.2.1
theorem LIp_19 {k : Nat → ClassId} {T : zTy} {u : zS} (h : LI k T u) : (0 ≤ Int32.toInt (u.2.2.1 3) ∧ Int32.toInt (u.2.2.1 3) ≤ 120) := h.2.2.2.2.2.2.2.2.2.2.2.2.2.2.2.2.2.2.2.1
theorem LIp_20 {k : Nat → ClassId} {T : zTy} {u : zS} (h : LI k T u) : zR (u.2.2.2.2.1 17) 0 4 := h.2.2.2.2.2.2.2.2.2.2.2.2.2.2.2.2.2.2.2.2.1
theorem LIp_21 {k : Nat → ClassId} {T : zTy} {u : zS} (h : LI k T u) : zR (u.2.2.2.2.1 18) 0 39 := h.2.2.2.2.2.2.2.2.2.2.2.2.2.2.2.2.2.2.2.2.2.1
theorem LIp_22 {k : Nat → ClassId} {T : zTy} {u : zS} (h : LI k T u) : zR (u.2.2.2.2.1 19) 0 799 := h.2.2.2.2.2.2.2.2.2.2.2.2.2.2.2.2.2.2.2.2.2.2.1
theorem LIp_23 {k : Nat → ClassId} {T : zTy} {u : zS} (h : LI k T u) : zR (u.2.2.2.2.1 25) (-1) 399 := h.2.2.2.2.2.2.2.2.2.2.2.2.2.2.2.2.2.2.2.2.2.2.2.1
theorem LIp_24 {k : Nat → ClassId} {T : zTy} {u : zS} (h : LI k T u) : (0 ≤ Int32.toInt (u.2.2.1 4) ∧ Int32.toInt (u.2.2.1 4) ≤ 400) := h.2.2.2.2.2.2.2.2.2.2.2.2.2.2.2.2.2.2.2.2.2.2.2.2.1
theorem LIp_25 {k : Nat → ClassId} {T : zTy} {u : zS} (h : LI k T u) : zRo k T (u.2.2.2.2.2.2 0) := h.2.2.2.2.2.2.2.2.2.2.2.2.2.2.2.2.2.2.2.2.2.2.2.2.2.1
theorem LIp_26 {k : Nat → ClassId} {T : zTy} {u : zS} (h : LI k T u) : (0 ≤ Int32.toInt (u.2.2.1 7) ∧ Int32.toInt (u.2.2.1 7) ≤ 20) := h.2.2.2.2.2.2.2.2.2.2.2.2.2.2.2.2.2.2.2.2.2.2.2.2.2.2.1
theorem LIp_27 {k : Nat → ClassId} {T : zTy} {u : zS} (h : LI k T u) : zR (u.2.2.2.2.1 30) (-1) 399 := h.2.2.2.2.2.2.2.2.2.2.2.2.2.2.2.2.2.2.2.2.2.2.2.2.2.2.2.1
theorem LIp_28 {k : Nat → ClassId} {T : zTy} {u : zS} (h : LI k T u) : zR (u.2.2.2.2.1 33) 0 99999999 := h.2.2.2.2.2.2.2.2.2.2.2.2.2.2.2.2.2.2.2.2.2.2.2.2.2.2.2.2.1
theorem LIp_29 {k : Nat → ClassId} {T : zTy} {u : zS} (h : LI k T u) : zR (u.2.2.2.2.1 35) 0 99999999 := h.2.2.2.2.2.2.2.2.2.2.2.2.2.2.2.2.2.2.2.2.2.2.2.2.2.2.2.2.2.1
theorem LIp_30 {k : Nat → ClassId} {T : zTy} {u : zS} (h : LI k T u) : zR (u.2.2.2.2.1 36) 0 39 := h.2.2.2.2.2.2.2.2.2.2.2.2.2.2.2.2.2.2.2.2.2.2.2.2.2.2.2.2.2.2.1
theorem LIp_31 {k : Nat → ClassId} {T : zTy} {u : zS} (h : LI k T u) : zR (u.2.2.2.2.1 40) 0 1 := h.2.2.2.2.2.2.2.2.2.2.2.2.2.2.2.2.2.2.2.2.2.2.2.2.2.2.2.2.2.2.2.1
theorem LIp_32 {k : Nat → ClassId} {T : zTy} {u : zS} (h : LI k T u) : (0 ≤ Int32.toInt (u.2.2.1 8) ∧ Int32.toInt (u.2.2.1 8) ≤ 6) := h.2.2.2.2.2.2.2.2.2.2.2.2.2.2.2.2.2.2.2.2.2.2.2.2.2.2.2.2.2.2.2.2.1
theorem LIp_33 {k : Nat → ClassId} {T : zTy} {u : zS} (h : LI k T u) : (0 ≤ Int32.toInt (u.2.2.1 9) ∧ Int32.toInt (u.2.2.1 9) ≤ 6) := h.2.2.2.2.2.2.2.2.2.2.2.2.2.2.2.2.2.2.2.2.2.2.2.2.2.2.2.2.2.2.2.2.2.1
theorem LIp_34 {k : Nat → ClassId} {T : zTy} {u : zS} (h : LI k T u) : (0 ≤ Int32.toInt (u.2.2.1 10) ∧ Int32.toInt (u.2.2.1 10) ≤ 9) := h.2.2.2.2.2.2.2.2.2.2.2.2.2.2.2.2.2.2.2.2.2.2.2.2.2.2.2.2.2.2.2.2.2.2.1
theorem LIp_35 {k : Nat → ClassId} {T : zTy} {u : zS} (h : LI k T u) : (0 ≤ Int32.toInt (u.2.2.1 11) ∧ Int32.toInt (u.2.2.1 11) ≤ 12) := h.2.2.2.2.2.2.2.2.2.2.2.2.2.2.2.2.2.2.2.2.2.2.2.2.2.2.2.2.2.2.2.2.2.2.2
theorem LX_mk {k : Nat → ClassId} {T : zTy} {a : Nat → Nat} {v : Nat → Int32} {w : Nat → Int64} {f : Nat → Nat → Int32} {g : Nat → Nat → Int64} {o : Nat → Nat → Option Nat} (h0 : zR (f 0) 0 18) (h1 : zR (f 1) 0 1) (h2 : zR (f 2) (-1) 7) (h3 : zR (f 3) 0 99) (h4 : zR (f 4) 0 99) (h5 : zR (f 6) 0 7) (h6 : zR (f 7) 0 799) (h7 : zR (f 8) 0 60) (h8 : zR (f 9) 0 39) (h9 : zR (f 10) 0 399) (h10 : zR (f 11) 0 399) (h11 : (0 ≤ Int32.toInt (v 0) ∧ Int32.toInt (v 0) ≤ 40)) (h12 : (0 ≤ Int32.toInt (v 1) ∧ Int32.toInt (v 1) ≤ 5)) (h13 : (0 ≤ Int32.toInt (v 2) ∧ Int32.toInt (v 2) ≤ 60)) (h14 : zR (f 12) 0 39) (h15 : zR (f 13) 0 4) (h16 : zR (f 14) 0 399) (h17 : zR (f 15) 0 400) (h18 : zR (f 16) (-1) 4) (h19 : (0 ≤ Int32.toInt (v 3) ∧ Int32.toInt (v 3) ≤ 120)) (h20 : zR (f 17) 0 4) (h21 : zR (f 18) 0 39) (h22 : zR (f 19) 0 799) (h23 : zR (f 25) (-1) 399) (h24 : (0 ≤ Int32.toInt (v 4) ∧ Int32.toInt (v 4) ≤ 400)) (h25 : zRo k T (o 0)) (h26 : (0 ≤ Int32.toInt (v 7) ∧ Int32.toInt (v 7) ≤ 20)) (h27 : zR (f 30) (-1) 399) (h28 : zR (f 33) 0 99999999) (h29 : zR (f 35) 0 99999999) (h30 : zR (f 36) 0 39) (h31 : zR (f 40) 0 1) (h32 : (0 ≤ Int32.toInt (v 8) ∧ Int32.toInt (v 8) ≤ 6)) (h33 : (0 ≤ Int32.toInt (v 9) ∧ Int32.toInt (v 9) ≤ 6)) (h34 : (0 ≤ Int32.toInt (v 10) ∧ Int32.toInt (v 10) ≤ 9)) (h35 : (0 ≤ Int32.toInt (v 11) ∧ Int32.toInt (v 11) ≤ 12)) (h36 : zR (f 42) 0 255) (h37 : zR (f 44) 0 400) (h38 : zR (f 45) 0 400) (h39 : (0 ≤ Int32.toInt (v 12) ∧ Int32.toInt (v 12) ≤ 400)) (h40 : (0 ≤ Int32.toInt (v 14) ∧ Int32.toInt (v 14) ≤ 12)) (h41 : (0 ≤ Int32.toInt (v 15) ∧ Int32.toInt (v 15) ≤ 400)) (h42 : (0 ≤ Int32.toInt (v 16) ∧ Int32.toInt (v 16) ≤ 50)) (h43 : (0 ≤ Int32.toInt (v 18) ∧ Int32.toInt (v 18) ≤ 400)) (h44 : (0 ≤ Int32.toInt (v 19) ∧ Int32.toInt (v 19) ≤ 400)) (h45 : (0 ≤ Int32.toInt (v 20) ∧ Int32.toInt (v 20) ≤ 10001)) (h46 : (0 ≤ Int32.toInt (v 22) ∧ Int32.toInt (v 22) ≤ 39)) (h47 : (0 ≤ Int32.toInt (v 23) ∧ Int32.toInt (v 23) ≤ 799)) (h48 : (0 ≤ Int32.toInt (v 26) ∧ Int32.toInt (v 26) ≤ 1)) (h49 : (0 ≤ Int32.toInt (v 32) ∧ Int32.toInt (v 32) ≤ 400)) (h50 : zR (f 53) (-1) 5) (h51 : (0 ≤ Int32.toInt (v 33) ∧ Int32.toInt (v 33) ≤ 6)) : LX k T (0, a, v, w, f, g, o) := ⟨h0, h1, h2, h3, h4, h5, h6, h7, h8, h9, h10, h11, h12, h13, h14, h15, h16, h17, h18, h19, h20, h21, h22, h23, h24, h25, h26, h27, h28, h29, h30, h31, h32, h33, h34, h35, h36, h37, h38, h39, h40, h41, h42, h43, h44, h45, h46, h47, h48, h49, h50, h51⟩
theorem LM_mk  {a : Nat → Nat} {v : Nat → Int32} {w : Nat → Int64} {f : Nat → Nat → Int32} {g : Nat → Nat → Int64} {o : Nat → Nat → Option Nat} (h0 : zRw (f 0)) (h1 : zRi (f 1)) (h2 : zR (f 7) 0 255) (h3 : zR (f 11) 0 31) (h4 : zR (f 12) 0 399) (h5 : zR (f 18) (-1) 6) (h6 : (0 ≤ Int32.toInt (v 3) ∧ Int32.toInt (v 3) ≤ 400)) (h7 : (0 ≤ Int32.toInt (v 4) ∧ Int32.toInt (v 4) ≤ 400)) (h8 : (0 ≤ Int32.toInt (v 5) ∧ Int32.toInt (v 5) ≤ 400)) (h9 : (0 ≤ Int32.toInt (v 6) ∧ Int32.toInt (v 6) ≤ 3)) (h10 : (0 ≤ Int32.toInt (v 8) ∧ Int32.toInt (v 8) ≤ 1)) (h11 : (0 ≤ Int32.toInt (v 9) ∧ Int32.toInt (v 9) ≤ 12)) (h12 : (0 ≤ Int32.toInt (v 10) ∧ Int32.toInt (v 10) ≤ 400)) (h13 : (0 ≤ Int32.toInt (v 11) ∧ Int32.toInt (v 11) ≤ 50)) (h14 : (0 ≤ Int32.toInt (v 12) ∧ Int32.toInt (v 12) ≤ 400)) (h15 : (0 ≤ Int32.toInt (v 14) ∧ Int32.toInt (v 14) ≤ 1)) (h16 : (0 ≤ Int32.toInt (v 15) ∧ Int32.toInt (v 15) ≤ 400)) (h17 : (0 ≤ Int32.toInt (v 17) ∧ Int32.toInt (v 17) ≤ 400)) (h18 : (0 ≤ Int32.toInt (v 18) ∧ Int32.toInt (v 18) ≤ 400)) (h19 : (0 ≤ Int32.toInt (v 20) ∧ Int32.toInt (v 20) ≤ 1)) (h20 : (0 ≤ Int32.toInt (v 21) ∧ Int32.toInt (v 21) ≤ 6)) : LM (0, a, v, w, f, g, o) := ⟨h0, h1, h2, h3, h4, h5, h6, h7, h8, h9, h10, h11, h12, h13, h14, h15, h16, h17, h18, h19, h20⟩
theorem LI_mk {k : Nat → ClassId} {T : zTy} {a : Nat → Nat} {v : Nat → Int32} {w : Nat → Int64} {f : Nat → Nat → Int32} {g : Nat → Nat → Int64} {o : Nat → Nat → Option Nat} (h0 : zR (f 0) 0 18) (h1 : zR (f 1) 0 1) (h2 : zR (f 2) (-1) 7) (h3 : zR (f 3) 0 99) (h4 : zR (f 4) 0 99) (h5 : zR (f 6) 0 7) (h6 : zR (f 7) 0 799) (h7 : zR (f 8) 0 60) (h8 : zR (f 9) 0 39) (h9 : zR (f 10) 0 399) (h10 : zR (f 11) 0 399) (h11 : (0 ≤ Int32.toInt (v 0) ∧ Int32.toInt (v 0) ≤ 40)) (h12 : (0 ≤ Int32.toInt (v 1) ∧ Int32.toInt (v 1) ≤ 5)) (h13 : (0 ≤ Int32.toInt (v 2) ∧ Int32.toInt (v 2) ≤ 60)) (h14 : zR (f 12) 0 39) (h15 : zR (f 13) 0 4) (h16 : zR (f 14) 0 399) (h17 : zR (f 15) 0 400) (h18 : zR (f 16) (-1) 4) (h19 : (0 ≤ Int32.toInt (v 3) ∧ Int32.toInt (v 3) ≤ 120)) (h20 : zR (f 17) 0 4) (h21 : zR (f 18) 0 39) (h22 : zR (f 19) 0 799) (h23 : zR (f 25) (-1) 399) (h24 : (0 ≤ Int32.toInt (v 4) ∧ Int32.toInt (v 4) ≤ 400)) (h25 : zRo k T (o 0)) (h26 : (0 ≤ Int32.toInt (v 7) ∧ Int32.toInt (v 7) ≤ 20)) (h27 : zR (f 30) (-1) 399) (h28 : zR (f 33) 0 99999999) (h29 : zR (f 35) 0 99999999) (h30 : zR (f 36) 0 39) (h31 : zR (f 40) 0 1) (h32 : (0 ≤ Int32.toInt (v 8) ∧ Int32.toInt (v 8) ≤ 6)) (h33 : (0 ≤ Int32.toInt (v 9) ∧ Int32.toInt (v 9) ≤ 6)) (h34 : (0 ≤ Int32.toInt (v 10) ∧ Int32.toInt (v 10) ≤ 9)) (h35 : (0 ≤ Int32.toInt (v 11) ∧ Int32.toInt (v 11) ≤ 12)) : LI k T (0, a, v, w, f, g, o) := ⟨h0, h1, h2, h3, h4, h5, h6, h7, h8, h9, h10, h11, h12, h13, h14, h15, h16, h17, h18, h19, h20, h21, h22, h23, h24, h25, h26, h27, h28, h29, h30, h31, h32, h33, h34, h35⟩
theorem LI_mono {k : Nat → ClassId} {T : zTy} {pw : va_W} {u : zS} (h : LI k T u) : LI k (zTn T pw) u := by
  obtain ⟨h0, h1, h2, h3, h4, h5, h6, h7, h8, h9, h10, h11, h12, h13, h14, h15, h16, h17, h18, h19, h20, h21, h22, h23, h24, h25, h26, h27, h28, h29, h30, h31, h32, h33, h34, h35⟩ := h
  exact ⟨h0, h1, h2, h3, h4, h5, h6, h7, h8, h9, h10, h11, h12, h13, h14, h15, h16, h17, h18, h19, h20, h21, h22, h23, h24, zRo_mono h25, h26, h27, h28, h29, h30, h31, h32, h33, h34, h35⟩
theorem zIm_Z {k : Nat → ClassId} {T : zTy} {o : Nat → Option Nat} {Z : va_W} {G : Nat → Int32} (h : zIm k T o Z G) : ∀ pw : va_W, T.1 pw → ∀ q : Nat × va_E, q ∈ pw → q ∈ Z := by
  obtain ⟨P, uA, uB, hT, h⟩ := h
  intro pw hp q hq
  have h0 := hT pw hp q hq
  rcases h with ⟨_, rfl⟩ | ⟨_, _, _, rfl⟩ | ⟨_, _, _, rfl⟩ | ⟨_, _, _, _, _, rfl⟩
  · exact h0
  · exact List.mem_append_right _ h0
  · exact List.mem_append_right _ h0
  · exact List.mem_append_right _ (List.mem_append_right _ h0)
theorem zIm_ext {k : Nat → ClassId} {T : zTy} {o : Nat → Option Nat} {Z pw : va_W} {G : Nat → Int32} (h : zIm k T o Z G) : zIm k (zTn T pw) o (Z ++ pw) G := by
  obtain ⟨P, uA, uB, hT, h⟩ := h
  refine ⟨P ++ pw, uA, uB, fun w hw q hq => ?_, ?_⟩
  · rcases hw with hw | rfl
    · exact List.mem_append_left _ (hT w hw q hq)
    · exact List.mem_append_right _ hq
  · rcases h with ⟨h1, rfl⟩ | ⟨h1, h2, t1, rfl⟩ | ⟨h1, h2, t1, rfl⟩ | ⟨h1, h2, h3, t1, t2, rfl⟩
    · exact Or.inl ⟨h1, rfl⟩
    · exact Or.inr (Or.inl ⟨h1, LI_mono h2, t1, List.append_assoc _ _ _⟩)
    · exact Or.inr (Or.inr (Or.inl ⟨h1, LI_mono h2, t1, List.append_assoc _ _ _⟩))
    · exact Or.inr (Or.inr (Or.inr ⟨h1, LI_mono h2, LI_mono h3, t1, t2, by rw [List.append_assoc, List.append_assoc]⟩))
def law_C (p : Program) (s : State) (m : MethodId) (meth : Method) (c : Code) (D : va_G) (k : Nat → ClassId) (b L : Nat) (xs : Nat → Int32) (tb : Nat → Nat) : Prop := CallFix p m c code 4 s #[Value.ref b] lw_g RL ∧ meth.sig.returnType = ret ∧ meth.locks = false ∧ va_X b L xs s s.heap ∧ b < s.heap.size ∧ va_K D vwCl (TYk k) s ∧ zN s ∧ zStat tb (fun q : Nat => s.heap.size ≤ q) s ∧ L ≤ 3584
def zK (p : Program) (l : Launch) (e : Env) (s : State) (m : MethodId) (below : List Frame) (meth : Method) (c : Code) (D : va_G) (k : Nat → ClassId) (b : Nat) (tb : Nat → Nat) (hX hM : Nat) (i : Int32) (cells slots : Nat) : Prop := ∀ (T : zTy) (Z : va_W) (uX uM : zS) (H : Heap) (locs : List Loc) (ls : Array Slot), zI k tb T Z uX uM → va_P D vwCl ((WX k hX uX ++ WM k hM uM) ++ Z) H → va_D (fun q : Nat => s.heap.size ≤ q) ((WX k hX uX ++ WM k hM uM) ++ Z) → va_S (fun q : Nat => s.heap.size ≤ q) s.heap H locs → lv_has ls 4 [(0, .ref b), (1, .ref hX), (2, .ref hM), (3, .int i)] → W p l e room_1 s m #[Value.ref b] below meth c H locs (cells + 50) (slots + 7144) (lw_Z below #[Value.ref b] s) (F0 m 2078 ls [])
theorem z_start {s : State} {args : Array Value} (hts : ∀ w ∈ lw_tbl, w.before args s = true) : ∃ (D : va_G) (k : Nat → ClassId), va_K D vwCl (TYk k) s ∧ zN s := by
  have hg : ∀ w ∈ lw_g, w.before args s = true := fun w h => hts w (lw_g_sub h)
  obtain ⟨cc0, ii0, hh0⟩ := u_known (C := RX0) (T := TX0) (N := 3) hg inX0 (hg _ kI_X0)
  obtain ⟨cc1, ii1, hh1⟩ := u_known (C := RX1) (T := TX1) (N := 19) hg inX1 (hg _ kI_X1)
  obtain ⟨cc2, ii2, hh2⟩ := u_known (C := RX2) (T := TX2) (N := 14) hg inX2 (hg _ kI_X2)
  obtain ⟨cc3, ii3, hh3⟩ := u_known (C := RX3) (T := TX3) (N := 6) hg inX3 (hg _ kI_X3)
  obtain ⟨cc4, ii4, hh4⟩ := u_known (C := RX4) (T := TX4) (N := 13) hg inX4 (hg _ kI_X4)
  obtain ⟨cc5, ii5, hh5⟩ := u_known (C := RX5) (T := TX5) (N := 15) hg inX5 (hg _ kI_X5)
  obtain ⟨cc6, ii6, hh6⟩ := u_known (C := RX6) (T := TX6) (N := 15) hg inX6 (hg _ kI_X6)
  obtain ⟨cc7, ii7, hh7⟩ := u_known (C := RX7) (T := TX7) (N := 16) hg inX7 (hg _ kI_X7)
  obtain ⟨cc8, ii8, hh8⟩ := u_known (C := RX8) (T := TX8) (N := 6) hg inX8 (hg _ kI_X8)
  obtain ⟨cc9, ii9, hh9⟩ := u_known (C := RX9) (T := TX9) (N := 3) hg inX9 (hg _ kI_X9)
  obtain ⟨cc10, ii10, hh10⟩ := u_known (C := RX10) (T := TX10) (N := 6) hg inX10 (hg _ kI_X10)
  obtain ⟨cc11, ii11, hh11⟩ := u_known (C := RX11) (T := TX11) (N := 6) hg inX11 (hg _ kI_X11)
  obtain ⟨cc12, ii12, hh12⟩ := u_known (C := RX12) (T := TX12) (N := 56) hg inX12 (hg _ kI_X12)
  obtain ⟨k0, kk0, km0, ka0, kb0, kc0⟩ := Cond.arrayClass_spec (hg _ kArr_int)
  obtain ⟨k1, kk1, km1, ka1, kb1, kc1⟩ := Cond.arrayClass_spec (hg _ kArr_long)
  obtain ⟨k2, kk2, km2, ka2, kb2, kc2⟩ := Cond.arrayClass_spec (hg _ kArr_boolean)
  have ho3 : (Cond.arrayOver (.object "HalfDays$Text")).before args s = true := hts _ (List.mem_append_right _ (List.mem_of_getElem? (i := 197) (by decide +kernel)))
  obtain ⟨km3, k3, kk3, kd3, -, ka3, kb3, kc3⟩ := Cond.arrayOver_spec ho3
  have ho4 : (Cond.arrayOver (.object "HalfDays$County")).before args s = true := hts _ (List.mem_append_right _ (List.mem_of_getElem? (i := 334) (by decide +kernel)))
  obtain ⟨km4, k4, kk4, kd4, -, ka4, kb4, kc4⟩ := Cond.arrayOver_spec ho4
  have hcs : (Cond.castable "[I" "java/lang/Cloneable").before args s = true := hts _ (List.mem_append_right _ (List.mem_of_getElem? (i := 852) (by decide +kernel)))
  refine ⟨(fun j => [cc0, cc1, cc2, cc3, cc4, cc5, cc6, cc7, cc8, cc9, cc10, cc11, cc12].getD j cc0, fun j => [ii0, ii1, ii2, ii3, ii4, ii5, ii6, ii7, ii8, ii9, ii10, ii11, ii12].getD j ii0), fun j => [k0, k1, k2, k3, k4].getD j k0, ⟨fun j q hq => ?_, fun j q hq => ?_⟩, fun w hw => ?_, ho3, ho4, va_Nw.of rfl hcs⟩
  · match j, hq with
    | 0, hq => cases hq; exact hh0
    | 1, hq => cases hq; exact hh1
    | 2, hq => cases hq; exact hh2
    | 3, hq => cases hq; exact hh3
    | 4, hq => cases hq; exact hh4
    | 5, hq => cases hq; exact hh5
    | 6, hq => cases hq; exact hh6
    | 7, hq => cases hq; exact hh7
    | 8, hq => cases hq; exact hh8
    | 9, hq => cases hq; exact hh9
    | 10, hq => cases hq; exact hh10
    | 11, hq => cases hq; exact hh11
    | 12, hq => cases hq; exact hh12
    | j + 13, hq => simp [vwCl] at hq
  · match j, hq with
    | 0, hq => cases hq; exact ⟨fun n z => ⟨fun _ h => (by cases h), kk0, kb0, km0, kc0⟩, ka0⟩
    | 1, hq => cases hq; exact ⟨fun n z => ⟨fun _ h => (by cases h), kk1, kb1, km1, kc1⟩, ka1⟩
    | 2, hq => cases hq; exact ⟨fun n z => ⟨fun _ h => (by cases h), kk2, kb2, km2, kc2⟩, ka2⟩
    | 3, hq => cases hq; exact ⟨fun n z => ⟨fun _ h => (by cases h), kk3, ka3, km3, kb3⟩, kk3, km3, ka3, kb3, kd3, kc3⟩
    | 4, hq => cases hq; exact ⟨fun n z => ⟨fun _ h => (by cases h), kk4, ka4, km4, kb4⟩, kk4, km4, ka4, kb4, kd4, kc4⟩
    | j + 5, hq => simp [TYk] at hq
  · have h1 := (List.mem_filter.mp hw).1
    have h2 := (List.mem_filter.mp hw).2
    refine va_Nw.of ?_ (hts w (List.mem_append_right _ h1))
    cases w <;> first | rfl | cases h2
theorem z_tab0 {s : State} {args : Array Value} {A : Nat → Prop} (hts : ∀ w ∈ lw_tbl, w.before args s = true) (hgv : (Jvm.Cond.and given_1 narrow_1).before args s = true) (hA : ∀ a : Nat, a < s.heap.size → ¬ A a) : ∃ t : Nat, va_Z "HalfDays" "KIND_WORDS" "[J" (.ref t) A s s.heap ∧ ∃ f : Nat → Int64, va_T .long t 5 (fun j => .long (f j)) A s s.heap := by
  have hs := flat_of_before _ hgv
  have h1 : (Cond.laysStatic "HalfDays" "KIND_WORDS" "[J").before args s = true := hts _ (List.mem_append_right _ (List.mem_of_getElem? (i := 764) (by decide +kernel)))
  have h2 : (Cond.initialized "HalfDays").before args s = true := hts _ (lw_g_sub kZ_X11)
  have h3 : (Cond.arrayOf (Term.static "HalfDays" "KIND_WORDS" "[J") .long).before args s = true := hs _ (by decide +kernel)
  have h4 : (Cond.eq (Term.length (Term.static "HalfDays" "KIND_WORDS" "[J")) (.int 5)).before args s = true := hs _ (by decide +kernel)
  have e0 : (Cond.eq (Term.elem (Term.static "HalfDays" "KIND_WORDS" "[J") (.int 0)) (.long 1751478885)).before args s = true := hs _ (by decide +kernel)
  have e1 : (Cond.eq (Term.elem (Term.static "HalfDays" "KIND_WORDS" "[J") (.int 1)) (.long 1818326117)).before args s = true := hs _ (by decide +kernel)
  have e2 : (Cond.eq (Term.elem (Term.static "HalfDays" "KIND_WORDS" "[J") (.int 2)) (.long 27422285723297124)).before args s = true := hs _ (by decide +kernel)
  have e3 : (Cond.eq (Term.elem (Term.static "HalfDays" "KIND_WORDS" "[J") (.int 3)) (.long 1635213689)).before args s = true := hs _ (by decide +kernel)
  have e4 : (Cond.eq (Term.elem (Term.static "HalfDays" "KIND_WORDS" "[J") (.int 4)) (.long 1852796517)).before args s = true := hs _ (by decide +kernel)
  have hel : ∀ j : Nat, j < 5 → (Term.elem (Term.static "HalfDays" "KIND_WORDS" "[J") (.int (Int32.ofNat j))).eval args s none [] s = some (Value.long ([1751478885, 1818326117, 27422285723297124, 1635213689, 1852796517].getD j (0 : Int64))) := by
    intro j hj
    match j, hj with
    | 0, _ => exact va_eqtl e0
    | 1, _ => exact va_eqtl e1
    | 2, _ => exact va_eqtl e2
    | 3, _ => exact va_eqtl e3
    | 4, _ => exact va_eqtl e4
    | j + 5, h => exact absurd h (by omega)
  obtain ⟨t, g1, g2⟩ := va_Tof (A := A) (N := 5) (f := fun j => Value.long ([1751478885, 1818326117, 27422285723297124, 1635213689, 1852796517].getD j (0 : Int64))) (by decide) h3 (va_eqt h4) hel hA
  exact ⟨t, va_Zref h1 h2 g1 hA, _, g2⟩
theorem z_tab1 {s : State} {args : Array Value} {A : Nat → Prop} (hts : ∀ w ∈ lw_tbl, w.before args s = true) (hgv : (Jvm.Cond.and given_1 narrow_1).before args s = true) (hA : ∀ a : Nat, a < s.heap.size → ¬ A a) : ∃ t : Nat, va_Z "HalfDays" "SUM_WORDS" "[J" (.ref t) A s s.heap ∧ ∃ f : Nat → Int64, va_T .long t 8 (fun j => .long (f j)) A s s.heap := by
  have hs := flat_of_before _ hgv
  have h1 : (Cond.laysStatic "HalfDays" "SUM_WORDS" "[J").before args s = true := hts _ (List.mem_append_right _ (List.mem_of_getElem? (i := 793) (by decide +kernel)))
  have h2 : (Cond.initialized "HalfDays").before args s = true := hts _ (lw_g_sub kZ_X11)
  have h3 : (Cond.arrayOf (Term.static "HalfDays" "SUM_WORDS" "[J") .long).before args s = true := hs _ (by decide +kernel)
  have h4 : (Cond.eq (Term.length (Term.static "HalfDays" "SUM_WORDS" "[J")) (.int 8)).before args s = true := hs _ (by decide +kernel)
  have e0 : (Cond.eq (Term.elem (Term.static "HalfDays" "SUM_WORDS" "[J") (.int 0)) (.long 1651470958)).before args s = true := hs _ (by decide +kernel)
  have e1 : (Cond.eq (Term.elem (Term.static "HalfDays" "SUM_WORDS" "[J") (.int 1)) (.long 30796695599342963)).before args s = true := hs _ (by decide +kernel)
  have e2 : (Cond.eq (Term.elem (Term.static "HalfDays" "SUM_WORDS" "[J") (.int 2)) (.long 1751215206)).before args s = true := hs _ (by decide +kernel)
  have e3 : (Cond.eq (Term.elem (Term.static "HalfDays" "SUM_WORDS" "[J") (.int 3)) (.long 6578553)).before args s = true := hs _ (by decide +kernel)
  have e4 : (Cond.eq (Term.elem (Term.static "HalfDays" "SUM_WORDS" "[J") (.int 4)) (.long 2003133803)).before args s = true := hs _ (by decide +kernel)
  have e5 : (Cond.eq (Term.elem (Term.static "HalfDays" "SUM_WORDS" "[J") (.int 5)) (.long 126870791090028)).before args s = true := hs _ (by decide +kernel)
  have e6 : (Cond.eq (Term.elem (Term.static "HalfDays" "SUM_WORDS" "[J") (.int 6)) (.long 1635213689)).before args s = true := hs _ (by decide +kernel)
  have e7 : (Cond.eq (Term.elem (Term.static "HalfDays" "SUM_WORDS" "[J") (.int 7)) (.long 8101821194189302885)).before args s = true := hs _ (by decide +kernel)
  have hel : ∀ j : Nat, j < 8 → (Term.elem (Term.static "HalfDays" "SUM_WORDS" "[J") (.int (Int32.ofNat j))).eval args s none [] s = some (Value.long ([1651470958, 30796695599342963, 1751215206, 6578553, 2003133803, 126870791090028, 1635213689, 8101821194189302885].getD j (0 : Int64))) := by
    intro j hj
    match j, hj with
    | 0, _ => exact va_eqtl e0
    | 1, _ => exact va_eqtl e1
    | 2, _ => exact va_eqtl e2
    | 3, _ => exact va_eqtl e3
    | 4, _ => exact va_eqtl e4
    | 5, _ => exact va_eqtl e5
    | 6, _ => exact va_eqtl e6
    | 7, _ => exact va_eqtl e7
    | j + 8, h => exact absurd h (by omega)
  obtain ⟨t, g1, g2⟩ := va_Tof (A := A) (N := 8) (f := fun j => Value.long ([1651470958, 30796695599342963, 1751215206, 6578553, 2003133803, 126870791090028, 1635213689, 8101821194189302885].getD j (0 : Int64))) (by decide) h3 (va_eqt h4) hel hA
  exact ⟨t, va_Zref h1 h2 g1 hA, _, g2⟩
theorem z_tab2 {s : State} {args : Array Value} {A : Nat → Prop} (hts : ∀ w ∈ lw_tbl, w.before args s = true) (hgv : (Jvm.Cond.and given_1 narrow_1).before args s = true) (hA : ∀ a : Nat, a < s.heap.size → ¬ A a) : ∃ t : Nat, va_Z "HalfDays" "TEST_WORDS" "[J" (.ref t) A s s.heap ∧ ∃ f : Nat → Int64, va_T .long t 4 (fun j => .long (f j)) A s s.heap := by
  have hs := flat_of_before _ hgv
  have h1 : (Cond.laysStatic "HalfDays" "TEST_WORDS" "[J").before args s = true := hts _ (List.mem_append_right _ (List.mem_of_getElem? (i := 831) (by decide +kernel)))
  have h2 : (Cond.initialized "HalfDays").before args s = true := hts _ (lw_g_sub kZ_X11)
  have h3 : (Cond.arrayOf (Term.static "HalfDays" "TEST_WORDS" "[J") .long).before args s = true := hs _ (by decide +kernel)
  have h4 : (Cond.eq (Term.length (Term.static "HalfDays" "TEST_WORDS" "[J")) (.int 4)).before args s = true := hs _ (by decide +kernel)
  have e0 : (Cond.eq (Term.elem (Term.static "HalfDays" "TEST_WORDS" "[J") (.int 0)) (.long 426836649330)).before args s = true := hs _ (by decide +kernel)
  have e1 : (Cond.eq (Term.elem (Term.static "HalfDays" "TEST_WORDS" "[J") (.int 1)) (.long 1885434484)).before args s = true := hs _ (by decide +kernel)
  have e2 : (Cond.eq (Term.elem (Term.static "HalfDays" "TEST_WORDS" "[J") (.int 2)) (.long 6452595)).before args s = true := hs _ (by decide +kernel)
  have e3 : (Cond.eq (Term.elem (Term.static "HalfDays" "TEST_WORDS" "[J") (.int 3)) (.long 1752132965)).before args s = true := hs _ (by decide +kernel)
  have hel : ∀ j : Nat, j < 4 → (Term.elem (Term.static "HalfDays" "TEST_WORDS" "[J") (.int (Int32.ofNat j))).eval args s none [] s = some (Value.long ([426836649330, 1885434484, 6452595, 1752132965].getD j (0 : Int64))) := by
    intro j hj
    match j, hj with
    | 0, _ => exact va_eqtl e0
    | 1, _ => exact va_eqtl e1
    | 2, _ => exact va_eqtl e2
    | 3, _ => exact va_eqtl e3
    | j + 4, h => exact absurd h (by omega)
  obtain ⟨t, g1, g2⟩ := va_Tof (A := A) (N := 4) (f := fun j => Value.long ([426836649330, 1885434484, 6452595, 1752132965].getD j (0 : Int64))) (by decide) h3 (va_eqt h4) hel hA
  exact ⟨t, va_Zref h1 h2 g1 hA, _, g2⟩
theorem z_stat {s : State} {args : Array Value} {A : Nat → Prop} (hts : ∀ w ∈ lw_tbl, w.before args s = true) (hgv : (Jvm.Cond.and given_1 narrow_1).before args s = true) (hA : ∀ a : Nat, a < s.heap.size → ¬ A a) : ∃ tb : Nat → Nat, zStat tb A s := by
  obtain ⟨t0, h0⟩ := z_tab0 hts hgv hA
  obtain ⟨t1, h1⟩ := z_tab1 hts hgv hA
  obtain ⟨t2, h2⟩ := z_tab2 hts hgv hA
  refine ⟨fun i => [t0, t1, t2].getD i t0, fun i hi => ?_⟩
  match i, hi with
  | 0, _ => exact h0
  | 1, _ => exact h1
  | 2, _ => exact h2
  | i + 3, h => exact absurd h (by omega)
