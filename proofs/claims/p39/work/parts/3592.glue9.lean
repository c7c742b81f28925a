/-! a text copied into the row -/
def zCp (G C : Nat → Int32) (t k : Int32) (F : Nat → Int32) : Prop := ∀ j : Nat, F j = if t.toInt + 2 ≤ (j : Int) ∧ (j : Int) < t.toInt + 2 + k.toInt then C (j - (Int32.toNatClampNeg t + 2)) else G j
theorem zCp_0 {G C : Nat → Int32} {t k : Int32} (h : k.toInt = 0) : zCp G C t k G := fun j => by rw [if_neg (by omega)]
theorem zCp_s {G C F F' : Nat → Int32} {t k k2 x v : Int32} (h : zCp G C t k F) (ht : 0 ≤ t.toInt) (hk : 0 ≤ k.toInt) (hx : x.toInt = t.toInt + 2 + k.toInt) (h2 : k2.toInt = k.toInt + 1) (ev : v = C (Int32.toNatClampNeg k)) (e : F' = upd F (Int32.toNatClampNeg x) v) : zCp G C t k2 F' := by
  have c1 := z_cl ht
  have c2 := z_cl hk
  have c3 := z_cl (x := x) (by omega)
  intro j
  rw [e]
  by_cases q : j = Int32.toNatClampNeg x
  · subst q
    rw [pk_us, if_pos (by omega), ev]
    congr 1
    omega
  · rw [pk_un q, h j]
    by_cases c : t.toInt + 2 ≤ (j : Int) ∧ (j : Int) < t.toInt + 2 + k.toInt
    · rw [if_pos c, if_pos (by omega)]
    · rw [if_neg c, if_neg (by omega)]
def zCq (G O R : Nat → Int32) (t k : Int32) (F : Nat → Int32) : Prop := ∀ j : Nat, F j = if t.toInt + 122 ≤ (j : Int) ∧ (j : Int) < t.toInt + 122 + 2 * k.toInt then (if (j - (Int32.toNatClampNeg t + 122)) % 2 = 0 then O ((j - (Int32.toNatClampNeg t + 122)) / 2) else R ((j - (Int32.toNatClampNeg t + 122)) / 2)) else G j
theorem zCq_0 {G O R : Nat → Int32} {t k : Int32} (h : k.toInt = 0) : zCq G O R t k G := fun j => by rw [if_neg (by omega)]
theorem zCq_s {G O R F F1 F2 : Nat → Int32} {t k k2 x1 x2 a b : Int32} (h : zCq G O R t k F) (ht : 0 ≤ t.toInt) (hk : 0 ≤ k.toInt) (hx1 : x1.toInt = t.toInt + 122 + 2 * k.toInt) (hx2 : x2.toInt = t.toInt + 122 + 2 * k.toInt + 1) (h2 : k2.toInt = k.toInt + 1) (ea : a = O (Int32.toNatClampNeg k)) (eb : b = R (Int32.toNatClampNeg k)) (e1 : F1 = upd F (Int32.toNatClampNeg x1) a) (e2 : F2 = upd F1 (Int32.toNatClampNeg x2) b) : zCq G O R t k2 F2 := by
  have c1 := z_cl ht
  have c2 := z_cl hk
  have c3 := z_cl (x := x1) (by omega)
  have c4 := z_cl (x := x2) (by omega)
  intro j
  rw [e2]
  by_cases q2 : j = Int32.toNatClampNeg x2
  · subst q2
    rw [pk_us, if_pos (by omega), if_neg (by omega), eb]
    congr 1
    omega
  · rw [pk_un q2, e1]
    by_cases q1 : j = Int32.toNatClampNeg x1
    · subst q1
      rw [pk_us, if_pos (by omega), if_pos (by omega), ea]
      congr 1
      omega
    · rw [pk_un q1, h j]
      by_cases c : t.toInt + 122 ≤ (j : Int) ∧ (j : Int) < t.toInt + 122 + 2 * k.toInt
      · have c' : t.toInt + 122 ≤ (j : Int) ∧ (j : Int) < t.toInt + 122 + 2 * k2.toInt := by omega
        rw [if_pos c, if_pos c']
      · have c' : ¬ (t.toInt + 122 ≤ (j : Int) ∧ (j : Int) < t.toInt + 122 + 2 * k2.toInt) := by omega
        rw [if_neg c, if_neg c']
theorem zOk_hi {j v : Int} (h : 8661 ≤ j) : zOk j v := ⟨fun q => absurd q (by omega), fun q => absurd q (by omega), fun q => absurd q (by omega), fun q => absurd q (by omega), fun q => absurd q (by omega), fun q => absurd q (by omega), fun q => absurd q (by omega), fun q => absurd q (by omega), fun q => absurd q (by omega), fun q => absurd q (by omega), fun q => absurd q (by omega), fun q => absurd q (by omega), fun q => absurd q (by omega), fun q => absurd q (by omega), fun q => absurd q (by omega), fun q => absurd q (by omega)⟩
theorem zOk_4 {v : Int} (h : 0 ≤ v ∧ v ≤ 20) : zOk ((4 : Nat) : Int) v := ⟨fun q => absurd q (by decide), fun q => absurd q (by decide), fun q => absurd q (by decide), fun q => absurd q (by decide), fun _ => h, fun q => absurd q (by decide), fun q => absurd q (by decide), fun q => absurd q (by decide), fun q => absurd q (by decide), fun q => absurd q (by decide), fun q => absurd q (by decide), fun q => absurd q (by decide), fun q => absurd q.1 (by decide), fun q => absurd q.1 (by decide), fun q => absurd q.1 (by decide), fun q => absurd q.1 (by decide)⟩
theorem z_4 : Int32.toNatClampNeg 4 = 4 := by decide
theorem zC_4 {F0 Fa Fb G1 G2 C O R : Nat → Int32} {y t t1 f N k1 k2 : Int32} (ey : y = F0 (Int32.toNatClampNeg 4)) (ht : 8661 ≤ t.toInt) (ht1 : t1.toInt = t.toInt + 1) (ea : Fa = upd F0 (Int32.toNatClampNeg t) f) (eb : Fb = upd Fa (Int32.toNatClampNeg t1) N) (h1 : zCp Fb C t k1 G1) (h2 : zCq G1 O R t k2 G2) : y = G2 (Int32.toNatClampNeg 4) := by
  have c1 := z_cl (x := t) (by omega)
  have c2 := z_cl (x := t1) (by omega)
  rw [z_4] at ey ⊢
  rw [h2 4, if_neg (by omega), h1 4, if_neg (by omega), eb, pk_un (by omega), ea, pk_un (by omega)]
  exact ey
theorem zRw_tx {F0 Fa Fb G1 G2 G C O R : Nat → Int32} {y y2 t t1 f N n k1 k2 : Int32} (h0 : zRw F0) (ey : y = F0 (Int32.toNatClampNeg 4)) (hy : 0 ≤ y.toInt ∧ y.toInt ≤ 19) (ht : t.toInt = 8661 + 922 * y.toInt) (ht1 : t1.toInt = t.toInt + 1) (ea : Fa = upd F0 (Int32.toNatClampNeg t) f) (eb : Fb = upd Fa (Int32.toNatClampNeg t1) N) (hN : 0 ≤ N.toInt ∧ N.toInt ≤ 12) (h1 : zCp Fb C t k1 G1) (hk1 : k1.toInt = 10 * N.toInt) (h2 : zCq G1 O R t k2 G2) (hk2 : k2.toInt = n.toInt) (hn : 0 ≤ n.toInt ∧ n.toInt ≤ 400) (hp : zPc C N O R n) (h22 : y2.toInt = y.toInt + 1) (e : G = upd G2 (Int32.toNatClampNeg 4) y2) : zRw G := by
  have c0 := z_cl hy.1
  have c1 := z_cl (x := t) (by omega)
  have c2 := z_cl (x := t1) (by omega)
  rw [z_4] at ey e
  have lo : ∀ j : Nat, j < 8661 + 922 * Int32.toNatClampNeg y → G2 j = F0 j := fun j hj => by
    rw [h2 j, if_neg (by omega), h1 j, if_neg (by omega), eb, pk_un (by omega), ea, pk_un (by omega)]
  have g4 : G 4 = y2 := by rw [e, pk_us]
  have gn : ∀ j : Nat, j ≠ 4 → G j = G2 j := fun j hj => by rw [e, pk_un hj]
  have gt : ∀ i : Nat, (i : Int) < 10 * N.toInt → G (8661 + 922 * Int32.toNatClampNeg y + 2 + i) = C i := fun i hi => by
    rw [gn _ (by omega), h2 _, if_neg (by omega), h1 _, if_pos (by omega)]
    congr 1
    omega
  have g1 : G (8661 + 922 * Int32.toNatClampNeg y + 1) = N := by
    rw [gn _ (by omega), h2 _, if_neg (by omega), h1 _, if_neg (by omega), eb, show 8661 + 922 * Int32.toNatClampNeg y + 1 = Int32.toNatClampNeg t1 by omega, pk_us]
  have go : ∀ i : Nat, (i : Int) < n.toInt → G (8661 + 922 * Int32.toNatClampNeg y + 122 + 2 * i) = O i := fun i hi => by
    rw [gn _ (by omega), h2 _, if_pos (by omega), if_pos (by omega)]
    congr 1
    omega
  have gr : ∀ i : Nat, (i : Int) < n.toInt → G (8661 + 922 * Int32.toNatClampNeg y + 122 + 2 * i + 1) = R i := fun i hi => by
    rw [gn _ (by omega), h2 _, if_pos (by omega), if_neg (by omega)]
    congr 1
    omega
  refine ⟨fun j hj => ?_, fun t' ht' => ?_⟩
  · by_cases q : j = 4
    · subst q
      rw [g4]
      exact zOk_4 (by omega)
    · by_cases q2 : j < 8661
      · rw [gn j q, lo j (by omega)]
        exact h0.1 j hj
      · exact zOk_hi (by omega)
  · rw [g4] at ht'
    by_cases q : t' = Int32.toNatClampNeg y
    · subst q
      refine ⟨by rw [g1]; exact hN, fun c hc => ?_⟩
      rw [g1] at hc
      obtain ⟨p1, p2, p3, p4⟩ := hp c hc
      have cv : ∀ a d : Int32, zCo O R a.toInt d.toInt ∧ d.toInt ≤ n.toInt → zCv G (8661 + 922 * Int32.toNatClampNeg y + 122) a d := by
        intro a d hd
        obtain ⟨⟨q1, q2, hh, q3, q4⟩, q5⟩ := hd
        refine ⟨q1, q2, by omega, hh, q3, fun i i1 i2 => ?_⟩
        rw [go i (by omega), gr i (by omega)]
        exact q4 i i1 i2 (by omega)
      have cc : ∀ i : Nat, i < 10 → G (8661 + 922 * Int32.toNatClampNeg y + 2 + 10 * c + i) = C (10 * c + i) := fun i hi => by
        rw [show 8661 + 922 * Int32.toNatClampNeg y + 2 + 10 * c + i = 8661 + 922 * Int32.toNatClampNeg y + 2 + (10 * c + i) by omega]
        exact gt _ (by omega)
      have c00 : G (8661 + 922 * Int32.toNatClampNeg y + 2 + 10 * c) = C (10 * c) := gt (10 * c) (by omega)
      rw [c00, cc 1 (by decide), cc 2 (by decide), cc 3 (by decide), cc 4 (by decide), cc 5 (by decide), cc 6 (by decide)]
      exact ⟨p1, p2, cv _ _ p3, cv _ _ p4⟩
    · exact zTv_congr (fun j j1 j2 => by rw [gn j (by omega), lo j (by omega)]) (h0.2 t' (by rw [← ey]; omega))
theorem zRw_dn {F : Nat → Int32} {y v : Int32} (h : zRw F) (ey : y = F (Int32.toNatClampNeg 4)) (hv : 0 ≤ v.toInt ∧ v.toInt ≤ y.toInt) : zRw (upd F (Int32.toNatClampNeg 4) v) := by
  have h4 := zW_4 h
  rw [ey] at hv
  rw [z_4] at hv h4 ⊢
  refine ⟨fun j hj => ?_, fun t ht => ?_⟩
  · by_cases q : j = 4
    · subst q
      rw [pk_us]
      exact zOk_4 (by omega)
    · rw [pk_un q]
      exact h.1 j hj
  · rw [pk_us] at ht
    exact zTv_congr (fun j j1 j2 => pk_un (by omega)) (h.2 t (by omega))
theorem zRw_bk {F1 F2 : Nat → Int32} {y v w : Int32} (h : zRw F1) (e1 : y = F1 (Int32.toNatClampNeg 4)) (e2 : F2 = upd F1 (Int32.toNatClampNeg 4) w) (hv : v.toInt = y.toInt) : zRw (upd F2 (Int32.toNatClampNeg 4) v) := by
  refine zRw_congr h (fun j _ => ?_)
  rw [e2]
  by_cases q : j = Int32.toNatClampNeg 4
  · subst q
    rw [pk_us]
    exact (Int32.toInt_inj.mp hv).trans e1
  · rw [pk_un q, pk_un q]
theorem z_us {F G : Nat → Int32} {v : Int32} (e : G = upd F (Int32.toNatClampNeg 4) v) : v = G (Int32.toNatClampNeg 4) := by rw [e, pk_us]
theorem zMf_lt {N : Nat} {f g : Int32} (hm : Int.toNat (401 - Int32.toInt f) < N + 1) (h : Int32.toInt f + 1 ≤ Int32.toInt g ∧ Int32.toInt g ≤ 400) : Int.toNat (401 - Int32.toInt g) < N := by omega
