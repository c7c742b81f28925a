/-! an expression's loop -/
theorem zE_c {a t t' : Int} {O R P Q : Nat → Int32} {n p : Int32} (h : zE a O R P Q n p t) (e : t = t') : zE a O R P Q n p t' := e ▸ h
def zMt (b f t : Int32) : Int := if b.toInt ≠ 0 ∨ t.toInt = 4 then 0 else 10 * (401 - f.toInt) + t.toInt + 1
theorem zMt_lt {N : Nat} {b f t b' f' t' : Int32} (hm : Int.toNat (zMt b f t) < N + 1) (hb : Int32.toInt b = 0) (ht : 0 ≤ Int32.toInt t ∧ Int32.toInt t ≤ 3) (hf : 0 ≤ Int32.toInt f ∧ Int32.toInt f ≤ Int32.toInt f' ∧ Int32.toInt f' ≤ 400) (h : Int32.toInt b' ≠ 0 ∨ Int32.toInt t' = 4 ∨ (Int32.toInt f + 1 ≤ Int32.toInt f' ∧ 0 ≤ Int32.toInt t' ∧ Int32.toInt t' ≤ 4) ∨ (Int32.toInt t = 3 ∧ Int32.toInt t' = 2)) : Int.toNat (zMt b' f' t') < N := by
  have e : zMt b f t = 10 * (401 - f.toInt) + t.toInt + 1 := if_neg (by omega)
  rw [e] at hm
  by_cases q : b'.toInt ≠ 0 ∨ t'.toInt = 4
  · have e2 : zMt b' f' t' = 0 := if_pos q
    rw [e2]
    omega
  · have e2 : zMt b' f' t' = 10 * (401 - f'.toInt) + t'.toInt + 1 := if_neg q
    rw [e2]
    omega
theorem zCo_fr {O R O' R' : Nat → Int32} {a b n : Int} (h : zCo O R a b) (hb : b ≤ n) (hf : zFr n O R O' R') : zCo O' R' a b := by
  obtain ⟨h1, h2, hh, h3, h4⟩ := h
  refine ⟨h1, h2, hh, h3, fun i i1 i2 i3 => ?_⟩
  rw [(hf i (by omega)).1, (hf i (by omega)).2]
  exact h4 i i1 i2 i3
theorem zCo_0 {O R : Nat → Int32} {a b : Int} (h : 0 ≤ a) (e : b = a) : zCo O R a b := ⟨h, by omega, fun _ => 0, rfl, fun i i1 i2 => absurd i2 (by omega)⟩
def zPk (C O R : Nat → Int32) (n : Int) (c : Nat) : Prop := ((C (10 * c)).toInt = 0 → (0 ≤ (C (10 * c + 1)).toInt ∧ (C (10 * c + 1)).toInt ≤ 19) ∧ (0 ≤ (C (10 * c + 2)).toInt ∧ (C (10 * c + 2)).toInt ≤ 11)) ∧ (0 ≤ (C (10 * c + 2)).toInt ∧ (C (10 * c + 2)).toInt ≤ 400) ∧ (zCo O R (C (10 * c + 3)).toInt (C (10 * c + 4)).toInt ∧ (C (10 * c + 4)).toInt ≤ n) ∧ (zCo O R (C (10 * c + 5)).toInt (C (10 * c + 6)).toInt ∧ (C (10 * c + 6)).toInt ≤ n)
def zPc (C : Nat → Int32) (N : Int32) (O R : Nat → Int32) (n : Int32) : Prop := ∀ c : Nat, (c : Int) < N.toInt → zPk C O R n.toInt c
theorem zPc_0 {C O R : Nat → Int32} {N n : Int32} (h : N.toInt = 0) : zPc C N O R n := fun c hc => absurd hc (by omega)
theorem zPc_add {C C' O R O' R' : Nat → Int32} {N N' n n' v0 v1 v2 v3 v4 v5 v6 : Int32} (hp : zPc C N O R n) (hN0 : 0 ≤ N.toInt) (hN : N'.toInt = N.toInt + 1) (hf : zFr n.toInt O R O' R') (hn : n.toInt ≤ n'.toInt)
    (hk : ∀ j : Nat, (j : Int) < 10 * N.toInt → C' j = C j)
    (e0 : C' (10 * Int32.toNatClampNeg N) = v0) (e1 : C' (10 * Int32.toNatClampNeg N + 1) = v1) (e2 : C' (10 * Int32.toNatClampNeg N + 2) = v2) (e3 : C' (10 * Int32.toNatClampNeg N + 3) = v3) (e4 : C' (10 * Int32.toNatClampNeg N + 4) = v4) (e5 : C' (10 * Int32.toNatClampNeg N + 5) = v5) (e6 : C' (10 * Int32.toNatClampNeg N + 6) = v6)
    (h1 : v0.toInt = 0 → (0 ≤ v1.toInt ∧ v1.toInt ≤ 19) ∧ (0 ≤ v2.toInt ∧ v2.toInt ≤ 11)) (h2 : 0 ≤ v2.toInt ∧ v2.toInt ≤ 400) (h3 : zCo O' R' v3.toInt v4.toInt ∧ v4.toInt ≤ n'.toInt) (h4 : zCo O' R' v5.toInt v6.toInt ∧ v6.toInt ≤ n'.toInt) : zPc C' N' O' R' n' := by
  have c0 := z_cl hN0
  intro c hc
  rcases (show (c : Int) < N.toInt ∨ c = Int32.toNatClampNeg N by omega) with q | q
  · obtain ⟨p1, p2, p3, p4⟩ := hp c q
    unfold zPk
    rw [hk (10 * c) (by omega), hk (10 * c + 1) (by omega), hk (10 * c + 2) (by omega), hk (10 * c + 3) (by omega), hk (10 * c + 4) (by omega), hk (10 * c + 5) (by omega), hk (10 * c + 6) (by omega)]
    exact ⟨p1, p2, ⟨zCo_fr p3.1 p3.2 hf, by omega⟩, ⟨zCo_fr p4.1 p4.2 hf, by omega⟩⟩
  · subst q
    unfold zPk
    rw [e0, e1, e2, e3, e4, e5, e6]
    exact ⟨h1, h2, h3, h4⟩
/-- the zeros of a clause -/
def zZn (C : Nat → Int32) (N k : Int32) (F : Nat → Int32) : Prop := (∀ j : Nat, (j : Int) < 10 * N.toInt → F j = C j) ∧ ∀ i : Nat, (i : Int) < k.toInt → F (10 * Int32.toNatClampNeg N + i) = 0
theorem zZn_0 {C : Nat → Int32} {N k : Int32} (h : k.toInt = 0) : zZn C N k C := ⟨fun _ _ => rfl, fun i hi => absurd hi (by omega)⟩
theorem zZn_s {C F G : Nat → Int32} {N k k2 x : Int32} (h : zZn C N k F) (hN : 0 ≤ N.toInt) (hk : 0 ≤ k.toInt) (hx : x.toInt = 10 * N.toInt + k.toInt) (h2 : k2.toInt = k.toInt + 1) (e : G = upd F (Int32.toNatClampNeg x) 0) : zZn C N k2 G := by
  have c1 := z_cl hN
  have c2 := z_cl hk
  have c3 := z_cl (x := x) (by omega)
  refine ⟨fun j hj => ?_, fun i hi => ?_⟩
  · rw [e, pk_un (by omega)]; exact h.1 j hj
  · rw [e]
    by_cases q : 10 * Int32.toNatClampNeg N + i = Int32.toNatClampNeg x
    · rw [q, pk_us]
    · rw [pk_un q]; exact h.2 i (by omega)
theorem zK_s {F G : Nat → Int32} {N x v : Int32} {i : Nat} (e : G = upd F (Int32.toNatClampNeg x) v) (hN : 0 ≤ N.toInt) (hx : x.toInt = 10 * N.toInt + (i : Int)) : G (10 * Int32.toNatClampNeg N + i) = v := by
  have c1 := z_cl hN
  have c3 := z_cl (x := x) (by omega)
  rw [e, show 10 * Int32.toNatClampNeg N + i = Int32.toNatClampNeg x by omega, pk_us]
theorem zK_n {F G : Nat → Int32} {N x v w : Int32} {i j : Nat} (e : G = upd F (Int32.toNatClampNeg x) v) (hN : 0 ≤ N.toInt) (hx : x.toInt = 10 * N.toInt + (i : Int)) (hij : j ≠ i) (h : F (10 * Int32.toNatClampNeg N + j) = w) : G (10 * Int32.toNatClampNeg N + j) = w := by
  have c1 := z_cl hN
  have c3 := z_cl (x := x) (by omega)
  rw [e, pk_un (by omega)]
  exact h
theorem zK_f {C F G : Nat → Int32} {N x v : Int32} {i : Nat} (e : G = upd F (Int32.toNatClampNeg x) v) (hN : 0 ≤ N.toInt) (hx : x.toInt = 10 * N.toInt + (i : Int)) (h : ∀ j : Nat, (j : Int) < 10 * N.toInt → F j = C j) : ∀ j : Nat, (j : Int) < 10 * N.toInt → G j = C j := by
  have c3 := z_cl (x := x) (by omega)
  intro j hj
  rw [e, pk_un (by omega)]
  exact h j hj
theorem zFr_le {a b : Int} {O R O' R' : Nat → Int32} (h : zFr b O R O' R') (hab : a ≤ b) : zFr a O R O' R' := fun i hi => h i (by omega)
