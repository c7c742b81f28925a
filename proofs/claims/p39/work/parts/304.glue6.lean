/-! the model's parser: turns, and what each of them does -/
def zE (a : Int) (O R P Q : Nat → Int32) (n p : Int32) (t : Int) : Prop := (t = 0 ∧ zG a O R P Q n.toInt (Int32.toNatClampNeg p) 0 ∧ zNs P (Int32.toNatClampNeg p)) ∨ (t = 1 ∧ zG a O R P Q n.toInt (Int32.toNatClampNeg p) 0) ∨ (t = 2 ∧ zG a O R P Q n.toInt (Int32.toNatClampNeg p) 1 ∧ zNs P (Int32.toNatClampNeg p)) ∨ (t = 3 ∧ zG a O R P Q n.toInt (Int32.toNatClampNeg p) 1) ∨ (t = 4 ∧ zG a O R P Q n.toInt (Int32.toNatClampNeg p) 1 ∧ ∀ j : Nat, j < Int32.toNatClampNeg p → (P j).toInt < 30)
def zFr (a : Int) (O R O' R' : Nat → Int32) : Prop := ∀ i : Nat, (i : Int) < a → O' i = O i ∧ R' i = R i
theorem zFr_r {a : Int} {O R : Nat → Int32} : zFr a O R O R := fun _ _ => ⟨rfl, rfl⟩
theorem zFr_t {a : Int} {O R O1 R1 O2 R2 : Nat → Int32} (h : zFr a O R O1 R1) (h2 : zFr a O1 R1 O2 R2) : zFr a O R O2 R2 := fun i hi => ⟨(h2 i hi).1.trans (h i hi).1, (h2 i hi).2.trans (h i hi).2⟩
theorem zFr_u {a : Int} {O R : Nat → Int32} {m : Nat} {v w : Int32} (h : a ≤ (m : Int)) : zFr a O R (upd O m v) (upd R m w) := fun i hi => ⟨pk_un (by omega), pk_un (by omega)⟩
theorem zFr_j {a : Int} {O R : Nat → Int32} {m : Nat} {w : Int32} (h : a ≤ (m : Int)) : zFr a O R O (upd R m w) := fun i hi => ⟨rfl, pk_un (by omega)⟩
def zTr (t t' : Int) (O R P Q : Nat → Int32) (n p : Int32) (O' R' P' Q' : Nat → Int32) (n' p' : Int32) : Prop := ∀ a : Int, zE a O R P Q n p t → zE a O' R' P' Q' n' p' t' ∧ zFr a O R O' R'
def zSe (O R P Q : Nat → Int32) (n p : Int32) (O' R' : Nat → Int32) (n' p' : Int32) : Prop := ∀ a : Int, zG a O R P Q n.toInt (Int32.toNatClampNeg p) 1 → zG a O' R' P Q n'.toInt (Int32.toNatClampNeg p') 1 ∧ zFr a O R O' R'
def zSx (P : Nat → Int32) (p p' : Int32) (least : Int) : Prop := (∀ j : Nat, p'.toInt ≤ (j : Int) → (j : Int) < p.toInt → (P j).toInt < 30) ∧ (p'.toInt = 0 ∨ ((least ≤ 5 → 24 ≤ (P (Int32.toNatClampNeg p' - 1)).toInt) ∧ (least ≤ 1 → 30 ≤ (P (Int32.toNatClampNeg p' - 1)).toInt)))
def zIr (P : Nat → Int32) (k : Int) (r : Int32) : Prop := (r.toInt = -1 ∧ ∀ j : Nat, (j : Int) < k → (P j).toInt < 30) ∨ (30 ≤ r.toInt ∧ ∃ j0 : Nat, (j0 : Int) < k ∧ P j0 = r ∧ ∀ j : Nat, j0 < j → (j : Int) < k → (P j).toInt < 30)
theorem zSe_r {O R P Q : Nat → Int32} {n p : Int32} : zSe O R P Q n p O R n p := fun _ h => ⟨h, zFr_r⟩
theorem zSe_e {O R P Q O1 R1 O2 R2 : Nat → Int32} {n p n1 p1 n2 p2 v op : Int32} (h : zSe O R P Q n p O1 R1 n1 p1) (hn : 0 ≤ n1.toInt) (h2 : 0 ≤ p2.toInt) (hp : p1.toInt = p2.toInt + 1) (eo : op = P (Int32.toNatClampNeg p2)) (ho : op.toInt < 30 ∧ op.toInt ≠ 28 ∧ op.toInt ≠ 29) (e1 : O2 = upd O1 (Int32.toNatClampNeg n1) op) (e2 : R2 = upd R1 (Int32.toNatClampNeg n1) v) (e3 : n2.toInt = n1.toInt + 1) : zSe O R P Q n p O2 R2 n2 p2 := by
  intro a g
  obtain ⟨g1, f1⟩ := h a g
  have c1 := z_cl hn
  have c2 := z_cl h2
  have c3 := z_cl (x := p1) (by omega)
  rw [show Int32.toNatClampNeg p1 = Int32.toNatClampNeg p2 + 1 by omega] at g1
  have hb := g1.2.1.1 (Int32.toNatClampNeg p2) (by omega)
  have ha := g1.1
  rw [← eo] at hb
  rw [e1, e2, e3]
  refine ⟨?_, zFr_t f1 (zFr_u (by omega))⟩
  rcases (show op.toInt ≤ 26 ∨ op.toInt = 27 by omega) with q | q
  · have z := zG_bin (m := Int32.toNatClampNeg n1) (arg := v) c1 g1 (by rw [← eo]; omega)
    rw [← eo] at z; exact z
  · have z := zG_not (m := Int32.toNatClampNeg n1) (arg := v) c1 g1 (by rw [← eo]; omega)
    rw [← eo] at z; exact z
theorem zSe_j {O R P Q O1 R1 R2 : Nat → Int32} {n p n1 p1 p2 op at0 : Int32} (h : zSe O R P Q n p O1 R1 n1 p1) (h2 : 0 ≤ p2.toInt) (hp : p1.toInt = p2.toInt + 1) (eo : op = P (Int32.toNatClampNeg p2)) (ho : op.toInt = 28 ∨ op.toInt = 29) (ea : at0 = Q (Int32.toNatClampNeg p2)) (ha0 : 0 ≤ at0.toInt) (e2 : R2 = upd R1 (Int32.toNatClampNeg at0) n1) : zSe O R P Q n p O1 R2 n1 p2 := by
  intro a g
  obtain ⟨g1, f1⟩ := h a g
  have c1 := z_cl ha0
  have c2 := z_cl h2
  have c3 := z_cl (x := p1) (by omega)
  rw [show Int32.toNatClampNeg p1 = Int32.toNatClampNeg p2 + 1 by omega] at g1
  have hq : a ≤ (Q (Int32.toNatClampNeg p2)).toInt := by
    obtain ⟨_, _, hh, _, _, _, gq⟩ := g1
    exact (gq (Int32.toNatClampNeg p2) (by omega) (by rw [← eo]; omega) (by rw [← eo]; omega)).1
  rw [← ea] at hq
  rw [e2]
  exact ⟨zG_jump rfl (by rw [← ea]; exact c1) g1 (by rw [← eo]; omega), zFr_t f1 (zFr_j (by omega))⟩
theorem zIr_0 {P : Nat → Int32} {k : Int} {r : Int32} (hk : k = 0) (hr : r.toInt = -1) : zIr P k r := Or.inl ⟨hr, fun j hj => absurd hj (by omega)⟩
theorem zIr_s {P : Nat → Int32} {k k2 r v : Int32} (h : zIr P k.toInt r) (hk : 0 ≤ k.toInt) (h2 : k2.toInt = k.toInt + 1) (ev : v = P (Int32.toNatClampNeg k)) (hv : v.toInt < 30) : zIr P k2.toInt r := by
  have c1 := z_cl hk
  have hl : ∀ j : Nat, (j : Int) < k2.toInt → (j : Int) < k.toInt ∨ P j = v := fun j hj => by
    rcases (show (j : Int) < k.toInt ∨ j = Int32.toNatClampNeg k by omega) with q | q
    · exact Or.inl q
    · exact Or.inr (by rw [q, ev])
  rcases h with ⟨h1, h3⟩ | ⟨h1, j0, h3, h4, h5⟩
  · refine Or.inl ⟨h1, fun j hj => ?_⟩
    rcases hl j hj with q | q
    · exact h3 j q
    · rw [q]; exact hv
  · refine Or.inr ⟨h1, j0, by omega, h4, fun j ij hj => ?_⟩
    rcases hl j hj with q | q
    · exact h5 j ij q
    · rw [q]; exact hv
theorem zIr_b {P : Nat → Int32} {k k2 v : Int32} (hk : 0 ≤ k.toInt) (h2 : k2.toInt = k.toInt + 1) (ev : v = P (Int32.toNatClampNeg k)) (hv : 30 ≤ v.toInt) : zIr P k2.toInt v := by
  have c1 := z_cl hk
  exact Or.inr ⟨hv, Int32.toNatClampNeg k, by omega, ev.symm, fun j ij hj => absurd hj (by omega)⟩
theorem zIr_pos {P : Nat → Int32} {p p' r : Int32} {least : Int} (hi : zIr P p.toInt r) (hr : r.toInt ≠ -1) (hx : zSx P p p' least) : 1 ≤ p'.toInt := by
  rcases hi with h | ⟨h1, j0, h2, h3, h4⟩
  · exact absurd h.1 hr
  · by_cases q : 1 ≤ p'.toInt
    · exact q
    · have := hx.1 j0 (by omega) h2
      rw [h3] at this
      omega
theorem zNs_in {P : Nat → Int32} {p r : Int32} (hp : 0 ≤ p.toInt) (hb : zGb P (Int32.toNatClampNeg p)) (hi : zIr P p.toInt r) (hr : r.toInt ≠ 31) : zNs P (Int32.toNatClampNeg p) := by
  have c1 := z_cl hp
  intro j hj e
  rcases hi with h | ⟨h1, j0, h2, h3, h4⟩
  · have := h.2 j (by omega); omega
  · rcases (show j < j0 ∨ j = j0 ∨ j0 < j by omega) with q | q | q
    · have := hb.2 j j0 q (by omega) e
      rw [h3] at this
      omega
    · subst q; rw [h3] at e; exact hr e
    · have := h4 j q (by omega); omega
theorem zNs_le {P : Nat → Int32} {p p' : Nat} (h : zNs P p) (hp : p' ≤ p) : zNs P p' := fun j hj => h j (by omega)
theorem zNs_u {P : Nat → Int32} {p m : Nat} {op : Int32} (h : zNs P p) (hm : m = p) (ho : op.toInt ≠ 31) : zNs (upd P m op) (p + 1) := by
  subst hm
  intro j hj
  by_cases e : j = m
  · subst e; rw [pk_us]; exact ho
  · rw [pk_un e]; exact h j (by omega)
theorem zE_01 {a : Int} {O R P Q : Nat → Int32} {n p : Int32} (h : zE a O R P Q n p 0) : zE a O R P Q n p 1 := by
  rcases h with h | h | h | h | h
  · exact Or.inr (Or.inl ⟨rfl, h.2.1⟩)
  · exact absurd h.1 (by decide)
  · exact absurd h.1 (by decide)
  · exact absurd h.1 (by decide)
  · exact absurd h.1 (by decide)
theorem zE_g0 {a : Int} {O R P Q : Nat → Int32} {n p : Int32} (h : zE a O R P Q n p 0) : zG a O R P Q n.toInt (Int32.toNatClampNeg p) 0 ∧ zNs P (Int32.toNatClampNeg p) := by
  rcases h with h | h | h | h | h
  · exact h.2
  all_goals exact absurd h.1 (by decide)
theorem zE_g1 {a : Int} {O R P Q : Nat → Int32} {n p : Int32} (h : zE a O R P Q n p 1) : zG a O R P Q n.toInt (Int32.toNatClampNeg p) 0 := by
  rcases h with h | h | h | h | h
  · exact absurd h.1 (by decide)
  · exact h.2
  all_goals exact absurd h.1 (by decide)
theorem zE_g2 {a : Int} {O R P Q : Nat → Int32} {n p : Int32} (h : zE a O R P Q n p 2) : zG a O R P Q n.toInt (Int32.toNatClampNeg p) 1 ∧ zNs P (Int32.toNatClampNeg p) := by
  rcases h with h | h | h | h | h
  · exact absurd h.1 (by decide)
  · exact absurd h.1 (by decide)
  · exact h.2
  all_goals exact absurd h.1 (by decide)
theorem zE_g3 {a : Int} {O R P Q : Nat → Int32} {n p : Int32} (h : zE a O R P Q n p 3) : zG a O R P Q n.toInt (Int32.toNatClampNeg p) 1 := by
  rcases h with h | h | h | h | h
  · exact absurd h.1 (by decide)
  · exact absurd h.1 (by decide)
  · exact absurd h.1 (by decide)
  · exact h.2
  · exact absurd h.1 (by decide)
theorem zE_g4 {a : Int} {O R P Q : Nat → Int32} {n p : Int32} (h : zE a O R P Q n p 4) : zG a O R P Q n.toInt (Int32.toNatClampNeg p) 1 ∧ ∀ j : Nat, j < Int32.toNatClampNeg p → (P j).toInt < 30 := by
  rcases h with h | h | h | h | h
  · exact absurd h.1 (by decide)
  · exact absurd h.1 (by decide)
  · exact absurd h.1 (by decide)
  · exact absurd h.1 (by decide)
  · exact h.2
theorem zE_0 {a : Int} {O R P Q : Nat → Int32} {n p : Int32} (h : zG a O R P Q n.toInt (Int32.toNatClampNeg p) 0) (h2 : zNs P (Int32.toNatClampNeg p)) : zE a O R P Q n p 0 := Or.inl ⟨rfl, h, h2⟩
theorem zE_1 {a : Int} {O R P Q : Nat → Int32} {n p : Int32} (h : zG a O R P Q n.toInt (Int32.toNatClampNeg p) 0) : zE a O R P Q n p 1 := Or.inr (Or.inl ⟨rfl, h⟩)
theorem zE_2 {a : Int} {O R P Q : Nat → Int32} {n p : Int32} (h : zG a O R P Q n.toInt (Int32.toNatClampNeg p) 1) (h2 : zNs P (Int32.toNatClampNeg p)) : zE a O R P Q n p 2 := Or.inr (Or.inr (Or.inl ⟨rfl, h, h2⟩))
theorem zE_3 {a : Int} {O R P Q : Nat → Int32} {n p : Int32} (h : zG a O R P Q n.toInt (Int32.toNatClampNeg p) 1) : zE a O R P Q n p 3 := Or.inr (Or.inr (Or.inr (Or.inl ⟨rfl, h⟩)))
theorem zE_4 {a : Int} {O R P Q : Nat → Int32} {n p : Int32} (h : zG a O R P Q n.toInt (Int32.toNatClampNeg p) 1) (h2 : ∀ j : Nat, j < Int32.toNatClampNeg p → (P j).toInt < 30) : zE a O R P Q n p 4 := Or.inr (Or.inr (Or.inr (Or.inr ⟨rfl, h, h2⟩)))
/-- a leaf -/
theorem zT_l1 {O R P Q O2 R2 : Nat → Int32} {n p n2 op v : Int32} (hn : 0 ≤ n.toInt) (ho : 0 ≤ op.toInt ∧ op.toInt ≤ 15) (e1 : O2 = upd O (Int32.toNatClampNeg n) op) (e2 : R2 = upd R (Int32.toNatClampNeg n) v) (e3 : n2.toInt = n.toInt + 1) : zTr 1 3 O R P Q n p O2 R2 P Q n2 p := by
  intro a h
  have g := zE_g1 h
  have c1 := z_cl hn
  have ha := g.1
  rw [e1, e2]
  refine ⟨zE_3 ?_, zFr_u (by omega)⟩
  rw [e3]
  exact zG_leaf c1 g ho
theorem zT_l0 {O R P Q O2 R2 : Nat → Int32} {n p n2 op v : Int32} (hn : 0 ≤ n.toInt) (ho : 0 ≤ op.toInt ∧ op.toInt ≤ 15) (e1 : O2 = upd O (Int32.toNatClampNeg n) op) (e2 : R2 = upd R (Int32.toNatClampNeg n) v) (e3 : n2.toInt = n.toInt + 1) : zTr 0 2 O R P Q n p O2 R2 P Q n2 p := by
  intro a h
  have g := zE_g0 h
  have c1 := z_cl hn
  have ha := g.1.1
  rw [e1, e2]
  refine ⟨zE_2 ?_ g.2, zFr_u (by omega)⟩
  rw [e3]
  exact zG_leaf c1 g.1 ho
theorem zT_01 {r : Int} {O R P Q O2 R2 P2 Q2 : Nat → Int32} {n p n2 p2 : Int32} (h : zTr 1 r O R P Q n p O2 R2 P2 Q2 n2 p2) : zTr 0 r O R P Q n p O2 R2 P2 Q2 n2 p2 := fun a g => h a (zE_01 g)
/-- not, a round bracket -/
theorem zT_p0 {O R P Q P2 Q2 : Nat → Int32} {n p p2 op v : Int32} (hp : 0 ≤ p.toInt) (ho : op.toInt = 27 ∨ op.toInt = 30) (e1 : P2 = upd P (Int32.toNatClampNeg p) op) (e2 : Q2 = upd Q (Int32.toNatClampNeg p) v) (e3 : p2.toInt = p.toInt + 1) : zTr 0 0 O R P Q n p O R P2 Q2 n p2 := by
  intro a h
  have g := zE_g0 h
  have c1 := z_cl hp
  have c2 := z_cl (x := p2) (by omega)
  rw [e1, e2]
  refine ⟨zE_0 ?_ ?_, zFr_r⟩
  · rw [show Int32.toNatClampNeg p2 = Int32.toNatClampNeg p + 1 by omega]
    exact zG_pu rfl g.1 (by omega) (by omega) (by rw [zWt_0 (by omega)]; rfl) (Or.inr (Or.inr g.2))
  · rw [show Int32.toNatClampNeg p2 = Int32.toNatClampNeg p + 1 by omega]
    exact zNs_u g.2 rfl (by omega)
/-- a square bracket -/
theorem zT_p1 {O R P Q P2 Q2 : Nat → Int32} {n p p2 op v : Int32} (hp : 0 ≤ p.toInt) (ho : op.toInt = 31) (e1 : P2 = upd P (Int32.toNatClampNeg p) op) (e2 : Q2 = upd Q (Int32.toNatClampNeg p) v) (e3 : p2.toInt = p.toInt + 1) : zTr 1 1 O R P Q n p O R P2 Q2 n p2 := by
  intro a h
  have g := zE_g1 h
  have c1 := z_cl hp
  have c2 := z_cl (x := p2) (by omega)
  rw [e1, e2]
  refine ⟨zE_1 ?_, zFr_r⟩
  rw [show Int32.toNatClampNeg p2 = Int32.toNatClampNeg p + 1 by omega]
  exact zG_pu rfl g (by omega) (by omega) (by rw [zWt_0 (by omega)]; rfl) (Or.inr (Or.inl ho))
/-- an operation of a sum -/
theorem zT_su {O R P Q O1 R1 P2 Q2 : Nat → Int32} {n p n1 p1 p2 op v : Int32} (hs : zSe O R P Q n p O1 R1 n1 p1) (hp : 0 ≤ p1.toInt) (ho : 20 ≤ op.toInt ∧ op.toInt ≤ 23) (e1 : P2 = upd P (Int32.toNatClampNeg p1) op) (e2 : Q2 = upd Q (Int32.toNatClampNeg p1) v) (e3 : p2.toInt = p1.toInt + 1) : zTr 3 1 O R P Q n p O1 R1 P2 Q2 n1 p2 := by
  intro a h
  obtain ⟨g, f⟩ := hs a (zE_g3 h)
  have c1 := z_cl hp
  have c2 := z_cl (x := p2) (by omega)
  rw [e1, e2]
  refine ⟨zE_1 ?_, f⟩
  rw [show Int32.toNatClampNeg p2 = Int32.toNatClampNeg p1 + 1 by omega]
  exact zG_pu rfl g (by omega) (by omega) (by rw [zWt_1 (by omega)]; rfl) (Or.inl ho.2)
/-- a comparison -/
theorem zT_co {O R P Q O1 R1 P2 Q2 : Nat → Int32} {n p n1 p1 p2 op v r : Int32} (hs : zSe O R P Q n p O1 R1 n1 p1) (hp0 : 0 ≤ p.toInt) (hi : zIr P p.toInt r) (hr : r.toInt ≠ 31) (hle : p1.toInt ≤ p.toInt) (hp : 0 ≤ p1.toInt) (ho : 24 ≤ op.toInt ∧ op.toInt ≤ 26) (e1 : P2 = upd P (Int32.toNatClampNeg p1) op) (e2 : Q2 = upd Q (Int32.toNatClampNeg p1) v) (e3 : p2.toInt = p1.toInt + 1) : zTr 3 1 O R P Q n p O1 R1 P2 Q2 n1 p2 := by
  intro a h
  have g0 := zE_g3 h
  have ns := zNs_in hp0 g0.2.1 hi hr
  obtain ⟨g, f⟩ := hs a g0
  have c0 := z_cl hp0
  have c1 := z_cl hp
  have c2 := z_cl (x := p2) (by omega)
  rw [e1, e2]
  refine ⟨zE_1 ?_, f⟩
  rw [show Int32.toNatClampNeg p2 = Int32.toNatClampNeg p1 + 1 by omega]
  exact zG_pu rfl g (by omega) (by omega) (by rw [zWt_1 (by omega)]; rfl) (Or.inr (Or.inr (zNs_le ns (by omega))))
theorem zT_cd {O R P Q : Nat → Int32} {n p r : Int32} (hp0 : 0 ≤ p.toInt) (hi : zIr P p.toInt r) (hr : r.toInt ≠ 31) : zTr 3 2 O R P Q n p O R P Q n p := fun a h => ⟨zE_2 (zE_g3 h) (zNs_in hp0 (zE_g3 h).2.1 hi hr), zFr_r⟩
theorem zT_o3 {O R P Q : Nat → Int32} {n p r : Int32} (hp0 : 0 ≤ p.toInt) (hi : zIr P p.toInt r) (hr : r.toInt = -1) : zTr 3 4 O R P Q n p O R P Q n p := by
  intro a h
  have c0 := z_cl hp0
  rcases hi with q | q
  · exact ⟨zE_4 (zE_g3 h) (fun j hj => q.2 j (by omega)), zFr_r⟩
  · omega
theorem zT_o2 {O R P Q : Nat → Int32} {n p r : Int32} (hp0 : 0 ≤ p.toInt) (hi : zIr P p.toInt r) (hr : r.toInt = -1) : zTr 2 4 O R P Q n p O R P Q n p := by
  intro a h
  have c0 := z_cl hp0
  rcases hi with q | q
  · exact ⟨zE_4 (zE_g2 h).1 (fun j hj => q.2 j (by omega)), zFr_r⟩
  · omega
/-- a square bracket closes -/
theorem zT_cs {O R P Q O1 R1 : Nat → Int32} {n p n1 p1 p2 r : Int32} (hs : zSe O R P Q n p O1 R1 n1 p1) (hp0 : 0 ≤ p.toInt) (hi : zIr P p.toInt r) (hr : r.toInt = 31) (hx : zSx P p p1 5) (hle : p1.toInt ≤ p.toInt) (hp : 0 ≤ p2.toInt) (e3 : p1.toInt = p2.toInt + 1) : zTr 3 3 O R P Q n p O1 R1 P Q n1 p2 := by
  intro a h
  have g0 := zE_g3 h
  obtain ⟨g, f⟩ := hs a g0
  have c0 := z_cl hp0
  have c1 := z_cl (x := p1) (by omega)
  have c2 := z_cl hp
  have ep : Int32.toNatClampNeg p1 = Int32.toNatClampNeg p2 + 1 := by omega
  refine ⟨zE_3 ?_, f⟩
  rw [ep] at g
  refine zG_br g ?_
  have hx2 : 24 ≤ (P (Int32.toNatClampNeg p2)).toInt := by
    rcases hx.2 with q | q
    · omega
    · have := q.1 (by decide)
      rw [ep] at this
      exact this
  rcases hi with q | ⟨h1, j0, h2, h3, h4⟩
  · omega
  · rcases (show Int32.toNatClampNeg p2 < j0 ∨ Int32.toNatClampNeg p2 = j0 ∨ j0 < Int32.toNatClampNeg p2 by omega) with q | q | q
    · have := hx.1 j0 (by omega) h2
      rw [h3] at this; omega
    · rw [q, h3]; exact h1
    · have h5 := g0.2.1.2 j0 (Int32.toNatClampNeg p2) q (by omega) (by rw [h3]; exact hr)
      omega
/-- a round bracket closes -/
theorem zT_cr {O R P Q O1 R1 : Nat → Int32} {n p n1 p1 p2 : Int32} (hs : zSe O R P Q n p O1 R1 n1 p1) (hp0 : 0 ≤ p.toInt) (hx : zSx P p p1 1) (hle : p1.toInt ≤ p.toInt) (hp : 0 ≤ p2.toInt) (e3 : p1.toInt = p2.toInt + 1) : zTr 2 2 O R P Q n p O1 R1 P Q n1 p2 := by
  intro a h
  have g0 := zE_g2 h
  obtain ⟨g, f⟩ := hs a g0.1
  have c0 := z_cl hp0
  have c1 := z_cl (x := p1) (by omega)
  have c2 := z_cl hp
  have ep : Int32.toNatClampNeg p1 = Int32.toNatClampNeg p2 + 1 := by omega
  refine ⟨zE_2 ?_ (zNs_le g0.2 (by omega)), f⟩
  rw [ep] at g
  refine zG_br g ?_
  rcases hx.2 with q | q
  · omega
  · have := q.2 (by decide)
    rw [ep] at this
    exact this
/-- and, or -/
theorem zT_an {O R P Q O1 R1 O2 R2 P2 Q2 : Nat → Int32} {n p n1 p1 n2 p2 op at0 v : Int32} (hs : zSe O R P Q n p O1 R1 n1 p1) (hp0 : 0 ≤ p.toInt) (hle : p1.toInt ≤ p.toInt) (hp : 0 ≤ p1.toInt) (hn : 0 ≤ n1.toInt) (hat : at0.toInt = n1.toInt) (ho : op.toInt = 28 ∨ op.toInt = 29) (e1 : P2 = upd P (Int32.toNatClampNeg p1) op) (e2 : Q2 = upd Q (Int32.toNatClampNeg p1) at0) (e3 : p2.toInt = p1.toInt + 1) (e4 : O2 = upd O1 (Int32.toNatClampNeg n1) op) (e5 : R2 = upd R1 (Int32.toNatClampNeg n1) v) (e6 : n2.toInt = n1.toInt + 1) : zTr 2 0 O R P Q n p O2 R2 P2 Q2 n2 p2 := by
  intro a h
  have g0 := zE_g2 h
  obtain ⟨g, f⟩ := hs a g0.1
  have c0 := z_cl hp0
  have c1 := z_cl hp
  have c2 := z_cl (x := p2) (by omega)
  have c3 := z_cl hn
  have ha := g.1
  have ns := zNs_le g0.2 (show Int32.toNatClampNeg p1 ≤ Int32.toNatClampNeg p by omega)
  rw [e1, e2, e4, e5]
  refine ⟨zE_0 ?_ ?_, zFr_t f (zFr_u (by omega))⟩
  · rw [e6, show Int32.toNatClampNeg p2 = Int32.toNatClampNeg p1 + 1 by omega]
    exact zG_and rfl c3 hat g (by omega) ns
  · rw [show Int32.toNatClampNeg p2 = Int32.toNatClampNeg p1 + 1 by omega]
    exact zNs_u ns rfl (by omega)
/-- a whole expression: begun, ended -/
def zCo (O R : Nat → Int32) (a b : Int) : Prop := 0 ≤ a ∧ a ≤ b ∧ ∃ h : Int → Int, h a = 0 ∧ ∀ i : Nat, a ≤ (i : Int) → (i : Int) < b → b ≤ 400 → zSt h b i (O i).toInt (R i).toInt
theorem zE_b0 {O R P Q : Nat → Int32} {n p : Int32} (hn : 0 ≤ n.toInt) (hp : p.toInt = 0) : zE n.toInt O R P Q n p 0 := by
  have c := z_cl (x := p) (by omega)
  have e : Int32.toNatClampNeg p = 0 := by omega
  refine zE_0 ?_ ?_
  · rw [e]; exact zG_0 hn rfl
  · rw [e]; exact fun j hj => absurd hj (by omega)
theorem zE_b1 {O R P Q : Nat → Int32} {n p : Int32} (hn : 0 ≤ n.toInt) (hp : p.toInt = 0) : zE n.toInt O R P Q n p 1 := zE_01 (zE_b0 hn hp)
theorem zE_end {a : Int} {O R P Q O1 R1 : Nat → Int32} {n p n1 p1 : Int32} (h : zE a O R P Q n p 4) (hp0 : 0 ≤ p.toInt) (hp1 : 0 ≤ p1.toInt) (hle : p1.toInt ≤ p.toInt) (hs : zSe O R P Q n p O1 R1 n1 p1) (hx : zSx P p p1 1) : zCo O1 R1 a n1.toInt ∧ zFr a O R O1 R1 := by
  have g0 := zE_g4 h
  obtain ⟨g, f⟩ := hs a g0.1
  have c0 := z_cl hp0
  have c1 := z_cl hp1
  have e : Int32.toNatClampNeg p1 = 0 := by
    rcases hx.2 with q | q
    · omega
    · by_cases z : Int32.toNatClampNeg p1 = 0
      · exact z
      · have h1 := q.2 (by decide)
        have h2 := g0.2 (Int32.toNatClampNeg p1 - 1) (by omega)
        omega
  rw [e] at g
  obtain ⟨ha, _, h, h0, _, hc, _⟩ := g
  refine ⟨⟨ha.1, ha.2, h, h0, fun i i1 i2 i4 => ?_⟩, f⟩
  obtain ⟨⟨s0, s1, s2, s3, s4⟩, c2⟩ := hc i i1 i2
  refine ⟨⟨s0.1, by omega⟩, fun q => ?_, s2, s3, fun q => ?_⟩
  · have := s1 q; omega
  · have := s4 q
    rcases c2 q with c | ⟨j, j1, _⟩
    · exact ⟨this.1, this.2, c.1, c.2.1, c.2.2⟩
    · exact absurd j1 (by omega)
