/-! the model's parser: the code so far, with its heights, beside the pile -/
def zWt (op : Int) : Int := if 20 ≤ op ∧ op ≤ 26 then 1 else 0
def zSm (P : Nat → Int32) : Nat → Int
  | 0 => 0
  | n + 1 => zSm P n + zWt (P n).toInt
theorem zWt_1 {x : Int} (h : 20 ≤ x ∧ x ≤ 26) : zWt x = 1 := if_pos h
theorem zWt_0 {x : Int} (h : ¬ (20 ≤ x ∧ x ≤ 26)) : zWt x = 0 := if_neg h
theorem zSm_s (P : Nat → Int32) (n : Nat) : zSm P (n + 1) = zSm P n + zWt (P n).toInt := rfl
theorem zSm_nn (P : Nat → Int32) (n : Nat) : 0 ≤ zSm P n := by
  induction n with
  | zero => exact Int.le_refl 0
  | succ n ih =>
    rw [zSm_s]
    by_cases h : 20 ≤ (P n).toInt ∧ (P n).toInt ≤ 26
    · rw [zWt_1 h]; omega
    · rw [zWt_0 h]; omega
theorem zSm_c {P P' : Nat → Int32} {n : Nat} (h : ∀ j, j < n → P' j = P j) : zSm P' n = zSm P n := by
  induction n with
  | zero => rfl
  | succ n ih => rw [zSm_s, zSm_s, ih (fun j hj => h j (by omega)), h n (by omega)]
def zS1 (h : Int → Int) (i op : Int) : Prop := (0 ≤ h i ∧ h i ≤ i) ∧ (op < 20 → 0 ≤ op ∧ op ≤ 15 ∧ h (i + 1) = h i + 1) ∧ (20 ≤ op → op < 27 → 2 ≤ h i ∧ h (i + 1) = h i - 1) ∧ (op = 27 → 1 ≤ h i ∧ h (i + 1) = h i) ∧ (27 < op → 1 ≤ h i ∧ h (i + 1) = h i - 1)
def zGc (a : Int) (h : Int → Int) (O R P Q : Nat → Int32) (n : Int) (p : Nat) : Prop := ∀ i : Nat, a ≤ (i : Int) → (i : Int) < n → zS1 h i (O i).toInt ∧ (27 < (O i).toInt → ((i : Int) < (R i).toInt ∧ (R i).toInt ≤ n ∧ h (R i).toInt = h i) ∨ ∃ j : Nat, j < p ∧ (Q j).toInt = (i : Int) ∧ 28 ≤ (P j).toInt ∧ (P j).toInt ≤ 29)
def zGp (a : Int) (h : Int → Int) (P Q : Nat → Int32) (n : Int) (p : Nat) : Prop := ∀ j : Nat, j < p → 28 ≤ (P j).toInt → (P j).toInt ≤ 29 → a ≤ (Q j).toInt ∧ (Q j).toInt < n ∧ h (Q j).toInt = zSm P j + 1
def zGb (P : Nat → Int32) (p : Nat) : Prop := (∀ j : Nat, j < p → 20 ≤ (P j).toInt ∧ (P j).toInt ≤ 31) ∧ ∀ i j : Nat, i < j → j < p → (P i).toInt = 31 → (P j).toInt ≤ 23 ∨ (P j).toInt = 31
def zG (a : Int) (O R P Q : Nat → Int32) (n : Int) (p : Nat) (d : Int) : Prop := (0 ≤ a ∧ a ≤ n) ∧ zGb P p ∧ ∃ h : Int → Int, h a = 0 ∧ (h n = zSm P p + d ∧ h n ≤ n) ∧ zGc a h O R P Q n p ∧ zGp a h P Q n p
def zNs (P : Nat → Int32) (p : Nat) : Prop := ∀ j : Nat, j < p → (P j).toInt ≠ 31
/-- one more word of code at n: heights go on by 'nx' -/
theorem zH_e {h : Int → Int} {n v x : Int} (hx : x ≠ n + 1) : (fun y => if y = n + 1 then v else h y) x = h x := if_neg hx
theorem zG_ext {a n nx : Int} {h : Int → Int} {O R P Q P' Q' : Nat → Int32} {p p' m : Nat} {op arg : Int32} (hm : (m : Int) = n) (ha : 0 ≤ a ∧ a ≤ n) (hc : zGc a h O R P Q n p)
    (hs : zS1 (fun y => if y = n + 1 then nx else h y) n op.toInt)
    (hw : ∀ j : Nat, j < p → 28 ≤ (P j).toInt → (P j).toInt ≤ 29 → j < p' ∧ P' j = P j ∧ Q' j = Q j)
    (hn : 27 < op.toInt → ∃ j : Nat, j < p' ∧ (Q' j).toInt = n ∧ 28 ≤ (P' j).toInt ∧ (P' j).toInt ≤ 29) :
    zGc a (fun y => if y = n + 1 then nx else h y) (upd O m op) (upd R m arg) P' Q' (n + 1) p' := by
  intro i i1 i2
  by_cases e : i = m
  · subst e
    rw [pk_us, hm]
    exact ⟨hs, fun q => Or.inr (hn q)⟩
  · rw [pk_un e, pk_un e]
    have i3 : (i : Int) < n := by omega
    obtain ⟨c1, c2⟩ := hc i i1 i3
    have e1 : (fun y => if y = n + 1 then nx else h y) (i : Int) = h i := zH_e (by omega)
    have e2 : (fun y => if y = n + 1 then nx else h y) ((i : Int) + 1) = h ((i : Int) + 1) := zH_e (by omega)
    refine ⟨?_, fun q => ?_⟩
    · unfold zS1
      rw [e1, e2]
      exact c1
    · rcases c2 q with c | ⟨j, j1, j2, j3, j4⟩
      · refine Or.inl ⟨c.1, by omega, ?_⟩
        have e3 : (fun y => if y = n + 1 then nx else h y) (R i).toInt = h (R i).toInt := zH_e (by omega)
        rw [e3, e1]
        exact c.2.2
      · obtain ⟨w1, w2, w3⟩ := hw j j1 j3 j4
        exact Or.inr ⟨j, w1, by rw [w3]; exact j2, by rw [w2]; exact j3, by rw [w2]; exact j4⟩
theorem zGp_ext {a n nx : Int} {h : Int → Int} {P Q : Nat → Int32} {p p' : Nat} (hp : p' ≤ p) (hc : zGp a h P Q n p) : zGp a (fun y => if y = n + 1 then nx else h y) P Q (n + 1) p' := by
  intro j j1 j2 j3
  obtain ⟨c1, c2, c3⟩ := hc j (by omega) j2 j3
  refine ⟨c1, by omega, ?_⟩
  have e3 : (fun y => if y = n + 1 then nx else h y) (Q j).toInt = h (Q j).toInt := zH_e (by omega)
  rw [e3]
  exact c3
theorem zG_leaf {a n : Int} {O R P Q : Nat → Int32} {p m : Nat} {op arg : Int32} (hm : (m : Int) = n) (hg : zG a O R P Q n p 0) (ho : 0 ≤ op.toInt ∧ op.toInt ≤ 15) : zG a (upd O m op) (upd R m arg) P Q (n + 1) p 1 := by
  obtain ⟨ha, hb, h, h0, ⟨h1, h2⟩, hc, hq⟩ := hg
  have hnn := zSm_nn P p
  have e1 : (fun y => if y = n + 1 then zSm P p + 1 else h y) n = h n := zH_e (by omega)
  have e2 : (fun y => if y = n + 1 then zSm P p + 1 else h y) (n + 1) = zSm P p + 1 := if_pos rfl
  refine ⟨⟨ha.1, by omega⟩, hb, fun y => if y = n + 1 then zSm P p + 1 else h y, ?_, ⟨e2, by rw [e2]; omega⟩, zG_ext hm ha hc ?_ (fun j j1 _ _ => ⟨j1, rfl, rfl⟩) (fun q => absurd q (by omega)), zGp_ext (Nat.le_refl _) hq⟩
  · have e3 : (fun y => if y = n + 1 then zSm P p + 1 else h y) a = h a := zH_e (by omega)
    rw [e3]; exact h0
  · unfold zS1
    rw [e1, e2]
    refine ⟨⟨by omega, h2⟩, fun _ => ⟨ho.1, ho.2, by omega⟩, fun q => absurd q (by omega), fun q => absurd q (by omega), fun q => absurd q (by omega)⟩
theorem zGb_le {P : Nat → Int32} {p p' : Nat} (h : zGb P p) (hp : p' ≤ p) : zGb P p' := ⟨fun j hj => h.1 j (by omega), fun i j ij hj => h.2 i j ij (by omega)⟩
theorem zG_bin {a n : Int} {O R P Q : Nat → Int32} {p m : Nat} {arg : Int32} (hm : (m : Int) = n) (hg : zG a O R P Q n (p + 1) 1) (ho : 20 ≤ (P p).toInt ∧ (P p).toInt ≤ 26) : zG a (upd O m (P p)) (upd R m arg) P Q (n + 1) p 1 := by
  obtain ⟨ha, hb, h, h0, ⟨h1, h2⟩, hc, hq⟩ := hg
  have hnn := zSm_nn P p
  rw [zSm_s, zWt_1 ho] at h1
  have e1 : (fun y => if y = n + 1 then zSm P p + 1 else h y) n = h n := zH_e (by omega)
  have e2 : (fun y => if y = n + 1 then zSm P p + 1 else h y) (n + 1) = zSm P p + 1 := if_pos rfl
  refine ⟨⟨ha.1, by omega⟩, zGb_le hb (by omega), fun y => if y = n + 1 then zSm P p + 1 else h y, ?_, ⟨e2, by rw [e2]; omega⟩, zG_ext hm ha hc ?_ (fun j j1 j2 j3 => ⟨?_, rfl, rfl⟩) (fun q => absurd q (by omega)), zGp_ext (by omega) hq⟩
  · have e3 : (fun y => if y = n + 1 then zSm P p + 1 else h y) a = h a := zH_e (by omega)
    rw [e3]; exact h0
  · unfold zS1
    rw [e1, e2]
    refine ⟨⟨by omega, h2⟩, fun q => absurd q (by omega), fun _ _ => ⟨by omega, by omega⟩, fun q => absurd q (by omega), fun q => absurd q (by omega)⟩
  · rcases (show j = p ∨ j < p by omega) with e | e
    · subst e; omega
    · exact e
theorem zG_not {a n : Int} {O R P Q : Nat → Int32} {p m : Nat} {arg : Int32} (hm : (m : Int) = n) (hg : zG a O R P Q n (p + 1) 1) (ho : (P p).toInt = 27) : zG a (upd O m (P p)) (upd R m arg) P Q (n + 1) p 1 := by
  obtain ⟨ha, hb, h, h0, ⟨h1, h2⟩, hc, hq⟩ := hg
  have hnn := zSm_nn P p
  rw [zSm_s, zWt_0 (by omega)] at h1
  have e1 : (fun y => if y = n + 1 then zSm P p + 1 else h y) n = h n := zH_e (by omega)
  have e2 : (fun y => if y = n + 1 then zSm P p + 1 else h y) (n + 1) = zSm P p + 1 := if_pos rfl
  refine ⟨⟨ha.1, by omega⟩, zGb_le hb (by omega), fun y => if y = n + 1 then zSm P p + 1 else h y, ?_, ⟨e2, by rw [e2]; omega⟩, zG_ext hm ha hc ?_ (fun j j1 j2 j3 => ⟨?_, rfl, rfl⟩) (fun q => absurd q (by omega)), zGp_ext (by omega) hq⟩
  · have e3 : (fun y => if y = n + 1 then zSm P p + 1 else h y) a = h a := zH_e (by omega)
    rw [e3]; exact h0
  · unfold zS1
    rw [e1, e2]
    refine ⟨⟨by omega, h2⟩, fun q => absurd q (by omega), fun q1 q2 => absurd q2 (by omega), fun _ => ⟨by omega, by omega⟩, fun q => absurd q (by omega)⟩
  · rcases (show j = p ∨ j < p by omega) with e | e
    · subst e; omega
    · exact e
theorem zG_jump {a n : Int} {O R P Q : Nat → Int32} {p m : Nat} {v : Int32} (hv : v.toInt = n) (hm : (m : Int) = (Q p).toInt) (hg : zG a O R P Q n (p + 1) 1) (ho : 28 ≤ (P p).toInt ∧ (P p).toInt ≤ 29) : zG a O (upd R m v) P Q n p 1 := by
  obtain ⟨ha, hb, h, h0, ⟨h1, h2⟩, hc, hq⟩ := hg
  rw [zSm_s, zWt_0 (by omega)] at h1
  obtain ⟨k1, k2, k3⟩ := hq p (by omega) ho.1 ho.2
  refine ⟨ha, zGb_le hb (by omega), h, h0, ⟨by omega, h2⟩, fun i i1 i2 => ?_, fun j j1 j2 j3 => hq j (by omega) j2 j3⟩
  obtain ⟨c1, c2⟩ := hc i i1 i2
  refine ⟨c1, fun q => ?_⟩
  by_cases e : i = m
  · subst e
    rw [pk_us]
    refine Or.inl ⟨by omega, by omega, ?_⟩
    rw [hv, hm, k3, h1]
    omega
  · rw [pk_un e]
    rcases c2 q with c | ⟨j, j1, j2, j3, j4⟩
    · exact Or.inl c
    · refine Or.inr ⟨j, ?_, j2, j3, j4⟩
      rcases (show j = p ∨ j < p by omega) with e2 | e2
      · subst e2; exact absurd (show i = m by omega) e
      · exact e2
theorem zG_br {a n d : Int} {O R P Q : Nat → Int32} {p : Nat} (hg : zG a O R P Q n (p + 1) d) (ho : 30 ≤ (P p).toInt) : zG a O R P Q n p d := by
  obtain ⟨ha, hb, h, h0, ⟨h1, h2⟩, hc, hq⟩ := hg
  rw [zSm_s, zWt_0 (by omega)] at h1
  refine ⟨ha, zGb_le hb (by omega), h, h0, ⟨by omega, h2⟩, fun i i1 i2 => ?_, fun j j1 j2 j3 => hq j (by omega) j2 j3⟩
  obtain ⟨c1, c2⟩ := hc i i1 i2
  refine ⟨c1, fun q => ?_⟩
  rcases c2 q with c | ⟨j, j1, j2, j3, j4⟩
  · exact Or.inl c
  · refine Or.inr ⟨j, ?_, j2, j3, j4⟩
    rcases (show j = p ∨ j < p by omega) with e2 | e2
    · subst e2; omega
    · exact e2
theorem zGb_push {P : Nat → Int32} {p m : Nat} {op : Int32} (hm : m = p) (h : zGb P p) (ho : 20 ≤ op.toInt ∧ op.toInt ≤ 31) (hs : op.toInt ≤ 23 ∨ op.toInt = 31 ∨ zNs P p) : zGb (upd P m op) (p + 1) := by
  subst hm
  refine ⟨fun j hj => ?_, fun i j ij hj hi => ?_⟩
  · by_cases e : j = m
    · subst e; rw [pk_us]; exact ho
    · rw [pk_un e]; exact h.1 j (by omega)
  · rw [pk_un (show i ≠ m by omega)] at hi
    by_cases e : j = m
    · subst e
      rw [pk_us]
      rcases hs with q | q | q
      · exact Or.inl q
      · exact Or.inr q
      · exact absurd hi (q i ij)
    · rw [pk_un e]; exact h.2 i j ij (by omega) hi
theorem zG_pu {a n d d' : Int} {O R P Q : Nat → Int32} {p m : Nat} {op at0 : Int32} (hm : m = p) (hg : zG a O R P Q n p d) (ho : 20 ≤ op.toInt ∧ op.toInt ≤ 31) (hj : ¬ (28 ≤ op.toInt ∧ op.toInt ≤ 29)) (hd : d = zWt op.toInt + d') (hs : op.toInt ≤ 23 ∨ op.toInt = 31 ∨ zNs P p) : zG a O R (upd P m op) (upd Q m at0) n (p + 1) d' := by
  obtain ⟨ha, hb, h, h0, ⟨h1, h2⟩, hc, hq⟩ := hg
  have hb2 := zGb_push (op := op) hm hb ho hs
  subst hm
  have es : ∀ k : Nat, k ≤ m → zSm (upd P m op) k = zSm P k := fun k hk => zSm_c (fun j hj => pk_un (by omega))
  refine ⟨ha, hb2, h, h0, ⟨?_, h2⟩, fun i i1 i2 => ?_, fun j j1 j2 j3 => ?_⟩
  · rw [zSm_s, es m (Nat.le_refl _), pk_us]; omega
  · obtain ⟨c1, c2⟩ := hc i i1 i2
    refine ⟨c1, fun q => ?_⟩
    rcases c2 q with c | ⟨j, j1, j2, j3, j4⟩
    · exact Or.inl c
    · have ne : j ≠ m := by omega
      exact Or.inr ⟨j, by omega, by rw [pk_un ne]; exact j2, by rw [pk_un ne]; exact j3, by rw [pk_un ne]; exact j4⟩
  · by_cases e : j = m
    · subst e
      rw [pk_us] at j2 j3
      exact absurd ⟨j2, j3⟩ hj
    · rw [pk_un e] at j2 j3
      rw [pk_un e, es j (by omega)]
      exact hq j (by omega) j2 j3
theorem zG_and {a n : Int} {O R P Q : Nat → Int32} {p m k : Nat} {op at0 arg : Int32} (hm : m = p) (hk : (k : Int) = n) (hat : at0.toInt = n) (hg : zG a O R P Q n p 1) (ho : 28 ≤ op.toInt ∧ op.toInt ≤ 29) (hs : zNs P p) : zG a (upd O k op) (upd R k arg) (upd P m op) (upd Q m at0) (n + 1) (p + 1) 0 := by
  obtain ⟨ha, hb, h, h0, ⟨h1, h2⟩, hc, hq⟩ := hg
  have hb2 := zGb_push (op := op) hm hb (by omega) (Or.inr (Or.inr hs))
  have hnn := zSm_nn P p
  subst hm
  have es : ∀ k : Nat, k ≤ m → zSm (upd P m op) k = zSm P k := fun k hk => zSm_c (fun j hj => pk_un (by omega))
  have e1 : (fun y => if y = n + 1 then zSm P m else h y) n = h n := zH_e (by omega)
  have e2 : (fun y => if y = n + 1 then zSm P m else h y) (n + 1) = zSm P m := if_pos rfl
  refine ⟨⟨ha.1, by omega⟩, hb2, fun y => if y = n + 1 then zSm P m else h y, ?_, ⟨?_, by rw [e2]; omega⟩, zG_ext hk ha hc ?_ (fun j j1 j2 j3 => ?_) (fun q => ?_), fun j j1 j2 j3 => ?_⟩
  · have e3 : (fun y => if y = n + 1 then zSm P m else h y) a = h a := zH_e (by omega)
    rw [e3]; exact h0
  · rw [e2, zSm_s, es m (Nat.le_refl _), pk_us, zWt_0 (by omega)]; omega
  · unfold zS1
    rw [e1, e2]
    refine ⟨⟨by omega, h2⟩, fun q => absurd q (by omega), fun q1 q2 => absurd q2 (by omega), fun q => absurd q (by omega), fun _ => ⟨by omega, by omega⟩⟩
  · have ne : j ≠ m := by omega
    exact ⟨by omega, pk_un ne, pk_un ne⟩
  · exact ⟨m, by omega, by rw [pk_us]; exact hat, by rw [pk_us]; exact ho.1, by rw [pk_us]; exact ho.2⟩
  · by_cases e : j = m
    · subst e
      rw [pk_us, es j (Nat.le_refl _), hat, e1]
      exact ⟨ha.2, by omega, h1⟩
    · rw [pk_un e] at j2 j3
      rw [pk_un e, es j (by omega)]
      obtain ⟨k1, k2, k3⟩ := hq j (by omega) j2 j3
      have e3 : (fun y => if y = n + 1 then zSm P m else h y) (Q j).toInt = h (Q j).toInt := zH_e (by omega)
      rw [e3]
      exact ⟨k1, by omega, k3⟩
theorem zG_0 {n d : Int} {O R P Q : Nat → Int32} (hn : 0 ≤ n) (hd : d = 0) : zG n O R P Q n 0 d := by
  subst hd
  exact ⟨⟨hn, Int.le_refl _⟩, ⟨fun j hj => absurd hj (by omega), fun i j ij hj => absurd hj (by omega)⟩, fun _ => 0, rfl, ⟨rfl, hn⟩, fun i i1 i2 => absurd i2 (by omega), fun j hj => absurd hj (by omega)⟩
