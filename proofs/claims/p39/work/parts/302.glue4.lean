/-! the model's row: its counters, what indices are read out of it, its texts -/
def zSt (h : Int → Int) (b i op arg : Int) : Prop := (0 ≤ h i ∧ h i ≤ 400) ∧ (op < 20 → 0 ≤ op ∧ op ≤ 15 ∧ h (i + 1) = h i + 1 ∧ h i < 400) ∧ (20 ≤ op → op < 27 → 2 ≤ h i ∧ h (i + 1) = h i - 1) ∧ (op = 27 → 1 ≤ h i ∧ h (i + 1) = h i) ∧ (27 < op → 1 ≤ h i ∧ h (i + 1) = h i - 1 ∧ i < arg ∧ arg ≤ b ∧ h arg = h i)
def zCv (F : Nat → Int32) (cb : Nat) (a b : Int32) : Prop := 0 ≤ a.toInt ∧ a.toInt ≤ b.toInt ∧ b.toInt ≤ 400 ∧ ∃ h : Int → Int, h a.toInt = 0 ∧ ∀ i : Nat, a.toInt ≤ (i : Int) → (i : Int) < b.toInt → zSt h b.toInt i (F (cb + 2 * i)).toInt (F (cb + 2 * i + 1)).toInt
def zTv (F : Nat → Int32) (b : Nat) : Prop := (0 ≤ (F (b + 1)).toInt ∧ (F (b + 1)).toInt ≤ 12) ∧ ∀ c : Nat, (c : Int) < (F (b + 1)).toInt → ((F (b + 2 + 10 * c)).toInt = 0 → (0 ≤ (F (b + 2 + 10 * c + 1)).toInt ∧ (F (b + 2 + 10 * c + 1)).toInt ≤ 19) ∧ (0 ≤ (F (b + 2 + 10 * c + 2)).toInt ∧ (F (b + 2 + 10 * c + 2)).toInt ≤ 11)) ∧ (0 ≤ (F (b + 2 + 10 * c + 2)).toInt ∧ (F (b + 2 + 10 * c + 2)).toInt ≤ 400) ∧ zCv F (b + 122) (F (b + 2 + 10 * c + 3)) (F (b + 2 + 10 * c + 4)) ∧ zCv F (b + 122) (F (b + 2 + 10 * c + 5)) (F (b + 2 + 10 * c + 6))
def zTm (F : Nat → Int32) : Prop := ∀ t : Nat, (t : Int) < (F 4).toInt → zTv F (8661 + 922 * t)
def zOk (j v : Int) : Prop := (j = 0 → 0 ≤ v ∧ v ≤ 40) ∧ (j = 1 → 0 ≤ v ∧ v ≤ 5) ∧ (j = 2 → 0 ≤ v ∧ v ≤ 120) ∧ (j = 3 → 0 ≤ v ∧ v ≤ 400) ∧ (j = 4 → 0 ≤ v ∧ v ≤ 20) ∧ (j = 5 → 0 ≤ v ∧ v ≤ 6) ∧ (j = 6 → 0 ≤ v ∧ v ≤ 6) ∧ (j = 7 → 0 ≤ v ∧ v ≤ 9) ∧ (j = 8 → 0 ≤ v ∧ v ≤ 12) ∧ (j = 9 → 0 ≤ v ∧ v ≤ 60) ∧ (j = 10 → 0 ≤ v ∧ v ≤ 60) ∧ (j = 11 → 0 ≤ v ∧ v ≤ 60) ∧ (20 ≤ j ∧ j < 700 ∧ 5 ≤ (j - 20) % 17 ∧ (j - 20) % 17 ≤ 8 → (-1) ≤ v ∧ v ≤ 399) ∧ (3780 ≤ j ∧ j < 6980 ∧ (j - 3780) % 8 = 1 → 0 ≤ v ∧ v ≤ 39) ∧ (3780 ≤ j ∧ j < 6980 ∧ (j - 3780) % 8 = 2 → 0 ≤ v ∧ v ≤ 799) ∧ (6998 ≤ j ∧ j < 7025 ∧ (j - 6998) % 3 = 0 → 0 ≤ v ∧ v ≤ 39)
def zRw (F : Nat → Int32) : Prop := (∀ j : Nat, j < 27101 → zOk j (F j).toInt) ∧ zTm F
theorem zW_0 {F : Nat → Int32} (h : zRw F) : 0 ≤ (F (Int32.toNatClampNeg 0)).toInt ∧ (F (Int32.toNatClampNeg 0)).toInt ≤ 40 := by
  have h1 := h.1 0 (by decide)
  exact (h1.1) rfl
theorem zW_1 {F : Nat → Int32} (h : zRw F) : 0 ≤ (F (Int32.toNatClampNeg 1)).toInt ∧ (F (Int32.toNatClampNeg 1)).toInt ≤ 5 := by
  have h1 := h.1 1 (by decide)
  exact (h1.2.1) rfl
theorem zW_2 {F : Nat → Int32} (h : zRw F) : 0 ≤ (F (Int32.toNatClampNeg 2)).toInt ∧ (F (Int32.toNatClampNeg 2)).toInt ≤ 120 := by
  have h1 := h.1 2 (by decide)
  exact (h1.2.2.1) rfl
theorem zW_3 {F : Nat → Int32} (h : zRw F) : 0 ≤ (F (Int32.toNatClampNeg 3)).toInt ∧ (F (Int32.toNatClampNeg 3)).toInt ≤ 400 := by
  have h1 := h.1 3 (by decide)
  exact (h1.2.2.2.1) rfl
theorem zW_4 {F : Nat → Int32} (h : zRw F) : 0 ≤ (F (Int32.toNatClampNeg 4)).toInt ∧ (F (Int32.toNatClampNeg 4)).toInt ≤ 20 := by
  have h1 := h.1 4 (by decide)
  exact (h1.2.2.2.2.1) rfl
theorem zW_5 {F : Nat → Int32} (h : zRw F) : 0 ≤ (F (Int32.toNatClampNeg 5)).toInt ∧ (F (Int32.toNatClampNeg 5)).toInt ≤ 6 := by
  have h1 := h.1 5 (by decide)
  exact (h1.2.2.2.2.2.1) rfl
theorem zW_6 {F : Nat → Int32} (h : zRw F) : 0 ≤ (F (Int32.toNatClampNeg 6)).toInt ∧ (F (Int32.toNatClampNeg 6)).toInt ≤ 6 := by
  have h1 := h.1 6 (by decide)
  exact (h1.2.2.2.2.2.2.1) rfl
theorem zW_7 {F : Nat → Int32} (h : zRw F) : 0 ≤ (F (Int32.toNatClampNeg 7)).toInt ∧ (F (Int32.toNatClampNeg 7)).toInt ≤ 9 := by
  have h1 := h.1 7 (by decide)
  exact (h1.2.2.2.2.2.2.2.1) rfl
theorem zW_8 {F : Nat → Int32} (h : zRw F) : 0 ≤ (F (Int32.toNatClampNeg 8)).toInt ∧ (F (Int32.toNatClampNeg 8)).toInt ≤ 12 := by
  have h1 := h.1 8 (by decide)
  exact (h1.2.2.2.2.2.2.2.2.1) rfl
theorem zW_9 {F : Nat → Int32} (h : zRw F) : 0 ≤ (F (Int32.toNatClampNeg 9)).toInt ∧ (F (Int32.toNatClampNeg 9)).toInt ≤ 60 := by
  have h1 := h.1 9 (by decide)
  exact (h1.2.2.2.2.2.2.2.2.2.1) rfl
theorem zW_10 {F : Nat → Int32} (h : zRw F) : 0 ≤ (F (Int32.toNatClampNeg 10)).toInt ∧ (F (Int32.toNatClampNeg 10)).toInt ≤ 60 := by
  have h1 := h.1 10 (by decide)
  exact (h1.2.2.2.2.2.2.2.2.2.2.1) rfl
theorem zW_11 {F : Nat → Int32} (h : zRw F) : 0 ≤ (F (Int32.toNatClampNeg 11)).toInt ∧ (F (Int32.toNatClampNeg 11)).toInt ≤ 60 := by
  have h1 := h.1 11 (by decide)
  exact (h1.2.2.2.2.2.2.2.2.2.2.2.1) rfl
theorem zW_p {F : Nat → Int32} (h : zRw F) {x : Int32} (hx : 10 ≤ x.toInt ∧ x.toInt ≤ 11) : 0 ≤ (F (Int32.toNatClampNeg x)).toInt ∧ (F (Int32.toNatClampNeg x)).toInt ≤ 60 := by
  have h1 := z_cl (x := x) (by omega)
  rcases (show Int32.toNatClampNeg x = 10 ∨ Int32.toNatClampNeg x = 11 by omega) with e | e
  · rw [e]; exact zW_10 h
  · rw [e]; exact zW_11 h
theorem zW_t {F : Nat → Int32} (h : zRw F) {x : Int32} (hx : 20 ≤ x.toInt ∧ x.toInt < 700 ∧ 5 ≤ (x.toInt - 20) % 17 ∧ (x.toInt - 20) % 17 ≤ 8) : (-1) ≤ (F (Int32.toNatClampNeg x)).toInt ∧ (F (Int32.toNatClampNeg x)).toInt ≤ 399 := by
  have h1 := z_cl (x := x) (by omega)
  have h2 := h.1 (Int32.toNatClampNeg x) (by omega)
  rw [h1] at h2
  exact (h2.2.2.2.2.2.2.2.2.2.2.2.2.1) hx
theorem zW_m1 {F : Nat → Int32} (h : zRw F) {x : Int32} (hx : 3780 ≤ x.toInt ∧ x.toInt < 6980 ∧ (x.toInt - 3780) % 8 = 1) : 0 ≤ (F (Int32.toNatClampNeg x)).toInt ∧ (F (Int32.toNatClampNeg x)).toInt ≤ 39 := by
  have h1 := z_cl (x := x) (by omega)
  have h2 := h.1 (Int32.toNatClampNeg x) (by omega)
  rw [h1] at h2
  exact (h2.2.2.2.2.2.2.2.2.2.2.2.2.2.1) hx
theorem zW_m2 {F : Nat → Int32} (h : zRw F) {x : Int32} (hx : 3780 ≤ x.toInt ∧ x.toInt < 6980 ∧ (x.toInt - 3780) % 8 = 2) : 0 ≤ (F (Int32.toNatClampNeg x)).toInt ∧ (F (Int32.toNatClampNeg x)).toInt ≤ 799 := by
  have h1 := z_cl (x := x) (by omega)
  have h2 := h.1 (Int32.toNatClampNeg x) (by omega)
  rw [h1] at h2
  exact (h2.2.2.2.2.2.2.2.2.2.2.2.2.2.2.1) hx
theorem zW_v {F : Nat → Int32} (h : zRw F) {x : Int32} (hx : 6998 ≤ x.toInt ∧ x.toInt < 7025 ∧ (x.toInt - 6998) % 3 = 0) : 0 ≤ (F (Int32.toNatClampNeg x)).toInt ∧ (F (Int32.toNatClampNeg x)).toInt ≤ 39 := by
  have h1 := z_cl (x := x) (by omega)
  have h2 := h.1 (Int32.toNatClampNeg x) (by omega)
  rw [h1] at h2
  exact (h2.2.2.2.2.2.2.2.2.2.2.2.2.2.2.2) hx
theorem zTv_congr {F G : Nat → Int32} {b : Nat} (hG : ∀ j, b ≤ j → j < b + 922 → G j = F j) (h : zTv F b) : zTv G b := by
  obtain ⟨h1, h2⟩ := h
  have e1 := hG (b + 1) (by omega) (by omega)
  refine ⟨by rw [e1]; exact h1, fun c hc => ?_⟩
  rw [e1] at hc
  have hc12 : c < 12 := by omega
  have hv : ∀ a d : Int32, zCv F (b + 122) a d → zCv G (b + 122) a d := by
    intro a d q
    obtain ⟨q1, q2, q3, hh, q4, q5⟩ := q
    refine ⟨q1, q2, q3, hh, q4, fun i i1 i2 => ?_⟩
    rw [hG (b + 122 + 2 * i) (by omega) (by omega), hG (b + 122 + 2 * i + 1) (by omega) (by omega)]
    exact q5 i i1 i2
  obtain ⟨p1, p2, p3, p4⟩ := h2 c hc
  rw [hG (b + 2 + 10 * c) (by omega) (by omega), hG (b + 2 + 10 * c + 1) (by omega) (by omega), hG (b + 2 + 10 * c + 2) (by omega) (by omega), hG (b + 2 + 10 * c + 3) (by omega) (by omega), hG (b + 2 + 10 * c + 4) (by omega) (by omega), hG (b + 2 + 10 * c + 5) (by omega) (by omega), hG (b + 2 + 10 * c + 6) (by omega) (by omega)]
  exact ⟨p1, p2, hv _ _ p3, hv _ _ p4⟩
theorem zTm_upd {F : Nat → Int32} {n : Nat} {v : Int32} (h : zTm F) (h0 : n < 8661) (h4 : n ≠ 4) : zTm (upd F n v) := by
  intro t ht
  rw [pk_un (fun e => h4 e.symm)] at ht
  exact zTv_congr (fun j j1 j2 => pk_un (by omega)) (h t ht)
theorem zRw_up {F : Nat → Int32} {n : Nat} {v : Int32} (h : zRw F) (h0 : n < 8661) (h4 : n ≠ 4) (hv : zOk n v.toInt) : zRw (upd F n v) := by
  refine ⟨fun j hj => ?_, zTm_upd h.2 h0 h4⟩
  by_cases e : j = n
  · subst e; rw [pk_us]; exact hv
  · rw [pk_un e]; exact h.1 j hj
theorem zRw_upd {F : Nat → Int32} {x v : Int32} (h : zRw F) (h0 : 12 ≤ x.toInt ∧ x.toInt < 8661) (ht : 20 ≤ x.toInt ∧ x.toInt < 700 ∧ 5 ≤ (x.toInt - 20) % 17 ∧ (x.toInt - 20) % 17 ≤ 8 → (-1) ≤ v.toInt ∧ v.toInt ≤ 399) (hm1 : 3780 ≤ x.toInt ∧ x.toInt < 6980 ∧ (x.toInt - 3780) % 8 = 1 → 0 ≤ v.toInt ∧ v.toInt ≤ 39) (hm2 : 3780 ≤ x.toInt ∧ x.toInt < 6980 ∧ (x.toInt - 3780) % 8 = 2 → 0 ≤ v.toInt ∧ v.toInt ≤ 799) (hv : 6998 ≤ x.toInt ∧ x.toInt < 7025 ∧ (x.toInt - 6998) % 3 = 0 → 0 ≤ v.toInt ∧ v.toInt ≤ 39) : zRw (upd F (Int32.toNatClampNeg x) v) := by
  have h1 := z_cl (x := x) (by omega)
  refine zRw_up h (by omega) (by omega) ?_
  rw [h1]
  exact ⟨fun q => absurd q (by omega), fun q => absurd q (by omega), fun q => absurd q (by omega), fun q => absurd q (by omega), fun q => absurd q (by omega), fun q => absurd q (by omega), fun q => absurd q (by omega), fun q => absurd q (by omega), fun q => absurd q (by omega), fun q => absurd q (by omega), fun q => absurd q (by omega), fun q => absurd q (by omega), ht, hm1, hm2, hv⟩
theorem zRw_c0 {F : Nat → Int32} {v : Int32} (h : zRw F) (hv : 0 ≤ v.toInt ∧ v.toInt ≤ 40) : zRw (upd F (Int32.toNatClampNeg 0) v) := by
  refine zRw_up h (by decide) (by decide) ?_
  show zOk ((0 : Nat) : Int) v.toInt
  exact ⟨fun _ => hv, fun q => absurd q (by decide), fun q => absurd q (by decide), fun q => absurd q (by decide), fun q => absurd q (by decide), fun q => absurd q (by decide), fun q => absurd q (by decide), fun q => absurd q (by decide), fun q => absurd q (by decide), fun q => absurd q (by decide), fun q => absurd q (by decide), fun q => absurd q (by decide), fun q => absurd q.1 (by decide), fun q => absurd q.1 (by decide), fun q => absurd q.1 (by decide), fun q => absurd q.1 (by decide)⟩
theorem zRw_c1 {F : Nat → Int32} {v : Int32} (h : zRw F) (hv : 0 ≤ v.toInt ∧ v.toInt ≤ 5) : zRw (upd F (Int32.toNatClampNeg 1) v) := by
  refine zRw_up h (by decide) (by decide) ?_
  show zOk ((1 : Nat) : Int) v.toInt
  exact ⟨fun q => absurd q (by decide), fun _ => hv, fun q => absurd q (by decide), fun q => absurd q (by decide), fun q => absurd q (by decide), fun q => absurd q (by decide), fun q => absurd q (by decide), fun q => absurd q (by decide), fun q => absurd q (by decide), fun q => absurd q (by decide), fun q => absurd q (by decide), fun q => absurd q (by decide), fun q => absurd q.1 (by decide), fun q => absurd q.1 (by decide), fun q => absurd q.1 (by decide), fun q => absurd q.1 (by decide)⟩
theorem zRw_c2 {F : Nat → Int32} {v : Int32} (h : zRw F) (hv : 0 ≤ v.toInt ∧ v.toInt ≤ 120) : zRw (upd F (Int32.toNatClampNeg 2) v) := by
  refine zRw_up h (by decide) (by decide) ?_
  show zOk ((2 : Nat) : Int) v.toInt
  exact ⟨fun q => absurd q (by decide), fun q => absurd q (by decide), fun _ => hv, fun q => absurd q (by decide), fun q => absurd q (by decide), fun q => absurd q (by decide), fun q => absurd q (by decide), fun q => absurd q (by decide), fun q => absurd q (by decide), fun q => absurd q (by decide), fun q => absurd q (by decide), fun q => absurd q (by decide), fun q => absurd q.1 (by decide), fun q => absurd q.1 (by decide), fun q => absurd q.1 (by decide), fun q => absurd q.1 (by decide)⟩
theorem zRw_c3 {F : Nat → Int32} {v : Int32} (h : zRw F) (hv : 0 ≤ v.toInt ∧ v.toInt ≤ 400) : zRw (upd F (Int32.toNatClampNeg 3) v) := by
  refine zRw_up h (by decide) (by decide) ?_
  show zOk ((3 : Nat) : Int) v.toInt
  exact ⟨fun q => absurd q (by decide), fun q => absurd q (by decide), fun q => absurd q (by decide), fun _ => hv, fun q => absurd q (by decide), fun q => absurd q (by decide), fun q => absurd q (by decide), fun q => absurd q (by decide), fun q => absurd q (by decide), fun q => absurd q (by decide), fun q => absurd q (by decide), fun q => absurd q (by decide), fun q => absurd q.1 (by decide), fun q => absurd q.1 (by decide), fun q => absurd q.1 (by decide), fun q => absurd q.1 (by decide)⟩
theorem zRw_c5 {F : Nat → Int32} {v : Int32} (h : zRw F) (hv : 0 ≤ v.toInt ∧ v.toInt ≤ 6) : zRw (upd F (Int32.toNatClampNeg 5) v) := by
  refine zRw_up h (by decide) (by decide) ?_
  show zOk ((5 : Nat) : Int) v.toInt
  exact ⟨fun q => absurd q (by decide), fun q => absurd q (by decide), fun q => absurd q (by decide), fun q => absurd q (by decide), fun q => absurd q (by decide), fun _ => hv, fun q => absurd q (by decide), fun q => absurd q (by decide), fun q => absurd q (by decide), fun q => absurd q (by decide), fun q => absurd q (by decide), fun q => absurd q (by decide), fun q => absurd q.1 (by decide), fun q => absurd q.1 (by decide), fun q => absurd q.1 (by decide), fun q => absurd q.1 (by decide)⟩
theorem zRw_c6 {F : Nat → Int32} {v : Int32} (h : zRw F) (hv : 0 ≤ v.toInt ∧ v.toInt ≤ 6) : zRw (upd F (Int32.toNatClampNeg 6) v) := by
  refine zRw_up h (by decide) (by decide) ?_
  show zOk ((6 : Nat) : Int) v.toInt
  exact ⟨fun q => absurd q (by decide), fun q => absurd q (by decide), fun q => absurd q (by decide), fun q => absurd q (by decide), fun q => absurd q (by decide), fun q => absurd q (by decide), fun _ => hv, fun q => absurd q (by decide), fun q => absurd q (by decide), fun q => absurd q (by decide), fun q => absurd q (by decide), fun q => absurd q (by decide), fun q => absurd q.1 (by decide), fun q => absurd q.1 (by decide), fun q => absurd q.1 (by decide), fun q => absurd q.1 (by decide)⟩
theorem zRw_c7 {F : Nat → Int32} {v : Int32} (h : zRw F) (hv : 0 ≤ v.toInt ∧ v.toInt ≤ 9) : zRw (upd F (Int32.toNatClampNeg 7) v) := by
  refine zRw_up h (by decide) (by decide) ?_
  show zOk ((7 : Nat) : Int) v.toInt
  exact ⟨fun q => absurd q (by decide), fun q => absurd q (by decide), fun q => absurd q (by decide), fun q => absurd q (by decide), fun q => absurd q (by decide), fun q => absurd q (by decide), fun q => absurd q (by decide), fun _ => hv, fun q => absurd q (by decide), fun q => absurd q (by decide), fun q => absurd q (by decide), fun q => absurd q (by decide), fun q => absurd q.1 (by decide), fun q => absurd q.1 (by decide), fun q => absurd q.1 (by decide), fun q => absurd q.1 (by decide)⟩
theorem zRw_c8 {F : Nat → Int32} {v : Int32} (h : zRw F) (hv : 0 ≤ v.toInt ∧ v.toInt ≤ 12) : zRw (upd F (Int32.toNatClampNeg 8) v) := by
  refine zRw_up h (by decide) (by decide) ?_
  show zOk ((8 : Nat) : Int) v.toInt
  exact ⟨fun q => absurd q (by decide), fun q => absurd q (by decide), fun q => absurd q (by decide), fun q => absurd q (by decide), fun q => absurd q (by decide), fun q => absurd q (by decide), fun q => absurd q (by decide), fun q => absurd q (by decide), fun _ => hv, fun q => absurd q (by decide), fun q => absurd q (by decide), fun q => absurd q (by decide), fun q => absurd q.1 (by decide), fun q => absurd q.1 (by decide), fun q => absurd q.1 (by decide), fun q => absurd q.1 (by decide)⟩
theorem zRw_c9 {F : Nat → Int32} {v : Int32} (h : zRw F) (hv : 0 ≤ v.toInt ∧ v.toInt ≤ 60) : zRw (upd F (Int32.toNatClampNeg 9) v) := by
  refine zRw_up h (by decide) (by decide) ?_
  show zOk ((9 : Nat) : Int) v.toInt
  exact ⟨fun q => absurd q (by decide), fun q => absurd q (by decide), fun q => absurd q (by decide), fun q => absurd q (by decide), fun q => absurd q (by decide), fun q => absurd q (by decide), fun q => absurd q (by decide), fun q => absurd q (by decide), fun q => absurd q (by decide), fun _ => hv, fun q => absurd q (by decide), fun q => absurd q (by decide), fun q => absurd q.1 (by decide), fun q => absurd q.1 (by decide), fun q => absurd q.1 (by decide), fun q => absurd q.1 (by decide)⟩
theorem zRw_c10 {F : Nat → Int32} {v : Int32} (h : zRw F) (hv : 0 ≤ v.toInt ∧ v.toInt ≤ 60) : zRw (upd F (Int32.toNatClampNeg 10) v) := by
  refine zRw_up h (by decide) (by decide) ?_
  show zOk ((10 : Nat) : Int) v.toInt
  exact ⟨fun q => absurd q (by decide), fun q => absurd q (by decide), fun q => absurd q (by decide), fun q => absurd q (by decide), fun q => absurd q (by decide), fun q => absurd q (by decide), fun q => absurd q (by decide), fun q => absurd q (by decide), fun q => absurd q (by decide), fun q => absurd q (by decide), fun _ => hv, fun q => absurd q (by decide), fun q => absurd q.1 (by decide), fun q => absurd q.1 (by decide), fun q => absurd q.1 (by decide), fun q => absurd q.1 (by decide)⟩
theorem zRw_c11 {F : Nat → Int32} {v : Int32} (h : zRw F) (hv : 0 ≤ v.toInt ∧ v.toInt ≤ 60) : zRw (upd F (Int32.toNatClampNeg 11) v) := by
  refine zRw_up h (by decide) (by decide) ?_
  show zOk ((11 : Nat) : Int) v.toInt
  exact ⟨fun q => absurd q (by decide), fun q => absurd q (by decide), fun q => absurd q (by decide), fun q => absurd q (by decide), fun q => absurd q (by decide), fun q => absurd q (by decide), fun q => absurd q (by decide), fun q => absurd q (by decide), fun q => absurd q (by decide), fun q => absurd q (by decide), fun q => absurd q (by decide), fun _ => hv, fun q => absurd q.1 (by decide), fun q => absurd q.1 (by decide), fun q => absurd q.1 (by decide), fun q => absurd q.1 (by decide)⟩
theorem zRw_p {F : Nat → Int32} {x v : Int32} (h : zRw F) (hx : 10 ≤ x.toInt ∧ x.toInt ≤ 11) (hv : 0 ≤ v.toInt ∧ v.toInt ≤ 60) : zRw (upd F (Int32.toNatClampNeg x) v) := by
  have h1 := z_cl (x := x) (by omega)
  rcases (show Int32.toNatClampNeg x = 10 ∨ Int32.toNatClampNeg x = 11 by omega) with e | e
  · rw [e]; exact zRw_c10 h hv
  · rw [e]; exact zRw_c11 h hv
def zKeep (F G : Nat → Int32) : Prop := ∀ j : Nat, j < 12 → G j = F j
theorem zKeep_r {F : Nat → Int32} : zKeep F F := fun _ _ => rfl
theorem zKeep_t {F G K : Nat → Int32} (h : zKeep F G) (h2 : zKeep G K) : zKeep F K := fun j hj => (h2 j hj).trans (h j hj)
theorem zKeep_u {F G : Nat → Int32} {x v : Int32} (h : zKeep F G) (hx : 12 ≤ x.toInt) : zKeep F (upd G (Int32.toNatClampNeg x) v) := by
  intro j hj
  have h1 := z_cl (x := x) (by omega)
  rw [pk_un (by omega)]
  exact h j hj
theorem zKeep_e {F G : Nat → Int32} {x y : Int32} (h : zKeep F G) (e : y = F (Int32.toNatClampNeg x)) (hx : Int32.toNatClampNeg x < 12) : y = G (Int32.toNatClampNeg x) := e.trans (h _ hx).symm
theorem z_memu {F G : Nat → Int32} {x i y v : Int32} (e : y = F (Int32.toNatClampNeg i)) (hG : G = upd F (Int32.toNatClampNeg x) v) (hne : 0 ≤ x.toInt ∧ 0 ≤ i.toInt ∧ i.toInt ≠ x.toInt) : y = G (Int32.toNatClampNeg i) := by
  have h1 := z_cl (x := x) hne.1
  have h2 := z_cl (x := i) hne.2.1
  rw [hG, pk_un (by omega)]
  exact e
def zCl (F : Nat → Int32) (t c : Int32) : Prop := (0 ≤ t.toInt ∧ t.toInt < (F 4).toInt) ∧ (0 ≤ c.toInt ∧ c.toInt < (F (8661 + 922 * Int32.toNatClampNeg t + 1)).toInt)
theorem zX_n {F : Nat → Int32} (h : zRw F) {x t y : Int32} (ey : y = F (Int32.toNatClampNeg 4)) (hx : x.toInt = 8661 + 922 * t.toInt + 1) (ht : 0 ≤ t.toInt ∧ t.toInt < y.toInt) : 0 ≤ (F (Int32.toNatClampNeg x)).toInt ∧ (F (Int32.toNatClampNeg x)).toInt ≤ 12 := by
  have h1 := z_cl ht.1
  have h2 := z_cl (x := x) (by omega)
  have e : Int32.toNatClampNeg x = 8661 + 922 * Int32.toNatClampNeg t + 1 := by omega
  rw [e]
  exact (h.2 (Int32.toNatClampNeg t) (by rw [h1]; rw [ey] at ht; exact ht.2)).1
theorem zCl_mk {F : Nat → Int32} {x t c y n : Int32} (ey : y = F (Int32.toNatClampNeg 4)) (en : n = F (Int32.toNatClampNeg x)) (hx : x.toInt = 8661 + 922 * t.toInt + 1) (ht : 0 ≤ t.toInt ∧ t.toInt < y.toInt) (hc : 0 ≤ c.toInt ∧ c.toInt < n.toInt) : zCl F t c := by
  have h1 := z_cl ht.1
  have h2 := z_cl (x := x) (by omega)
  have e : Int32.toNatClampNeg x = 8661 + 922 * Int32.toNatClampNeg t + 1 := by omega
  rw [ey] at ht
  rw [en, e] at hc
  exact ⟨ht, hc⟩
theorem zX_cl {F : Nat → Int32} (h : zRw F) {t c : Int32} (hc : zCl F t c) : ((F (8661 + 922 * Int32.toNatClampNeg t + 2 + 10 * Int32.toNatClampNeg c)).toInt = 0 → (0 ≤ (F (8661 + 922 * Int32.toNatClampNeg t + 2 + 10 * Int32.toNatClampNeg c + 1)).toInt ∧ (F (8661 + 922 * Int32.toNatClampNeg t + 2 + 10 * Int32.toNatClampNeg c + 1)).toInt ≤ 19) ∧ (0 ≤ (F (8661 + 922 * Int32.toNatClampNeg t + 2 + 10 * Int32.toNatClampNeg c + 2)).toInt ∧ (F (8661 + 922 * Int32.toNatClampNeg t + 2 + 10 * Int32.toNatClampNeg c + 2)).toInt ≤ 11)) ∧ (0 ≤ (F (8661 + 922 * Int32.toNatClampNeg t + 2 + 10 * Int32.toNatClampNeg c + 2)).toInt ∧ (F (8661 + 922 * Int32.toNatClampNeg t + 2 + 10 * Int32.toNatClampNeg c + 2)).toInt ≤ 400) ∧ zCv F (8661 + 922 * Int32.toNatClampNeg t + 122) (F (8661 + 922 * Int32.toNatClampNeg t + 2 + 10 * Int32.toNatClampNeg c + 3)) (F (8661 + 922 * Int32.toNatClampNeg t + 2 + 10 * Int32.toNatClampNeg c + 4)) ∧ zCv F (8661 + 922 * Int32.toNatClampNeg t + 122) (F (8661 + 922 * Int32.toNatClampNeg t + 2 + 10 * Int32.toNatClampNeg c + 5)) (F (8661 + 922 * Int32.toNatClampNeg t + 2 + 10 * Int32.toNatClampNeg c + 6)) := by
  have h1 := z_cl hc.1.1
  have h2 := z_cl hc.2.1
  exact (h.2 (Int32.toNatClampNeg t) (by rw [h1]; exact hc.1.2)).2 (Int32.toNatClampNeg c) (by rw [h2]; exact hc.2.2)
theorem zX_at {x t c : Int32} {F : Nat → Int32} (j : Nat) (hc : zCl F t c) (hx : x.toInt = 8661 + 922 * t.toInt + 2 + 10 * c.toInt + (j : Int)) : Int32.toNatClampNeg x = 8661 + 922 * Int32.toNatClampNeg t + 2 + 10 * Int32.toNatClampNeg c + j := by
  have h1 := z_cl hc.1.1
  have h2 := z_cl hc.2.1
  have h3 := z_cl (x := x) (by omega)
  omega
theorem zX_2 {F : Nat → Int32} (h : zRw F) {x t c : Int32} (hc : zCl F t c) (hx : x.toInt = 8661 + 922 * t.toInt + 2 + 10 * c.toInt + ((2 : Nat) : Int)) : 0 ≤ (F (Int32.toNatClampNeg x)).toInt ∧ (F (Int32.toNatClampNeg x)).toInt ≤ 400 := by
  rw [zX_at 2 hc hx]; exact (zX_cl h hc).2.1
theorem zX_s1 {F : Nat → Int32} (h : zRw F) {x0 x t c w : Int32} (hc : zCl F t c) (h0 : x0.toInt = 8661 + 922 * t.toInt + 2 + 10 * c.toInt + ((0 : Nat) : Int)) (hx : x.toInt = 8661 + 922 * t.toInt + 2 + 10 * c.toInt + ((1 : Nat) : Int)) (ew : w = F (Int32.toNatClampNeg x0)) (hw : w.toInt = 0) : 0 ≤ (F (Int32.toNatClampNeg x)).toInt ∧ (F (Int32.toNatClampNeg x)).toInt ≤ 19 := by
  rw [ew, zX_at 0 hc h0] at hw; rw [zX_at 1 hc hx]; exact ((zX_cl h hc).1 hw).1
theorem zX_s2 {F : Nat → Int32} (h : zRw F) {x0 x t c w : Int32} (hc : zCl F t c) (h0 : x0.toInt = 8661 + 922 * t.toInt + 2 + 10 * c.toInt + ((0 : Nat) : Int)) (hx : x.toInt = 8661 + 922 * t.toInt + 2 + 10 * c.toInt + ((2 : Nat) : Int)) (ew : w = F (Int32.toNatClampNeg x0)) (hw : w.toInt = 0) : 0 ≤ (F (Int32.toNatClampNeg x)).toInt ∧ (F (Int32.toNatClampNeg x)).toInt ≤ 11 := by
  rw [ew, zX_at 0 hc h0] at hw; rw [zX_at 2 hc hx]; exact ((zX_cl h hc).1 hw).2
theorem zX_r3 {F : Nat → Int32} (h : zRw F) {x y t c a b : Int32} (hc : zCl F t c) (hx : x.toInt = 8661 + 922 * t.toInt + 2 + 10 * c.toInt + ((3 : Nat) : Int)) (hy : y.toInt = 8661 + 922 * t.toInt + 2 + 10 * c.toInt + ((4 : Nat) : Int)) (ea : a = F (Int32.toNatClampNeg x)) (eb : b = F (Int32.toNatClampNeg y)) : zCv F (8661 + 922 * Int32.toNatClampNeg t + 122) a b := by
  rw [ea, eb, zX_at 3 hc hx, zX_at 4 hc hy]; exact (zX_cl h hc).2.2.1
theorem zX_r5 {F : Nat → Int32} (h : zRw F) {x y t c a b : Int32} (hc : zCl F t c) (hx : x.toInt = 8661 + 922 * t.toInt + 2 + 10 * c.toInt + ((5 : Nat) : Int)) (hy : y.toInt = 8661 + 922 * t.toInt + 2 + 10 * c.toInt + ((6 : Nat) : Int)) (ea : a = F (Int32.toNatClampNeg x)) (eb : b = F (Int32.toNatClampNeg y)) : zCv F (8661 + 922 * Int32.toNatClampNeg t + 122) a b := by
  rw [ea, eb, zX_at 5 hc hx, zX_at 6 hc hy]; exact (zX_cl h hc).2.2.2
theorem zSt_of {F : Nat → Int32} {cb : Nat} {h : Int → Int} {a b : Int} (hv : ∀ i : Nat, a ≤ (i : Int) → (i : Int) < b → zSt h b i (F (cb + 2 * i)).toInt (F (cb + 2 * i + 1)).toInt) {k x y op arg : Int32} (hk : a ≤ k.toInt ∧ k.toInt < b ∧ 0 ≤ k.toInt) (hx : x.toInt = (cb : Int) + 2 * k.toInt) (hy : y.toInt = (cb : Int) + 2 * k.toInt + 1) (eo : op = F (Int32.toNatClampNeg x)) (ea : arg = F (Int32.toNatClampNeg y)) : zSt h b k.toInt op.toInt arg.toInt := by
  have h1 := z_cl hk.2.2
  have h2 := z_cl (x := x) (by omega)
  have h3 := z_cl (x := y) (by omega)
  have e1 : Int32.toNatClampNeg x = cb + 2 * Int32.toNatClampNeg k := by omega
  have e2 : Int32.toNatClampNeg y = cb + 2 * Int32.toNatClampNeg k + 1 := by omega
  have q := hv (Int32.toNatClampNeg k) (by omega) (by omega)
  rw [h1, ← e2, ← e1, ← eo, ← ea] at q
  exact q
theorem zRw_congr {F G : Nat → Int32} (h : zRw F) (e : ∀ j, j < 27101 → G j = F j) : zRw G := by
  refine ⟨fun j hj => by rw [e j hj]; exact h.1 j hj, fun t ht => ?_⟩
  rw [e 4 (by decide)] at ht
  have h4 := (zW_4 h).2
  have h20 : (F 4).toInt ≤ 20 := h4
  exact zTv_congr (fun j j1 j2 => e j (by omega)) (h.2 t ht)
def zRi (G : Nat → Int32) : Prop := zRw (fun j => G j) ∧ zRw (fun j => G (27101 + j))
def zIn (G0 R : Nat → Int32) (k i : Int32) (G : Nat → Int32) : Prop := ∀ j : Nat, G j = if 27101 * k.toInt ≤ (j : Int) ∧ (j : Int) < 27101 * k.toInt + i.toInt then R (j - 27101 * Int32.toNatClampNeg k) else G0 j
theorem zI_0 {G0 R : Nat → Int32} {k i : Int32} (hi : i.toInt = 0) : zIn G0 R k i G0 := fun j => by rw [if_neg (by omega)]
theorem zI_step {G G0 R : Nat → Int32} {k i i2 x v : Int32} (h : zIn G0 R k i G) (hk : 0 ≤ k.toInt ∧ k.toInt ≤ 1) (hi : 0 ≤ i.toInt ∧ i.toInt < 27101) (hx : x.toInt = 27101 * k.toInt + i.toInt) (ev : v = R (Int32.toNatClampNeg i)) (h2 : i2.toInt = i.toInt + 1) : zIn G0 R k i2 (upd G (Int32.toNatClampNeg x) v) := by
  have c1 := z_cl hk.1
  have c2 := z_cl hi.1
  have c3 := z_cl (x := x) (by omega)
  intro j
  by_cases e : j = Int32.toNatClampNeg x
  · subst e
    rw [pk_us, if_pos (by omega), ev]
    congr 1
    omega
  · rw [pk_un e, h j]
    by_cases c : 27101 * k.toInt ≤ (j : Int) ∧ (j : Int) < 27101 * k.toInt + i.toInt
    · rw [if_pos c, if_pos (by omega)]
    · rw [if_neg c, if_neg (by omega)]
theorem zI_end {G G0 R : Nat → Int32} {k i : Int32} (h : zIn G0 R k i G) (hk : 0 ≤ k.toInt ∧ k.toInt ≤ 1) (hi : i.toInt = 27101) (h0 : zRi G0) (hR : zRw R) : zRi G := by
  have c1 := z_cl hk.1
  rcases (show k.toInt = 0 ∨ k.toInt = 1 by omega) with e | e
  · refine ⟨zRw_congr hR (fun j hj => ?_), zRw_congr h0.2 (fun j hj => ?_)⟩
    · show G j = R j
      rw [h j, if_pos (by omega)]
      congr 1
      omega
    · show G (27101 + j) = G0 (27101 + j)
      rw [h (27101 + j), if_neg (by omega)]
  · refine ⟨zRw_congr h0.1 (fun j hj => ?_), zRw_congr hR (fun j hj => ?_)⟩
    · show G j = G0 j
      rw [h j, if_neg (by omega)]
    · show G (27101 + j) = R j
      rw [h (27101 + j), if_pos (by omega)]
      congr 1
      omega
def zBn (F0 G : Nat → Int32) (k i : Int32) (F : Nat → Int32) : Prop := ∀ j : Nat, F j = if (j : Int) < i.toInt then G (27101 * Int32.toNatClampNeg k + j) else F0 j
theorem zB_0 {F0 G : Nat → Int32} {k i : Int32} (hi : i.toInt = 0) : zBn F0 G k i F0 := fun j => by rw [if_neg (by omega)]
theorem zB_step {F F0 G : Nat → Int32} {k i i2 x v : Int32} (h : zBn F0 G k i F) (hk : 0 ≤ k.toInt ∧ k.toInt ≤ 1) (hi : 0 ≤ i.toInt ∧ i.toInt < 27101) (hx : x.toInt = 27101 * k.toInt + i.toInt) (ev : v = G (Int32.toNatClampNeg x)) (h2 : i2.toInt = i.toInt + 1) : zBn F0 G k i2 (upd F (Int32.toNatClampNeg i) v) := by
  have c1 := z_cl hk.1
  have c2 := z_cl hi.1
  have c3 := z_cl (x := x) (by omega)
  intro j
  by_cases e : j = Int32.toNatClampNeg i
  · subst e
    rw [pk_us, if_pos (by omega), ev]
    congr 1
    omega
  · rw [pk_un e, h j]
    by_cases c : (j : Int) < i.toInt
    · rw [if_pos c, if_pos (by omega)]
    · rw [if_neg c, if_neg (by omega)]
theorem zB_end {F F0 G : Nat → Int32} {k i : Int32} (h : zBn F0 G k i F) (hk : 0 ≤ k.toInt ∧ k.toInt ≤ 1) (hi : i.toInt = 27101) (hG : zRi G) : zRw F := by
  have c1 := z_cl hk.1
  rcases (show k.toInt = 0 ∨ k.toInt = 1 by omega) with e | e
  · refine zRw_congr hG.1 (fun j hj => ?_)
    show F j = G j
    rw [h j, if_pos (by omega)]
    congr 1
    omega
  · refine zRw_congr hG.2 (fun j hj => ?_)
    show F j = G (27101 + j)
    rw [h j, if_pos (by omega)]
    congr 1
    omega
