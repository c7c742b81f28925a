theorem z_nilP {D : va_G} {cl : List vw_C} {a : va_W} {H : Heap} (h : va_P D cl a H) : va_P D cl (a ++ []) H := by rw [List.append_nil]; exact h
theorem z_nilD {A : Nat → Prop} {a : va_W} (h : va_D A a) : va_D A (a ++ []) := by rw [List.append_nil]; exact h
theorem z_len {L : Nat} (h : L ≤ 3584) : Int32.toInt (Int32.ofNat L - 7) = (L : Int) - 7 := by
  have e : Int32.toInt (Int32.ofNat L) = (L : Int) := nI_toInt (n := L) (by omega)
  exact zi_subc e (by decide) (by omega)
theorem z_i0 {L : Nat} : 0 ≤ Int32.toInt (0 : Int32) ∧ Int32.toInt (0 : Int32) ≤ (L : Int) := by
  have h0 : Int32.toInt (0 : Int32) = 0 := by decide
  omega
theorem z_iL {L : Nat} (h : L ≤ 3584) : (L : Int) - Int32.toInt (0 : Int32) < 7 * ((513 : Nat) : Int) := by
  have h0 : Int32.toInt (0 : Int32) = 0 := by decide
  omega
set_option maxHeartbeats 8000000 in
set_option maxRecDepth 100000 in
theorem law_loop {p : Program} {l : Launch} {e : Env} {s : State} {m : MethodId} {below : List Frame} {meth : Method} {c : Code} {D : va_G} {k : Nat → ClassId} {b L : Nat} {xs : Nat → Int32} {tb : Nat → Nat} (hC : law_C p s m meth c D k b L xs tb) {hX hM : Nat} : ∀ (n : Nat) (T : zTy) (Z : va_W) (uX uM : zS) (H : Heap) (locs : List Loc) (ls : Array Slot) (i : Int32) (cells slots : Nat), (0 ≤ Int32.toInt i ∧ Int32.toInt i ≤ (L : Int)) → ((L : Int) - Int32.toInt i < 7 * (n : Int)) → cells + 50 * n ≤ 600000 → slots + 7144 * n ≤ 7302250 → zI k tb T Z uX uM → va_P D vwCl ((WX k hX uX ++ WM k hM uM) ++ Z) H → va_D (fun q : Nat => s.heap.size ≤ q) ((WX k hX uX ++ WM k hM uM) ++ Z) → va_S (fun q : Nat => s.heap.size ≤ q) s.heap H locs → lv_has ls 4 [(0, .ref b), (1, .ref hX), (2, .ref hM), (3, .int i)] → W p l e room_1 s m #[Value.ref b] below meth c H locs cells slots (lw_Z below #[Value.ref b] s) (F0 m 18 ls []) := by
  obtain ⟨C0, hr, hlk, hXx, hbl, hK, hN, hZ, hL⟩ := id hC
  have hx := C0.1
  have hb := C0.2.1
  have hml := C0.2.2.1
  have hown := C0.2.2.2.1
  have hts := C0.2.2.2.2
  have hA : ∀ q : Nat, s.heap.size ≤ q → (fun q : Nat => s.heap.size ≤ q) q := fun _ h => h
  have hbA : ¬ (fun q : Nat => s.heap.size ≤ q) b := Nat.not_le.mpr hbl
  intro n
  induction n with
  | zero =>
    intro T Z uX uM H locs ls i cells slots hi hm
    exact absurd hm (by omega)
  | succ n ih =>
    intro T Z uX uM H locs ls i cells slots hi hm hc hs hI hP hD hS hl
    refine lv_iload_n hx hb dL_law_18 rfl (lv_at hl 3 rfl) ?_
    refine lv_aload_n hx hb dL_law_19 rfl (lv_at hl 0 rfl) ?_
    refine va_slen hx hb hXx hbl hbA hS dL_law_20 ?_
    refine lv_bipush (v := 7) hx hb dL_law_21 (by decide) ?_
    refine lv_isub hx hb dL_law_23 ?_
    refine lv_topi (fun y ey => ?_)
    have hy : Int32.toInt y = (L : Int) - 7 := by rw [ey]; exact z_len hL
    refine lv_icmp_gt (tgt := 2084) hx hb dL_law_24 (by decide) (fun hc1 => ?_) (fun hc1 => ?_)
    · refine lv_iconst (v := 1) hx hb dL_law_2084 (by decide) ?_
      refine va_forget (fun q hq => hS.2.2 q hq) ?_
      refine W.widen (k := 600000) (n := 7302250) (by omega) (by omega) ?_
      exact lw_ret hx hb hr hlk dL_law_2085
    · have hiL : Int32.toInt i + 7 ≤ (L : Int) := by
        have h1 := hc1
        rw [Int32.lt_iff_toInt_lt] at h1
        omega
      have hi7 : 0 ≤ Int32.toInt i ∧ Int32.toInt i ≤ 3577 := by omega
      have K : zK p l e s m below meth c D k b tb hX hM i cells slots := by
        intro T Z uX uM H locs ls hI hP hD hS hl
        obtain ⟨y2, e2⟩ : ∃ q : Int32, q = i + 7 := ⟨_, rfl⟩
        have h2 : Int32.toInt y2 = Int32.toInt i + 7 := by rw [e2]; exact zi_addc rfl (by decide) (by omega)
        refine lv_iinc (v := y2) (lv' := [(3, .int y2), (0, .ref b), (1, .ref hX), (2, .ref hM)]) hx hb dL_law_2078 hl (k := 3) rfl (by rw [e2]; exact zz_inc (by decide)) (by decide) rfl (fun ls hl => ?_)
        refine lv_goto (tgt := 18) hx hb dL_law_2081 (by decide) ?_
        exact ih T Z uX uM H locs ls y2 (cells + 50) (slots + 7144) (by omega) (by omega) (by omega) (by omega) hI hP hD hS (lv_sub hl [1, 2, 3, 0] rfl)
      have hcc : cells + 50 ≤ 600000 := by omega
      have hss : slots + 7144 ≤ 7302250 := by omega
      refine lv_aload_n hx hb dL_law_27 rfl (lv_at hl 0 rfl) ?_
      refine lv_iload_n hx hb dL_law_28 rfl (lv_at hl 3 rfl) ?_
      refine z_sld hx hb hXx hbl hbA hS (Int32.toNatClampNeg i) rfl (z_vinL (by omega)) dL_law_29 ?_
      refine lv_bipush (v := 63) hx hb dL_law_30 (by decide) ?_
      refine lv_iand hx hb dL_law_32 ?_
      obtain ⟨j, hj, ej⟩ := pk_andE (xs (Int32.toNatClampNeg i)) (m := 63) 6 (by decide)
      refine lv_toc (v := nI j) ej ?_
      match j, hj with
      | 0, _ =>
        refine lv_tableIn (off := 199) (tgt := 232) hx hb dL_law_33 (by decide) (by decide) (by decide +kernel) (by decide) ?_
        exact law_case_0 hC hi7 hiL hcc hss hI hP hD hS hl K
      | 1, _ =>
        refine lv_tableIn (off := 278) (tgt := 311) hx hb dL_law_33 (by decide) (by decide) (by decide +kernel) (by decide) ?_
        exact law_case_1 hC hi7 hiL hcc hss hI hP hD hS hl K
      | 2, _ =>
        refine lv_tableIn (off := 291) (tgt := 324) hx hb dL_law_33 (by decide) (by decide) (by decide +kernel) (by decide) ?_
        exact law_case_2 hC hi7 hiL hcc hss hI hP hD hS hl K
      | 3, _ =>
        refine lv_tableIn (off := 324) (tgt := 357) hx hb dL_law_33 (by decide) (by decide) (by decide +kernel) (by decide) ?_
        exact law_case_3 hC hi7 hiL hcc hss hI hP hD hS hl K
      | 4, _ =>
        refine lv_tableIn (off := 367) (tgt := 400) hx hb dL_law_33 (by decide) (by decide) (by decide +kernel) (by decide) ?_
        exact law_case_4 hC hi7 hiL hcc hss hI hP hD hS hl K
      | 5, _ =>
        refine lv_tableIn (off := 420) (tgt := 453) hx hb dL_law_33 (by decide) (by decide) (by decide +kernel) (by decide) ?_
        exact law_case_5 hC hi7 hiL hcc hss hI hP hD hS hl K
      | 6, _ =>
        refine lv_tableIn (off := 463) (tgt := 496) hx hb dL_law_33 (by decide) (by decide) (by decide +kernel) (by decide) ?_
        exact law_case_6 hC hi7 hiL hcc hss hI hP hD hS hl K
      | 7, _ =>
        refine lv_tableIn (off := 496) (tgt := 529) hx hb dL_law_33 (by decide) (by decide) (by decide +kernel) (by decide) ?_
        exact law_case_7 hC hi7 hiL hcc hss hI hP hD hS hl K
      | 8, _ =>
        refine lv_tableIn (off := 549) (tgt := 582) hx hb dL_law_33 (by decide) (by decide) (by decide +kernel) (by decide) ?_
        exact law_case_8 hC hi7 hiL hcc hss hI hP hD hS hl K
      | 9, _ =>
        refine lv_tableIn (off := 624) (tgt := 657) hx hb dL_law_33 (by decide) (by decide) (by decide +kernel) (by decide) ?_
        exact law_case_9 hC hi7 hiL hcc hss hI hP hD hS hl K
      | 10, _ =>
        refine lv_tableIn (off := 667) (tgt := 700) hx hb dL_law_33 (by decide) (by decide) (by decide +kernel) (by decide) ?_
        exact law_case_10 hC hi7 hiL hcc hss hI hP hD hS hl K
      | 11, _ =>
        refine lv_tableIn (off := 730) (tgt := 763) hx hb dL_law_33 (by decide) (by decide) (by decide +kernel) (by decide) ?_
        exact law_case_11 hC hi7 hiL hcc hss hI hP hD hS hl K
      | 12, _ =>
        refine lv_tableIn (off := 793) (tgt := 826) hx hb dL_law_33 (by decide) (by decide) (by decide +kernel) (by decide) ?_
        exact law_case_12 hC hi7 hiL hcc hss hI hP hD hS hl K
      | 13, _ =>
        refine lv_tableIn (off := 856) (tgt := 889) hx hb dL_law_33 (by decide) (by decide) (by decide +kernel) (by decide) ?_
        exact law_case_13 hC hi7 hiL hcc hss hI hP hD hS hl K
      | 14, _ =>
        refine lv_tableIn (off := 879) (tgt := 912) hx hb dL_law_33 (by decide) (by decide) (by decide +kernel) (by decide) ?_
        exact law_case_14 hC hi7 hiL hcc hss hI hP hD hS hl K
      | 15, _ =>
        refine lv_tableIn (off := 902) (tgt := 935) hx hb dL_law_33 (by decide) (by decide) (by decide +kernel) (by decide) ?_
        exact law_case_15 hC hi7 hiL hcc hss hI hP hD hS hl K
      | 16, _ =>
        refine lv_tableIn (off := 915) (tgt := 948) hx hb dL_law_33 (by decide) (by decide) (by decide +kernel) (by decide) ?_
        exact law_case_16 hC hi7 hiL hcc hss hI hP hD hS hl K
      | 17, _ =>
        refine lv_tableIn (off := 958) (tgt := 991) hx hb dL_law_33 (by decide) (by decide) (by decide +kernel) (by decide) ?_
        exact law_case_17 hC hi7 hiL hcc hss hI hP hD hS hl K
      | 18, _ =>
        refine lv_tableIn (off := 1021) (tgt := 1054) hx hb dL_law_33 (by decide) (by decide) (by decide +kernel) (by decide) ?_
        exact law_case_18 hC hi7 hiL hcc hss hI hP hD hS hl K
      | 19, _ =>
        refine lv_tableIn (off := 1084) (tgt := 1117) hx hb dL_law_33 (by decide) (by decide) (by decide +kernel) (by decide) ?_
        exact law_case_19 hC hi7 hiL hcc hss hI hP hD hS hl K
      | 20, _ =>
        refine lv_tableIn (off := 1137) (tgt := 1170) hx hb dL_law_33 (by decide) (by decide) (by decide +kernel) (by decide) ?_
        exact law_case_20 hC hi7 hiL hcc hss hI hP hD hS hl K
      | 21, _ =>
        refine lv_tableIn (off := 1180) (tgt := 1213) hx hb dL_law_33 (by decide) (by decide) (by decide +kernel) (by decide) ?_
        exact law_case_21 hC hi7 hiL hcc hss hI hP hD hS hl K
      | 22, _ =>
        refine lv_tableIn (off := 1223) (tgt := 1256) hx hb dL_law_33 (by decide) (by decide) (by decide +kernel) (by decide) ?_
        exact law_case_22 hC hi7 hiL hcc hss hI hP hD hS hl K
      | 23, _ =>
        refine lv_tableIn (off := 1266) (tgt := 1299) hx hb dL_law_33 (by decide) (by decide) (by decide +kernel) (by decide) ?_
        exact law_case_23 hC hi7 hiL hcc hss hI hP hD hS hl K
      | 24, _ =>
        refine lv_tableIn (off := 1319) (tgt := 1352) hx hb dL_law_33 (by decide) (by decide) (by decide +kernel) (by decide) ?_
        exact law_case_24 hC hi7 hiL hcc hss hI hP hD hS hl K
      | 25, _ =>
        refine lv_tableIn (off := 1362) (tgt := 1395) hx hb dL_law_33 (by decide) (by decide) (by decide +kernel) (by decide) ?_
        exact law_case_25 hC hi7 hiL hcc hss hI hP hD hS hl K
      | 26, _ =>
        refine lv_tableIn (off := 1405) (tgt := 1438) hx hb dL_law_33 (by decide) (by decide) (by decide +kernel) (by decide) ?_
        exact law_case_26 hC hi7 hiL hcc hss hI hP hD hS hl K
      | 27, _ =>
        refine lv_tableIn (off := 1448) (tgt := 1481) hx hb dL_law_33 (by decide) (by decide) (by decide +kernel) (by decide) ?_
        exact law_case_27 hC hi7 hiL hcc hss hI hP hD hS hl K
      | 28, _ =>
        refine lv_tableIn (off := 1471) (tgt := 1504) hx hb dL_law_33 (by decide) (by decide) (by decide +kernel) (by decide) ?_
        exact law_case_28 hC hi7 hiL hcc hss hI hP hD hS hl K
      | 29, _ =>
        refine lv_tableIn (off := 1504) (tgt := 1537) hx hb dL_law_33 (by decide) (by decide) (by decide +kernel) (by decide) ?_
        exact law_case_29 hC hi7 hiL hcc hss hI hP hD hS hl K
      | 30, _ =>
        refine lv_tableIn (off := 1527) (tgt := 1560) hx hb dL_law_33 (by decide) (by decide) (by decide +kernel) (by decide) ?_
        exact law_case_30 hC hi7 hiL hcc hss hI hP hD hS hl K
      | 31, _ =>
        refine lv_tableIn (off := 1550) (tgt := 1583) hx hb dL_law_33 (by decide) (by decide) (by decide +kernel) (by decide) ?_
        exact law_case_31 hC hi7 hiL hcc hss hI hP hD hS hl K
      | 32, _ =>
        refine lv_tableIn (off := 1583) (tgt := 1616) hx hb dL_law_33 (by decide) (by decide) (by decide +kernel) (by decide) ?_
        exact law_case_32 hC hi7 hiL hcc hss hI hP hD hS hl K
      | 33, _ =>
        refine lv_tableIn (off := 1636) (tgt := 1669) hx hb dL_law_33 (by decide) (by decide) (by decide +kernel) (by decide) ?_
        exact law_case_33 hC hi7 hiL hcc hss hI hP hD hS hl K
      | 34, _ =>
        refine lv_tableIn (off := 1679) (tgt := 1712) hx hb dL_law_33 (by decide) (by decide) (by decide +kernel) (by decide) ?_
        exact law_case_34 hC hi7 hiL hcc hss hI hP hD hS hl K
      | 35, _ =>
        refine lv_tableIn (off := 1732) (tgt := 1765) hx hb dL_law_33 (by decide) (by decide) (by decide +kernel) (by decide) ?_
        exact law_case_35 hC hi7 hiL hcc hss hI hP hD hS hl K
      | 36, _ =>
        refine lv_tableIn (off := 1785) (tgt := 1818) hx hb dL_law_33 (by decide) (by decide) (by decide +kernel) (by decide) ?_
        exact law_case_36 hC hi7 hiL hcc hss hI hP hD hS hl K
      | 37, _ =>
        refine lv_tableIn (off := 1828) (tgt := 1861) hx hb dL_law_33 (by decide) (by decide) (by decide +kernel) (by decide) ?_
        exact law_case_37 hC hi7 hiL hcc hss hI hP hD hS hl K
      | 38, _ =>
        refine lv_tableIn (off := 1851) (tgt := 1884) hx hb dL_law_33 (by decide) (by decide) (by decide +kernel) (by decide) ?_
        exact law_case_38 hC hi7 hiL hcc hss hI hP hD hS hl K
      | 39, _ =>
        refine lv_tableIn (off := 1884) (tgt := 1917) hx hb dL_law_33 (by decide) (by decide) (by decide +kernel) (by decide) ?_
        exact law_case_39 hC hi7 hiL hcc hss hI hP hD hS hl K
      | 40, _ =>
        refine lv_tableIn (off := 1907) (tgt := 1940) hx hb dL_law_33 (by decide) (by decide) (by decide +kernel) (by decide) ?_
        exact law_case_40 hC hi7 hiL hcc hss hI hP hD hS hl K
      | 41, _ =>
        refine lv_tableIn (off := 1940) (tgt := 1973) hx hb dL_law_33 (by decide) (by decide) (by decide +kernel) (by decide) ?_
        exact law_case_41 hC hi7 hiL hcc hss hI hP hD hS hl K
      | 42, _ =>
        refine lv_tableIn (off := 1963) (tgt := 1996) hx hb dL_law_33 (by decide) (by decide) (by decide +kernel) (by decide) ?_
        exact law_case_42 hC hi7 hiL hcc hss hI hP hD hS hl K
      | 43, _ =>
        refine lv_tableIn (off := 1986) (tgt := 2019) hx hb dL_law_33 (by decide) (by decide) (by decide +kernel) (by decide) ?_
        exact law_case_43 hC hi7 hiL hcc hss hI hP hD hS hl K
      | 44, _ =>
        refine lv_tableIn (off := 2009) (tgt := 2042) hx hb dL_law_33 (by decide) (by decide) (by decide +kernel) (by decide) ?_
        exact law_case_44 hC hi7 hiL hcc hss hI hP hD hS hl K
      | 45, _ =>
        refine lv_tableIn (off := 2032) (tgt := 2065) hx hb dL_law_33 (by decide) (by decide) (by decide +kernel) (by decide) ?_
        exact law_case_45 hC hi7 hiL hcc hss hI hP hD hS hl K
      | j + 46, hj =>
        refine lv_tableOut (tgt := 2078) hx hb dL_law_33 (Or.inr (by rw [nI_toInt (by omega)]; omega)) (by decide) ?_
        refine W.widen (k := cells + 50) (n := slots + 7144) (by omega) (by omega) ?_
        exact K T Z uX uM H locs ls hI hP hD hS hl
