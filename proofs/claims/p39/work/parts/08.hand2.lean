/-! rows copied by Arrays.copyOf; prefixes of rows; rows of texts with one more -/
def zA (F : Nat → Int32) (n hi : Int) : Prop := ∀ j : Nat, (j : Int) < n → (F j).toInt ≤ hi
theorem zA_le {F : Nat → Int32} {n hi n2 hi2 : Int} (h : zA F n hi) (h1 : n2 ≤ n) (h2 : hi ≤ hi2) : zA F n2 hi2 := fun j hj => Int.le_trans (h j (by omega)) h2
theorem zA_0 {F : Nat → Int32} {n hi : Int} (h : n ≤ 0) : zA F n hi := fun j hj => absurd hj (by omega)
theorem zA_push {F : Nat → Int32} {n hi : Int} {x v : Int32} (h : zA F n hi) (hx : x.toInt = n) (h0 : 0 ≤ n) (hv : hi ≤ v.toInt) : zA (upd F (Int32.toNatClampNeg x) v) (n + 1) v.toInt := by
  intro j hj
  have h1 := z_cl (x := x) (by omega)
  by_cases e : j = Int32.toNatClampNeg x
  · subst e; rw [pk_us]; exact Int.le_refl _
  · rw [pk_un e]; exact Int.le_trans (h j (by omega)) hv
def zRo1 (k : Nat → ClassId) (T : zTy) (b : Nat) (F : Nat → Option Nat) : Prop := ∀ (j a : Nat), F j = some a → a = b ∨ ∃ (nc st : Int32) (q1 q2 q3 q4 : Nat) (lc : Int32) (f1 f2 f3 f4 : Nat → Int32), zTx k T a nc st q1 q2 q3 q4 lc f1 f2 f3 f4
theorem va_up_s {f : Nat → Option Nat} {i : Nat} {v : Option Nat} : va_up f i v i = v := by simp [va_up]
theorem va_up_n {f : Nat → Option Nat} {i j : Nat} {v : Option Nat} (h : j ≠ i) : va_up f i v j = f j := by simp [va_up, h]
theorem zRo1_up {k : Nat → ClassId} {T : zTy} {b i : Nat} {F : Nat → Option Nat} (h : zRo k T F) : zRo1 k T b (va_up F i (some b)) := by
  intro j a hj
  by_cases e : j = i
  · subst e; rw [va_up_s] at hj; exact Or.inl (Option.some.inj hj).symm
  · rw [va_up_n e] at hj; exact Or.inr (h j a hj)
theorem zRo1_none {k : Nat → ClassId} {T : zTy} {b i : Nat} {F : Nat → Option Nat} (h : zRo1 k T b F) : zRo1 k T b (va_up F i none) := by
  intro j a hj
  by_cases e : j = i
  · subst e; rw [va_up_s] at hj; cases hj
  · rw [va_up_n e] at hj; exact h j a hj
theorem zRo_none {k : Nat → ClassId} {T : zTy} {i : Nat} {F : Nat → Option Nat} (h : zRo k T F) : zRo k T (va_up F i none) := by
  intro j a hj
  by_cases e : j = i
  · subst e; rw [va_up_s] at hj; cases hj
  · rw [va_up_n e] at hj; exact h j a hj
theorem zRo_copy {k : Nat → ClassId} {T : zTy} {i j0 b : Nat} {F G : Nat → Option Nat} (h : zRo k T F) (hG : zRo k T G) (e : G j0 = some b) : zRo k T (va_up F i (some b)) := by
  intro j a hj
  by_cases q : j = i
  · subst q; rw [va_up_s] at hj; cases hj; exact hG j0 _ e
  · rw [va_up_n q] at hj; exact h j a hj
theorem zRo_c {k : Nat → ClassId} {T : zTy} : zRo k T (fun _ => none) := fun _ _ h => by cases h
theorem z_E {f : Nat → Option Nat} {x : Int32} {o : Option Nat} (i : Nat) (hx : x.toInt = (i : Int)) (h : f i = o) : f (Int32.toNatClampNeg x) = o := by
  have h1 := z_cl (x := x) (by omega)
  have h2 : Int32.toNatClampNeg x = i := by omega
  rw [h2]; exact h
theorem z_Es {f : Nat → Option Nat} {x : Int32} {o : Option Nat} (i : Nat) (hx : x.toInt = (i : Int)) : va_up f (Int32.toNatClampNeg x) o i = o := by
  have h1 := z_cl (x := x) (by omega)
  have h2 : Int32.toNatClampNeg x = i := by omega
  rw [h2, va_up_s]
theorem z_En {f : Nat → Option Nat} {x : Int32} {o p : Option Nat} (i j : Nat) (hx : x.toInt = (i : Int)) (hj : j ≠ i) (h : f j = p) : va_up f (Int32.toNatClampNeg x) o j = p := by
  have h1 := z_cl (x := x) (by omega)
  have h2 : Int32.toNatClampNeg x = i := by omega
  rw [h2, va_up_n hj]; exact h
/-- a text's cells as a pool -/
theorem z_pool {D : va_G} {k : Nat → ClassId} {a q1 q2 q3 q4 : Nat} {nc sk LK LV LA LC : Int32} {f1 f2 f3 f4 : Nat → Int32} {H : Heap} (hP : va_P D vwCl [(a, .inr (10, [.int nc, .int sk, .ref q1, .ref q2, .ref q3, .ref q4])), (q1, .inl (k 0, Int32.toNatClampNeg LK, .inl f1)), (q2, .inl (k 0, Int32.toNatClampNeg LV, .inl f2)), (q3, .inl (k 0, Int32.toNatClampNeg LA, .inl f3)), (q4, .inl (k 0, Int32.toNatClampNeg LC, .inl f4))] H)
    (hl : Int32.toInt LK = Int32.toInt nc ∧ Int32.toInt LV = Int32.toInt nc ∧ Int32.toInt LA = 2 * Int32.toInt nc + 1) (hn : 0 ≤ Int32.toInt nc ∧ Int32.toInt nc ≤ 12) (hc : 0 ≤ Int32.toInt LC ∧ Int32.toInt LC ≤ 400) (h2 : zR f2 0 400) (h3 : zR f3 0 400) (hA : zA f3 (2 * Int32.toInt nc + 1) (Int32.toInt LC)) :
    ∃ (pw : va_W) (g3 : Nat → Int32), va_P D vwCl pw H ∧ pw.map (fun q => some q.1) = [some a, some q1, some q2, some q3, some q4] ∧ ∀ T : zTy, T.1 pw → zTx k T a nc sk q1 q2 q3 q4 LC f1 f2 g3 f4 := by
  have eK : LK = nc := Int32.toInt_inj.mp hl.1
  have eV : LV = nc := Int32.toInt_inj.mp hl.2.1
  have c1 := z_cl hn.1
  have c2 := z_cl (x := LA) (by omega)
  have eA : Int32.toNatClampNeg LA = 2 * Int32.toNatClampNeg nc + 1 := by omega
  subst eK
  subst eV
  rw [eA] at hP
  have hP2 := z_cellEq (g := fun j => if j < 2 * Int32.toNatClampNeg LV + 1 then f3 j else 0) hP (q0 := 3) rfl (fun j hj => by simp [hj])
  refine ⟨_, fun j => if j < 2 * Int32.toNatClampNeg LV + 1 then f3 j else 0, hP2, rfl, fun T hT => ⟨hT, hn, hc, h2, fun j => ?_⟩⟩
  dsimp only
  by_cases hj : j < 2 * Int32.toNatClampNeg LV + 1
  · rw [if_pos hj]; exact ⟨(h3 j).1, hA j (by omega)⟩
  · rw [if_neg hj]; exact ⟨by decide, by simpa using hc.1⟩
def zTn (T : zTy) (pw : va_W) : zTy := (fun w => T.1 w ∨ w = pw, T.2)
theorem zRo_ext {k : Nat → ClassId} {T : zTy} {b : Nat} {F : Nat → Option Nat} {pw : va_W} {nc sk : Int32} {q1 q2 q3 q4 : Nat} {lc : Int32} {f1 f2 f3 f4 : Nat → Int32} (h : zRo1 k T b F) (hx : zTx k (zTn T pw) b nc sk q1 q2 q3 q4 lc f1 f2 f3 f4) : zRo k (zTn T pw) F := by
  intro j a hj
  rcases h j a hj with rfl | ⟨nc, st, q1, q2, q3, q4, lc, f1, f2, f3, f4, h1, h2⟩
  · exact ⟨_, _, _, _, _, _, _, _, _, _, _, hx⟩
  · exact ⟨nc, st, q1, q2, q3, q4, lc, f1, f2, f3, f4, Or.inl h1, h2⟩
theorem zRo_mono {k : Nat → ClassId} {T : zTy} {F : Nat → Option Nat} {pw : va_W} (h : zRo k T F) : zRo k (zTn T pw) F := by
  intro j a hj
  obtain ⟨nc, st, q1, q2, q3, q4, lc, f1, f2, f3, f4, h1, h2⟩ := h j a hj
  exact ⟨nc, st, q1, q2, q3, q4, lc, f1, f2, f3, f4, Or.inl h1, h2⟩
theorem z_enX {D : va_G} {T : zTy} {B : Nat → Prop} {s : State} {H : Heap} {pw : va_W} (hE : ∀ U : State, U.heap = H → s.WarmedH U.vm → zEnv D T B U) (hp : va_P D vwCl pw H) (hn : ∀ (j : Nat) (q : Nat × va_E), pw[j]? = some q → ¬ B q.1) : ∀ U : State, U.heap = H → s.WarmedH U.vm → zEnv D (zTn T pw) B U := by
  intro U hU hW
  have h := hE U hU hW
  refine ⟨fun w hw => ?_, h.2⟩
  rcases hw with hw | rfl
  · exact h.1 w hw
  · rw [hU]; exact ⟨hp, hn⟩
theorem z_dis {D : va_G} {A : Nat → Prop} {ws wc pw : va_W} {H : Heap} (hD : va_D A ws) (hP : va_P D vwCl ws H) (isC isX : List Nat) (hC : isC.map (fun i => ws[i]?) = wc.map some) (hX : isX.map (fun i => (ws[i]?).map Prod.fst) = pw.map (fun q => some q.1)) (hdis : isX.all (fun i => !isC.contains i) = true) : ∀ (j : Nat) (q : Nat × va_E), pw[j]? = some q → ¬ va_A wc H.size q.1 := by
  intro j q hq hB
  have h1 : (isX.map (fun i => (ws[i]?).map Prod.fst))[j]? = some (some q.1) := by rw [hX, List.getElem?_map, hq]; rfl
  rw [List.getElem?_map] at h1
  cases hi : isX[j]? with
  | none => rw [hi] at h1; cases h1
  | some i =>
    rw [hi] at h1
    have h2 : (ws[i]?).map Prod.fst = some q.1 := Option.some.inj h1
    cases hw : ws[i]? with
    | none => rw [hw] at h2; cases h2
    | some r =>
      rw [hw] at h2
      have h3 : r.1 = q.1 := Option.some.inj h2
      rcases hB with ⟨n, e, hc⟩ | hsz
      · have h4 : (isC.map (fun i => ws[i]?))[n]? = some (some (q.1, e)) := by rw [hC, List.getElem?_map, hc]; rfl
        rw [List.getElem?_map] at h4
        cases hn : isC[n]? with
        | none => rw [hn] at h4; cases h4
        | some m =>
          rw [hn] at h4
          have h5 : ws[m]? = some (q.1, e) := Option.some.inj h4
          have h6 : i = m := hD.1 i m _ _ hw h5 h3
          have h7 := List.all_eq_true.mp hdis i (List.mem_of_getElem? hi)
          subst h6
          have h8 : i ∈ isC := List.mem_of_getElem? hn
          simp [h8] at h7
      · have h9 := (hP i r hw).lt
        omega
theorem z_self {vm : Vm} {c : ClassId} : vm.assignable c c = true := by
  unfold Vm.assignable Vm.assignableAux
  simp
section ZC
variable {p : Program} {l : Launch} {e : Env} {R : Room} {s : State} {m : MethodId} {args : Array Value} {below : List Frame} {meth : Method} {c : Code} {H H0 : Heap} {locs : List Loc} {cells slots : Nat} {Q : State → Prop} {cc : ByteArray} {pc : Nat} {ls : Array Slot} {rest : List Value} {D : va_G} {k : Nat → ClassId} {ws : va_W} {a : Nat}
theorem z_fI (hK : va_K D vwCl (TYk k) s) : s.vm.findClass "[I" = some (k 0) := (hK.2 0 (k 0, .int) rfl).2
theorem z_castI (hexec : p.tables.exec = Jvm.exec) (hb : c.code = cc) {own : String} {index : Nat} (hown : s.vm.findClass own = some m.cls) (hlink : (Cond.classLink own index "[I").before args s = true) (hK : va_K D vwCl (TYk k) s) (hP : va_P D vwCl ws H) (q0 : Nat) {x : vp_A} (ha : ws[q0]? = some (a, .inl (k 0, x))) (hdg : decode cc pc = .ok (.checkcast index, 3))
    (kk : W p l e R s m args below meth c H locs cells slots Q (F0 m (pc + 3) ls (.ref a :: rest))) : W p l e R s m args below meth c H locs cells slots Q (F0 m pc ls (.ref a :: rest)) := by
  have h1 : H[a]? = some (vp_cell (k 0) x) := hP q0 _ ha
  have hc : (vp_cell (k 0) x).cls = k 0 := by obtain ⟨n, f | f | f | f | f⟩ := x <;> rfl
  have h2 : (vp_cell (k 0) x).vm.isStatics = false := by obtain ⟨n, f | f | f | f | f⟩ := x <;> rfl
  have f3 : s.vm.assignable (vp_cell (k 0) x).cls (k 0) = true := by rw [hc]; exact z_self
  intro T hT X
  obtain ⟨vm', X', st⟩ := X.checkcastYes hexec hown hlink (by rw [hT]; exact h1) h2 (z_fI hK) f3 (g := F0 m pc ls (.ref a :: rest)) rfl rfl (by rw [hb]; exact hdg)
  obtain ⟨t, a1, b1⟩ := kk (T.setVm vm') hT X'
  exact ⟨t, st t a1, b1⟩
end ZC
theorem kClL : Cond.methodLink RJ7 316 (⟨"[I", "clone", "()Ljava/lang/Object;"⟩ : MethodName) ∈ lw_g := mk_k 847 (by decide +kernel) rfl
theorem kClS : Cond.sameMethod "[I" "java/lang/Object" "clone" "()Ljava/lang/Object;" ∈ lw_g := mk_k 848 (by decide +kernel) rfl
theorem kClN : Cond.native (⟨"java/lang/Object", "clone", "()Ljava/lang/Object;"⟩ : MethodName) ∈ lw_g := mk_k 849 (by decide +kernel) rfl
theorem kClI : Cond.instanceMethod (⟨"java/lang/Object", "clone", "()Ljava/lang/Object;"⟩ : MethodName) ∈ lw_g := mk_k 850 (by decide +kernel) rfl
theorem kClV : Cond.selects "[I" (⟨"[I", "clone", "()Ljava/lang/Object;"⟩ : MethodName) (⟨"java/lang/Object", "clone", "()Ljava/lang/Object;"⟩ : MethodName) ∈ lw_g := mk_k 851 (by decide +kernel) rfl
theorem kClC : Cond.classLink RJ7 317 "[I" ∈ lw_g := mk_k 853 (by decide +kernel) rfl
theorem kCoM : Cond.methodLink RJ7 304 Lib.Math.min.name ∈ lw_g := mk_k 854 (by decide +kernel) rfl
theorem kCoA : Cond.methodLink RJ7 150 arraycopyName ∈ lw_g := mk_k 855 (by decide +kernel) rfl
theorem z_fit {cA : ClassId} {N : Nat} {f : Nat → Int32} : ∀ (i : Nat) (v : Value), (vp_cell cA (N, .inl f)).slots[i]? = some v → fits .int v = true := by
  intro i v hv
  by_cases hi : i < N
  · rw [show (vp_cell cA (N, .inl f)) = arrV cA N (fun j => .int (f j)) from rfl, arrV_read _ _ hi] at hv
    cases hv
    rfl
  · rw [show (vp_cell cA (N, .inl f)) = arrV cA N (fun j => .int (f j)) from rfl, Array.getElem?_eq_none (by rw [arrV_size]; omega)] at hv
    cases hv
set_option maxHeartbeats 4000000 in
set_option maxRecDepth 100000 in
theorem c_copyOf (l : Launch) (D : va_G) (k : Nat → ClassId) (T : zTy) (q_0 : Nat) (x_0 : Int32) (f_0 : Nat → Int32) (n_0 : Nat) (hn : n_0 < 2 ^ 20) (hx0 : 0 ≤ Int32.toInt x_0 ∧ Int32.toInt x_0 ≤ (n_0 : Int)) : zMq l yJ7_copyOf_59c91 cJ7_copyOf_59c91 3 (some (.array .int)) ({ frames := 1, cells := 1, slots := n_0, locals := 60 }) D k T [.ref q_0, .int x_0] [(q_0, .inl (k 0, n_0, .inl f_0))] (fun r u => u.1 = 0 ∧ r = some (u.2.1 0)) (fun u => [(q_0, .inl (k 0, n_0, .inl f_0)), (u.2.1 0, .inl (k 0, Int32.toNatClampNeg x_0, .inl f_0))]) := by
  refine zMq_of (own := RJ7) (by decide +kernel) rfl (Nat.le_of_ble_eq_true rfl) ?_
  intro p e s m args below meth c A ls C0 hr hlk hin hP hD hS hA hK hN hT hl
  have hx := C0.1
  have hb := C0.2.1
  have hml := C0.2.2.1
  have hown := C0.2.2.2.1
  have hts := C0.2.2.2.2
  have hl : lv_has ls 3 [(0, .ref q_0), (1, .int x_0)] := hl
  have hcl := z_cl hx0.1
  have hle : Int32.toNatClampNeg x_0 ≤ n_0 := by omega
  refine lv_iload_n hx hb dJ7_copyOf_59c91_0 rfl (lv_at hl 1 rfl) ?_
  refine lv_aload_n hx hb dJ7_copyOf_59c91_1 rfl (lv_at hl 0 rfl) ?_
  refine va_alen (v := nI n_0) (ty := .int) hx hb hK hP 0 0 rfl rfl rfl dJ7_copyOf_59c91_2 ?_
  refine lv_icmp_ne (tgt := 14) hx hb dJ7_copyOf_59c91_3 (by decide) (fun c1 => ?_) (fun c1 => ?_)
  · refine lv_iload_n hx hb dJ7_copyOf_59c91_14 rfl (lv_at hl 1 rfl) ?_
    refine z_newa (atype := .int) (ty := .int) (a0 := (Int32.toNatClampNeg x_0, .inl (fun _ => 0))) (N' := Int32.toNatClampNeg x_0) hx hb (hts _ kArr_int) rfl 0 rfl hK hP hD hS hA (fun _ => rfl) (fun q => by have := Int32.lt_iff_toInt_lt.mp q; simp at this; omega) rfl (by show Int32.toNatClampNeg x_0 * 4 ≤ 536870912; omega) (Nat.le_of_ble_eq_true rfl) (by show 0 + Int32.toNatClampNeg x_0 ≤ n_0; omega) dJ7_copyOf_59c91_15 (fun q_1 H hP hD hS => ?_)
    have hP : va_P D vwCl [(q_0, .inl (k 0, n_0, .inl f_0)), (q_1, .inl (k 0, Int32.toNatClampNeg x_0, .inl (fun _ => 0)))] H := hP
    have hD : va_D A [(q_0, .inl (k 0, n_0, .inl f_0)), (q_1, .inl (k 0, Int32.toNatClampNeg x_0, .inl (fun _ => 0)))] := hD
    refine lv_astore_n (lv' := [(2, .ref q_1), (0, .ref q_0), (1, .int x_0)]) hx hb dJ7_copyOf_59c91_17 rfl hl (by decide) rfl (fun ls hl => ?_)
    refine lv_aload_n hx hb dJ7_copyOf_59c91_18 rfl (lv_at hl 1 rfl) ?_
    refine lv_iconst (v := 0) hx hb dJ7_copyOf_59c91_19 (by decide) ?_
    refine lv_aload_n hx hb dJ7_copyOf_59c91_20 rfl (lv_at hl 0 rfl) ?_
    refine lv_iconst (v := 0) hx hb dJ7_copyOf_59c91_21 (by decide) ?_
    refine lv_aload_n hx hb dJ7_copyOf_59c91_22 rfl (lv_at hl 1 rfl) ?_
    refine va_alen (v := nI n_0) (ty := .int) hx hb hK hP 0 0 rfl rfl rfl dJ7_copyOf_59c91_23 ?_
    refine lv_iload_n hx hb dJ7_copyOf_59c91_24 rfl (lv_at hl 2 rfl) ?_
    refine va_mmin hx hb (by rw [hml]; exact hl.1.symm) hown (hts _ kCoM) (hts _ kMinS) (hts _ kZ_J9) (hts _ kMinC) (by first | exact Nat.le_of_ble_eq_true rfl | (show 0 + Int32.toNatClampNeg x_0 ≤ n_0; omega)) (by first | exact Nat.le_of_ble_eq_true rfl | (show 0 + Int32.toNatClampNeg x_0 ≤ n_0; omega)) (by first | exact Nat.le_of_ble_eq_true rfl | (show 0 + Int32.toNatClampNeg x_0 ≤ n_0; omega)) (by first | exact Nat.le_of_ble_eq_true rfl | (show 0 + Int32.toNatClampNeg x_0 ≤ n_0; omega)) dJ7_copyOf_59c91_25 ?_
    have hmin : (if x_0 < nI n_0 then x_0 else nI n_0) = x_0 := by
      by_cases h : x_0 < nI n_0
      · rw [if_pos h]
      · rw [if_neg h]
        have h1 : ¬ x_0.toInt < (nI n_0).toInt := fun q => h (Int32.lt_iff_toInt_lt.mpr q)
        rw [nI_toInt (by omega)] at h1
        apply Int32.toInt_inj.mp
        rw [nI_toInt (by omega)]
        omega
    refine lv_toc (v := x_0) hmin ?_
    refine va_copyi (ty := .int) hx hb (by rw [hml]; exact hl.1.symm) hown (hts _ kCoA) (hts _ kAcpN) (hts _ kAcpS) (hts _ kZ_J10) hK hP hD hS 0 1 0 0 rfl rfl rfl rfl rfl (by decide) (by decide) (fun q => by have := Int32.lt_iff_toInt_lt.mp q; simp at this; omega) (by simp; omega) (by simp) (fun i _ => rfl) (Nat.le_of_ble_eq_true rfl) (by show _ ≤ 60; decide) dJ7_copyOf_59c91_28 (fun H locs hP hD hS => ?_)
    have hP2 := z_cellEq (g := f_0) hP (q0 := 1) rfl (fun j hj => by
      show va_cpy f_0 (fun _ => 0) 0 0 (Int32.toNatClampNeg x_0) j = f_0 j
      rw [pk_cpy_in (Nat.zero_le j) (by omega)]
      congr 1
      omega)
    have hP2 : va_P D vwCl [(q_0, .inl (k 0, n_0, .inl f_0)), (q_1, .inl (k 0, Int32.toNatClampNeg x_0, .inl f_0))] H := hP2
    have hD2 : va_D A [(q_0, .inl (k 0, n_0, .inl f_0)), (q_1, .inl (k 0, Int32.toNatClampNeg x_0, .inl f_0))] := hD.set (p := 1) rfl
    refine lv_aload_n hx hb dJ7_copyOf_59c91_31 rfl (lv_at hl 0 rfl) ?_
    refine W.widen (k := 1) (n := n_0) (Nat.le_of_ble_eq_true rfl) (by show 0 + Int32.toNatClampNeg x_0 ≤ n_0; omega) ?_
    exact z_qret (o := some q_1) C0 hr (Or.inr ⟨_, rfl⟩) hlk rfl hK hP2 hD2 hS (0, fun _ => q_1, zu0) ⟨rfl, rfl⟩ [0, 1] rfl rfl (by simp) dJ7_copyOf_59c91_32
  · have e1 : x_0 = nI n_0 := c1
    have e2 : Int32.toNatClampNeg x_0 = n_0 := by rw [e1]; exact nI_clamp (by omega)
    refine lv_aload_n hx hb dJ7_copyOf_59c91_6 rfl (lv_at hl 0 rfl) ?_
    refine va_clone (ad := "[I") (ty := .int) hx hb (by rw [hml]; exact hl.1.symm) hown (hts _ kClL) (hts _ kClS) (hts _ kClN) (hts _ kClI) (hts _ kClV) hN.2.2.2 hK hP hD hS hA 0 0 rfl rfl (z_fI hK) z_fit (Nat.le_of_ble_eq_true rfl) (Nat.le_of_ble_eq_true rfl) (Nat.le_of_ble_eq_true rfl) (by simp) dJ7_copyOf_59c91_7 (fun q_1 H hK1 hP hD hS => ?_)
    have hP : va_P D vwCl [(q_0, .inl (k 0, n_0, .inl f_0)), (q_1, .inl (k 0, n_0, .inl f_0))] H := hP
    have hD : va_D A [(q_0, .inl (k 0, n_0, .inl f_0)), (q_1, .inl (k 0, n_0, .inl f_0))] := hD
    refine z_castI hx hb hown (hts _ kClC) hK hP 1 rfl dJ7_copyOf_59c91_10 ?_
    rw [← e2] at hP hD
    have hP : va_P D vwCl [(q_0, .inl (k 0, Int32.toNatClampNeg x_0, .inl f_0)), (q_1, .inl (k 0, Int32.toNatClampNeg x_0, .inl f_0))] H := hP
    refine W.widen (k := 1) (n := n_0) (Nat.le_of_ble_eq_true rfl) (by simp) ?_
    exact z_qret (o := some q_1) C0 hr (Or.inr ⟨_, rfl⟩) hlk rfl hK hP hD hS (0, fun _ => q_1, zu0) ⟨rfl, rfl⟩ [0, 1] rfl (by simp [e2]) (by simp) dJ7_copyOf_59c91_13
