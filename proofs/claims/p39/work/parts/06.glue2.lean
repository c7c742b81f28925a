/-! entries, returns, pure calls, comparisons of longs -/
def zBody (l : Launch) (y : MethodName) (cc : ByteArray) (n : Nat) (ret : Option FieldType) (rm : Room) (D : va_G) (k : Nat → ClassId) (T : zTy) (av : List Value) (ws : va_W) (own : String) (Qq : (Nat → Prop) → Array Value → State → Outcome → State → Prop) : Prop :=
  ∀ (p : Program) (e : Env) (s : State) (m : MethodId) (args : Array Value) (below : List Frame) (meth : Method) (c : Code) (A : Nat → Prop) (ls : Array Slot), CallFix p m c cc n s args lw_g own → meth.sig.returnType = ret → meth.locks = false → meth.name = y.name → va_P D vwCl ws s.heap → va_D A ws → va_S A s.heap s.heap [] → (∀ q, s.heap.size ≤ q → A q) → va_K D vwCl (TYk k) s → zN s → zEnv D T A s → lv_has ls n (lv_args 0 av) → W p l e rm s m args below meth c s.heap [] 0 0 (MQ below (Qq A) args s rm.cells rm.slots A) (F0 m 0 ls [])
section ZO
variable {l : Launch} {y : MethodName} {cc : ByteArray} {n : Nat} {ret : Option FieldType} {rm : Room} {D : va_G} {k : Nat → ClassId} {T : zTy} {av : List Value} {ws : va_W} {own : String}
theorem z_of {Qq : (Nat → Prop) → Array Value → State → Outcome → State → Prop} (hy : plainName y.cls = true) (ho : y.cls = own) (hle : (lg_sl av).length ≤ n) (body : zBody l y cc n ret rm D k T av ws own Qq) (sz : Nat) : Met l y (Cond.code y cc n ret :: lw_g) rm (va_Pc av (zPre D k T ws sz)) (Qq (va_A ws sz)) rm.cells rm.slots (va_A ws sz) := by
  refine Met.ofW (cc := cc) (maxL := n) (ret := ret) hy rfl ?_
  intro p e s m args below meth c s₁ B hml hv
  obtain ⟨rfl, hsz, hP, hK, hD0, hN, hE⟩ := hv
  have hts0 := atoms_spec (ws := Cond.code y cc n ret :: lw_g) B.pre
  have hown : s.vm.findClass own = some m.cls := by rw [← ho]; exact findClass_of_methodNamed B.named
  subst hsz
  have hl := lv_entry av (n := n) hle
  rw [lg_entry_eq]
  exact body p e s m _ below meth c _ _ ⟨B.exec, B.bytes, hml, hown, fun w h => hts0 w (List.mem_cons_of_mem _ h)⟩ B.returns B.notSynchronized (name_of_methodNamed B.named B.method).1 hP hD0.self va_S.rf (fun q h => Or.inr h) hK hN hE hl
theorem zMi_of {post : Int32 → zS → Prop} {wo : zS → va_W} (hy : plainName y.cls = true) (ho : y.cls = own) (hle : (lg_sl av).length ≤ n) (body : zBody l y cc n ret rm D k T av ws own (fun A => va_Qi post (zB D k A wo) A)) : zMi l y cc n ret rm D k T av ws post wo := fun sz => z_of (Qq := fun A => va_Qi post (zB D k A wo) A) hy ho hle body sz
theorem zMl_of {post : Int64 → zS → Prop} {wo : zS → va_W} (hy : plainName y.cls = true) (ho : y.cls = own) (hle : (lg_sl av).length ≤ n) (body : zBody l y cc n ret rm D k T av ws own (fun A => va_Ql post (zB D k A wo) A)) : zMl l y cc n ret rm D k T av ws post wo := fun sz => z_of (Qq := fun A => va_Ql post (zB D k A wo) A) hy ho hle body sz
theorem zMv_of {post : zS → Prop} {wo : zS → va_W} (hy : plainName y.cls = true) (ho : y.cls = own) (hle : (lg_sl av).length ≤ n) (body : zBody l y cc n ret rm D k T av ws own (fun A => va_Qv post (zB D k A wo) A)) : zMv l y cc n ret rm D k T av ws post wo := fun sz => z_of (Qq := fun A => va_Qv post (zB D k A wo) A) hy ho hle body sz
theorem zMq_of {post : Option Nat → zS → Prop} {wo : zS → va_W} (hy : plainName y.cls = true) (ho : y.cls = own) (hle : (lg_sl av).length ≤ n) (body : zBody l y cc n ret rm D k T av ws own (fun A => va_Qq post (zB D k A wo) A)) : zMq l y cc n ret rm D k T av ws post wo := fun sz => z_of (Qq := fun A => va_Qq post (zB D k A wo) A) hy ho hle body sz
end ZO
section ZR
variable {p : Program} {l : Launch} {e : Env} {R : Room} {s : State} {m : MethodId} {args : Array Value} {below : List Frame} {meth : Method} {c : Code} {H H0 : Heap} {locs : List Loc} {cells slots mc ms : Nat} {Q : State → Prop}
variable {cc bytes : ByteArray} {pc index maxL nL n : Nat} {ls : Array Slot} {rest st0 As : List Value} {D : va_G} {k : Nat → ClassId} {T : zTy} {A : Nat → Prop} {ws wc wr : va_W} {wo : zS → va_W} {y : MethodName} {ret : Option FieldType} {rm : Room} {own C host : String} {b : Addr} {av : List Value}
theorem z_zB (u : zS) (hK : va_K D vwCl (TYk k) s) (hP : va_P D vwCl ws H) (hD : va_D A ws) (is : List Nat) (hn : va_nd is = true) (hi : is.map (fun i => ws[i]?) = (wo u).map some) (t : State) (ht : t.heap = H) (hW : s.WarmedH t.vm) : zB D k A wo u t :=
  ⟨by rw [ht]; exact z_sub hP is hi, va_K.moved hW.alike hK, hD.sub is hn hi⟩
theorem z_iret {post : Int32 → zS → Prop} {v : Int32} {ty : FieldType} (C0 : CallFix p m c cc nL s args lw_g own) (hr : meth.sig.returnType = some ty) (hlk : meth.locks = false) (hn : narrow ty (.int v) = .int v) (hK : va_K D vwCl (TYk k) s) (hP : va_P D vwCl ws H) (hD : va_D A ws) (hS : va_S A s.heap H locs) (u : zS) (hp : post v u) (is : List Nat) (hnd : va_nd is = true) (hi : is.map (fun i => ws[i]?) = (wo u).map some) (hz : (cells.ble mc && slots.ble ms) = true) (hdg : decode cc pc = .ok (.ireturn, 1)) : W p l e R s m args below meth c H locs cells slots (MQ below (va_Qi post (zB D k A wo) A) args s mc ms A) (F0 m pc ls [.int v]) := by
  simp only [Bool.and_eq_true, Nat.ble_eq] at hz
  refine W.widen (k := mc) (n := ms) hz.1 hz.2 ?_
  exact W.zret C0.1 C0.2.1 hr hn (fun t ht hW => ⟨⟨v, u, rfl, hp, z_zB u hK hP hD is hnd hi t ht hW⟩, hS.F ht⟩) hS.2.2 hdg hlk
theorem z_lret {post : Int64 → zS → Prop} {v : Int64} (C0 : CallFix p m c cc nL s args lw_g own) (hr : meth.sig.returnType = some .long) (hlk : meth.locks = false) (hK : va_K D vwCl (TYk k) s) (hP : va_P D vwCl ws H) (hD : va_D A ws) (hS : va_S A s.heap H locs) (u : zS) (hp : post v u) (is : List Nat) (hnd : va_nd is = true) (hi : is.map (fun i => ws[i]?) = (wo u).map some) (hz : (cells.ble mc && slots.ble ms) = true) (hdg : decode cc pc = .ok (.lreturn, 1)) : W p l e R s m args below meth c H locs cells slots (MQ below (va_Ql post (zB D k A wo) A) args s mc ms A) (F0 m pc ls [.long v]) := by
  simp only [Bool.and_eq_true, Nat.ble_eq] at hz
  refine W.widen (k := mc) (n := ms) hz.1 hz.2 ?_
  exact W.lret C0.1 C0.2.1 hr (fun t ht hW => ⟨⟨v, u, rfl, hp, z_zB u hK hP hD is hnd hi t ht hW⟩, hS.F ht⟩) hS.2.2 hdg hlk
theorem z_vret {post : zS → Prop} (C0 : CallFix p m c cc nL s args lw_g own) (hr : meth.sig.returnType = none) (hlk : meth.locks = false) (hK : va_K D vwCl (TYk k) s) (hP : va_P D vwCl ws H) (hD : va_D A ws) (hS : va_S A s.heap H locs) (u : zS) (hp : post u) (is : List Nat) (hnd : va_nd is = true) (hi : is.map (fun i => ws[i]?) = (wo u).map some) (hz : (cells.ble mc && slots.ble ms) = true) (hdg : decode cc pc = .ok (.return_, 1)) : W p l e R s m args below meth c H locs cells slots (MQ below (va_Qv post (zB D k A wo) A) args s mc ms A) (F0 m pc ls []) := by
  simp only [Bool.and_eq_true, Nat.ble_eq] at hz
  refine W.widen (k := mc) (n := ms) hz.1 hz.2 ?_
  exact W.vret C0.1 C0.2.1 hr (fun t ht hW => ⟨⟨u, rfl, hp, z_zB u hK hP hD is hnd hi t ht hW⟩, hS.F ht⟩) hS.2.2 hdg hlk
theorem z_qret {post : Option Nat → zS → Prop} {v : Value} {o : Option Nat} {rt : FieldType} (C0 : CallFix p m c cc nL s args lw_g own) (hr : meth.sig.returnType = some rt) (hrt : (∃ n, rt = .object n) ∨ ∃ t, rt = .array t) (hlk : meth.locks = false) (hv : v = va_rf o) (hK : va_K D vwCl (TYk k) s) (hP : va_P D vwCl ws H) (hD : va_D A ws) (hS : va_S A s.heap H locs) (u : zS) (hp : post o u) (is : List Nat) (hnd : va_nd is = true) (hi : is.map (fun i => ws[i]?) = (wo u).map some) (hz : (cells.ble mc && slots.ble ms) = true) (hdg : decode cc pc = .ok (.areturn, 1)) : W p l e R s m args below meth c H locs cells slots (MQ below (va_Qq post (zB D k A wo) A) args s mc ms A) (F0 m pc ls [v]) := by
  simp only [Bool.and_eq_true, Nat.ble_eq] at hz
  refine W.widen (k := mc) (n := ms) hz.1 hz.2 ?_
  subst hv
  exact W.aret C0.1 C0.2.1 hr hrt (va_rf_or o) (fun t ht hW => ⟨⟨o, u, rfl, hp, z_zB u hK hP hD is hnd hi t ht hW⟩, hS.F ht⟩) hS.2.2 hdg hlk
theorem lv_torf {o : Option Nat} {v : Value} (h : va_rf o = v) (kk : W p l e R s m args below meth c H locs cells slots Q (F0 m pc ls (v :: rest))) : W p l e R s m args below meth c H locs cells slots Q (F0 m pc ls (va_rf o :: rest)) := h ▸ kk
/-- behind a call that has no cells: the world stays as it is -/
theorem z_keep (hP : va_P D vwCl ws H) {H1 : Heap} (hk : ∀ q : Nat, q < H.size → ¬ va_A [] H.size q → H1[q]? = H[q]?) : va_P D vwCl ws H1 :=
  hP.kept (fun j q hq => hk q.1 (hP j q hq).lt (fun h => by
    rcases h with ⟨a, b, h⟩ | h
    · simp at h
    · exact absurd (hP j q hq).lt (Nat.not_lt.mpr h)))
theorem z_f0 (hS : va_S A H0 H locs) (hA : ∀ q, H0.size ≤ q → A q) : ∀ q, va_A [] H.size q → A q := by
  intro q h
  rcases h with ⟨a, b, h⟩ | h
  · simp at h
  · exact hA q (Nat.le_trans hS.1 h)
theorem z_bi0 {post : Int32 → zS → Prop} {a : Array Value} (hr : va_Run p l e R s m args below meth c H locs cells slots rm.cells rm.slots (F0 m pc ls st0) rest (va_Qi post (zB D k (va_A [] H.size) wo) (va_A [] H.size) a) (va_A [] H.size)) (hP : va_P D vwCl ws H) (hS : va_S A H0 H locs) (hA : ∀ q, H0.size ≤ q → A q)
    (kk : ∀ (r : Int32) (u : zS) (H1 : Heap) (locs1 : List Loc), post r u → va_P D vwCl ws H1 → va_S A H0 H1 locs1 → W p l e R s m args below meth c H1 locs1 (cells + rm.cells) (slots + rm.slots) Q (F0 m (pc + 3) ls (.int r :: rest))) : W p l e R s m args below meth c H locs cells slots Q (F0 m pc ls st0) :=
  va_calli hr hS (fun q _ h => z_f0 hS hA q h) (z_f0 hS hA) (fun r u t H1 locs1 ht hvm hw hB hz1 hk1 hS1 => kk r u H1 locs1 hw (z_keep hP hk1) hS1)
theorem z_bl0 {post : Int64 → zS → Prop} {a : Array Value} (hr : va_Run p l e R s m args below meth c H locs cells slots rm.cells rm.slots (F0 m pc ls st0) rest (va_Ql post (zB D k (va_A [] H.size) wo) (va_A [] H.size) a) (va_A [] H.size)) (hP : va_P D vwCl ws H) (hS : va_S A H0 H locs) (hA : ∀ q, H0.size ≤ q → A q)
    (kk : ∀ (r : Int64) (u : zS) (H1 : Heap) (locs1 : List Loc), post r u → va_P D vwCl ws H1 → va_S A H0 H1 locs1 → W p l e R s m args below meth c H1 locs1 (cells + rm.cells) (slots + rm.slots) Q (F0 m (pc + 3) ls (.long r :: rest))) : W p l e R s m args below meth c H locs cells slots Q (F0 m pc ls st0) :=
  va_calll hr hS (fun q _ h => z_f0 hS hA q h) (z_f0 hS hA) (fun r u t H1 locs1 ht hvm hw hB hz1 hk1 hS1 => kk r u H1 locs1 hw (z_keep hP hk1) hS1)
theorem z_p0 (hT : zEnv D T A s) (hS : va_S A s.heap H locs) (hA : ∀ q, s.heap.size ≤ q → A q) (hK : va_K D vwCl (TYk k) s) (hN : zN s) : PreS s H (va_Pc av (zPre D k T [] H.size)) av :=
  ⟨z_blind, z_pre (A := fun _ => True) hK hN (fun _ hU hW => hT.to hS (z_f0 hS hA) hU hW) (fun j q h => by simp at h) ⟨fun i j x y h => by simp at h, fun j q h => by simp at h⟩⟩
/-- the script's ints by their places -/
theorem z_sld (hexec : p.tables.exec = Jvm.exec) (hb : c.code = cc) {b L : Nat} {xs : Nat → Int32} (hX : va_X b L xs s H0) (hbl : b < H0.size) (hbA : ¬ A b) (hS : va_S A H0 H locs) {i : Int32} (j : Nat) (hj : i.toNatClampNeg = j) (hin : vp_in i L) (hdg : decode cc pc = .ok (.iaload, 1))
    (kk : W p l e R s m args below meth c H locs cells slots Q (F0 m (pc + 1) ls (.int (xs j) :: rest))) : W p l e R s m args below meth c H locs cells slots Q (F0 m pc ls (.int i :: .ref b :: rest)) := by
  subst hj
  exact va_sld hexec hb hX hbl hbA hS hin hdg kk
end ZR
theorem zi_add {x y : Int32} (h : -2147483648 ≤ x.toInt + y.toInt ∧ x.toInt + y.toInt < 2147483648) : (x + y).toInt = x.toInt + y.toInt := by
  rw [Int32.toInt_add]
  exact Int.bmod_eq_of_le (by omega) (by omega)
theorem zi_sub {x y : Int32} (h : -2147483648 ≤ x.toInt - y.toInt ∧ x.toInt - y.toInt < 2147483648) : (x - y).toInt = x.toInt - y.toInt := by
  rw [Int32.toInt_sub]
  exact Int.bmod_eq_of_le (by omega) (by omega)
theorem zi_mul {x y : Int32} (h : -2147483648 ≤ x.toInt * y.toInt ∧ x.toInt * y.toInt < 2147483648) : (x * y).toInt = x.toInt * y.toInt := by
  rw [Int32.toInt_mul]
  exact Int.bmod_eq_of_le (by omega) (by omega)
theorem lg_clt (x y : Int64) : lg_cmp x y < 0 ↔ x < y := by
  unfold lg_cmp
  rcases Int.lt_trichotomy x.toInt y.toInt with h | h | h
  · have h1 : x < y := Int64.lt_iff_toInt_lt.mpr h
    have h2 : ¬ y < x := fun q => by have := Int64.lt_iff_toInt_lt.mp q; omega
    have h3 : ¬ x = y := fun q => by subst q; omega
    simp [h1, h2, h3]
  · have h0 : x = y := Int64.toInt_inj.mp h
    subst h0
    simp [Int64.lt_iff_toInt_lt]
  · have h1 : y < x := Int64.lt_iff_toInt_lt.mpr h
    have h2 : ¬ x < y := fun q => by have := Int64.lt_iff_toInt_lt.mp q; omega
    simp [h1, h2]
theorem lg_cgt (x y : Int64) : 0 < lg_cmp x y ↔ y < x := by
  unfold lg_cmp
  rcases Int.lt_trichotomy x.toInt y.toInt with h | h | h
  · have h1 : x < y := Int64.lt_iff_toInt_lt.mpr h
    have h2 : ¬ y < x := fun q => by have := Int64.lt_iff_toInt_lt.mp q; omega
    have h3 : ¬ x = y := fun q => by subst q; omega
    simp [h2, h3]
  · have h0 : x = y := Int64.toInt_inj.mp h
    subst h0
    simp [Int64.lt_iff_toInt_lt]
  · have h1 : y < x := Int64.lt_iff_toInt_lt.mpr h
    simp [h1]
theorem lg_ceq (x y : Int64) : lg_cmp x y = 0 ↔ x = y := by
  unfold lg_cmp
  rcases Int.lt_trichotomy x.toInt y.toInt with h | h | h
  · have h2 : ¬ y < x := fun q => by have := Int64.lt_iff_toInt_lt.mp q; omega
    have h3 : ¬ x = y := fun q => by subst q; omega
    simp [h2, h3]
  · have h0 : x = y := Int64.toInt_inj.mp h
    subst h0
    simp [Int64.lt_iff_toInt_lt]
  · have h1 : y < x := Int64.lt_iff_toInt_lt.mpr h
    have h3 : ¬ x = y := fun q => by subst q; omega
    simp [h1, h3]
theorem lg_cge (x y : Int64) : 0 ≤ lg_cmp x y ↔ ¬ x < y := by rw [← lg_clt]; exact Int32.not_lt.symm
theorem lg_cle (x y : Int64) : lg_cmp x y ≤ 0 ↔ ¬ y < x := by rw [← lg_cgt]; exact Int32.not_lt.symm
theorem z_cellEq {D : va_G} {cl : List vw_C} {ws : va_W} {H : Heap} {q0 a : Nat} {cA : ClassId} {N : Nat} {f g : Nat → Int32} (hP : va_P D cl ws H) (he : ws[q0]? = some (a, .inl (cA, N, .inl f))) (hfg : ∀ j, j < N → f j = g j) : va_P D cl (ws.set q0 (a, .inl (cA, N, .inl g))) H := by
  intro j q hq
  by_cases hj : j = q0
  · subst hj
    have hl : j < ws.length := (List.getElem?_eq_some_iff.mp he).1
    rw [List.getElem?_set_self hl] at hq
    cases hq
    have h1 := hP j _ he
    show H[a]? = some (vp_cell _ _)
    have h2 : H[a]? = some (vp_cell cA (N, .inl f)) := h1
    rw [h2, vp_cell_i, vp_cell_i]
    congr 1
    unfold arrV
    congr 1
    congr 1
    funext i
    show Value.int (f i.val) = Value.int (g i.val)
    rw [hfg i.val i.isLt]
  · rw [List.getElem?_set_ne (fun h => hj h.symm)] at hq
    exact hP j q hq
