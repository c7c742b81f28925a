/-! the law's own world: a tail that no call sees; the texts' pools lie in it -/
def zStat (tb : Nat → Nat) (A : Nat → Prop) (U : State) : Prop := ∀ i : Nat, i < 3 → va_Z "HalfDays" (zTab i).1 "[J" (.ref (tb i)) A U U.heap ∧ ∃ f : Nat → Int64, va_T .long (tb i) (zTab i).2 (fun j => .long (f j)) A U U.heap
theorem z_apC {w0 Z wc : va_W} {isC : List Nat} (h : isC.map (fun i => w0[i]?) = wc.map some) : isC.map (fun i => (w0 ++ Z)[i]?) = wc.map some := by
  rw [← h]
  refine List.map_congr_left (fun i hi => ?_)
  have h1 : w0[i]? ∈ wc.map some := by rw [← h]; exact List.mem_map.mpr ⟨i, hi, rfl⟩
  obtain ⟨q, -, e⟩ := List.mem_map.mp h1
  exact List.getElem?_append_left (List.getElem?_eq_some_iff.mp e.symm).1
theorem z_apL {w0 Z : va_W} {n : Nat} {q : Nat × va_E} (h : w0[n]? = some q) : (w0 ++ Z)[n]? = some q := by
  rw [List.getElem?_append_left (List.getElem?_eq_some_iff.mp h).1]
  exact h
theorem z_apR {w0 Z : va_W} {n : Nat} {q : Nat × va_E} (h : Z[n]? = some q) : (w0 ++ Z)[w0.length + n]? = some q := by
  rw [List.getElem?_append_right (Nat.le_add_right _ _), Nat.add_sub_cancel_left]
  exact h
theorem z_asP {D : va_G} {cl : List vw_C} {a b c : va_W} {H : Heap} (h : va_P D cl (a ++ (b ++ c)) H) : va_P D cl ((a ++ b) ++ c) H := by rw [List.append_assoc]; exact h
theorem z_asD {A : Nat → Prop} {a b c : va_W} (h : va_D A (a ++ (b ++ c))) : va_D A ((a ++ b) ++ c) := by rw [List.append_assoc]; exact h
theorem z_saP {D : va_G} {cl : List vw_C} {a b c : va_W} {H : Heap} (h : va_P D cl ((a ++ b) ++ c) H) : va_P D cl (a ++ (b ++ c)) H := by rw [← List.append_assoc]; exact h
theorem z_saD {A : Nat → Prop} {a b c : va_W} (h : va_D A ((a ++ b) ++ c)) : va_D A (a ++ (b ++ c)) := by rw [← List.append_assoc]; exact h
theorem z_subL {D : va_G} {cl : List vw_C} {w0 Z wc : va_W} {H : Heap} (h : va_P D cl (w0 ++ Z) H) (is : List Nat) (hs : is.map (fun i => w0[i]?) = wc.map some) : va_P D cl wc H := fun j q hq => h.part is hs j q (z_apL hq)
theorem z_Dc {A : Nat → Prop} {ws ws' : va_W} (h : va_D A ws) (e : ws'.map Prod.fst = ws.map Prod.fst) : va_D A ws' := by
  have key : ∀ (i : Nat) (p : Nat × va_E), ws'[i]? = some p → ∃ p0, ws[i]? = some p0 ∧ p0.1 = p.1 := by
    intro i p hp
    have h1 : (ws'.map Prod.fst)[i]? = some p.1 := by rw [List.getElem?_map, hp]; rfl
    rw [e, List.getElem?_map] at h1
    cases hw : ws[i]? with
    | none => rw [hw] at h1; cases h1
    | some p0 => rw [hw] at h1; exact ⟨p0, rfl, Option.some.inj h1⟩
  refine ⟨fun i j p q hp hq hpq => ?_, fun n q hq => ?_⟩
  · obtain ⟨p0, h1, h2⟩ := key i p hp
    obtain ⟨q0, h3, h4⟩ := key j q hq
    exact h.1 i j p0 q0 h1 h3 (by rw [h2, h4]; exact hpq)
  · obtain ⟨q0, h1, h2⟩ := key n q hq
    rw [← h2]
    exact h.2 n q0 h1
theorem z_addP {D : va_G} {cl : List vw_C} {w0 Z wc pw : va_W} {H : Heap} (hP : va_P D cl (w0 ++ Z) H) (is : List Nat) (hs : is.map (fun i => w0[i]?) = wc.map some) (hpw : va_P D cl pw H) : va_P D cl (wc ++ (Z ++ pw)) H := by
  have h := va_P.app (hP.part is hs) hpw
  rw [List.append_assoc] at h
  exact h
theorem z_addD {A : Nat → Prop} {w0 Z wc wx pw : va_W} (hD : va_D A (w0 ++ Z)) (is : List Nat) (hn : va_nd is = true) (hs : is.map (fun i => w0[i]?) = (wc ++ wx).map some) (hm : pw.map (fun q => some q.1) = wx.map (fun q => some q.1)) : va_D A (wc ++ (Z ++ pw)) := by
  have h1 : va_D A ((wc ++ wx) ++ Z) := hD.part is hn hs
  have h2 : va_D A ((wc ++ Z) ++ wx) := h1.swap
  rw [List.append_assoc] at h2
  refine z_Dc h2 ?_
  have e : pw.map Prod.fst = wx.map Prod.fst := by
    have h3 := congrArg (List.map (fun o : Option Nat => o.getD 0)) hm
    rw [List.map_map, List.map_map] at h3
    exact h3
  rw [List.map_append, List.map_append, List.map_append, List.map_append, e]
theorem z_rmL {R : Room} {cells slots a b : Nat} (h1 : cells + a ≤ 329359) (h2 : slots + b ≤ 8114172) (hR : R.cells = 329359 ∧ R.slots = 8114172) : ((cells + a).ble R.cells && (slots + b).ble R.slots) = true := by
  rw [hR.1, hR.2]
  simp only [Bool.and_eq_true, Nat.ble_eq]
  exact ⟨h1, h2⟩
theorem z_vinL {i : Int32} {L : Nat} (h : 0 ≤ Int32.toInt i ∧ Int32.toInt i < (L : Int)) : vp_in i L := by
  have h1 := z_cl h.1
  unfold vp_in
  intro q
  rcases q with q | q
  · have := Int32.lt_iff_toInt_lt.mp q; simp at this; omega
  · omega
theorem zRw_0 : zRw (fun _ => 0) := by
  refine ⟨fun j hj => ?_, fun t ht => ?_⟩
  · show zOk j 0
    exact ⟨fun _ => by decide, fun _ => by decide, fun _ => by decide, fun _ => by decide, fun _ => by decide, fun _ => by decide, fun _ => by decide, fun _ => by decide, fun _ => by decide, fun _ => by decide, fun _ => by decide, fun _ => by decide, fun _ => by decide, fun _ => by decide, fun _ => by decide, fun _ => by decide⟩
  · have h : (t : Int) < 0 := ht
    omega
theorem zRi_0 : zRi (fun _ => 0) := ⟨zRw_0, zRw_0⟩
section ZL
variable {p : Program} {l : Launch} {e : Env} {R : Room} {s : State} {m : MethodId} {args : Array Value} {below : List Frame} {meth : Method} {c : Code} {H H0 : Heap} {locs : List Loc} {cells slots : Nat} {Q : State → Prop}
variable {cc bytes : ByteArray} {pc index maxL nL n : Nat} {ls : Array Slot} {rest st0 As : List Value} {D : va_G} {k : Nat → ClassId} {T : zTy} {A : Nat → Prop} {w0 Z wc wr : va_W} {wo : zS → va_W} {rm : Room} {C : String} {b : Addr} {av : List Value} {tb : Nat → Nat}
theorem z_enP (hTb : T.2 = tb) (hTZ : ∀ pw : va_W, T.1 pw → ∀ q : Nat × va_E, q ∈ pw → q ∈ Z) (hZ : zStat tb A s) (hP : va_P D vwCl (w0 ++ Z) H) (hD : va_D A (w0 ++ Z)) (hS : va_S A s.heap H locs) (hA : ∀ q, s.heap.size ≤ q → A q) (isC : List Nat) (hC : isC.map (fun i => w0[i]?) = wc.map some) : ∀ U : State, U.heap = H → s.WarmedH U.vm → zEnv D T (va_A wc H.size) U := by
  intro U hU hW
  have hF := va_free (wc := wc) hD hS hA isC (z_apC hC)
  refine ⟨fun pw hp => ?_, fun i hi => ?_⟩
  · have hm := hTZ pw hp
    have key : ∀ (j : Nat) (q : Nat × va_E), pw[j]? = some q → ∃ n : Nat, Z[n]? = some q := fun j q hq => List.getElem?_of_mem (hm q (List.mem_of_getElem? hq))
    rw [hU]
    refine ⟨fun j q hq => ?_, fun j q hq hB => ?_⟩
    · obtain ⟨n, hn⟩ := key j q hq
      exact hP _ q (z_apR hn)
    · obtain ⟨n, hn⟩ := key j q hq
      rcases hB with ⟨k2, e2, h⟩ | h
      · obtain ⟨i, h1, h2⟩ := va_in_of isC hC h
        have h3 : i < w0.length := (List.getElem?_eq_some_iff.mp h2).1
        have h5 := hD.1 _ _ _ _ (z_apR (w0 := w0) hn) (z_apL (Z := Z) h2) rfl
        omega
      · have h4 := (hP _ q (z_apR hn)).lt
        omega
  · obtain ⟨h1, f, h2⟩ := hZ i hi
    rw [hU, hTb]
    exact ⟨((h1.kept (fun a ha hn => hS.2.1 a ha hn)).moved hW.alike).narrow hF, f, ((h2.kept (fun a ha hn => hS.2.1 a ha hn)).moved hW.alike).narrow hF⟩
theorem z_pVP {ci q0 : Nat} {r : vw_C} {fs : List Value} (hTb : T.2 = tb) (hTZ : ∀ pw : va_W, T.1 pw → ∀ q : Nat × va_E, q ∈ pw → q ∈ Z) (hZ : zStat tb A s) (hS : va_S A s.heap H locs) (hA : ∀ q, s.heap.size ≤ q → A q) (hK : va_K D vwCl (TYk k) s) (hN : zN s) (hP : va_P D vwCl (w0 ++ Z) H) (hD : va_D A (w0 ++ Z)) (isC : List Nat) (hn : va_nd isC = true) (hC : isC.map (fun i => w0[i]?) = wc.map some) (he : w0[q0]? = some (b, .inr (ci, fs))) (hc : vwCl[ci]? = some r) (hr : r.1 = C) : PreV s H C b (va_Pc (.ref b :: As) (zPre D k T wc H.size)) As :=
  z_pVE (q0 := q0) hK hN hP hD isC hn (z_apC hC) (z_apL he) hc hr (z_enP hTb hTZ hZ hP hD hS hA isC hC)
theorem z_biP {post : Int32 → zS → Prop} {a : Array Value} (hr : va_Run p l e R s m args below meth c H locs cells slots rm.cells rm.slots (F0 m pc ls st0) rest (va_Qi post (zB D k (va_A wc H.size) wo) (va_A wc H.size) a) (va_A wc H.size)) (hP : va_P D vwCl (w0 ++ Z) H) (hD : va_D A (w0 ++ Z)) (hS : va_S A H0 H locs) (hA : ∀ q, H0.size ≤ q → A q) (isC isR : List Nat) (hC : isC.map (fun i => w0[i]?) = wc.map some) (hR : isR.map (fun i => w0[i]?) = wr.map some) (hn : va_nd isR = true) (hdis : isR.all (fun i => !isC.contains i) = true)
    (kk : ∀ (r : Int32) (u : zS) (H1 : Heap) (locs1 : List Loc), post r u → va_P D vwCl ((wr ++ wo u) ++ Z) H1 → va_D A ((wr ++ wo u) ++ Z) → va_S A H0 H1 locs1 → W p l e R s m args below meth c H1 locs1 (cells + rm.cells) (slots + rm.slots) Q (F0 m (pc + 3) ls (.int r :: rest))) : W p l e R s m args below meth c H locs cells slots Q (F0 m pc ls st0) := by
  have hF := va_free (wc := wc) hD hS hA isC (z_apC hC)
  refine va_calli hr hS (fun q _ h => hF q h) hF (fun r u t H1 locs1 ht hvm hw hB hz1 hk1 hS1 => ?_)
  obtain ⟨hP1, hK1, hD1⟩ := hB
  rw [ht] at hP1
  obtain ⟨hP2, hD2⟩ := va_joinQ (wr := wr) hP hD isC isR hC hR hn (fun i hi => by have := List.all_eq_true.mp hdis i hi; simpa using this) hk1 hF hP1 hD1
  exact kk r u H1 locs1 hw hP2 hD2 hS1
end ZL
