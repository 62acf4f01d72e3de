theorem cr_ifn {α : Type} {c : Prop} [Decidable c] {x : Option α} {o : α} (h : (if c then x else none) = some o) : c ∧ x = some o := by
  by_cases hc : c
  · rw [if_pos hc] at h; exact ⟨hc, h⟩
  · rw [if_neg hc] at h; cases h
theorem cr_ifz {α : Type} {c : Prop} [Decidable c] {x : Option α} {o : α} (h : (if c then none else x) = some o) : ¬ c ∧ x = some o := by
  by_cases hc : c
  · rw [if_pos hc] at h; cases h
  · rw [if_neg hc] at h; exact ⟨hc, h⟩
theorem cr_bind {α β : Type} {x : Option α} {f : α → Option β} {o : β} (h : x.bind f = some o) : ∃ q, x = some q ∧ f q = some o := Option.bind_eq_some_iff.mp h
theorem cr_ne {x k : Int32} {n : Int} (hk : k.toInt = n) (h : ¬ x = k) : x.toInt ≠ n := fun e => h (Int32.toInt_inj.mp (e.trans hk.symm))
def cr_bool (v : Int32) : Bool := decide (v = 0 ∨ v = 1)
theorem cr_boolN {v : Int32} (h : cr_bool v = true) : narrow .boolean (.int v) = .int v := by
  rcases of_decide_eq_true h with h | h <;> subst h <;> rfl
def cr_char (v : Int32) : Bool := decide (narrow .char (.int v) = .int v)
theorem cr_charN {v : Int32} (h : cr_char v = true) : narrow .char (.int v) = .int v := of_decide_eq_true h
def cr_num (r : UInt32) : Bool := decide (r &&& 0x7fffffff ≤ 0x7f800000)
theorem cr_numN {r : UInt32} (h : cr_num r = true) : vf_n32 r := of_decide_eq_true (p := r &&& 0x7fffffff ≤ 0x7f800000) h
theorem cr_all {ws : va_W} {isR : List Nat} (h : isR.all (fun i => decide (i < ws.length)) = true) : isR.map (fun i => ws[i]?) = (isR.filterMap (fun i => ws[i]?)).map some := by
  induction isR with
  | nil => rfl
  | cons i l ih =>
    simp only [List.all_cons, Bool.and_eq_true, decide_eq_true_eq] at h
    obtain ⟨x, hx⟩ : ∃ x, ws[i]? = some x := ⟨ws[i], by simp [h.1]⟩
    rw [List.map_cons, ih h.2, List.filterMap_cons, hx, List.map_cons]
section CRQ
variable {p : Program} {l : Launch} {e : Env} {R : Room} {s : State} {m : MethodId} {args : Array Value} {below : List Frame} {meth : Method} {c : Code} {H : Heap} {locs : List Loc} {cells slots : Nat} {Q : State → Prop}
variable {own : String} {Ts : List Cond} {cc : ByteArray} {nL : Nat} {ret : Option FieldType} {D : va_G} {ct : Nat → ClassId} {A : Nat → Prop} {ws : va_W} {pc : Nat} {ls : Array Slot} {rest st : List Value} {b : Nat}
variable {y : MethodName} {bytes : ByteArray} {maxL n index : Nat} {rt : Option FieldType} {wy : List Cond} {rm : Room} {Cn : String} {As : List Value} {wc : va_W} {ci : Nat} {fs : List Value} {T : u_T} {N : Nat}
theorem cr_vRq {q : Int32} (C : cr_Cx p s m meth c args own Ts cc nL ret D ct) (hP : va_P D vwCl ws H) (hS : va_S A s.heap H locs) (hM : Met l y wy rm (cr_pR D ct wc (.ref b :: As)) (cr_QR (fun r => r = q)) 0 0 cr_no) (cw : CallW R s args own Cn index y bytes maxL rt wy rm 0 0 n) (is : List Nat) (hs : is.filterMap (fun i => ws[i]?) = wc) (q0 : Nat) (he : ws[q0]? = some (b, .inr (ci, fs))) (hc : vwCl[ci]? = some (Cn, T, N))
    (hn : As.length = n) (hls : ls.size = nL) (hst : st = As.reverse ++ .ref b :: rest) (hr : (rest.map fun v => v.category).sum ≤ 8) (hdg : decode cc pc = .ok (.invokevirtual index, 3)) (hf : cells ≤ R.cells ∧ slots ≤ R.slots)
    (kk : ∀ (H1 : Heap) (locs1 : List Loc), va_P D vwCl ws H1 → va_S A s.heap H1 locs1 → W p l e R s m args below meth c H1 locs1 cells slots Q (F0 m (pc + 3) ls (.int q :: rest))) : W p l e R s m args below meth c H locs cells slots Q (F0 m pc ls st) :=
  cr_vR C hP hS hM cw is hs q0 he hc hn hls hst hr hdg hf (fun r H1 locs1 h1 h2 h3 => by subst h1; exact kk H1 locs1 h2 h3)
theorem cr_vRwq {q : Int32} (C : cr_Cx p s m meth c args own Ts cc nL ret D ct) (hW : cr_wd D A s ws H locs) (hM : Met l y wy rm (cr_pR D ct wc (.ref b :: As)) (cr_QR (fun r => r = q)) 0 0 cr_no) (cw : CallW R s args own Cn index y bytes maxL rt wy rm 0 0 n) (is : List Nat) (hs : is.filterMap (fun i => ws[i]?) = wc) (q0 : Nat) (he : ws[q0]? = some (b, .inr (ci, fs))) (hc : vwCl[ci]? = some (Cn, T, N))
    (hn : As.length = n) (hls : ls.size = nL) (hst : st = As.reverse ++ .ref b :: rest) (hr : (rest.map fun v => v.category).sum ≤ 8) (hdg : decode cc pc = .ok (.invokevirtual index, 3)) (hf : cells ≤ R.cells ∧ slots ≤ R.slots)
    (kk : ∀ (H1 : Heap) (locs1 : List Loc), cr_wd D A s ws H1 locs1 → W p l e R s m args below meth c H1 locs1 cells slots Q (F0 m (pc + 3) ls (.int q :: rest))) : W p l e R s m args below meth c H locs cells slots Q (F0 m pc ls st) :=
  cr_vRw C hW hM cw is hs q0 he hc hn hls hst hr hdg hf (fun r H1 locs1 h1 h2 => by subst h1; exact kk H1 locs1 h2)
theorem cr_sRq {q : Int32} (C : cr_Cx p s m meth c args own Ts cc nL ret D ct) (hP : va_P D vwCl ws H) (hS : va_S A s.heap H locs) (hM : Met l y wy rm (cr_pR D ct [] As) (cr_QR (fun r => r = q)) 0 0 cr_no) (cw : CallB R s args own index y bytes maxL rt wy rm 0 0 n ∧ (Cond.static y).before args s = true)
    (hn : As.length = n) (hls : ls.size = nL) (hst : st = As.reverse ++ rest) (hr : (rest.map fun v => v.category).sum ≤ 8) (hdg : decode cc pc = .ok (.invokestatic index, 3)) (hf : cells ≤ R.cells ∧ slots ≤ R.slots)
    (kk : ∀ (H1 : Heap) (locs1 : List Loc), va_P D vwCl ws H1 → va_S A s.heap H1 locs1 → W p l e R s m args below meth c H1 locs1 cells slots Q (F0 m (pc + 3) ls (.int q :: rest))) : W p l e R s m args below meth c H locs cells slots Q (F0 m pc ls st) :=
  cr_sR C hP hS hM cw hn hls hst hr hdg hf (fun r H1 locs1 h1 h2 h3 => by subst h1; exact kk H1 locs1 h2 h3)
theorem cr_sRwq {q : Int32} (C : cr_Cx p s m meth c args own Ts cc nL ret D ct) (hW : cr_wd D A s ws H locs) (hM : Met l y wy rm (cr_pR D ct [] As) (cr_QR (fun r => r = q)) 0 0 cr_no) (cw : CallB R s args own index y bytes maxL rt wy rm 0 0 n ∧ (Cond.static y).before args s = true)
    (hn : As.length = n) (hls : ls.size = nL) (hst : st = As.reverse ++ rest) (hr : (rest.map fun v => v.category).sum ≤ 8) (hdg : decode cc pc = .ok (.invokestatic index, 3)) (hf : cells ≤ R.cells ∧ slots ≤ R.slots)
    (kk : ∀ (H1 : Heap) (locs1 : List Loc), cr_wd D A s ws H1 locs1 → W p l e R s m args below meth c H1 locs1 cells slots Q (F0 m (pc + 3) ls (.int q :: rest))) : W p l e R s m args below meth c H locs cells slots Q (F0 m pc ls st) :=
  cr_sRw C hW hM cw hn hls hst hr hdg hf (fun r H1 locs1 h1 h2 => by subst h1; exact kk H1 locs1 h2)
theorem cr_nRq {q : Int32} {host : String} (C : cr_Cx p s m meth c args own Ts cc nL ret D ct) (hP : va_P D vwCl ws H) (hS : va_S A s.heap H locs) (hM : Met l y wy rm (cr_pR D ct [] As) (cr_QR (fun r => r = q)) 0 0 cr_no) (cw : va_CN R s args own index y host bytes maxL rt wy rm 0 0 n ∧ (Cond.static y).before args s = true ∧ True)
    (hn : As.length = n) (hls : ls.size = nL) (hst : st = As.reverse ++ rest) (hr : (rest.map fun v => v.category).sum ≤ 8) (hdg : decode cc pc = .ok (.invokestatic index, 3)) (hf : cells ≤ R.cells ∧ slots ≤ R.slots)
    (kk : ∀ (H1 : Heap) (locs1 : List Loc), va_P D vwCl ws H1 → va_S A s.heap H1 locs1 → W p l e R s m args below meth c H1 locs1 cells slots Q (F0 m (pc + 3) ls (.int q :: rest))) : W p l e R s m args below meth c H locs cells slots Q (F0 m pc ls st) :=
  cr_nR C hP hS hM cw hn hls hst hr hdg hf (fun r H1 locs1 h1 h2 h3 => by subst h1; exact kk H1 locs1 h2 h3)
theorem cr_nRwq {q : Int32} {host : String} (C : cr_Cx p s m meth c args own Ts cc nL ret D ct) (hW : cr_wd D A s ws H locs) (hM : Met l y wy rm (cr_pR D ct [] As) (cr_QR (fun r => r = q)) 0 0 cr_no) (cw : va_CN R s args own index y host bytes maxL rt wy rm 0 0 n ∧ (Cond.static y).before args s = true ∧ True)
    (hn : As.length = n) (hls : ls.size = nL) (hst : st = As.reverse ++ rest) (hr : (rest.map fun v => v.category).sum ≤ 8) (hdg : decode cc pc = .ok (.invokestatic index, 3)) (hf : cells ≤ R.cells ∧ slots ≤ R.slots)
    (kk : ∀ (H1 : Heap) (locs1 : List Loc), cr_wd D A s ws H1 locs1 → W p l e R s m args below meth c H1 locs1 cells slots Q (F0 m (pc + 3) ls (.int q :: rest))) : W p l e R s m args below meth c H locs cells slots Q (F0 m pc ls st) :=
  cr_nRw C hW hM cw hn hls hst hr hdg hf (fun r H1 locs1 h1 h2 => by subst h1; exact kk H1 locs1 h2)
theorem cr_vWq {S : Type} {q : Int32 × S} {w1 : S → va_W} (C : cr_Cx p s m meth c args own Ts cc nL ret D ct) (hW : cr_wd D A s ws H locs) (hM : Met l y wy rm (cr_pW D ct wc H.size (.ref b :: As)) (cr_QW D wc H.size (fun r u => (r, u) = q) w1) 0 0 (va_A wc H.size)) (cw : CallW R s args own Cn index y bytes maxL rt wy rm 0 0 n) (isC isR pm : List Nat) (w2 : va_W)
    (hC : isC.map (fun i => ws[i]?) = wc.map some) (hR : isR.all (fun i => decide (i < ws.length)) = true) (hpm : pm.map (fun i => (isR.filterMap (fun i => ws[i]?) ++ w1 q.2)[i]?) = w2.map some) (hnd : va_nd isC = true ∧ va_nd isR = true ∧ va_nd pm = true ∧ ∀ i ∈ isR, i ∉ isC) (q0 : Nat) (he : ws[q0]? = some (b, .inr (ci, fs))) (hc : vwCl[ci]? = some (Cn, T, N))
    (hn : As.length = n) (hls : ls.size = nL) (hst : st = As.reverse ++ .ref b :: rest) (hr : (rest.map fun v => v.category).sum ≤ 8) (hdg : decode cc pc = .ok (.invokevirtual index, 3)) (hf : cells ≤ R.cells ∧ slots ≤ R.slots)
    (kk : ∀ (H1 : Heap) (locs1 : List Loc), cr_wd D A s w2 H1 locs1 → W p l e R s m args below meth c H1 locs1 cells slots Q (F0 m (pc + 3) ls (.int q.1 :: rest))) : W p l e R s m args below meth c H locs cells slots Q (F0 m pc ls st) := by
  obtain ⟨hx, hb, hml, hown, hts, -, -, hK, hN⟩ := C
  have hF : ∀ q, va_A wc H.size q → A q := va_free hW.2.1 hW.2.2.1 hW.2.2.2 isC hC
  have hD0 : va_D (fun _ => True) wc := (hW.2.1.sub isC hnd.1 hC).weaken (fun _ _ _ _ => trivial)
  have hP0 : va_P D vwCl wc H := by
    intro k q hq
    have h1 : (isC.map (fun i => ws[i]?))[k]? = some (some q) := by rw [hC, List.getElem?_map, hq]; rfl
    rw [List.getElem?_map] at h1
    cases hi : isC[k]? with
    | none => rw [hi] at h1; cases h1
    | some i => rw [hi] at h1; exact hW.1 i q (Option.some.inj h1)
  refine va_calli (va_runV (As := As) (rest := rest) ⟨hx, hb, hml, hown, hts⟩ hM cw ⟨cr_blindW, va_recv hK hW.1 hc he, fun U hU hWm => ⟨rfl, by rw [hU], by rw [hU]; exact hP0, va_K.moved hWm.alike hK, hD0, cr_NW.warm hWm hN⟩⟩ rfl hn hls hst (lv_room hr) hdg hf) hW.2.2.1 (fun q _ h => hF q h) hF (fun r u t H1 locs1 ht hvm hw hB hz1 hk1 hS1 => ?_)
  subst hw
  exact kk H1 locs1 (cr_back hW isC isR pm hC (cr_all hR) hnd.2.1 hnd.2.2.2 hpm hnd.2.2.1 hk1 hF (by rw [← ht]; exact hB.1) hB.2 hS1)
theorem cr_vVq {S : Type} {q : S} {w1 : S → va_W} (C : cr_Cx p s m meth c args own Ts cc nL ret D ct) (hW : cr_wd D A s ws H locs) (hM : Met l y wy rm (cr_pW D ct wc H.size (.ref b :: As)) (cr_QV D wc H.size (fun u => u = q) w1) 0 0 (va_A wc H.size)) (cw : CallW R s args own Cn index y bytes maxL rt wy rm 0 0 n) (isC isR pm : List Nat) (w2 : va_W)
    (hC : isC.map (fun i => ws[i]?) = wc.map some) (hR : isR.all (fun i => decide (i < ws.length)) = true) (hpm : pm.map (fun i => (isR.filterMap (fun i => ws[i]?) ++ w1 q)[i]?) = w2.map some) (hnd : va_nd isC = true ∧ va_nd isR = true ∧ va_nd pm = true ∧ ∀ i ∈ isR, i ∉ isC) (q0 : Nat) (he : ws[q0]? = some (b, .inr (ci, fs))) (hc : vwCl[ci]? = some (Cn, T, N))
    (hn : As.length = n) (hls : ls.size = nL) (hst : st = As.reverse ++ .ref b :: rest) (hr : (rest.map fun v => v.category).sum ≤ 8) (hdg : decode cc pc = .ok (.invokevirtual index, 3)) (hf : cells ≤ R.cells ∧ slots ≤ R.slots)
    (kk : ∀ (H1 : Heap) (locs1 : List Loc), cr_wd D A s w2 H1 locs1 → W p l e R s m args below meth c H1 locs1 cells slots Q (F0 m (pc + 3) ls rest)) : W p l e R s m args below meth c H locs cells slots Q (F0 m pc ls st) := by
  obtain ⟨hx, hb, hml, hown, hts, -, -, hK, hN⟩ := C
  have hF : ∀ q, va_A wc H.size q → A q := va_free hW.2.1 hW.2.2.1 hW.2.2.2 isC hC
  have hD0 : va_D (fun _ => True) wc := (hW.2.1.sub isC hnd.1 hC).weaken (fun _ _ _ _ => trivial)
  have hP0 : va_P D vwCl wc H := by
    intro k q hq
    have h1 : (isC.map (fun i => ws[i]?))[k]? = some (some q) := by rw [hC, List.getElem?_map, hq]; rfl
    rw [List.getElem?_map] at h1
    cases hi : isC[k]? with
    | none => rw [hi] at h1; cases h1
    | some i => rw [hi] at h1; exact hW.1 i q (Option.some.inj h1)
  refine va_callv (va_runV (As := As) (rest := rest) ⟨hx, hb, hml, hown, hts⟩ hM cw ⟨cr_blindW, va_recv hK hW.1 hc he, fun U hU hWm => ⟨rfl, by rw [hU], by rw [hU]; exact hP0, va_K.moved hWm.alike hK, hD0, cr_NW.warm hWm hN⟩⟩ rfl hn hls hst (lv_room hr) hdg hf) hW.2.2.1 (fun q _ h => hF q h) hF (fun u t H1 locs1 ht hvm hw hB hz1 hk1 hS1 => ?_)
  subst hw
  exact kk H1 locs1 (cr_back hW isC isR pm hC (cr_all hR) hnd.2.1 hnd.2.2.2 hpm hnd.2.2.1 hk1 hF (by rw [← ht]; exact hB.1) hB.2 hS1)
end CRQ
section CRS
variable {p : Program} {l : Launch} {e : Env} {R : Room} {s : State} {m : MethodId} {args : Array Value} {below : List Frame} {meth : Method} {c : Code} {H : Heap} {locs : List Loc} {cells slots : Nat} {Q : State → Prop}
variable {own : String} {Ts : List Cond} {cc : ByteArray} {nL : Nat} {ret : Option FieldType} {D : va_G} {ct : Nat → ClassId} {A : Nat → Prop} {ws : va_W} {pc : Nat} {ls : Array Slot} {rest st : List Value}
variable {y : MethodName} {bytes : ByteArray} {maxL n index : Nat} {rt : Option FieldType} {wy : List Cond} {rm : Room} {As : List Value} {wc : va_W}
theorem cr_sVq {S : Type} {q : S} {w1 : S → va_W} (C : cr_Cx p s m meth c args own Ts cc nL ret D ct) (hW : cr_wd D A s ws H locs) (hM : Met l y wy rm (cr_pW D ct wc H.size As) (cr_QV D wc H.size (fun u => u = q) w1) 0 0 (va_A wc H.size)) (cw : CallB R s args own index y bytes maxL rt wy rm 0 0 n ∧ (Cond.static y).before args s = true) (isC isR pm : List Nat) (w2 : va_W)
    (hC : isC.map (fun i => ws[i]?) = wc.map some) (hR : isR.all (fun i => decide (i < ws.length)) = true) (hpm : pm.map (fun i => (isR.filterMap (fun i => ws[i]?) ++ w1 q)[i]?) = w2.map some) (hnd : va_nd isC = true ∧ va_nd isR = true ∧ va_nd pm = true ∧ ∀ i ∈ isR, i ∉ isC)
    (hn : As.length = n) (hls : ls.size = nL) (hst : st = As.reverse ++ rest) (hr : (rest.map fun v => v.category).sum ≤ 8) (hdg : decode cc pc = .ok (.invokestatic index, 3)) (hf : cells ≤ R.cells ∧ slots ≤ R.slots)
    (kk : ∀ (H1 : Heap) (locs1 : List Loc), cr_wd D A s w2 H1 locs1 → W p l e R s m args below meth c H1 locs1 cells slots Q (F0 m (pc + 3) ls rest)) : W p l e R s m args below meth c H locs cells slots Q (F0 m pc ls st) := by
  obtain ⟨hx, hb, hml, hown, hts, -, -, hK, hN⟩ := C
  have hF : ∀ q, va_A wc H.size q → A q := va_free hW.2.1 hW.2.2.1 hW.2.2.2 isC hC
  have hD0 : va_D (fun _ => True) wc := (hW.2.1.sub isC hnd.1 hC).weaken (fun _ _ _ _ => trivial)
  have hP0 : va_P D vwCl wc H := by
    intro k q hq
    have h1 : (isC.map (fun i => ws[i]?))[k]? = some (some q) := by rw [hC, List.getElem?_map, hq]; rfl
    rw [List.getElem?_map] at h1
    cases hi : isC[k]? with
    | none => rw [hi] at h1; cases h1
    | some i => rw [hi] at h1; exact hW.1 i q (Option.some.inj h1)
  refine va_callv (va_runS (As := As) (rest := rest) ⟨hx, hb, hml, hown, hts⟩ hM cw ⟨cr_blindW, fun U hU hWm => ⟨rfl, by rw [hU], by rw [hU]; exact hP0, va_K.moved hWm.alike hK, hD0, cr_NW.warm hWm hN⟩⟩ rfl hn hls hst (lv_room hr) hdg hf) hW.2.2.1 (fun q _ h => hF q h) hF (fun u t H1 locs1 ht hvm hw hB hz1 hk1 hS1 => ?_)
  subst hw
  exact kk H1 locs1 (cr_back hW isC isR pm hC (cr_all hR) hnd.2.1 hnd.2.2.2 hpm hnd.2.2.1 hk1 hF (by rw [← ht]; exact hB.1) hB.2 hS1)
end CRS
/-- a method of a JDK class that has entries, but none for this one -/
theorem cr_metRF {l : Launch} {y : MethodName} {ws ws' : List Cond} {rm : Room} {cc : ByteArray} {maxL : Nat} {ret : Option FieldType} {own : String} {D : va_G} {ct : Nat → ClassId} {wc : va_W} {av : List Value} {Qc : Array Value → State → Outcome → State → Prop}
    (hy : plainFor y = true) (hw : ws = Cond.code y cc maxL ret :: ws') (ho : y.cls = own) (hn : (lg_sl av).length ≤ maxL)
    (body : ∀ (p : Program) (e : Env) (s : State) (m : MethodId) (args : Array Value) (below : List Frame) (meth : Method) (c : Code) (ls : Array Slot), cr_Cx p s m meth c args own ws cc maxL ret D ct → va_P D vwCl wc s.heap → va_S cr_no s.heap s.heap [] → lv_has ls maxL (lv_args 0 av) →
      W p l e rm s m args below meth c s.heap [] 0 0 (MQ below Qc args s 0 0 cr_no) (F0 m 0 ls [])) : Met l y ws rm (cr_pR D ct wc av) Qc 0 0 cr_no := by
  refine va_MetF (cc := cc) (maxL := maxL) (ret := ret) hy hw ?_
  intro p e s m args below meth c s₁ B hml hv
  obtain ⟨rfl, hP, hK, hN⟩ := hv
  subst ho
  have hl := lv_entry av (n := maxL) hn
  rw [lg_entry_eq]
  exact body p e s m _ below meth c _ ⟨B.exec, B.bytes, hml, findClass_of_methodNamed B.named, atoms_spec (ws := ws) B.pre, B.returns, B.notSynchronized, hK, hN⟩ hP va_S.rf hl
section CRT
variable {p : Program} {l : Launch} {e : Env} {R : Room} {s : State} {m : MethodId} {args : Array Value} {below : List Frame} {meth : Method} {c : Code} {H : Heap} {locs : List Loc} {cells slots : Nat} {Q : State → Prop} {cc : ByteArray} {pc : Nat} {ls : Array Slot} {rest : List Value}
theorem cr_tabD (hexec : p.tables.exec = Jvm.exec) (hb : c.code = cc) {dflt lo hi : Int} {offs : Array Int} {len : Nat} {x : Int32} {tgt : Nat} (hdg : decode cc pc = .ok (.tableswitch dflt lo hi offs, len)) (h : (x.toInt < lo ∨ hi < x.toInt) ∨ (¬ x.toInt < lo ∧ ¬ hi < x.toInt ∧ offs[(x.toInt - lo).toNat]? = some dflt)) (ht : (pc : Int) + dflt = (tgt : Int))
    (k : W p l e R s m args below meth c H locs cells slots Q (F0 m tgt ls rest)) : W p l e R s m args below meth c H locs cells slots Q (F0 m pc ls (.int x :: rest)) := by
  rcases h with h | ⟨h1, h2, h3⟩
  · exact lv_tableOut hexec hb hdg h ht k
  · exact lv_tableIn hexec hb hdg h1 h2 h3 ht k
end CRT
