theorem cr_blindR {D : va_G} {ct : Nat → ClassId} {wc : va_W} {av : List Value} : FrameBlind (cr_pR D ct wc av) := fun a U g mk q => by
  obtain ⟨q0, q1, q2, q3⟩ := q
  exact ⟨q0, q1, va_K.moved (u := U) (U := U.calling g mk a) (Vm.Alike.refl U.vm) q2, cr_NW.same (u := U) (U := U.calling g mk a) rfl q3⟩
theorem cr_blindW {D : va_G} {ct : Nat → ClassId} {wc : va_W} {sz : Nat} {av : List Value} : FrameBlind (cr_pW D ct wc sz av) := fun a U g mk q => by
  obtain ⟨q0, q1, q2, q3, q4, q5⟩ := q
  exact ⟨q0, q1, q2, va_K.moved (u := U) (U := U.calling g mk a) (Vm.Alike.refl U.vm) q3, q4, cr_NW.same (u := U) (U := U.calling g mk a) rfl q5⟩
section CRC
variable {p : Program} {l : Launch} {e : Env} {R : Room} {s : State} {m : MethodId} {args : Array Value} {below : List Frame} {meth : Method} {c : Code} {H : Heap} {locs : List Loc} {cells slots : Nat} {Q : State → Prop}
variable {own : String} {Ts : List Cond} {cc : ByteArray} {nL : Nat} {ret : Option FieldType} {D : va_G} {ct : Nat → ClassId} {A : Nat → Prop} {ws : va_W} {pc : Nat} {ls : Array Slot} {rest st : List Value} {b : Nat}
variable {y : MethodName} {bytes : ByteArray} {maxL n index : Nat} {rt : Option FieldType} {wy : List Cond} {rm : Room} {Cn : String} {As : List Value} {wc : va_W} {ci : Nat} {fs : List Value} {T : u_T} {N : Nat}
/-- a method that only reads, called by one that only reads -/
theorem cr_vR {post : Int32 → Prop} (C : cr_Cx p s m meth c args own Ts cc nL ret D ct) (hP : va_P D vwCl ws H) (hS : va_S A s.heap H locs) (hM : Met l y wy rm (cr_pR D ct wc (.ref b :: As)) (cr_QR post) 0 0 cr_no) (cw : CallW R s args own Cn index y bytes maxL rt wy rm 0 0 n) (is : List Nat) (hs : is.filterMap (fun i => ws[i]?) = wc) (q0 : Nat) (he : ws[q0]? = some (b, .inr (ci, fs))) (hc : vwCl[ci]? = some (Cn, T, N))
    (hn : As.length = n) (hls : ls.size = nL) (hst : st = As.reverse ++ .ref b :: rest) (hr : (rest.map fun v => v.category).sum ≤ 8) (hdg : decode cc pc = .ok (.invokevirtual index, 3)) (hf : cells ≤ R.cells ∧ slots ≤ R.slots)
    (kk : ∀ (r : Int32) (H1 : Heap) (locs1 : List Loc), post r → va_P D vwCl ws H1 → va_S A s.heap H1 locs1 → W p l e R s m args below meth c H1 locs1 cells slots Q (F0 m (pc + 3) ls (.int r :: rest))) : W p l e R s m args below meth c H locs cells slots Q (F0 m pc ls st) := by
  obtain ⟨hx, hb, hml, hown, hts, -, -, hK, hN⟩ := C
  refine va_calli (va_runV (As := As) (rest := rest) ⟨hx, hb, hml, hown, hts⟩ hM cw ⟨cr_blindR, va_recv hK hP hc he, fun U hU hW => ⟨rfl, by rw [hU]; exact hP.sub is hs, va_K.moved hW.alike hK, cr_NW.warm hW hN⟩⟩ rfl hn hls hst (lv_room hr) hdg hf) hS (fun q _ h => h.elim) (fun q h => h.elim) (fun r u t H1 locs1 ht hvm hw hB hz1 hk1 hS1 => ?_)
  exact kk r H1 locs1 hw (hP.kept fun k q hq => hk1 q.1 (hP k q hq).lt (fun z => z)) hS1
theorem cr_vRw {post : Int32 → Prop} (C : cr_Cx p s m meth c args own Ts cc nL ret D ct) (hW : cr_wd D A s ws H locs) (hM : Met l y wy rm (cr_pR D ct wc (.ref b :: As)) (cr_QR post) 0 0 cr_no) (cw : CallW R s args own Cn index y bytes maxL rt wy rm 0 0 n) (is : List Nat) (hs : is.filterMap (fun i => ws[i]?) = wc) (q0 : Nat) (he : ws[q0]? = some (b, .inr (ci, fs))) (hc : vwCl[ci]? = some (Cn, T, N))
    (hn : As.length = n) (hls : ls.size = nL) (hst : st = As.reverse ++ .ref b :: rest) (hr : (rest.map fun v => v.category).sum ≤ 8) (hdg : decode cc pc = .ok (.invokevirtual index, 3)) (hf : cells ≤ R.cells ∧ slots ≤ R.slots)
    (kk : ∀ (r : Int32) (H1 : Heap) (locs1 : List Loc), post r → cr_wd D A s ws H1 locs1 → W p l e R s m args below meth c H1 locs1 cells slots Q (F0 m (pc + 3) ls (.int r :: rest))) : W p l e R s m args below meth c H locs cells slots Q (F0 m pc ls st) :=
  cr_vR C hW.1 hW.2.2.1 hM cw is hs q0 he hc hn hls hst hr hdg hf (fun r H1 locs1 h1 h2 h3 => kk r H1 locs1 h1 ⟨h2, hW.2.1, h3, hW.2.2.2⟩)
/-- a static method of ints -/
theorem cr_sR {post : Int32 → Prop} (C : cr_Cx p s m meth c args own Ts cc nL ret D ct) (hP : va_P D vwCl ws H) (hS : va_S A s.heap H locs) (hM : Met l y wy rm (cr_pR D ct [] As) (cr_QR post) 0 0 cr_no) (cw : CallB R s args own index y bytes maxL rt wy rm 0 0 n ∧ (Cond.static y).before args s = true)
    (hn : As.length = n) (hls : ls.size = nL) (hst : st = As.reverse ++ rest) (hr : (rest.map fun v => v.category).sum ≤ 8) (hdg : decode cc pc = .ok (.invokestatic index, 3)) (hf : cells ≤ R.cells ∧ slots ≤ R.slots)
    (kk : ∀ (r : Int32) (H1 : Heap) (locs1 : List Loc), post r → va_P D vwCl ws H1 → va_S A s.heap H1 locs1 → W p l e R s m args below meth c H1 locs1 cells slots Q (F0 m (pc + 3) ls (.int r :: rest))) : W p l e R s m args below meth c H locs cells slots Q (F0 m pc ls st) := by
  obtain ⟨hx, hb, hml, hown, hts, -, -, hK, hN⟩ := C
  refine va_calli (va_runS (As := As) (rest := rest) ⟨hx, hb, hml, hown, hts⟩ hM cw ⟨cr_blindR, fun U hU hW => ⟨rfl, fun k q hk => by simp at hk, va_K.moved hW.alike hK, cr_NW.warm hW hN⟩⟩ rfl hn hls hst (lv_room hr) hdg hf) hS (fun q _ h => h.elim) (fun q h => h.elim) (fun r u t H1 locs1 ht hvm hw hB hz1 hk1 hS1 => ?_)
  exact kk r H1 locs1 hw (hP.kept fun k q hq => hk1 q.1 (hP k q hq).lt (fun z => z)) hS1
theorem cr_sRw {post : Int32 → Prop} (C : cr_Cx p s m meth c args own Ts cc nL ret D ct) (hW : cr_wd D A s ws H locs) (hM : Met l y wy rm (cr_pR D ct [] As) (cr_QR post) 0 0 cr_no) (cw : CallB R s args own index y bytes maxL rt wy rm 0 0 n ∧ (Cond.static y).before args s = true)
    (hn : As.length = n) (hls : ls.size = nL) (hst : st = As.reverse ++ rest) (hr : (rest.map fun v => v.category).sum ≤ 8) (hdg : decode cc pc = .ok (.invokestatic index, 3)) (hf : cells ≤ R.cells ∧ slots ≤ R.slots)
    (kk : ∀ (r : Int32) (H1 : Heap) (locs1 : List Loc), post r → cr_wd D A s ws H1 locs1 → W p l e R s m args below meth c H1 locs1 cells slots Q (F0 m (pc + 3) ls (.int r :: rest))) : W p l e R s m args below meth c H locs cells slots Q (F0 m pc ls st) :=
  cr_sR C hW.1 hW.2.2.1 hM cw hn hls hst hr hdg hf (fun r H1 locs1 h1 h2 h3 => kk r H1 locs1 h1 ⟨h2, hW.2.1, h3, hW.2.2.2⟩)
/-- a static method of the nest's host -/
theorem cr_nR {post : Int32 → Prop} {host : String} (C : cr_Cx p s m meth c args own Ts cc nL ret D ct) (hP : va_P D vwCl ws H) (hS : va_S A s.heap H locs) (hM : Met l y wy rm (cr_pR D ct [] As) (cr_QR post) 0 0 cr_no) (cw : va_CN R s args own index y host bytes maxL rt wy rm 0 0 n ∧ (Cond.static y).before args s = true ∧ True)
    (hn : As.length = n) (hls : ls.size = nL) (hst : st = As.reverse ++ rest) (hr : (rest.map fun v => v.category).sum ≤ 8) (hdg : decode cc pc = .ok (.invokestatic index, 3)) (hf : cells ≤ R.cells ∧ slots ≤ R.slots)
    (kk : ∀ (r : Int32) (H1 : Heap) (locs1 : List Loc), post r → va_P D vwCl ws H1 → va_S A s.heap H1 locs1 → W p l e R s m args below meth c H1 locs1 cells slots Q (F0 m (pc + 3) ls (.int r :: rest))) : W p l e R s m args below meth c H locs cells slots Q (F0 m pc ls st) := by
  obtain ⟨hx, hb, hml, hown, hts, -, -, hK, hN⟩ := C
  refine va_calli (va_runSN (As := As) (rest := rest) ⟨hx, hb, hml, hown, hts⟩ hM cw ⟨cr_blindR, fun U hU hW => ⟨rfl, fun k q hk => by simp at hk, va_K.moved hW.alike hK, cr_NW.warm hW hN⟩⟩ rfl hn hls hst (lv_room hr) hdg hf) hS (fun q _ h => h.elim) (fun q h => h.elim) (fun r u t H1 locs1 ht hvm hw hB hz1 hk1 hS1 => ?_)
  exact kk r H1 locs1 hw (hP.kept fun k q hq => hk1 q.1 (hP k q hq).lt (fun z => z)) hS1
theorem cr_nRw {post : Int32 → Prop} {host : String} (C : cr_Cx p s m meth c args own Ts cc nL ret D ct) (hW : cr_wd D A s ws H locs) (hM : Met l y wy rm (cr_pR D ct [] As) (cr_QR post) 0 0 cr_no) (cw : va_CN R s args own index y host bytes maxL rt wy rm 0 0 n ∧ (Cond.static y).before args s = true ∧ True)
    (hn : As.length = n) (hls : ls.size = nL) (hst : st = As.reverse ++ rest) (hr : (rest.map fun v => v.category).sum ≤ 8) (hdg : decode cc pc = .ok (.invokestatic index, 3)) (hf : cells ≤ R.cells ∧ slots ≤ R.slots)
    (kk : ∀ (r : Int32) (H1 : Heap) (locs1 : List Loc), post r → cr_wd D A s ws H1 locs1 → W p l e R s m args below meth c H1 locs1 cells slots Q (F0 m (pc + 3) ls (.int r :: rest))) : W p l e R s m args below meth c H locs cells slots Q (F0 m pc ls st) :=
  cr_nR C hW.1 hW.2.2.1 hM cw hn hls hst hr hdg hf (fun r H1 locs1 h1 h2 h3 => kk r H1 locs1 h1 ⟨h2, hW.2.1, h3, hW.2.2.2⟩)
/-- what a callee's world becomes, beside the rest, in the caller's own order -/
theorem cr_back {wr w1 w2 : va_W} {H1 : Heap} {locs1 : List Loc} (hW : cr_wd D A s ws H locs) (isC isR pm : List Nat) (hC : isC.map (fun i => ws[i]?) = wc.map some) (hR : isR.map (fun i => ws[i]?) = wr.map some) (hn : va_nd isR = true) (hdis : ∀ i ∈ isR, i ∉ isC) (hpm : pm.map (fun i => (wr ++ w1)[i]?) = w2.map some) (hnp : va_nd pm = true)
    (hk : ∀ q : Nat, q < H.size → ¬ va_A wc H.size q → H1[q]? = H[q]?) (hF : ∀ q, va_A wc H.size q → A q) (hP1 : va_P D vwCl w1 H1) (hD1 : va_D (va_A wc H.size) w1) (hS1 : va_S A s.heap H1 locs1) : cr_wd D A s w2 H1 locs1 := by
  obtain ⟨hP, hD, hS, hA⟩ := hW
  obtain ⟨hP2, hD2⟩ := va_join hP hD isC isR hC hR hn hdis hk hF hP1 hD1
  refine ⟨fun k q hq => ?_, hD2.sub pm hnp hpm, hS1, hA⟩
  have h1 : (pm.map (fun i => (wr ++ w1)[i]?))[k]? = some (some q) := by rw [hpm, List.getElem?_map, hq]; rfl
  rw [List.getElem?_map] at h1
  cases hi : pm[k]? with
  | none => rw [hi] at h1; cases h1
  | some i => rw [hi] at h1; exact hP2 i q (Option.some.inj h1)
/-- a method that writes -/
theorem cr_vW {S : Type} {post : Int32 → S → Prop} {w1 : S → va_W} {wr : va_W} (C : cr_Cx p s m meth c args own Ts cc nL ret D ct) (hW : cr_wd D A s ws H locs) (hM : Met l y wy rm (cr_pW D ct wc H.size (.ref b :: As)) (cr_QW D wc H.size post w1) 0 0 (va_A wc H.size)) (cw : CallW R s args own Cn index y bytes maxL rt wy rm 0 0 n) (isC isR pm : List Nat) (w2 : S → va_W)
    (hC : isC.map (fun i => ws[i]?) = wc.map some) (hR : isR.map (fun i => ws[i]?) = wr.map some) (hpm : ∀ u, pm.map (fun i => (wr ++ w1 u)[i]?) = (w2 u).map some) (hnd : va_nd isC = true ∧ va_nd isR = true ∧ va_nd pm = true ∧ ∀ i ∈ isR, i ∉ isC) (q0 : Nat) (he : ws[q0]? = some (b, .inr (ci, fs))) (hc : vwCl[ci]? = some (Cn, T, N))
    (hn : As.length = n) (hls : ls.size = nL) (hst : st = As.reverse ++ .ref b :: rest) (hr : (rest.map fun v => v.category).sum ≤ 8) (hdg : decode cc pc = .ok (.invokevirtual index, 3)) (hf : cells ≤ R.cells ∧ slots ≤ R.slots)
    (kk : ∀ (r : Int32) (u : S) (H1 : Heap) (locs1 : List Loc), post r u → cr_wd D A s (w2 u) H1 locs1 → W p l e R s m args below meth c H1 locs1 cells slots Q (F0 m (pc + 3) ls (.int r :: rest))) : W p l e R s m args below meth c H locs cells slots Q (F0 m pc ls st) := by
  obtain ⟨hx, hb, hml, hown, hts, -, -, hK, hN⟩ := C
  have hF : ∀ q, va_A wc H.size q → A q := va_free hW.2.1 hW.2.2.1 hW.2.2.2 isC hC
  have hD0 : va_D (fun _ => True) wc := (hW.2.1.sub isC hnd.1 hC).weaken (fun _ _ _ _ => trivial)
  have hP0 : va_P D vwCl wc H := by
    intro k q hq
    have h1 : (isC.map (fun i => ws[i]?))[k]? = some (some q) := by rw [hC, List.getElem?_map, hq]; rfl
    rw [List.getElem?_map] at h1
    cases hi : isC[k]? with
    | none => rw [hi] at h1; cases h1
    | some i => rw [hi] at h1; exact hW.1 i q (Option.some.inj h1)
  refine va_calli (va_runV (As := As) (rest := rest) ⟨hx, hb, hml, hown, hts⟩ hM cw ⟨cr_blindW, va_recv hK hW.1 hc he, fun U hU hWm => ⟨rfl, by rw [hU], by rw [hU]; exact hP0, va_K.moved hWm.alike hK, hD0, cr_NW.warm hWm hN⟩⟩ rfl hn hls hst (lv_room hr) hdg hf) hW.2.2.1 (fun q _ h => hF q h) hF (fun r u t H1 locs1 ht hvm hw hB hz1 hk1 hS1 => ?_)
  exact kk r u H1 locs1 hw (cr_back hW isC isR pm hC hR hnd.2.1 hnd.2.2.2 (hpm u) hnd.2.2.1 hk1 hF (by rw [← ht]; exact hB.1) hB.2 hS1)
theorem cr_vV {S : Type} {post : S → Prop} {w1 : S → va_W} {wr : va_W} (C : cr_Cx p s m meth c args own Ts cc nL ret D ct) (hW : cr_wd D A s ws H locs) (hM : Met l y wy rm (cr_pW D ct wc H.size (.ref b :: As)) (cr_QV D wc H.size post w1) 0 0 (va_A wc H.size)) (cw : CallW R s args own Cn index y bytes maxL rt wy rm 0 0 n) (isC isR pm : List Nat) (w2 : S → va_W)
    (hC : isC.map (fun i => ws[i]?) = wc.map some) (hR : isR.map (fun i => ws[i]?) = wr.map some) (hpm : ∀ u, pm.map (fun i => (wr ++ w1 u)[i]?) = (w2 u).map some) (hnd : va_nd isC = true ∧ va_nd isR = true ∧ va_nd pm = true ∧ ∀ i ∈ isR, i ∉ isC) (q0 : Nat) (he : ws[q0]? = some (b, .inr (ci, fs))) (hc : vwCl[ci]? = some (Cn, T, N))
    (hn : As.length = n) (hls : ls.size = nL) (hst : st = As.reverse ++ .ref b :: rest) (hr : (rest.map fun v => v.category).sum ≤ 8) (hdg : decode cc pc = .ok (.invokevirtual index, 3)) (hf : cells ≤ R.cells ∧ slots ≤ R.slots)
    (kk : ∀ (u : S) (H1 : Heap) (locs1 : List Loc), post u → cr_wd D A s (w2 u) H1 locs1 → W p l e R s m args below meth c H1 locs1 cells slots Q (F0 m (pc + 3) ls rest)) : W p l e R s m args below meth c H locs cells slots Q (F0 m pc ls st) := by
  obtain ⟨hx, hb, hml, hown, hts, -, -, hK, hN⟩ := C
  have hF : ∀ q, va_A wc H.size q → A q := va_free hW.2.1 hW.2.2.1 hW.2.2.2 isC hC
  have hD0 : va_D (fun _ => True) wc := (hW.2.1.sub isC hnd.1 hC).weaken (fun _ _ _ _ => trivial)
  have hP0 : va_P D vwCl wc H := by
    intro k q hq
    have h1 : (isC.map (fun i => ws[i]?))[k]? = some (some q) := by rw [hC, List.getElem?_map, hq]; rfl
    rw [List.getElem?_map] at h1
    cases hi : isC[k]? with
    | none => rw [hi] at h1; cases h1
    | some i => rw [hi] at h1; exact hW.1 i q (Option.some.inj h1)
  refine va_callv (va_runV (As := As) (rest := rest) ⟨hx, hb, hml, hown, hts⟩ hM cw ⟨cr_blindW, va_recv hK hW.1 hc he, fun U hU hWm => ⟨rfl, by rw [hU], by rw [hU]; exact hP0, va_K.moved hWm.alike hK, hD0, cr_NW.warm hWm hN⟩⟩ rfl hn hls hst (lv_room hr) hdg hf) hW.2.2.1 (fun q _ h => hF q h) hF (fun u t H1 locs1 ht hvm hw hB hz1 hk1 hS1 => ?_)
  exact kk u H1 locs1 hw (cr_back hW isC isR pm hC hR hnd.2.1 hnd.2.2.2 (hpm u) hnd.2.2.1 hk1 hF (by rw [← ht]; exact hB.1) hB.2 hS1)
end CRC
