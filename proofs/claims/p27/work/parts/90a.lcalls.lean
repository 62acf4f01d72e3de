/-! the law: worlds, and rows of its calls -/
abbrev cr_wN (ct : Nat → ClassId) (n : Nat) (a : Nat → Nat) (v : cr_V) : va_W := [(a 0, .inl (ct 0, n, .inl (v 0)))]
/-- the object's components: house, lots, contracts; the trial's; history, rooms; delivery; orders -/
abbrev cr_XT : Type := cr_V × cr_V × cr_V × cr_V × cr_V × cr_V × cr_V × (Nat → Nat → cr_V) × cr_V × cr_V
abbrev cr_wXt (ct : Nat → ClassId) (a : Nat → Nat → Nat) (r : Nat → Nat → Nat → Nat) (X : cr_XT) : va_W := cr_wX ct a r X.1 X.2.1 X.2.2.1 X.2.2.2.1 X.2.2.2.2.1 X.2.2.2.2.2.1 X.2.2.2.2.2.2.1 X.2.2.2.2.2.2.2.1 X.2.2.2.2.2.2.2.2.1 X.2.2.2.2.2.2.2.2.2
abbrev cl_uX (q : cr_V × cr_V × cr_V × cr_V × cr_V × cr_V × cr_V × (Nat → Nat → cr_V)) (X : cr_XT) : cr_XT := (q.1, q.2.1, q.2.2.1, q.2.2.2.1, q.2.2.2.2.1, q.2.2.2.2.2.1, q.2.2.2.2.2.2.1, q.2.2.2.2.2.2.2, X.2.2.2.2.2.2.2.2)
abbrev cl_uM (q : cr_V × cr_V × cr_V × cr_V × cr_V × cr_V × cr_V × (Nat → Nat → cr_V) × cr_V) (X : cr_XT) : cr_XT := (q.1, q.2.1, q.2.2.1, q.2.2.2.1, q.2.2.2.2.1, q.2.2.2.2.2.1, q.2.2.2.2.2.2.1, q.2.2.2.2.2.2.2.1, q.2.2.2.2.2.2.2.2, X.2.2.2.2.2.2.2.2.2)
theorem cl_subP {D : va_G} {cl : List vw_C} {ws : va_W} {H : Heap} (h : va_P D cl ws H) {Ls : List va_W} (hL : Ls.flatten = ws) (bC : List Nat) : va_P D cl (bC.filterMap (fun i => Ls[i]?)).flatten H := by
  intro k q hk
  obtain ⟨w, hw, hq⟩ := List.mem_flatten.mp (List.mem_of_getElem? hk)
  obtain ⟨i, -, hi⟩ := List.mem_filterMap.mp hw
  have hm : q ∈ ws := by
    rw [← hL]
    exact List.mem_flatten.mpr ⟨w, List.mem_of_getElem? hi, hq⟩
  obtain ⟨j, hj⟩ := List.getElem?_of_mem hm
  exact h j q hj
section CL
variable {p : Program} {l : Launch} {e : Env} {R : Room} {s : State} {m : MethodId} {args : Array Value} {below : List Frame} {meth : Method} {c : Code} {H : Heap} {locs : List Loc} {cells slots : Nat} {Q : State → Prop}
variable {own : String} {Ts : List Cond} {cc : ByteArray} {nL : Nat} {ret : Option FieldType} {D : va_G} {ct : Nat → ClassId} {A : Nat → Prop} {ws : va_W} {pc : Nat} {ls : Array Slot} {rest st : List Value} {a b : Nat}
variable {y : MethodName} {bytes : ByteArray} {maxL n index nb mc ms : Nat} {rt : Option FieldType} {wy : List Cond} {rm : Room} {Cn : String} {As : List Value} {wc : va_W} {ci : Nat} {fs : List Value} {T : u_T} {N : Nat}
theorem cl_sR {q : Int32} (C : cr_Cx p s m meth c args own Ts cc nL ret D ct) (hP : va_P D vwCl ws H) (hS : va_S A s.heap H locs) (hM : Met l y wy rm (cr_pR D ct wc As) (cr_QR (fun r => r = q)) 0 0 cr_no) (cw : CallB R s args own index y bytes maxL rt wy rm 0 0 n ∧ (Cond.static y).before args s = true) (bC : List Nat) (Ls : List va_W) (hL : Ls.length = nb ∧ Ls.flatten = ws) (hwc : (bC.filterMap (fun i => Ls[i]?)).flatten = wc)
    (hn : As.length = n) (hls : ls.size = nL) (hst : st = As.reverse ++ rest) (hr : (rest.map fun v => v.category).sum ≤ 8) (hdg : decode cc pc = .ok (.invokestatic index, 3)) (hf : cells ≤ R.cells ∧ slots ≤ R.slots)
    (kk : ∀ (H1 : Heap) (locs1 : List Loc), va_P D vwCl ws H1 → va_S A s.heap H1 locs1 → W p l e R s m args below meth c H1 locs1 cells slots Q (F0 m (pc + 3) ls (.int q :: rest))) : W p l e R s m args below meth c H locs cells slots Q (F0 m pc ls st) := by
  obtain ⟨hx, hb, hml, hown, hts, -, -, hK, hN⟩ := C
  have hP0 : va_P D vwCl wc H := by rw [← hwc]; exact cl_subP hP hL.2 bC
  refine va_calli (va_runS (As := As) (rest := rest) ⟨hx, hb, hml, hown, hts⟩ hM cw ⟨cr_blindR, fun U hU hW => ⟨rfl, by rw [hU]; exact hP0, va_K.moved hW.alike hK, cr_NW.warm hW hN⟩⟩ rfl hn hls hst (lv_room hr) hdg hf) hS (fun q _ h => h.elim) (fun q h => h.elim) (fun r u t H1 locs1 ht hvm hw hB hz1 hk1 hS1 => ?_)
  subst hw
  exact kk H1 locs1 (hP.kept fun k q hq => hk1 q.1 (hP k q hq).lt (fun z => z)) hS1
theorem cl_sRw {q : Int32} (C : cr_Cx p s m meth c args own Ts cc nL ret D ct) (hW : cr_wd D A s ws H locs) (hM : Met l y wy rm (cr_pR D ct wc As) (cr_QR (fun r => r = q)) 0 0 cr_no) (cw : CallB R s args own index y bytes maxL rt wy rm 0 0 n ∧ (Cond.static y).before args s = true) (bC : List Nat) (Ls : List va_W) (hL : Ls.length = nb ∧ Ls.flatten = ws) (hwc : (bC.filterMap (fun i => Ls[i]?)).flatten = wc)
    (hn : As.length = n) (hls : ls.size = nL) (hst : st = As.reverse ++ rest) (hr : (rest.map fun v => v.category).sum ≤ 8) (hdg : decode cc pc = .ok (.invokestatic index, 3)) (hf : cells ≤ R.cells ∧ slots ≤ R.slots)
    (kk : ∀ (H1 : Heap) (locs1 : List Loc), cr_wd D A s ws H1 locs1 → W p l e R s m args below meth c H1 locs1 cells slots Q (F0 m (pc + 3) ls (.int q :: rest))) : W p l e R s m args below meth c H locs cells slots Q (F0 m pc ls st) :=
  cl_sR C hW.1 hW.2.2.1 hM cw bC Ls hL hwc hn hls hst hr hdg hf (fun H1 locs1 h1 h2 => kk H1 locs1 ⟨h1, hW.2.1, h2, hW.2.2.2⟩)
theorem cl_sWB {S : Type} {q : Int32 × S} {w1 : S → va_W} (C : cr_Cx p s m meth c args own Ts cc nL ret D ct) (hW : cr_wd D A s ws H locs) (hM : Met l y wy rm (cr_pW D ct wc H.size As) (cr_QW D wc H.size (fun r (u : S) => (r, u) = q) w1) 0 0 (va_A wc H.size)) (cw : CallB R s args own index y bytes maxL rt wy rm 0 0 n ∧ (Cond.static y).before args s = true) (bC bR : List Nat) (Ls : List va_W) (w2 : va_W) (L2 : List va_W)
    (hL : Ls.length = nb ∧ Ls.flatten = ws) (hL2 : L2.length = nb ∧ L2.flatten = w2) (hwc : (bC.filterMap (fun i => Ls[i]?)).flatten = wc) (hw1 : (bC.filterMap (fun i => L2[i]?)).flatten = w1 q.2) (hwr : bR.filterMap (fun i => L2[i]?) = bR.filterMap (fun i => Ls[i]?)) (hps : (bC ++ bR).Perm (List.range nb))
    (hn : As.length = n) (hls : ls.size = nL) (hst : st = As.reverse ++ rest) (hr : (rest.map fun v => v.category).sum ≤ 8) (hdg : decode cc pc = .ok (.invokestatic index, 3)) (hf : cells ≤ R.cells ∧ slots ≤ R.slots)
    (kk : ∀ (H1 : Heap) (locs1 : List Loc), cr_wd D A s w2 H1 locs1 → W p l e R s m args below meth c H1 locs1 cells slots Q (F0 m (pc + 3) ls (.int q.1 :: rest))) : W p l e R s m args below meth c H locs cells slots Q (F0 m pc ls st) := by
  obtain ⟨hx, hb, hml, hown, hts, -, -, hK, hN⟩ := C
  have hp1 := cr_blk (bC ++ bR) hL.1 hps
  rw [List.filterMap_append, List.flatten_append, hL.2, hwc] at hp1
  have hWc := hW.perm hp1
  obtain ⟨hP0, hD0, hF⟩ := cr_sub0 hWc
  refine va_calli (va_runS (As := As) (rest := rest) ⟨hx, hb, hml, hown, hts⟩ hM cw ⟨cr_blindW, fun U hU hWm => ⟨rfl, by rw [hU], by rw [hU]; exact hP0, va_K.moved hWm.alike hK, hD0, cr_NW.warm hWm hN⟩⟩ rfl hn hls hst (lv_room hr) hdg hf) hW.2.2.1 (fun q _ h => hF q h) hF (fun r u t H1 locs1 ht hvm hw hB hz1 hk1 hS1 => ?_)
  subst hw
  have hp2 := cr_blk (bC ++ bR) (hL2).1 hps
  rw [List.filterMap_append, List.flatten_append, (hL2).2, hw1, hwr] at hp2
  exact kk H1 locs1 (cr_backP hWc hp2.symm hk1 hF (by rw [← ht]; exact hB.1) hB.2 hS1)
theorem cl_sWBr {S X : Type} {q : Int32 × S} {w1 : X × S → va_W} (C : cr_Cx p s m meth c args own Ts cc nL ret D ct) (hW : cr_wd D A s ws H locs) (hM : Met l y wy rm (cr_pW D ct wc H.size As) (cr_QW D wc H.size (fun r (u : X × S) => (r, u.2) = q) w1) 0 0 (va_A wc H.size)) (cw : CallB R s args own index y bytes maxL rt wy rm 0 0 n ∧ (Cond.static y).before args s = true) (bC bR : List Nat) (Ls : List va_W) (w2 : X → va_W) (L2 : X → List va_W)
    (hL : Ls.length = nb ∧ Ls.flatten = ws) (hL2 : ∀ x, (L2 x).length = nb ∧ (L2 x).flatten = (w2 x)) (hwc : (bC.filterMap (fun i => Ls[i]?)).flatten = wc) (hw1 : ∀ x, (bC.filterMap (fun i => (L2 x)[i]?)).flatten = w1 (x, q.2)) (hwr : ∀ x, bR.filterMap (fun i => (L2 x)[i]?) = bR.filterMap (fun i => Ls[i]?)) (hps : (bC ++ bR).Perm (List.range nb))
    (hn : As.length = n) (hls : ls.size = nL) (hst : st = As.reverse ++ rest) (hr : (rest.map fun v => v.category).sum ≤ 8) (hdg : decode cc pc = .ok (.invokestatic index, 3)) (hf : cells ≤ R.cells ∧ slots ≤ R.slots)
    (kk : ∀ (x : X) (H1 : Heap) (locs1 : List Loc), cr_wd D A s (w2 x) H1 locs1 → W p l e R s m args below meth c H1 locs1 cells slots Q (F0 m (pc + 3) ls (.int q.1 :: rest))) : W p l e R s m args below meth c H locs cells slots Q (F0 m pc ls st) := by
  obtain ⟨hx, hb, hml, hown, hts, -, -, hK, hN⟩ := C
  have hp1 := cr_blk (bC ++ bR) hL.1 hps
  rw [List.filterMap_append, List.flatten_append, hL.2, hwc] at hp1
  have hWc := hW.perm hp1
  obtain ⟨hP0, hD0, hF⟩ := cr_sub0 hWc
  refine va_calli (va_runS (As := As) (rest := rest) ⟨hx, hb, hml, hown, hts⟩ hM cw ⟨cr_blindW, fun U hU hWm => ⟨rfl, by rw [hU], by rw [hU]; exact hP0, va_K.moved hWm.alike hK, hD0, cr_NW.warm hWm hN⟩⟩ rfl hn hls hst (lv_room hr) hdg hf) hW.2.2.1 (fun q _ h => hF q h) hF (fun r u t H1 locs1 ht hvm hw hB hz1 hk1 hS1 => ?_)
  obtain ⟨x, u⟩ := u
  dsimp only at hw
  subst hw
  have hp2 := cr_blk (bC ++ bR) (hL2 x).1 hps
  rw [List.filterMap_append, List.flatten_append, (hL2 x).2, hw1 x, hwr x] at hp2
  exact kk x H1 locs1 (cr_backP hWc hp2.symm hk1 hF (by rw [← ht]; exact hB.1) hB.2 hS1)
theorem cl_sVB {S : Type} {q : S} {w1 : S → va_W} (C : cr_Cx p s m meth c args own Ts cc nL ret D ct) (hW : cr_wd D A s ws H locs) (hM : Met l y wy rm (cr_pW D ct wc H.size As) (cr_QV D wc H.size (fun u : S => u = q) w1) 0 0 (va_A wc H.size)) (cw : CallB R s args own index y bytes maxL rt wy rm 0 0 n ∧ (Cond.static y).before args s = true) (bC bR : List Nat) (Ls : List va_W) (w2 : va_W) (L2 : List va_W)
    (hL : Ls.length = nb ∧ Ls.flatten = ws) (hL2 : L2.length = nb ∧ L2.flatten = w2) (hwc : (bC.filterMap (fun i => Ls[i]?)).flatten = wc) (hw1 : (bC.filterMap (fun i => L2[i]?)).flatten = w1 q) (hwr : bR.filterMap (fun i => L2[i]?) = bR.filterMap (fun i => Ls[i]?)) (hps : (bC ++ bR).Perm (List.range nb))
    (hn : As.length = n) (hls : ls.size = nL) (hst : st = As.reverse ++ rest) (hr : (rest.map fun v => v.category).sum ≤ 8) (hdg : decode cc pc = .ok (.invokestatic index, 3)) (hf : cells ≤ R.cells ∧ slots ≤ R.slots)
    (kk : ∀ (H1 : Heap) (locs1 : List Loc), cr_wd D A s w2 H1 locs1 → W p l e R s m args below meth c H1 locs1 cells slots Q (F0 m (pc + 3) ls rest)) : W p l e R s m args below meth c H locs cells slots Q (F0 m pc ls st) := by
  obtain ⟨hx, hb, hml, hown, hts, -, -, hK, hN⟩ := C
  have hp1 := cr_blk (bC ++ bR) hL.1 hps
  rw [List.filterMap_append, List.flatten_append, hL.2, hwc] at hp1
  have hWc := hW.perm hp1
  obtain ⟨hP0, hD0, hF⟩ := cr_sub0 hWc
  refine va_callv (va_runS (As := As) (rest := rest) ⟨hx, hb, hml, hown, hts⟩ hM cw ⟨cr_blindW, fun U hU hWm => ⟨rfl, by rw [hU], by rw [hU]; exact hP0, va_K.moved hWm.alike hK, hD0, cr_NW.warm hWm hN⟩⟩ rfl hn hls hst (lv_room hr) hdg hf) hW.2.2.1 (fun q _ h => hF q h) hF (fun u t H1 locs1 ht hvm hw hB hz1 hk1 hS1 => ?_)
  subst hw
  have hp2 := cr_blk (bC ++ bR) (hL2).1 hps
  rw [List.filterMap_append, List.flatten_append, (hL2).2, hw1, hwr] at hp2
  exact kk H1 locs1 (cr_backP hWc hp2.symm hk1 hF (by rw [← ht]; exact hB.1) hB.2 hS1)
theorem cl_sSBr {S X : Type} {q : Int32 × S} {w1 : X × S → va_W} (hNF : cr_NF s) (hST : cr_ST A s s.heap) (C : cr_Cx p s m meth c args own Ts cc nL ret D ct) (hW : cr_wd D A s ws H locs) (hM : Met l y wy rm (cr_pS D ct wc H.size As) (cr_QW D wc H.size (fun r (u : X × S) => (r, u.2) = q) w1) 0 0 (va_A wc H.size)) (cw : CallB R s args own index y bytes maxL rt wy rm 0 0 n ∧ (Cond.static y).before args s = true) (bC bR : List Nat) (Ls : List va_W) (w2 : X → va_W) (L2 : X → List va_W)
    (hL : Ls.length = nb ∧ Ls.flatten = ws) (hL2 : ∀ x, (L2 x).length = nb ∧ (L2 x).flatten = (w2 x)) (hwc : (bC.filterMap (fun i => Ls[i]?)).flatten = wc) (hw1 : ∀ x, (bC.filterMap (fun i => (L2 x)[i]?)).flatten = w1 (x, q.2)) (hwr : ∀ x, bR.filterMap (fun i => (L2 x)[i]?) = bR.filterMap (fun i => Ls[i]?)) (hps : (bC ++ bR).Perm (List.range nb))
    (hn : As.length = n) (hls : ls.size = nL) (hst : st = As.reverse ++ rest) (hr : (rest.map fun v => v.category).sum ≤ 8) (hdg : decode cc pc = .ok (.invokestatic index, 3)) (hf : cells ≤ R.cells ∧ slots ≤ R.slots)
    (kk : ∀ (x : X) (H1 : Heap) (locs1 : List Loc), cr_wd D A s (w2 x) H1 locs1 → W p l e R s m args below meth c H1 locs1 cells slots Q (F0 m (pc + 3) ls (.int q.1 :: rest))) : W p l e R s m args below meth c H locs cells slots Q (F0 m pc ls st) := by
  obtain ⟨hx, hb, hml, hown, hts, -, -, hK, hN⟩ := C
  have hp1 := cr_blk (bC ++ bR) hL.1 hps
  rw [List.filterMap_append, List.flatten_append, hL.2, hwc] at hp1
  have hWc := hW.perm hp1
  obtain ⟨hP0, hD0, hF⟩ := cr_sub0 hWc
  refine va_calli (va_runS (As := As) (rest := rest) ⟨hx, hb, hml, hown, hts⟩ hM cw ⟨cr_blindS, fun U hU hWm => ⟨rfl, by rw [hU], by rw [hU]; exact hP0, va_K.moved hWm.alike hK, hD0, cr_NW.warm hWm hN, cr_NF.warm hWm hNF, cr_ST.go hST hW.2.2.1 hF hWm.alike hU⟩⟩ rfl hn hls hst (lv_room hr) hdg hf) hW.2.2.1 (fun q _ h => hF q h) hF (fun r u t H1 locs1 ht hvm hw hB hz1 hk1 hS1 => ?_)
  obtain ⟨x, u⟩ := u
  dsimp only at hw
  subst hw
  have hp2 := cr_blk (bC ++ bR) (hL2 x).1 hps
  rw [List.filterMap_append, List.flatten_append, (hL2 x).2, hw1 x, hwr x] at hp2
  exact kk x H1 locs1 (cr_backP hWc hp2.symm hk1 hF (by rw [← ht]; exact hB.1) hB.2 hS1)
theorem cl_vR {q : Int32} (C : cr_Cx p s m meth c args own Ts cc nL ret D ct) (hP : va_P D vwCl ws H) (hS : va_S A s.heap H locs) (hM : Met l y wy rm (cr_pR D ct wc (.ref b :: As)) (cr_QR (fun r => r = q)) 0 0 cr_no) (cw : CallW R s args own Cn index y bytes maxL rt wy rm 0 0 n) (bC : List Nat) (Ls : List va_W) (hL : Ls.length = nb ∧ Ls.flatten = ws) (hwc : (bC.filterMap (fun i => Ls[i]?)).flatten = wc) (q0 : Nat) (he : ws[q0]? = some (b, .inr (ci, fs))) (hc : vwCl[ci]? = some (Cn, T, N))
    (hn : As.length = n) (hls : ls.size = nL) (hst : st = As.reverse ++ .ref b :: rest) (hr : (rest.map fun v => v.category).sum ≤ 8) (hdg : decode cc pc = .ok (.invokevirtual index, 3)) (hf : cells ≤ R.cells ∧ slots ≤ R.slots)
    (kk : ∀ (H1 : Heap) (locs1 : List Loc), va_P D vwCl ws H1 → va_S A s.heap H1 locs1 → W p l e R s m args below meth c H1 locs1 cells slots Q (F0 m (pc + 3) ls (.int q :: rest))) : W p l e R s m args below meth c H locs cells slots Q (F0 m pc ls st) := by
  obtain ⟨hx, hb, hml, hown, hts, -, -, hK, hN⟩ := C
  have hP0 : va_P D vwCl wc H := by rw [← hwc]; exact cl_subP hP hL.2 bC
  refine va_calli (va_runV (As := As) (rest := rest) ⟨hx, hb, hml, hown, hts⟩ hM cw ⟨cr_blindR, va_recv hK hP hc he, fun U hU hW => ⟨rfl, by rw [hU]; exact hP0, va_K.moved hW.alike hK, cr_NW.warm hW hN⟩⟩ rfl hn hls hst (lv_room hr) hdg hf) hS (fun q _ h => h.elim) (fun q h => h.elim) (fun r u t H1 locs1 ht hvm hw hB hz1 hk1 hS1 => ?_)
  subst hw
  exact kk H1 locs1 (hP.kept fun k q hq => hk1 q.1 (hP k q hq).lt (fun z => z)) hS1
theorem cl_vRw {q : Int32} (C : cr_Cx p s m meth c args own Ts cc nL ret D ct) (hW : cr_wd D A s ws H locs) (hM : Met l y wy rm (cr_pR D ct wc (.ref b :: As)) (cr_QR (fun r => r = q)) 0 0 cr_no) (cw : CallW R s args own Cn index y bytes maxL rt wy rm 0 0 n) (bC : List Nat) (Ls : List va_W) (hL : Ls.length = nb ∧ Ls.flatten = ws) (hwc : (bC.filterMap (fun i => Ls[i]?)).flatten = wc) (q0 : Nat) (he : ws[q0]? = some (b, .inr (ci, fs))) (hc : vwCl[ci]? = some (Cn, T, N))
    (hn : As.length = n) (hls : ls.size = nL) (hst : st = As.reverse ++ .ref b :: rest) (hr : (rest.map fun v => v.category).sum ≤ 8) (hdg : decode cc pc = .ok (.invokevirtual index, 3)) (hf : cells ≤ R.cells ∧ slots ≤ R.slots)
    (kk : ∀ (H1 : Heap) (locs1 : List Loc), cr_wd D A s ws H1 locs1 → W p l e R s m args below meth c H1 locs1 cells slots Q (F0 m (pc + 3) ls (.int q :: rest))) : W p l e R s m args below meth c H locs cells slots Q (F0 m pc ls st) :=
  cl_vR C hW.1 hW.2.2.1 hM cw bC Ls hL hwc q0 he hc hn hls hst hr hdg hf (fun H1 locs1 h1 h2 => kk H1 locs1 ⟨h1, hW.2.1, h2, hW.2.2.2⟩)
theorem cl_vWBr {S X : Type} {q : Int32 × S} {w1 : X × S → va_W} (C : cr_Cx p s m meth c args own Ts cc nL ret D ct) (hW : cr_wd D A s ws H locs) (hM : Met l y wy rm (cr_pW D ct wc H.size (.ref b :: As)) (cr_QW D wc H.size (fun r (u : X × S) => (r, u.2) = q) w1) 0 0 (va_A wc H.size)) (cw : CallW R s args own Cn index y bytes maxL rt wy rm 0 0 n) (bC bR : List Nat) (Ls : List va_W) (w2 : X → va_W) (L2 : X → List va_W)
    (hL : Ls.length = nb ∧ Ls.flatten = ws) (hL2 : ∀ x, (L2 x).length = nb ∧ (L2 x).flatten = (w2 x)) (hwc : (bC.filterMap (fun i => Ls[i]?)).flatten = wc) (hw1 : ∀ x, (bC.filterMap (fun i => (L2 x)[i]?)).flatten = w1 (x, q.2)) (hwr : ∀ x, bR.filterMap (fun i => (L2 x)[i]?) = bR.filterMap (fun i => Ls[i]?)) (hps : (bC ++ bR).Perm (List.range nb)) (q0 : Nat) (he : ws[q0]? = some (b, .inr (ci, fs))) (hc : vwCl[ci]? = some (Cn, T, N))
    (hn : As.length = n) (hls : ls.size = nL) (hst : st = As.reverse ++ .ref b :: rest) (hr : (rest.map fun v => v.category).sum ≤ 8) (hdg : decode cc pc = .ok (.invokevirtual index, 3)) (hf : cells ≤ R.cells ∧ slots ≤ R.slots)
    (kk : ∀ (x : X) (H1 : Heap) (locs1 : List Loc), cr_wd D A s (w2 x) H1 locs1 → W p l e R s m args below meth c H1 locs1 cells slots Q (F0 m (pc + 3) ls (.int q.1 :: rest))) : W p l e R s m args below meth c H locs cells slots Q (F0 m pc ls st) := by
  obtain ⟨hx, hb, hml, hown, hts, -, -, hK, hN⟩ := C
  have hp1 := cr_blk (bC ++ bR) hL.1 hps
  rw [List.filterMap_append, List.flatten_append, hL.2, hwc] at hp1
  have hWc := hW.perm hp1
  obtain ⟨hP0, hD0, hF⟩ := cr_sub0 hWc
  refine va_calli (va_runV (As := As) (rest := rest) ⟨hx, hb, hml, hown, hts⟩ hM cw ⟨cr_blindW, va_recv hK hW.1 hc he, fun U hU hWm => ⟨rfl, by rw [hU], by rw [hU]; exact hP0, va_K.moved hWm.alike hK, hD0, cr_NW.warm hWm hN⟩⟩ rfl hn hls hst (lv_room hr) hdg hf) hW.2.2.1 (fun q _ h => hF q h) hF (fun r u t H1 locs1 ht hvm hw hB hz1 hk1 hS1 => ?_)
  obtain ⟨x, u⟩ := u
  dsimp only at hw
  subst hw
  have hp2 := cr_blk (bC ++ bR) (hL2 x).1 hps
  rw [List.filterMap_append, List.flatten_append, (hL2 x).2, hw1 x, hwr x] at hp2
  exact kk x H1 locs1 (cr_backP hWc hp2.symm hk1 hF (by rw [← ht]; exact hB.1) hB.2 hS1)
theorem cl_vSBr {S X : Type} {q : Int32 × S} {w1 : X × S → va_W} (hNF : cr_NF s) (hST : cr_ST A s s.heap) (C : cr_Cx p s m meth c args own Ts cc nL ret D ct) (hW : cr_wd D A s ws H locs) (hM : Met l y wy rm (cr_pS D ct wc H.size (.ref b :: As)) (cr_QW D wc H.size (fun r (u : X × S) => (r, u.2) = q) w1) 0 0 (va_A wc H.size)) (cw : CallW R s args own Cn index y bytes maxL rt wy rm 0 0 n) (bC bR : List Nat) (Ls : List va_W) (w2 : X → va_W) (L2 : X → List va_W)
    (hL : Ls.length = nb ∧ Ls.flatten = ws) (hL2 : ∀ x, (L2 x).length = nb ∧ (L2 x).flatten = (w2 x)) (hwc : (bC.filterMap (fun i => Ls[i]?)).flatten = wc) (hw1 : ∀ x, (bC.filterMap (fun i => (L2 x)[i]?)).flatten = w1 (x, q.2)) (hwr : ∀ x, bR.filterMap (fun i => (L2 x)[i]?) = bR.filterMap (fun i => Ls[i]?)) (hps : (bC ++ bR).Perm (List.range nb)) (q0 : Nat) (he : ws[q0]? = some (b, .inr (ci, fs))) (hc : vwCl[ci]? = some (Cn, T, N))
    (hn : As.length = n) (hls : ls.size = nL) (hst : st = As.reverse ++ .ref b :: rest) (hr : (rest.map fun v => v.category).sum ≤ 8) (hdg : decode cc pc = .ok (.invokevirtual index, 3)) (hf : cells ≤ R.cells ∧ slots ≤ R.slots)
    (kk : ∀ (x : X) (H1 : Heap) (locs1 : List Loc), cr_wd D A s (w2 x) H1 locs1 → W p l e R s m args below meth c H1 locs1 cells slots Q (F0 m (pc + 3) ls (.int q.1 :: rest))) : W p l e R s m args below meth c H locs cells slots Q (F0 m pc ls st) := by
  obtain ⟨hx, hb, hml, hown, hts, -, -, hK, hN⟩ := C
  have hp1 := cr_blk (bC ++ bR) hL.1 hps
  rw [List.filterMap_append, List.flatten_append, hL.2, hwc] at hp1
  have hWc := hW.perm hp1
  obtain ⟨hP0, hD0, hF⟩ := cr_sub0 hWc
  refine va_calli (va_runV (As := As) (rest := rest) ⟨hx, hb, hml, hown, hts⟩ hM cw ⟨cr_blindS, va_recv hK hW.1 hc he, fun U hU hWm => ⟨rfl, by rw [hU], by rw [hU]; exact hP0, va_K.moved hWm.alike hK, hD0, cr_NW.warm hWm hN, cr_NF.warm hWm hNF, cr_ST.go hST hW.2.2.1 hF hWm.alike hU⟩⟩ rfl hn hls hst (lv_room hr) hdg hf) hW.2.2.1 (fun q _ h => hF q h) hF (fun r u t H1 locs1 ht hvm hw hB hz1 hk1 hS1 => ?_)
  obtain ⟨x, u⟩ := u
  dsimp only at hw
  subst hw
  have hp2 := cr_blk (bC ++ bR) (hL2 x).1 hps
  rw [List.filterMap_append, List.flatten_append, (hL2 x).2, hw1 x, hwr x] at hp2
  exact kk x H1 locs1 (cr_backP hWc hp2.symm hk1 hF (by rw [← ht]; exact hB.1) hB.2 hS1)
end CL
