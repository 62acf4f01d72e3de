/-! constructors: what they call beside; the static arrays that they copy -/
def cr_fw : Nat → Int32 := fun j => if j = 0 then 100 else if j = 1 then 150 else if j = 2 then 200 else 300
def cr_fs : Nat → Int32 := fun j => if j = 0 then 100 else if j = 1 then 2388 else if j = 2 then 3 else if j = 3 then 2 else 20
def cr_NI (U : State) : Prop := va_Nw (.methodLinkNest RX3 11 yX4_init "CupReceipts") U ∧ va_Nw (.methodLinkNest RX3 20 yX0_init "CupReceipts") U ∧ va_Nw (.methodLinkNest RX2 17 yX3_init "CupReceipts") U ∧ va_Nw (.methodLinkNest RX6 9 yX3_init "CupReceipts") U ∧ va_Nw (.methodLinkNest RX6 28 yX1_init "CupReceipts") U ∧ va_Nw (.methodLinkNest RX6 35 yX5_init "CupReceipts") U ∧
  va_Nw (.fieldLinkNest RX3 25 "CupReceipts" "FIRST_WORTHS" "[I" "CupReceipts") U ∧ va_Nw (.fieldLinkNest RX3 37 "CupReceipts" "FIRST_SETTINGS" "[I" "CupReceipts") U ∧ va_Nw (.castable "[I" "java/lang/Cloneable") U ∧ va_AO RX3 U
theorem cr_NI.warm {s U : State} (hW : s.WarmedH U.vm) (h : cr_NI s) : cr_NI U := by
  obtain ⟨h1, h2, h3, h4, h5, h6, h7, h8, h9, h10⟩ := h
  exact ⟨va_Nw.warmM hW h1, va_Nw.warmM hW h2, va_Nw.warmM hW h3, va_Nw.warmM hW h4, va_Nw.warmM hW h5, va_Nw.warmM hW h6, va_Nw.warmF hW h7, va_Nw.warmF hW h8, va_Nw.warmC hW h9, va_AO.moved hW.alike h10⟩
theorem cr_NI.same {u U : State} (e : u.vm = U.vm) (h : cr_NI u) : cr_NI U := by
  obtain ⟨h1, h2, h3, h4, h5, h6, h7, h8, h9, h10⟩ := h
  exact ⟨va_Nw.same rfl e h1, va_Nw.same rfl e h2, va_Nw.same rfl e h3, va_Nw.same rfl e h4, va_Nw.same rfl e h5, va_Nw.same rfl e h6, va_Nw.same rfl e h7, va_Nw.same rfl e h8, va_Nw.same rfl e h9, va_AO.moved (by rw [e]; exact Vm.Alike.refl _) h10⟩
/-- an array of N ints, whole, of the class of that name -/
def cr_E (t N : Nat) (f : Nat → Int32) (A : Nat → Prop) (U : State) (H : Heap) : Prop := ∃ cell : Cell, H[t]? = some cell ∧ U.vm.findClass "[I" = some cell.cls ∧ (∀ k, cell.vm ≠ .statics k) ∧ cell.vm ≠ .unknown ∧ cell.slots = (arrV cell.cls N (fun j => .int (f j))).slots ∧ ¬ A t
theorem cr_E.kept {t N : Nat} {f : Nat → Int32} {A : Nat → Prop} {U : State} {H H1 : Heap} (h : cr_E t N f A U H) (hq : ∀ a : Nat, a < H.size → ¬ A a → H1[a]? = H[a]?) : cr_E t N f A U H1 := by
  obtain ⟨cell, h1, h2, h3, h4, h5, h6⟩ := h
  exact ⟨cell, by rw [hq t (Array.getElem?_eq_some_iff.mp h1).1 h6]; exact h1, h2, h3, h4, h5, h6⟩
theorem cr_E.narrow {t N : Nat} {f : Nat → Int32} {A B : Nat → Prop} {U : State} {H : Heap} (h : cr_E t N f A U H) (hB : ∀ q, B q → A q) : cr_E t N f B U H := by
  obtain ⟨cell, h1, h2, h3, h4, h5, h6⟩ := h
  exact ⟨cell, h1, h2, h3, h4, h5, fun z => h6 (hB t z)⟩
theorem cr_E.moved {t N : Nat} {f : Nat → Int32} {A : Nat → Prop} {U V : State} {H : Heap} (hvm : U.vm.Alike V.vm) (h : cr_E t N f A U H) : cr_E t N f A V H := by
  obtain ⟨cell, h1, h2, h3, h4, h5, h6⟩ := h
  exact ⟨cell, h1, by rw [hvm.findClass]; exact h2, h3, h4, h5, h6⟩
def cr_FA (A : Nat → Prop) (U : State) (H : Heap) : Prop := ∃ t1 t2 : Nat, va_Z "CupReceipts" "FIRST_WORTHS" "[I" (.ref t1) A U H ∧ cr_E t1 4 cr_fw A U H ∧ va_Z "CupReceipts" "FIRST_SETTINGS" "[I" (.ref t2) A U H ∧ cr_E t2 5 cr_fs A U H
theorem cr_FA.go {A B : Nat → Prop} {s U : State} {H : Heap} {locs : List Loc} (h : cr_FA A s s.heap) (hS : va_S A s.heap H locs) (hAB : ∀ q, B q → A q) (hW : s.vm.Alike U.vm) (hU : U.heap = H) : cr_FA B U U.heap := by
  obtain ⟨t1, t2, h1, h2, h3, h4⟩ := h
  have hq : ∀ a : Nat, a < s.heap.size → ¬ A a → H[a]? = s.heap[a]? := hS.2.1
  rw [hU]
  exact ⟨t1, t2, ((h1.kept hq).narrow hAB).moved hW, ((h2.kept hq).narrow hAB).moved hW, ((h3.kept hq).narrow hAB).moved hW, ((h4.kept hq).narrow hAB).moved hW⟩
theorem cr_FA.blind {A : Nat → Prop} {U U' : State} {H : Heap} (h : cr_FA A U H) (hv : U.vm = U'.vm) : cr_FA A U' H := by
  obtain ⟨t1, t2, h1, h2, h3, h4⟩ := h
  have ha : U.vm.Alike U'.vm := by rw [hv]; exact Vm.Alike.refl _
  exact ⟨t1, t2, h1.moved ha, h2.moved ha, h3.moved ha, h4.moved ha⟩
abbrev cr_pI (D : va_G) (ct : Nat → ClassId) (wc : va_W) (sz : Nat) (av : List Value) : Array Value → State → Prop := va_Pc av (fun U => U.heap.size = sz ∧ va_P D vwCl wc U.heap ∧ va_K D vwCl (cr_TY ct) U ∧ va_D (fun _ => True) wc ∧ cr_NW U ∧ cr_NI U ∧ cr_FA (va_A wc sz) U U.heap)
theorem cr_blindI {D : va_G} {ct : Nat → ClassId} {wc : va_W} {sz : Nat} {av : List Value} : FrameBlind (cr_pI D ct wc sz av) := fun a U g mk q => by
  obtain ⟨q0, q1, q2, q3, q4, q5, q6, q7⟩ := q
  exact ⟨q0, q1, q2, va_K.moved (u := U) (U := U.calling g mk a) (Vm.Alike.refl U.vm) q3, q4, cr_NW.same (u := U) (U := U.calling g mk a) rfl q5, cr_NI.same (u := U) (U := U.calling g mk a) rfl q6, cr_FA.blind (U' := U.calling g mk a) q7 rfl⟩
theorem cr_metI {l : Launch} {y : MethodName} {ws ws' : List Cond} {rm : Room} {cc : ByteArray} {maxL mc ms : Nat} {ret : Option FieldType} {own : String} {D : va_G} {ct : Nat → ClassId} {wc : va_W} {sz : Nat} {av : List Value} {Qc : (Nat → Prop) → Array Value → State → Outcome → State → Prop}
    (hy : plainName y.cls = true) (hw : ws = Cond.code y cc maxL ret :: ws') (ho : y.cls = own) (hn : (lg_sl av).length ≤ maxL)
    (body : ∀ (p : Program) (e : Env) (s : State) (m : MethodId) (args : Array Value) (below : List Frame) (meth : Method) (c : Code) (ls : Array Slot) (A : Nat → Prop), meth.name = y.name → cr_NI s → cr_FA A s s.heap → cr_Cx p s m meth c args own ws cc maxL ret D ct → cr_wd D A s wc s.heap [] → lv_has ls maxL (lv_args 0 av) →
      W p l e rm s m args below meth c s.heap [] 0 0 (MQ below (Qc A) args s mc ms A) (F0 m 0 ls [])) : Met l y ws rm (cr_pI D ct wc sz av) (Qc (va_A wc sz)) mc ms (va_A wc sz) := by
  refine Met.ofW (cc := cc) (maxL := maxL) (ret := ret) hy hw ?_
  intro p e s m args below meth c s₁ B hml hv
  obtain ⟨rfl, hsz, hP, hK, hD0, hN, hNI, hFA⟩ := hv
  have hin := (name_of_methodNamed B.named B.method).1
  subst ho; subst hsz
  have hl := lv_entry av (n := maxL) hn
  rw [lg_entry_eq]
  exact body p e s m _ below meth c _ _ hin hNI hFA ⟨B.exec, B.bytes, hml, findClass_of_methodNamed B.named, atoms_spec (ws := ws) B.pre, B.returns, B.notSynchronized, hK, hN⟩ ⟨hP, hD0.self, va_S.rf, fun q h => Or.inr h⟩ hl
section CRI
variable {p : Program} {l : Launch} {e : Env} {R : Room} {s : State} {m : MethodId} {args : Array Value} {below : List Frame} {meth : Method} {c : Code} {H : Heap} {locs : List Loc} {cells slots : Nat} {Q : State → Prop}
variable {own : String} {Ts : List Cond} {cc : ByteArray} {nL : Nat} {ret : Option FieldType} {D : va_G} {ct : Nat → ClassId} {A : Nat → Prop} {ws : va_W} {pc : Nat} {ls : Array Slot} {rest : List Value} {b : Nat}
variable {y : MethodName} {bytes : ByteArray} {maxL index mc ms : Nat} {wy : List Cond} {rm : Room} {wc wr : va_W} {S : Type} {post : S → Prop} {w1 : S → va_W} {host : String}
theorem cr_iN (C : cr_Cx p s m meth c args own Ts cc nL ret D ct) (hW : cr_wd D A s (wc ++ wr) H locs) (hM : Met l y wy rm (cr_pW D ct wc H.size [.ref b]) (cr_QV D wc H.size post w1) mc ms (va_A wc H.size)) (cw : va_CN R s args own index y host bytes maxL none wy rm mc ms 0 ∧ y.name = "<init>" ∧ (Cond.instanceMethod y).before args s = true)
    (hls : ls.size = nL) (hr : (rest.map fun v => v.category).sum ≤ 8) (hdg : decode cc pc = .ok (.invokespecial index, 3)) (hf : cells + mc ≤ R.cells ∧ slots + ms ≤ R.slots)
    (kk : ∀ (u : S) (H1 : Heap) (locs1 : List Loc), post u → cr_wd D A s (w1 u ++ wr) H1 locs1 → W p l e R s m args below meth c H1 locs1 (cells + mc) (slots + ms) Q (F0 m (pc + 3) ls rest)) : W p l e R s m args below meth c H locs cells slots Q (F0 m pc ls (.ref b :: rest)) := by
  obtain ⟨hx, hb, hml, hown, hts, -, -, hK, hN⟩ := C
  obtain ⟨hP0, hD0, hF⟩ := cr_sub0 hW
  refine va_callv (va_runIN (As := []) (rest := rest) ⟨hx, hb, hml, hown, hts⟩ hM cw ⟨cr_blindW, fun U hU hWm => ⟨rfl, by rw [hU], by rw [hU]; exact hP0, va_K.moved hWm.alike hK, hD0, cr_NW.warm hWm hN⟩⟩ rfl rfl hls rfl (lv_room hr) hdg hf) hW.2.2.1 (fun q _ h => hF q h) hF (fun u t H1 locs1 ht hvm hw hB hz1 hk1 hS1 => ?_)
  exact kk u H1 locs1 hw (cr_backP hW (List.Perm.refl _) hk1 hF (by rw [← ht]; exact hB.1) hB.2 hS1)
theorem cr_iNI (hNI : cr_NI s) (hFA : cr_FA A s s.heap) (C : cr_Cx p s m meth c args own Ts cc nL ret D ct) (hW : cr_wd D A s (wc ++ wr) H locs) (hM : Met l y wy rm (cr_pI D ct wc H.size [.ref b]) (cr_QV D wc H.size post w1) mc ms (va_A wc H.size)) (cw : va_CN R s args own index y host bytes maxL none wy rm mc ms 0 ∧ y.name = "<init>" ∧ (Cond.instanceMethod y).before args s = true)
    (hls : ls.size = nL) (hr : (rest.map fun v => v.category).sum ≤ 8) (hdg : decode cc pc = .ok (.invokespecial index, 3)) (hf : cells + mc ≤ R.cells ∧ slots + ms ≤ R.slots)
    (kk : ∀ (u : S) (H1 : Heap) (locs1 : List Loc), post u → cr_wd D A s (w1 u ++ wr) H1 locs1 → W p l e R s m args below meth c H1 locs1 (cells + mc) (slots + ms) Q (F0 m (pc + 3) ls rest)) : W p l e R s m args below meth c H locs cells slots Q (F0 m pc ls (.ref b :: rest)) := by
  obtain ⟨hx, hb, hml, hown, hts, -, -, hK, hN⟩ := C
  obtain ⟨hP0, hD0, hF⟩ := cr_sub0 hW
  refine va_callv (va_runIN (As := []) (rest := rest) ⟨hx, hb, hml, hown, hts⟩ hM cw ⟨cr_blindI, fun U hU hWm => ⟨rfl, by rw [hU], by rw [hU]; exact hP0, va_K.moved hWm.alike hK, hD0, cr_NW.warm hWm hN, cr_NI.warm hWm hNI, cr_FA.go hFA hW.2.2.1 hF hWm.alike hU⟩⟩ rfl rfl hls rfl (lv_room hr) hdg hf) hW.2.2.1 (fun q _ h => hF q h) hF (fun u t H1 locs1 ht hvm hw hB hz1 hk1 hS1 => ?_)
  exact kk u H1 locs1 hw (cr_backP hW (List.Perm.refl _) hk1 hF (by rw [← ht]; exact hB.1) hB.2 hS1)
theorem cr_clone {t N : Nat} {f : Nat → Int32} (hE : cr_E t N f A s s.heap) (hcl : va_Nw (.castable "[I" "java/lang/Cloneable") s) (C : cr_Cx p s m meth c args own Ts cc nL ret D ct) (hW : cr_wd D A s ws H locs) (hls : ls.size = nL)
    (hlink : Cond.methodLink own index ⟨"[I", "clone", "()Ljava/lang/Object;"⟩ ∈ Ts) (hsame : Cond.sameMethod "[I" "java/lang/Object" "clone" "()Ljava/lang/Object;" ∈ Ts) (hnat : Cond.native ⟨"java/lang/Object", "clone", "()Ljava/lang/Object;"⟩ ∈ Ts) (hinst : Cond.instanceMethod ⟨"java/lang/Object", "clone", "()Ljava/lang/Object;"⟩ ∈ Ts) (hsel : Cond.selects "[I" ⟨"[I", "clone", "()Ljava/lang/Object;"⟩ ⟨"java/lang/Object", "clone", "()Ljava/lang/Object;"⟩ ∈ Ts)
    (hframes : 1 ≤ R.frames) (hlocals : (rest.map fun v => v.category).sum + 14 ≤ R.locals) (hcells : cells + 1 ≤ R.cells) (hslots : slots + N ≤ R.slots) (hdg : decode cc pc = .ok (.invokevirtual index, 3))
    (kk : ∀ (q : Nat) (H1 : Heap), cr_wd D A s (ws ++ [(q, .inl (ct 0, N, .inl f))]) H1 locs → W p l e R s m args below meth c H1 locs (cells + 1) (slots + N) Q (F0 m (pc + 3) ls (.ref q :: rest))) : W p l e R s m args below meth c H locs cells slots Q (F0 m pc ls (.ref t :: rest)) := by
  obtain ⟨hx, hb, hml, hown, hts, -, -, hK, hN⟩ := C
  obtain ⟨hP, hD, hS, hA⟩ := hW
  obtain ⟨cell, g1, g2, g3, g4, g5, g6⟩ := hE
  have hRA : s.vm.findClass "[I" = some (ct 0) := (hK.2 0 (ct 0, .int) rfl).2
  have hcc : cell.cls = ct 0 := Option.some.inj (g2.symm.trans hRA)
  have hsz : cell.slots.size = N := by rw [g5]; exact arrV_size _ _ _
  have hcellE : ({ cls := cell.cls, slots := cell.slots } : Cell) = vp_cell (ct 0) (N, .inl f) := by rw [g5, hcc]; rfl
  obtain ⟨c0, t0', f1, f2, f3⟩ := Cond.castable_spec (va_Nw.use (A := args) rfl hcl)
  have hc0 : c0 = cell.cls := Option.some.inj (f1.symm.trans g2)
  subst hc0
  intro T hT X
  have hlt : t < s.heap.size := (Array.getElem?_eq_some_iff.mp g1).1
  have hcellT : T.heap[t]? = some cell := by rw [hT, hS.2.1 t hlt g6]; exact g1
  obtain ⟨-, kA, hkA, comp, hkind⟩ := State.isArrayOf_alike X.warmed.alike ((hK.2 0 (ct 0, .int) rfl).1 0 (fun _ => .null))
  obtain ⟨-, kS, hkS, compS, hkindS⟩ := (hK.2 0 (ct 0, .int) rfl).1 0 (fun _ => .null)
  obtain ⟨vm', X', st⟩ := X.cloneArray hx hown (hts _ hlink) (hts _ hsame) (hts _ hnat) (hts _ hinst) (hts _ hsel) (a := t) (cell := cell) hcellT g3 g4 g2 f2 f3
    (fun i v hv => by
      have hk' : T.vm.classes[cell.cls]? = some kA := by rw [hcc]; exact hkA
      have hi : i < N := by rw [← hsz]; exact (Array.getElem?_eq_some_iff.mp hv).1
      rw [g5, arrV_read _ _ hi] at hv
      cases hv
      simp [State.fitsSlot, State.slotType?, hk', hkind]
      rfl)
    (g := F0 m pc ls (.ref t :: rest)) rfl (by rw [hml]; exact hls) rfl (by rw [hb]; exact hdg) hframes (by show 2 * 0 + _ + 14 ≤ _; omega) hcells (by rw [hsz]; exact hslots) (hloader := by rw [hcc]; exact Vm.clonesLoader_of_array hkS hkindS)
  rw [hcellE, hsz] at X'
  generalize hH1 : H.push (vp_cell (ct 0) (N, .inl f)) = H1
  have z1 : H1.size = H.size + 1 := by rw [← hH1, Array.size_push]
  have e1 : H1[H.size]? = some (vp_cell (ct 0) (N, .inl f)) := by rw [← hH1, Array.getElem?_push_size]
  have o1 : ∀ q : Nat, q < H.size → H1[q]? = H[q]? := fun q hq => by rw [← hH1, Array.getElem?_push, if_neg (Nat.ne_of_lt hq)]
  have hk : ∀ (k : Nat) (y : Nat × va_E), ws[k]? = some y → H1[y.1]? = H[y.1]? := fun k y hy => o1 y.1 ((hP k y hy).lt)
  obtain ⟨u, b1, b2⟩ := kk H.size H1 ⟨(hP.kept hk).app (fun k y hy => by
      have hz : k < 1 := (List.getElem?_eq_some_iff.mp hy).1
      rw [show k = 0 by omega] at hy
      cases hy
      exact e1), hD.push hP rfl (hA _ hS.1), ⟨Nat.le_trans hS.1 (by omega), fun y h1 h2 => (o1 y (Nat.lt_of_lt_of_le h1 hS.1)).trans (hS.2.1 y h1 h2), hS.2.2⟩, hA⟩
    ((T.setVm vm').pushCell (vp_cell (ct 0) (N, .inl f))) (by rw [← hH1, ← hT]; rfl) X'
  refine ⟨u, st u ?_, b2⟩
  rw [hcellE, hT]
  exact b1
theorem cr_castI (C : cr_Cx p s m meth c args own Ts cc nL ret D ct) (hP : va_P D vwCl ws H) (q0 : Nat) {q : Nat} {x : vp_A} (ha : ws[q0]? = some (q, .inl (ct 0, x))) (hlink : Cond.classLink own index "[I" ∈ Ts) (hdg : decode cc pc = .ok (.checkcast index, 3))
    (k : W p l e R s m args below meth c H locs cells slots Q (F0 m (pc + 3) ls (.ref q :: rest))) : W p l e R s m args below meth c H locs cells slots Q (F0 m pc ls (.ref q :: rest)) := by
  obtain ⟨hx, hb, hml, hown, hts, -, -, hK, hN⟩ := C
  exact va_castA hx hb hown (hts _ hlink) hP q0 ha (hK.2 0 (ct 0, .int) rfl).2 hdg k
end CRI
