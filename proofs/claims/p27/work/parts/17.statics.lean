/-! the static arrays of the outer class -/
def cr_least : Nat → Int32 := fun j => if j < 2 then 1 else 0
def cr_most : Nat → Int32 := fun j => if j = 0 then 250 else if j = 1 then 4095 else if j = 4 then 999 else 50
def cr_NF (U : State) : Prop := va_Nw (.fieldLinkNest RX3 140 "CupReceipts" "LEAST_SETTINGS" "[I" "CupReceipts") U ∧ va_Nw (.fieldLinkNest RX3 143 "CupReceipts" "MOST_SETTINGS" "[I" "CupReceipts") U
theorem cr_NF.warm {s U : State} (hW : s.WarmedH U.vm) (h : cr_NF s) : cr_NF U := ⟨va_Nw.warmF hW h.1, va_Nw.warmF hW h.2⟩
theorem cr_NF.same {u U : State} (e : u.vm = U.vm) (h : cr_NF u) : cr_NF U := ⟨va_Nw.same rfl e h.1, va_Nw.same rfl e h.2⟩
def cr_ST (A : Nat → Prop) (U : State) (H : Heap) : Prop := ∃ t1 t2 : Nat, va_Z "CupReceipts" "LEAST_SETTINGS" "[I" (.ref t1) A U H ∧ va_T .int t1 5 (fun j => .int (cr_least j)) A U H ∧ va_Z "CupReceipts" "MOST_SETTINGS" "[I" (.ref t2) A U H ∧ va_T .int t2 5 (fun j => .int (cr_most j)) A U H
theorem cr_ST.go {A B : Nat → Prop} {s U : State} {H : Heap} {locs : List Loc} (h : cr_ST A s s.heap) (hS : va_S A s.heap H locs) (hAB : ∀ q, B q → A q) (hW : s.vm.Alike U.vm) (hU : U.heap = H) : cr_ST B U U.heap := by
  obtain ⟨t1, t2, h1, h2, h3, h4⟩ := h
  have hq : ∀ a : Nat, a < s.heap.size → ¬ A a → H[a]? = s.heap[a]? := hS.2.1
  rw [hU]
  exact ⟨t1, t2, ((h1.kept hq).narrow hAB).moved hW, ((h2.kept hq).narrow hAB).moved hW, ((h3.kept hq).narrow hAB).moved hW, ((h4.kept hq).narrow hAB).moved hW⟩
theorem cr_ST.blind {A : Nat → Prop} {U U' : State} {H : Heap} (h : cr_ST A U H) (hv : U.vm = U'.vm) : cr_ST A U' H := by
  obtain ⟨t1, t2, h1, h2, h3, h4⟩ := h
  have ha : U.vm.Alike U'.vm := by rw [hv]; exact Vm.Alike.refl _
  exact ⟨t1, t2, h1.moved ha, h2.moved ha, h3.moved ha, h4.moved ha⟩
abbrev cr_pS (D : va_G) (ct : Nat → ClassId) (wc : va_W) (sz : Nat) (av : List Value) : Array Value → State → Prop := va_Pc av (fun U => U.heap.size = sz ∧ va_P D vwCl wc U.heap ∧ va_K D vwCl (cr_TY ct) U ∧ va_D (fun _ => True) wc ∧ cr_NW U ∧ cr_NF U ∧ cr_ST (va_A wc sz) U U.heap)
theorem cr_blindS {D : va_G} {ct : Nat → ClassId} {wc : va_W} {sz : Nat} {av : List Value} : FrameBlind (cr_pS D ct wc sz av) := fun a U g mk q => by
  obtain ⟨q0, q1, q2, q3, q4, q5, q6, q7⟩ := q
  exact ⟨q0, q1, q2, va_K.moved (u := U) (U := U.calling g mk a) (Vm.Alike.refl U.vm) q3, q4, cr_NW.same (u := U) (U := U.calling g mk a) rfl q5, cr_NF.same (u := U) (U := U.calling g mk a) rfl q6, cr_ST.blind (U' := U.calling g mk a) q7 rfl⟩
theorem cr_metS {l : Launch} {y : MethodName} {ws ws' : List Cond} {rm : Room} {cc : ByteArray} {maxL : Nat} {ret : Option FieldType} {own : String} {D : va_G} {ct : Nat → ClassId} {wc : va_W} {sz : Nat} {av : List Value} {Qc : (Nat → Prop) → Array Value → State → Outcome → State → Prop}
    (hy : plainName y.cls = true) (hw : ws = Cond.code y cc maxL ret :: ws') (ho : y.cls = own) (hn : (lg_sl av).length ≤ maxL)
    (body : ∀ (p : Program) (e : Env) (s : State) (m : MethodId) (args : Array Value) (below : List Frame) (meth : Method) (c : Code) (ls : Array Slot) (A : Nat → Prop), cr_NF s → cr_ST A s s.heap → cr_Cx p s m meth c args own ws cc maxL ret D ct → cr_wd D A s wc s.heap [] → lv_has ls maxL (lv_args 0 av) →
      W p l e rm s m args below meth c s.heap [] 0 0 (MQ below (Qc A) args s 0 0 A) (F0 m 0 ls [])) : Met l y ws rm (cr_pS D ct wc sz av) (Qc (va_A wc sz)) 0 0 (va_A wc sz) := by
  refine Met.ofW (cc := cc) (maxL := maxL) (ret := ret) hy hw ?_
  intro p e s m args below meth c s₁ B hml hv
  obtain ⟨rfl, hsz, hP, hK, hD0, hN, hNF, hST⟩ := hv
  subst ho; subst hsz
  have hl := lv_entry av (n := maxL) hn
  rw [lg_entry_eq]
  exact body p e s m _ below meth c _ _ hNF hST ⟨B.exec, B.bytes, hml, findClass_of_methodNamed B.named, atoms_spec (ws := ws) B.pre, B.returns, B.notSynchronized, hK, hN⟩ ⟨hP, hD0.self, va_S.rf, fun q h => Or.inr h⟩ hl
section CRST
variable {p : Program} {l : Launch} {e : Env} {R : Room} {s : State} {m : MethodId} {args : Array Value} {below : List Frame} {meth : Method} {c : Code} {H : Heap} {locs : List Loc} {cells slots : Nat} {Q : State → Prop}
variable {own : String} {Ts : List Cond} {cc : ByteArray} {nL : Nat} {ret : Option FieldType} {D : va_G} {ct : Nat → ClassId} {A : Nat → Prop} {ws : va_W} {pc : Nat} {ls : Array Slot} {rest st : List Value} {a b : Nat}
variable {y : MethodName} {bytes : ByteArray} {maxL n index nb : Nat} {rt : Option FieldType} {wy : List Cond} {rm : Room} {Cn : String} {As : List Value} {wc : va_W} {ci : Nat} {fs : List Value} {T : u_T} {N : Nat}
theorem cr_vSB {S : Type} {q : Int32 × S} {w1 : S → va_W} (hNF : cr_NF s) (hST : cr_ST A s s.heap) (C : cr_Cx p s m meth c args own Ts cc nL ret D ct) (hW : cr_wd D A s ws H locs) (hM : Met l y wy rm (cr_pS D ct wc H.size (.ref b :: As)) (cr_QW D wc H.size (fun r (u : S) => (r, u) = q) w1) 0 0 (va_A wc H.size)) (cw : CallW R s args own Cn index y bytes maxL rt wy rm 0 0 n) (bC bR : List Nat) (Ls : List va_W) (w2 : va_W) (L2 : List va_W)
    (hL : Ls.length = nb ∧ Ls.flatten = ws) (hL2 : L2.length = nb ∧ L2.flatten = w2) (hwc : (bC.filterMap (fun i => Ls[i]?)).flatten = wc) (hw1 : (bC.filterMap (fun i => L2[i]?)).flatten = w1 q.2) (hwr : bR.filterMap (fun i => L2[i]?) = bR.filterMap (fun i => Ls[i]?)) (hps : (bC ++ bR).Perm (List.range nb)) (q0 : Nat) (he : ws[q0]? = some (b, .inr (ci, fs))) (hc : vwCl[ci]? = some (Cn, T, N))
    (hn : As.length = n) (hls : ls.size = nL) (hst : st = As.reverse ++ .ref b :: rest) (hr : (rest.map fun v => v.category).sum ≤ 8) (hdg : decode cc pc = .ok (.invokevirtual index, 3)) (hf : cells ≤ R.cells ∧ slots ≤ R.slots)
    (kk : ∀ (H1 : Heap) (locs1 : List Loc), cr_wd D A s w2 H1 locs1 → W p l e R s m args below meth c H1 locs1 cells slots Q (F0 m (pc + 3) ls (.int q.1 :: rest))) : W p l e R s m args below meth c H locs cells slots Q (F0 m pc ls st) := by
  obtain ⟨hx, hb, hml, hown, hts, -, -, hK, hN⟩ := C
  have hp1 := cr_blk (bC ++ bR) hL.1 hps
  rw [List.filterMap_append, List.flatten_append, hL.2, hwc] at hp1
  have hWc := hW.perm hp1
  obtain ⟨hP0, hD0, hF⟩ := cr_sub0 hWc
  refine va_calli (va_runV (As := As) (rest := rest) ⟨hx, hb, hml, hown, hts⟩ hM cw ⟨cr_blindS, va_recv hK hW.1 hc he, fun U hU hWm => ⟨rfl, by rw [hU], by rw [hU]; exact hP0, va_K.moved hWm.alike hK, hD0, cr_NW.warm hWm hN, cr_NF.warm hWm hNF, cr_ST.go hST hW.2.2.1 hF hWm.alike hU⟩⟩ rfl hn hls hst (lv_room hr) hdg hf) hW.2.2.1 (fun q _ h => hF q h) hF (fun r u t H1 locs1 ht hvm hw hB hz1 hk1 hS1 => ?_)
  subst hw
  have hp2 := cr_blk (bC ++ bR) hL2.1 hps
  rw [List.filterMap_append, List.flatten_append, hL2.2, hw1, hwr] at hp2
  exact kk H1 locs1 (cr_backP hWc hp2.symm hk1 hF (by rw [← ht]; exact hB.1) hB.2 hS1)
end CRST
