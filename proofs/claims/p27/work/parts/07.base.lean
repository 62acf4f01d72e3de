/-! ===== the state of an object: component (the field's slot), index, int; worlds of the claim's objects ===== -/
abbrev cr_V : Type := Nat → Nat → Int32
def cr_c (v : cr_V) (c : Nat) (f : Nat → Int32) : cr_V := fun k => cond (Nat.beq k c) f (v k)
abbrev cr_i (v : cr_V) (c : Nat) (x : Int32) : cr_V := cr_c v c (fun _ => x)
abbrev cr_a (v : cr_V) (c : Nat) (k : Nat) (x : Int32) : cr_V := cr_c v c (upd (v c) k x)
/-- an index's number, under a name that nothing unfolds -/
theorem cr_xE : ∃ f : Int32 → Nat, ∀ i, f i = i.toNatClampNeg := ⟨_, fun _ => rfl⟩
noncomputable def cr_x : Int32 → Nat := Classical.choose cr_xE
theorem cr_xe (i : Int32) : i.toNatClampNeg = cr_x i := (Classical.choose_spec cr_xE i).symm
def cr_in (i : Int32) (n : Nat) : Bool := decide (¬ (i < 0 ∨ n ≤ i.toNatClampNeg))
theorem cr_in_of {i : Int32} {n : Nat} (h : cr_in i n = true) : vp_in i n := of_decide_eq_true (p := ¬ (i < 0 ∨ n ≤ i.toNatClampNeg)) h
abbrev cr_TY (ct : Nat → ClassId) : List (ClassId × FieldType) := [(ct 0, .int), (ct 1, .boolean), (ct 2, .char), (ct 3, .object "CupReceipts$House")]
abbrev cr_wK (ct : Nat → ClassId) (a : Nat → Nat) (v : cr_V) : va_W := [(a 0, .inr (0, [.ref (a 1), .ref (a 2), .int (v 2 0)])), (a 1, .inl (ct 0, 6, .inl (v 0))), (a 2, .inl (ct 0, 6, .inl (v 1)))]
abbrev cr_wL (ct : Nat → ClassId) (a : Nat → Nat) (v : cr_V) : va_W := [(a 0, .inr (4, [.ref (a 1), .ref (a 2), .ref (a 3), .ref (a 4), .int (v 4 0), .int (v 5 0)])), (a 1, .inl (ct 0, 12, .inl (v 0))), (a 2, .inl (ct 0, 12, .inl (v 1))), (a 3, .inl (ct 0, 12, .inl (v 2))), (a 4, .inl (ct 0, 12, .inl (v 3)))]
abbrev cr_wH (ct : Nat → ClassId) (a aL aK : Nat → Nat) (v vL vK : cr_V) : va_W := [(a 0, .inr (3, [.ref (aL 0), .ref (aK 0), .ref (a 3), .ref (a 4), .int (v 4 0), .int (v 5 0), .int (v 6 0), .int (v 7 0), .int (v 8 0)])), (a 3, .inl (ct 0, 4, .inl (v 2))), (a 4, .inl (ct 0, 5, .inl (v 3)))] ++ (cr_wL ct aL vL ++ cr_wK ct aK vK)
abbrev cr_wD (ct : Nat → ClassId) (a : Nat → Nat) (v : cr_V) : va_W := [(a 0, .inr (1, [.ref (a 1), .ref (a 2), .int (v 2 0), .int (v 3 0), .int (v 4 0), .int (v 5 0), .int (v 6 0), .int (v 7 0), .ref (a 9), .ref (a 10), .ref (a 11), .ref (a 12)])), (a 1, .inl (ct 0, 12, .inl (v 0))), (a 2, .inl (ct 0, 12, .inl (v 1))), (a 9, .inl (ct 1, 12, .inl (v 8))), (a 10, .inl (ct 0, 12, .inl (v 9))), (a 11, .inl (ct 0, 12, .inl (v 10))), (a 12, .inl (ct 0, 12, .inl (v 11)))]
abbrev cr_wO (ct : Nat → ClassId) (a : Nat → Nat) (v : cr_V) : va_W := [(a 0, .inr (5, [.ref (a 1), .int (v 1 0), .int (v 2 0), .int (v 3 0), .int (v 4 0), .int (v 5 0), .int (v 6 0), .ref (a 8)])), (a 1, .inl (ct 2, 60, .inl (v 0))), (a 8, .inl (ct 0, 4, .inl (v 7)))]
abbrev cr_wR (ct : Nat → ClassId) (a : Nat → Nat) (v : cr_V) (r : Nat → Nat → Nat → Nat) (x : Nat → Nat → cr_V) : va_W := [(a 0, .inr (2, [.ref (a 1), .int (v 1 0)])), (a 1, .inl (ct 3, 4, .inr (.inr (.inr (.inr (fun j => some (r j 0 0)))))))] ++ (cr_wH ct (r 0 0) (r 0 1) (r 0 2) (x 0 0) (x 0 1) (x 0 2) ++ (cr_wH ct (r 1 0) (r 1 1) (r 1 2) (x 1 0) (x 1 1) (x 1 2) ++ (cr_wH ct (r 2 0) (r 2 1) (r 2 2) (x 2 0) (x 2 1) (x 2 2) ++ cr_wH ct (r 3 0) (r 3 1) (r 3 2) (x 3 0) (x 3 1) (x 3 2))))
abbrev cr_wX (ct : Nat → ClassId) (a : Nat → Nat → Nat) (r : Nat → Nat → Nat → Nat) (h hl hk t tl tk hs : cr_V) (x : Nat → Nat → cr_V) (d o : cr_V) : va_W := (a 0 0, .inr (6, [.ref (a 1 0), .ref (a 4 0), .ref (a 7 0), .ref (a 8 0), .ref (a 9 0)])) :: (cr_wH ct (a 1) (a 2) (a 3) h hl hk ++ (cr_wH ct (a 4) (a 5) (a 6) t tl tk ++ (cr_wR ct (a 7) hs r x ++ (cr_wD ct (a 8) d ++ cr_wO ct (a 9) o))))
abbrev cr_wA (ct : Nat → ClassId) (a : Nat → Nat) (v : cr_V) : va_W := [(a 0, .inl (ct 0, 81, .inl (v 0)))]
abbrev cr_wM (ct : Nat → ClassId) (a : Nat → Nat) (v : cr_V) : va_W := [(a 0, .inr (7, [.ref (a 1), .ref (a 2), .ref (a 3), .int (v 3 0), .int (v 4 0), .ref (a 6), .int (v 6 0), .ref (a 8), .ref (a 9), .int (v 9 0), .int (v 10 0), .int (v 11 0), .int (v 12 0), .int (v 13 0), .int (v 14 0), .int (v 15 0), .int (v 16 0), .ref (a 18)])), (a 1, .inl (ct 0, 81, .inl (v 0))), (a 2, .inl (ct 0, 324, .inl (v 1))), (a 3, .inl (ct 0, 81, .inl (v 2))), (a 6, .inl (ct 0, 60, .inl (v 5))), (a 8, .inl (ct 0, 12, .inl (v 7))), (a 9, .inl (ct 0, 12, .inl (v 8))), (a 18, .inl (ct 0, 4, .inl (v 17)))]
/-- the private methods of the outer class that nested classes call -/
def cr_NW (U : State) : Prop := va_Nw (.methodLinkNest RX1 91 yX6_bandOf "CupReceipts") U ∧ va_Nw (.methodLinkNest RX3 154 yX6_bandOf "CupReceipts") U ∧ va_Nw (.methodLinkNest RX3 66 yX6_isWithin "CupReceipts") U ∧ True
theorem cr_NW.warm {s U : State} (hW : s.WarmedH U.vm) (h : cr_NW s) : cr_NW U := ⟨va_Nw.warmM hW h.1, va_Nw.warmM hW h.2.1, va_Nw.warmM hW h.2.2.1, trivial⟩
theorem cr_NW.same {u U : State} (e : u.vm = U.vm) (h : cr_NW u) : cr_NW U := ⟨va_Nw.same rfl e h.1, va_Nw.same rfl e h.2.1, va_Nw.same rfl e h.2.2.1, trivial⟩
/-- what holds in a method's body all along -/
def cr_Cx (p : Program) (s : State) (m : MethodId) (meth : Method) (c : Code) (args : Array Value) (own : String) (Ts : List Cond) (cc : ByteArray) (nL : Nat) (ret : Option FieldType) (D : va_G) (ct : Nat → ClassId) : Prop :=
  p.tables.exec = Jvm.exec ∧ c.code = cc ∧ c.maxLocals = nL ∧ s.vm.findClass own = some m.cls ∧ (∀ w ∈ Ts, w.before args s = true) ∧ meth.sig.returnType = ret ∧ meth.locks = false ∧ va_K D vwCl (cr_TY ct) s ∧ cr_NW s
/-- a world at a heap, and what of it was written since the start -/
def cr_wd (D : va_G) (A : Nat → Prop) (s : State) (ws : va_W) (H : Heap) (locs : List Loc) : Prop := va_P D vwCl ws H ∧ va_D A ws ∧ va_S A s.heap H locs ∧ ∀ q : Nat, s.heap.size ≤ q → A q
abbrev cr_no : Nat → Prop := fun _ => False
/-- a contract's start: a method that only reads, one that writes -/
abbrev cr_pR (D : va_G) (ct : Nat → ClassId) (wc : va_W) (av : List Value) : Array Value → State → Prop := va_Pc av (fun U => va_P D vwCl wc U.heap ∧ va_K D vwCl (cr_TY ct) U ∧ cr_NW U)
abbrev cr_pW (D : va_G) (ct : Nat → ClassId) (wc : va_W) (sz : Nat) (av : List Value) : Array Value → State → Prop := va_Pc av (fun U => U.heap.size = sz ∧ va_P D vwCl wc U.heap ∧ va_K D vwCl (cr_TY ct) U ∧ va_D (fun _ => True) wc ∧ cr_NW U)
abbrev cr_at (D : va_G) (A : Nat → Prop) (ws : va_W) (t : State) : Prop := va_P D vwCl ws t.heap ∧ va_D A ws
abbrev cr_QR (post : Int32 → Prop) : Array Value → State → Outcome → State → Prop := va_Qi (fun r (_ : Unit) => post r) (fun _ _ => True) cr_no
abbrev cr_QW {S : Type} (D : va_G) (wc : va_W) (sz : Nat) (post : Int32 → S → Prop) (w : S → va_W) : Array Value → State → Outcome → State → Prop := va_Qi post (fun u t => cr_at D (va_A wc sz) (w u) t) (va_A wc sz)
abbrev cr_QV {S : Type} (D : va_G) (wc : va_W) (sz : Nat) (post : S → Prop) (w : S → va_W) : Array Value → State → Outcome → State → Prop := va_Qv post (fun u t => cr_at D (va_A wc sz) (w u) t) (va_A wc sz)
theorem cr_metR {l : Launch} {y : MethodName} {ws ws' : List Cond} {rm : Room} {cc : ByteArray} {maxL : Nat} {ret : Option FieldType} {own : String} {D : va_G} {ct : Nat → ClassId} {wc : va_W} {av : List Value} {Qc : Array Value → State → Outcome → State → Prop}
    (hy : plainName y.cls = true) (hw : ws = Cond.code y cc maxL ret :: ws') (ho : y.cls = own) (hn : (lg_sl av).length ≤ maxL)
    (body : ∀ (p : Program) (e : Env) (s : State) (m : MethodId) (args : Array Value) (below : List Frame) (meth : Method) (c : Code) (ls : Array Slot), cr_Cx p s m meth c args own ws cc maxL ret D ct → va_P D vwCl wc s.heap → va_S cr_no s.heap s.heap [] → lv_has ls maxL (lv_args 0 av) →
      W p l e rm s m args below meth c s.heap [] 0 0 (MQ below Qc args s 0 0 cr_no) (F0 m 0 ls [])) : Met l y ws rm (cr_pR D ct wc av) Qc 0 0 cr_no := by
  refine Met.ofW (cc := cc) (maxL := maxL) (ret := ret) hy hw ?_
  intro p e s m args below meth c s₁ B hml hv
  obtain ⟨rfl, hP, hK, hN⟩ := hv
  subst ho
  have hl := lv_entry av (n := maxL) hn
  rw [lg_entry_eq]
  exact body p e s m _ below meth c _ ⟨B.exec, B.bytes, hml, findClass_of_methodNamed B.named, atoms_spec (ws := ws) B.pre, B.returns, B.notSynchronized, hK, hN⟩ hP va_S.rf hl
theorem cr_metW {l : Launch} {y : MethodName} {ws ws' : List Cond} {rm : Room} {cc : ByteArray} {maxL : Nat} {ret : Option FieldType} {own : String} {D : va_G} {ct : Nat → ClassId} {wc : va_W} {sz : Nat} {av : List Value} {Qc : (Nat → Prop) → Array Value → State → Outcome → State → Prop}
    (hy : plainName y.cls = true) (hw : ws = Cond.code y cc maxL ret :: ws') (ho : y.cls = own) (hn : (lg_sl av).length ≤ maxL)
    (body : ∀ (p : Program) (e : Env) (s : State) (m : MethodId) (args : Array Value) (below : List Frame) (meth : Method) (c : Code) (ls : Array Slot) (A : Nat → Prop), cr_Cx p s m meth c args own ws cc maxL ret D ct → cr_wd D A s wc s.heap [] → lv_has ls maxL (lv_args 0 av) →
      W p l e rm s m args below meth c s.heap [] 0 0 (MQ below (Qc A) args s 0 0 A) (F0 m 0 ls [])) : Met l y ws rm (cr_pW D ct wc sz av) (Qc (va_A wc sz)) 0 0 (va_A wc sz) := by
  refine Met.ofW (cc := cc) (maxL := maxL) (ret := ret) hy hw ?_
  intro p e s m args below meth c s₁ B hml hv
  obtain ⟨rfl, hsz, hP, hK, hD0, hN⟩ := hv
  subst ho; subst hsz
  have hl := lv_entry av (n := maxL) hn
  rw [lg_entry_eq]
  exact body p e s m _ below meth c _ _ ⟨B.exec, B.bytes, hml, findClass_of_methodNamed B.named, atoms_spec (ws := ws) B.pre, B.returns, B.notSynchronized, hK, hN⟩ ⟨hP, hD0.self, va_S.rf, fun q h => Or.inr h⟩ hl
section CR
variable {p : Program} {l : Launch} {e : Env} {R : Room} {s : State} {m : MethodId} {args : Array Value} {below : List Frame} {meth : Method} {c : Code} {H : Heap} {locs : List Loc} {cells slots : Nat} {Q : State → Prop}
variable {own : String} {Ts : List Cond} {cc : ByteArray} {nL : Nat} {ret : Option FieldType} {D : va_G} {ct : Nat → ClassId} {A : Nat → Prop} {ws : va_W} {pc : Nat} {ls : Array Slot} {rest : List Value} {a : Nat}
theorem cr_get (C : cr_Cx p s m meth c args own Ts cc nL ret D ct) (hP : va_P D vwCl ws H) (q0 : Nat) {ci : Nat} {fs : List Value} (he : ws[q0]? = some (a, .inr (ci, fs))) {Cn : String} {T : u_T} {N : Nat} (hc : vwCl[ci]? = some (Cn, T, N)) (k : Nat) (hk : k < N) (hin : ∀ w ∈ u_ws Cn T N, w ∈ Ts) {index : Nat}
    (hlink : Cond.fieldLink own index (T k).1 (T k).2.1 (T k).2.2.1 ∈ Ts) {v : Value} (hv : fs[k]? = some v) (hdg : decode cc pc = .ok (.getfield index, 3))
    (kk : W p l e R s m args below meth c H locs cells slots Q (F0 m (pc + 3) ls (v :: rest))) : W p l e R s m args below meth c H locs cells slots Q (F0 m pc ls (.ref a :: rest)) := by
  obtain ⟨hx, hb, -, hown, hts, -, -, hK, -⟩ := C
  exact va_get hx hb hts hin hown hK hP q0 he hc k hk (hts _ hlink) (fun _ h9 => h9) hv hdg kk
theorem cr_put (C : cr_Cx p s m meth c args own Ts cc nL ret D ct) (hW : cr_wd D A s ws H locs) (q0 : Nat) {ci : Nat} {fs : List Value} (he : ws[q0]? = some (a, .inr (ci, fs))) {Cn : String} {T : u_T} {N : Nat} (hc : vwCl[ci]? = some (Cn, T, N)) (ty0 : Nat → FieldType) (hty : ∀ k, k < N → parseFieldDescriptor (T k).2.2.1 = some (ty0 k)) (hnm : ∀ a, a < N → ∀ b, b < N → a ≠ b → (T a).2.1 ≠ (T b).2.1)
    (k : Nat) (hk : k < N) (hin : ∀ w ∈ u_ws Cn T N, w ∈ Ts) {index : Nat} (hlink : Cond.fieldLink own index (T k).1 (T k).2.1 (T k).2.2.1 ∈ Ts) (hfin : (T k).2.2.2 = false) {ty : FieldType} (hd : ty0 k = ty) {x : Int32} (hn : narrow ty (.int x) = .int x) (hfit : fits ty (.int x) = true) (hl : k < fs.length) {w' : va_W} (hw : ws.set q0 (a, .inr (ci, fs.set k (.int x))) = w') (hdg : decode cc pc = .ok (.putfield index, 3))
    (kk : ∀ (H1 : Heap) (locs1 : List Loc), cr_wd D A s w' H1 locs1 → W p l e R s m args below meth c H1 locs1 cells slots Q (F0 m (pc + 3) ls rest)) : W p l e R s m args below meth c H locs cells slots Q (F0 m pc ls (.int x :: .ref a :: rest)) := by
  obtain ⟨hx, hb, -, hown, hts, -, -, hK, -⟩ := C
  obtain ⟨hP, hD, hS, hA⟩ := hW
  subst hw
  exact va_put hx hb hts hin ty0 hty hnm hown hK hP hD hS q0 he hc k hk (hts _ hlink) (fun _ h9 => h9) hfin (by rw [hty k hk, hd]) hn hfit hl hdg (fun H1 locs1 h1 h2 h3 => kk H1 locs1 ⟨h1, h2, h3, hA⟩)
theorem cr_ald (C : cr_Cx p s m meth c args own Ts cc nL ret D ct) (hP : va_P D vwCl ws H) (q0 : Nat) {n : Nat} {f : Nat → Int32} (ha : ws[q0]? = some (a, .inl (ct 0, n, .inl f))) {i : Int32} {k : Nat} (hin : cr_in i n = true) (hk : i.toNatClampNeg = k) (hdg : decode cc pc = .ok (.iaload, 1))
    (kk : W p l e R s m args below meth c H locs cells slots Q (F0 m (pc + 1) ls (.int (f k) :: rest))) : W p l e R s m args below meth c H locs cells slots Q (F0 m pc ls (.int i :: .ref a :: rest)) := by
  subst hk
  exact va_iald C.1 C.2.1 C.2.2.2.2.2.2.2.1 hP q0 0 ha rfl (cr_in_of hin) hdg kk
theorem cr_zald (C : cr_Cx p s m meth c args own Ts cc nL ret D ct) (hP : va_P D vwCl ws H) (q0 : Nat) {n : Nat} {f : Nat → Int32} (ha : ws[q0]? = some (a, .inl (ct 1, n, .inl f))) {i : Int32} {k : Nat} (hin : cr_in i n = true) (hk : i.toNatClampNeg = k) (hdg : decode cc pc = .ok (.baload, 1))
    (kk : W p l e R s m args below meth c H locs cells slots Q (F0 m (pc + 1) ls (.int (f k) :: rest))) : W p l e R s m args below meth c H locs cells slots Q (F0 m pc ls (.int i :: .ref a :: rest)) := by
  subst hk
  exact va_zald C.1 C.2.1 C.2.2.2.2.2.2.2.1 hP q0 1 ha rfl (cr_in_of hin) hdg kk
theorem cr_cald (C : cr_Cx p s m meth c args own Ts cc nL ret D ct) (hP : va_P D vwCl ws H) (q0 : Nat) {n : Nat} {f : Nat → Int32} (ha : ws[q0]? = some (a, .inl (ct 2, n, .inl f))) {i : Int32} {k : Nat} (hin : cr_in i n = true) (hk : i.toNatClampNeg = k) (hdg : decode cc pc = .ok (.caload, 1))
    (kk : W p l e R s m args below meth c H locs cells slots Q (F0 m (pc + 1) ls (.int (f k) :: rest))) : W p l e R s m args below meth c H locs cells slots Q (F0 m pc ls (.int i :: .ref a :: rest)) := by
  subst hk
  exact va_cald C.1 C.2.1 C.2.2.2.2.2.2.2.1 hP q0 2 ha rfl (cr_in_of hin) hdg kk
theorem cr_ast (C : cr_Cx p s m meth c args own Ts cc nL ret D ct) (hW : cr_wd D A s ws H locs) (q0 : Nat) {n : Nat} {f : Nat → Int32} (ha : ws[q0]? = some (a, .inl (ct 0, n, .inl f))) {i x : Int32} {k : Nat} (hin : cr_in i n = true) (hk : i.toNatClampNeg = k) {w' : va_W} (hw : ws.set q0 (a, .inl (ct 0, n, .inl (upd f k x))) = w') (hdg : decode cc pc = .ok (.iastore, 1))
    (kk : ∀ (H1 : Heap) (locs1 : List Loc), cr_wd D A s w' H1 locs1 → W p l e R s m args below meth c H1 locs1 cells slots Q (F0 m (pc + 1) ls rest)) : W p l e R s m args below meth c H locs cells slots Q (F0 m pc ls (.int x :: .int i :: .ref a :: rest)) := by
  obtain ⟨hP, hD, hS, hA⟩ := hW
  subst hw; subst hk
  exact va_iast C.1 C.2.1 C.2.2.2.2.2.2.2.1 hP hD hS q0 0 ha rfl (cr_in_of hin) hdg (fun H1 locs1 h1 h2 h3 => kk H1 locs1 ⟨h1, h2, h3, hA⟩)
theorem cr_zast (C : cr_Cx p s m meth c args own Ts cc nL ret D ct) (hW : cr_wd D A s ws H locs) (q0 : Nat) {n : Nat} {f : Nat → Int32} (ha : ws[q0]? = some (a, .inl (ct 1, n, .inl f))) {i x : Int32} {k : Nat} (hin : cr_in i n = true) (hk : i.toNatClampNeg = k) {w' : va_W} (hw : ws.set q0 (a, .inl (ct 1, n, .inl (upd f k (vp_nar .boolean x)))) = w') (hdg : decode cc pc = .ok (.bastore, 1))
    (kk : ∀ (H1 : Heap) (locs1 : List Loc), cr_wd D A s w' H1 locs1 → W p l e R s m args below meth c H1 locs1 cells slots Q (F0 m (pc + 1) ls rest)) : W p l e R s m args below meth c H locs cells slots Q (F0 m pc ls (.int x :: .int i :: .ref a :: rest)) := by
  obtain ⟨hP, hD, hS, hA⟩ := hW
  subst hw; subst hk
  exact va_zast C.1 C.2.1 C.2.2.2.2.2.2.2.1 hP hD hS q0 1 ha rfl (cr_in_of hin) hdg (fun H1 locs1 h1 h2 h3 => kk H1 locs1 ⟨h1, h2, h3, hA⟩)
theorem cr_cast (C : cr_Cx p s m meth c args own Ts cc nL ret D ct) (hW : cr_wd D A s ws H locs) (q0 : Nat) {n : Nat} {f : Nat → Int32} (ha : ws[q0]? = some (a, .inl (ct 2, n, .inl f))) {i x : Int32} {k : Nat} (hin : cr_in i n = true) (hk : i.toNatClampNeg = k) {w' : va_W} (hw : ws.set q0 (a, .inl (ct 2, n, .inl (upd f k (vp_nar .char x)))) = w') (hdg : decode cc pc = .ok (.castore, 1))
    (kk : ∀ (H1 : Heap) (locs1 : List Loc), cr_wd D A s w' H1 locs1 → W p l e R s m args below meth c H1 locs1 cells slots Q (F0 m (pc + 1) ls rest)) : W p l e R s m args below meth c H locs cells slots Q (F0 m pc ls (.int x :: .int i :: .ref a :: rest)) := by
  obtain ⟨hP, hD, hS, hA⟩ := hW
  subst hw; subst hk
  exact va_cast C.1 C.2.1 C.2.2.2.2.2.2.2.1 hP hD hS q0 2 ha rfl (cr_in_of hin) hdg (fun H1 locs1 h1 h2 h3 => kk H1 locs1 ⟨h1, h2, h3, hA⟩)
theorem cr_ldc (C : cr_Cx p s m meth c args own Ts cc nL ret D ct) {index : Nat} {v : Int32} (hconst : Cond.constant own index v ∈ Ts) (hdg : decode cc pc = .ok (.ldc index, 2)) (k : W p l e R s m args below meth c H locs cells slots Q (F0 m (pc + 2) ls (.int v :: rest))) : W p l e R s m args below meth c H locs cells slots Q (F0 m pc ls rest) :=
  lv_ldc C.1 C.2.1 C.2.2.2.1 (C.2.2.2.2.1 _ hconst) hdg k
-- the ends
theorem cr_retR (C : cr_Cx p s m meth c args own Ts cc nL (some .int) D ct) (hS : va_S cr_no s.heap H locs) {post : Int32 → Prop} {v : Int32} (hq : post v) (hdg : decode cc pc = .ok (.ireturn, 1)) : W p l e R s m args below meth c H locs cells slots (MQ below (cr_QR post) args s cells slots cr_no) (F0 m pc ls [.int v]) :=
  W.iret C.1 C.2.1 C.2.2.2.2.2.1 (fun t ht _ => ⟨⟨v, (), rfl, hq, trivial⟩, hS.F ht⟩) hS.2.2 hdg C.2.2.2.2.2.2.1
theorem cr_retRz {ty : FieldType} (C : cr_Cx p s m meth c args own Ts cc nL (some ty) D ct) (hS : va_S cr_no s.heap H locs) {post : Int32 → Prop} {v : Int32} (hn : narrow ty (.int v) = .int v) (hq : post v) (hdg : decode cc pc = .ok (.ireturn, 1)) : W p l e R s m args below meth c H locs cells slots (MQ below (cr_QR post) args s cells slots cr_no) (F0 m pc ls [.int v]) :=
  W.zret C.1 C.2.1 C.2.2.2.2.2.1 hn (fun t ht _ => ⟨⟨v, (), rfl, hq, trivial⟩, hS.F ht⟩) hS.2.2 hdg C.2.2.2.2.2.2.1
theorem cr_retW {S : Type} (C : cr_Cx p s m meth c args own Ts cc nL (some .int) D ct) {post : Int32 → S → Prop} {w : S → va_W} (u : S) (hW : cr_wd D A s (w u) H locs) {v : Int32} (hq : post v u) (hdg : decode cc pc = .ok (.ireturn, 1)) : W p l e R s m args below meth c H locs cells slots (MQ below (va_Qi post (fun u t => cr_at D A (w u) t) A) args s cells slots A) (F0 m pc ls [.int v]) :=
  W.iret C.1 C.2.1 C.2.2.2.2.2.1 (fun t ht _ => ⟨⟨v, u, rfl, hq, by rw [ht]; exact hW.1, hW.2.1⟩, hW.2.2.1.F ht⟩) hW.2.2.1.2.2 hdg C.2.2.2.2.2.2.1
theorem cr_retWz {S : Type} {ty : FieldType} (C : cr_Cx p s m meth c args own Ts cc nL (some ty) D ct) {post : Int32 → S → Prop} {w : S → va_W} (u : S) (hW : cr_wd D A s (w u) H locs) {v : Int32} (hn : narrow ty (.int v) = .int v) (hq : post v u) (hdg : decode cc pc = .ok (.ireturn, 1)) : W p l e R s m args below meth c H locs cells slots (MQ below (va_Qi post (fun u t => cr_at D A (w u) t) A) args s cells slots A) (F0 m pc ls [.int v]) :=
  W.zret C.1 C.2.1 C.2.2.2.2.2.1 hn (fun t ht _ => ⟨⟨v, u, rfl, hq, by rw [ht]; exact hW.1, hW.2.1⟩, hW.2.2.1.F ht⟩) hW.2.2.1.2.2 hdg C.2.2.2.2.2.2.1
theorem cr_retV {S : Type} (C : cr_Cx p s m meth c args own Ts cc nL none D ct) {post : S → Prop} {w : S → va_W} (u : S) (hW : cr_wd D A s (w u) H locs) (hq : post u) (hdg : decode cc pc = .ok (.return_, 1)) : W p l e R s m args below meth c H locs cells slots (MQ below (va_Qv post (fun u t => cr_at D A (w u) t) A) args s cells slots A) (F0 m pc ls []) :=
  W.vret C.1 C.2.1 C.2.2.2.2.2.1 (fun t ht _ => ⟨⟨u, rfl, hq, by rw [ht]; exact hW.1, hW.2.1⟩, hW.2.2.1.F ht⟩) hW.2.2.1.2.2 hdg C.2.2.2.2.2.2.1
end CR
