/-! the law: rows -/
abbrev lwA (s : State) : Nat → Prop := fun q => s.heap.size ≤ q
section CRLW
variable {p : Program} {l : Launch} {e : Env} {R : Room} {s : State} {m : MethodId} {args : Array Value} {below : List Frame} {meth : Method} {c : Code} {H : Heap} {locs : List Loc} {cells slots : Nat} {Q : State → Prop}
variable {own : String} {Ts : List Cond} {cc : ByteArray} {nL : Nat} {ret : Option FieldType} {D : va_G} {ct : Nat → ClassId} {A : Nat → Prop} {ws : va_W} {pc : Nat} {ls : Array Slot} {rest st : List Value} {b : Nat}
variable {y : MethodName} {bytes : ByteArray} {maxL n index : Nat} {rt : Option FieldType} {wy : List Cond} {rm : Room} {Cn : String} {As : List Value} {wc wr : va_W} {ci : Nat} {fs : List Value} {T : u_T} {N : Nat}
theorem lw_ld (C : cr_Cx p s m meth c args own Ts cc nL ret D ct) {Ln : Nat} {xs : Nat → Int32} (hX : va_X b Ln xs s s.heap) (hbl : b < s.heap.size) (hbA : ¬ A b) (hS : va_S A s.heap H locs) {i k : Nat} {x : Int32} (hx : x = nI k) (hik : i + k < Ln) (hL : Ln < 2 ^ 31) (hdg : decode cc pc = .ok (.iaload, 1))
    (kk : W p l e R s m args below meth c H locs cells slots Q (F0 m (pc + 1) ls (.int (xs (i + k)) :: rest))) : W p l e R s m args below meth c H locs cells slots Q (F0 m pc ls (.int (nI i + x) :: .ref b :: rest)) := by
  subst hx
  rw [nI_add]
  refine va_sld C.1 C.2.1 hX hbl hbA hS (vp_in_nI hik hL) hdg ?_
  rw [nI_clamp (by omega)]
  exact kk
theorem lw_ld0 (C : cr_Cx p s m meth c args own Ts cc nL ret D ct) {Ln : Nat} {xs : Nat → Int32} (hX : va_X b Ln xs s s.heap) (hbl : b < s.heap.size) (hbA : ¬ A b) (hS : va_S A s.heap H locs) {i : Nat} (hik : i < Ln) (hL : Ln < 2 ^ 31) (hdg : decode cc pc = .ok (.iaload, 1))
    (kk : W p l e R s m args below meth c H locs cells slots Q (F0 m (pc + 1) ls (.int (xs i) :: rest))) : W p l e R s m args below meth c H locs cells slots Q (F0 m pc ls (.int (nI i) :: .ref b :: rest)) := by
  refine va_sld C.1 C.2.1 hX hbl hbA hS (vp_in_nI hik hL) hdg ?_
  rw [nI_clamp (by omega)]
  exact kk
theorem cr_lW {S : Type} {post : Int32 → S → Prop} {w1 : S → va_W} (C : cr_Cx p s m meth c args own Ts cc nL ret D ct) (hW : cr_wd D A s (wc ++ wr) H locs) (hM : Met l y wy rm (cr_pW D ct wc H.size (.ref b :: As)) (cr_QW D wc H.size post w1) 0 0 (va_A wc H.size)) (cw : CallW R s args own Cn index y bytes maxL rt wy rm 0 0 n) (he : (wc ++ wr)[0]? = some (b, .inr (ci, fs))) (hc : vwCl[ci]? = some (Cn, T, N))
    (hn : As.length = n) (hls : ls.size = nL) (hst : st = As.reverse ++ .ref b :: rest) (hr : (rest.map fun v => v.category).sum ≤ 8) (hdg : decode cc pc = .ok (.invokevirtual index, 3)) (hf : cells ≤ R.cells ∧ slots ≤ R.slots)
    (kk : ∀ (r : Int32) (u : S) (H1 : Heap) (locs1 : List Loc), post r u → cr_wd D A s (w1 u ++ wr) H1 locs1 → W p l e R s m args below meth c H1 locs1 cells slots Q (F0 m (pc + 3) ls (.int r :: rest))) : W p l e R s m args below meth c H locs cells slots Q (F0 m pc ls st) := by
  obtain ⟨hx, hb, hml, hown, hts, -, -, hK, hN⟩ := C
  obtain ⟨hP0, hD0, hF⟩ := cr_sub0 hW
  refine va_calli (va_runV (As := As) (rest := rest) ⟨hx, hb, hml, hown, hts⟩ hM cw ⟨cr_blindW, va_recv hK hW.1 hc he, fun U hU hWm => ⟨rfl, by rw [hU], by rw [hU]; exact hP0, va_K.moved hWm.alike hK, hD0, cr_NW.warm hWm hN⟩⟩ rfl hn hls hst (lv_room hr) hdg hf) hW.2.2.1 (fun q _ h => hF q h) hF (fun r u t H1 locs1 ht hvm hw hB hz1 hk1 hS1 => ?_)
  exact kk r u H1 locs1 hw (cr_backP hW (List.Perm.refl _) hk1 hF (by rw [← ht]; exact hB.1) hB.2 hS1)
theorem cr_lS {S : Type} {post : Int32 → S → Prop} {w1 : S → va_W} (hNF : cr_NF s) (hST : cr_ST A s s.heap) (C : cr_Cx p s m meth c args own Ts cc nL ret D ct) (hW : cr_wd D A s (wc ++ wr) H locs) (hM : Met l y wy rm (cr_pS D ct wc H.size (.ref b :: As)) (cr_QW D wc H.size post w1) 0 0 (va_A wc H.size)) (cw : CallW R s args own Cn index y bytes maxL rt wy rm 0 0 n) (he : (wc ++ wr)[0]? = some (b, .inr (ci, fs))) (hc : vwCl[ci]? = some (Cn, T, N))
    (hn : As.length = n) (hls : ls.size = nL) (hst : st = As.reverse ++ .ref b :: rest) (hr : (rest.map fun v => v.category).sum ≤ 8) (hdg : decode cc pc = .ok (.invokevirtual index, 3)) (hf : cells ≤ R.cells ∧ slots ≤ R.slots)
    (kk : ∀ (r : Int32) (u : S) (H1 : Heap) (locs1 : List Loc), post r u → cr_wd D A s (w1 u ++ wr) H1 locs1 → W p l e R s m args below meth c H1 locs1 cells slots Q (F0 m (pc + 3) ls (.int r :: rest))) : W p l e R s m args below meth c H locs cells slots Q (F0 m pc ls st) := by
  obtain ⟨hx, hb, hml, hown, hts, -, -, hK, hN⟩ := C
  obtain ⟨hP0, hD0, hF⟩ := cr_sub0 hW
  refine va_calli (va_runV (As := As) (rest := rest) ⟨hx, hb, hml, hown, hts⟩ hM cw ⟨cr_blindS, va_recv hK hW.1 hc he, fun U hU hWm => ⟨rfl, by rw [hU], by rw [hU]; exact hP0, va_K.moved hWm.alike hK, hD0, cr_NW.warm hWm hN, cr_NF.warm hWm hNF, cr_ST.go hST hW.2.2.1 hF hWm.alike hU⟩⟩ rfl hn hls hst (lv_room hr) hdg hf) hW.2.2.1 (fun q _ h => hF q h) hF (fun r u t H1 locs1 ht hvm hw hB hz1 hk1 hS1 => ?_)
  exact kk r u H1 locs1 hw (cr_backP hW (List.Perm.refl _) hk1 hF (by rw [← ht]; exact hB.1) hB.2 hS1)
theorem cr_lR {post : Int32 → Prop} (C : cr_Cx p s m meth c args own Ts cc nL ret D ct) (hW : cr_wd D A s (wc ++ wr) H locs) (hM : Met l y wy rm (cr_pR D ct wc (.ref b :: As)) (cr_QR post) 0 0 cr_no) (cw : CallW R s args own Cn index y bytes maxL rt wy rm 0 0 n) (he : (wc ++ wr)[0]? = some (b, .inr (ci, fs))) (hc : vwCl[ci]? = some (Cn, T, N))
    (hn : As.length = n) (hls : ls.size = nL) (hst : st = As.reverse ++ .ref b :: rest) (hr : (rest.map fun v => v.category).sum ≤ 8) (hdg : decode cc pc = .ok (.invokevirtual index, 3)) (hf : cells ≤ R.cells ∧ slots ≤ R.slots)
    (kk : ∀ (r : Int32) (H1 : Heap) (locs1 : List Loc), post r → cr_wd D A s (wc ++ wr) H1 locs1 → W p l e R s m args below meth c H1 locs1 cells slots Q (F0 m (pc + 3) ls (.int r :: rest))) : W p l e R s m args below meth c H locs cells slots Q (F0 m pc ls st) := by
  obtain ⟨hx, hb, hml, hown, hts, -, -, hK, hN⟩ := C
  obtain ⟨hP0, hD0, hF⟩ := cr_sub0 hW
  refine va_calli (va_runV (As := As) (rest := rest) ⟨hx, hb, hml, hown, hts⟩ hM cw ⟨cr_blindR, va_recv hK hW.1 hc he, fun U hU hWm => ⟨rfl, by rw [hU]; exact hP0, va_K.moved hWm.alike hK, cr_NW.warm hWm hN⟩⟩ rfl hn hls hst (lv_room hr) hdg hf) hW.2.2.1 (fun q _ h => h.elim) (fun q h => h.elim) (fun r u t H1 locs1 ht hvm hw hB hz1 hk1 hS1 => ?_)
  exact kk r H1 locs1 hw ⟨hW.1.kept fun k q hq => hk1 q.1 (hW.1 k q hq).lt (fun z => z), hW.2.1, hS1, hW.2.2.2⟩
end CRLW
def lw_Go (p : Program) (L : Launch) (e : Env) (s : State) (m : MethodId) (b : Nat) (below : List Frame) (meth : Method) (c : Code) (D : va_G) (ct : Nat → ClassId) (a : Nat → Nat → Nat) (az : Nat → Nat) (B : Nat) (Q : State → Prop) (ls : Array Slot) : Prop :=
  ∀ (r : Nat → Nat → Nat → Nat) (vh vl vk vt vtl vtk vs : cr_V) (vx : Nat → Nat → cr_V) (vd vo vz : cr_V) (H : Heap) (locs : List Loc), cr_wd D (lwA s) s (cr_wX ct a r vh vl vk vt vtl vtk vs vx vd vo ++ cr_wM ct az vz) H locs → lwR B vh vl vk vs vo vz vx → W p L e room_1 s m #[Value.ref b] below meth c H locs 87 1281 Q (F0 m 856 ls [])
theorem lwR.mono {b b' : Nat} {vh vl vk vs vo vz : cr_V} {vx : Nat → Nat → cr_V} (h : lwR b vh vl vk vs vo vz vx) (hb : b ≤ b') : lwR b' vh vl vk vs vo vz vx := by
  obtain ⟨S, H, T, h1, h2, h3, h4, h5, h6⟩ := h
  exact ⟨S, H, T, h1, h2, h3, h4, h5.mono hb, fun U hU => (h6 U hU).mono hb⟩
