/-! the law's body: what it calls -/
def cl_pX (b Ln : Nat) (xs : Nat → Int32) (As : List Value) : Array Value → State → Prop := va_Pc As (fun U => va_X b Ln xs U U.heap ∧ b < U.heap.size)
theorem cl_blindX {b Ln : Nat} {xs : Nat → Int32} {As : List Value} : FrameBlind (cl_pX b Ln xs As) := fun a U g mk q => by
  obtain ⟨q0, q1, q2⟩ := q
  exact ⟨q0, va_X.moved (u := U) (U := U.calling g mk a) (Vm.Alike.refl U.vm) q1, q2⟩
set_option maxHeartbeats 4000000 in
theorem m_L_cell (L : Launch) {b Ln : Nat} {xs : Nat → Int32} (hL : Ln ≤ 260) {k : Nat} (hk : k < 2 ^ 30) : Met L yL_cell wsL_cell ({ frames := 0, cells := 0, slots := 0, locals := 0 } : Room) (cl_pX b Ln xs [.ref b, .int (nI k)]) (cr_QR (fun _ => True)) 0 0 cr_no := by
  refine Met.ofW (cc := cL_cell) (maxL := 2) (ret := some .int) (by decide) rfl ?_
  intro p e s m args below meth c s₁ B hml hv
  obtain ⟨rfl, hX, hbl⟩ := hv
  have hx := B.exec
  have hb := B.bytes
  have hts := atoms_spec (ws := wsL_cell) B.pre
  have hown := findClass_of_methodNamed B.named
  have hS : va_S cr_no s.heap s.heap [] := va_S.rf
  have hl := lv_entry ([.ref b, .int (nI k)]) (n := 2) (Nat.le_of_ble_eq_true rfl)
  rw [lg_entry_eq]
  generalize (lg_sl ([.ref b, .int (nI k)]) ++ List.replicate (2 - (lg_sl ([.ref b, .int (nI k)])).length) Slot.unset).toArray = ls at hl ⊢
  have hl : lv_has ls 2 [(0, .ref b), (1, .int (nI k))] := hl
  have fin : ∀ (v : Int32) (ls : Array Slot), W p L e ({ frames := 0, cells := 0, slots := 0, locals := 0 } : Room) s m ([.ref b, .int (nI k)] : List Value).toArray below meth c s.heap [] 0 0 (MQ below (cr_QR (fun _ => True)) ([.ref b, .int (nI k)] : List Value).toArray s 0 0 cr_no) (F0 m 18 ls [.int v]) := fun v ls =>
    W.iret hx hb B.returns (fun t ht _ => ⟨⟨v, (), rfl, trivial, trivial⟩, hS.F ht⟩) hS.2.2 dL_cell_18 B.notSynchronized
  refine lv_iload_n hx hb dL_cell_0 rfl (lv_at hl 1 rfl) ?_
  refine lv_aload_n hx hb dL_cell_1 rfl (lv_at hl 0 rfl) ?_
  refine va_slen hx hb hX hbl (fun h => h) hS dL_cell_2 ?_
  refine lv_icmp_ge (tgt := 12) hx hb dL_cell_3 (by decide) (fun c1 => ?_) (fun c1 => ?_)
  · refine lv_ldc hx hb hown (hts (Cond.constant RL 7 40503) (List.mem_of_getElem? (i := 1) rfl)) dL_cell_12 ?_
    refine lv_iload_n hx hb dL_cell_14 rfl (lv_at hl 1 rfl) ?_
    refine lv_iconst (v := 3) hx hb dL_cell_15 (by decide) ?_
    refine lv_iadd hx hb dL_cell_16 ?_
    refine lv_imul hx hb dL_cell_17 ?_
    exact fin _ ls
  · have c2 : ¬ nI Ln ≤ nI k := c1
    have hlt : k < Ln := Nat.lt_of_not_le fun q => c2 (nI_le q (by omega))
    refine lv_aload_n hx hb dL_cell_6 rfl (lv_at hl 0 rfl) ?_
    refine lv_iload_n hx hb dL_cell_7 rfl (lv_at hl 1 rfl) ?_
    refine va_sld hx hb hX hbl (fun h => h) hS (vp_in_nI hlt (by omega)) dL_cell_8 ?_
    refine lv_goto (tgt := 18) hx hb dL_cell_9 (by decide) ?_
    exact fin _ ls
section CLL
variable {p : Program} {l : Launch} {e : Env} {R : Room} {s : State} {m : MethodId} {args : Array Value} {below : List Frame} {meth : Method} {c : Code} {H : Heap} {locs : List Loc} {cells slots : Nat} {Q : State → Prop}
variable {own : String} {Ts : List Cond} {cc : ByteArray} {nL : Nat} {ret : Option FieldType} {D : va_G} {ct : Nat → ClassId} {A : Nat → Prop} {ws : va_W} {pc : Nat} {ls : Array Slot} {rest st : List Value} {a b : Nat}
variable {y : MethodName} {bytes : ByteArray} {maxL n index nb mc ms : Nat} {rt : Option FieldType} {wy : List Cond} {rm : Room} {Cn : String} {As : List Value} {wc : va_W} {ci : Nat} {fs : List Value} {T : u_T} {N : Nat}
theorem cl_cell {Ln : Nat} {xs : Nat → Int32} (C : cr_Cx p s m meth c args own Ts cc nL ret D ct) (hX : va_X b Ln xs s s.heap) (hbl : b < s.heap.size) (hbA : ¬ A b) (hW : cr_wd D A s ws H locs) (hM : Met l y wy rm (cl_pX b Ln xs As) (cr_QR (fun _ => True)) 0 0 cr_no) (cw : CallB R s args own index y bytes maxL rt wy rm 0 0 n ∧ (Cond.static y).before args s = true)
    (hn : As.length = n) (hls : ls.size = nL) (hst : st = As.reverse ++ rest) (hr : (rest.map fun v => v.category).sum ≤ 8) (hdg : decode cc pc = .ok (.invokestatic index, 3)) (hf : cells ≤ R.cells ∧ slots ≤ R.slots)
    (kk : ∀ (r : Int32) (H1 : Heap) (locs1 : List Loc), cr_wd D A s ws H1 locs1 → W p l e R s m args below meth c H1 locs1 cells slots Q (F0 m (pc + 3) ls (.int r :: rest))) : W p l e R s m args below meth c H locs cells slots Q (F0 m pc ls st) := by
  obtain ⟨hx, hb, hml, hown, hts, -, -, hK, hN⟩ := C
  obtain ⟨hP, hD, hS, hA⟩ := hW
  refine va_calli (va_runS (As := As) (rest := rest) ⟨hx, hb, hml, hown, hts⟩ hM cw ⟨cl_blindX, fun U hU hWm => ⟨rfl, by rw [hU]; exact (hX.kept (hS.2.1 b hbl hbA)).moved hWm.alike, by rw [hU]; exact Nat.lt_of_lt_of_le hbl hS.1⟩⟩ rfl hn hls hst (lv_room hr) hdg hf) hS (fun q _ h => h.elim) (fun q h => h.elim) (fun r u t H1 locs1 ht hvm hw hB hz1 hk1 hS1 => ?_)
  exact kk r H1 locs1 ⟨hP.kept fun k q hq => hk1 q.1 (hP k q hq).lt (fun z => z), hD, hS1, hA⟩
/-- a call that takes the whole world, the static arrays, and new cells -/
theorem cl_acts {S X : Type} {q : Int32 × S} {w1 : X × S → va_W} (hNF : cr_NF s) (hST : cr_ST A s s.heap) (C : cr_Cx p s m meth c args own Ts cc nL ret D ct) (hW : cr_wd D A s ws H locs) (hM : Met l y wy rm (cr_pS D ct ws H.size As) (cr_QW D ws H.size (fun r (u : X × S) => (r, u.2) = q) w1) mc ms (va_A ws H.size)) (cw : CallB R s args own index y bytes maxL rt wy rm mc ms n ∧ (Cond.static y).before args s = true)
    (hn : As.length = n) (hls : ls.size = nL) (hst : st = As.reverse ++ rest) (hr : (rest.map fun v => v.category).sum ≤ 8) (hdg : decode cc pc = .ok (.invokestatic index, 3)) (hf : cells + mc ≤ R.cells ∧ slots + ms ≤ R.slots)
    (kk : ∀ (x : X) (H1 : Heap) (locs1 : List Loc), cr_wd D A s (w1 (x, q.2)) H1 locs1 → W p l e R s m args below meth c H1 locs1 (cells + mc) (slots + ms) Q (F0 m (pc + 3) ls (.int q.1 :: rest))) : W p l e R s m args below meth c H locs cells slots Q (F0 m pc ls st) := by
  obtain ⟨hx, hb, hml, hown, hts, -, -, hK, hN⟩ := C
  have hW0 : cr_wd D A s (ws ++ []) H locs := by rw [List.append_nil]; exact hW
  obtain ⟨hP0, hD0, hF⟩ := cr_sub0 hW0
  refine va_calli (va_runS (As := As) (rest := rest) ⟨hx, hb, hml, hown, hts⟩ hM cw ⟨cr_blindS, fun U hU hWm => ⟨rfl, by rw [hU], by rw [hU]; exact hP0, va_K.moved hWm.alike hK, hD0, cr_NW.warm hWm hN, cr_NF.warm hWm hNF, cr_ST.go hST hW.2.2.1 hF hWm.alike hU⟩⟩ rfl hn hls hst (lv_room hr) hdg hf) hW.2.2.1 (fun q _ h => hF q h) hF (fun r u t H1 locs1 ht hvm hw hB hz1 hk1 hS1 => ?_)
  obtain ⟨x, u⟩ := u
  dsimp only at hw
  subst hw
  refine kk x H1 locs1 (cr_backP hW0 ?_ hk1 hF (by rw [← ht]; exact hB.1) hB.2 hS1)
  rw [List.append_nil]
end CLL
