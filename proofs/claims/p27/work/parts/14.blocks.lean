abbrev cr_wX0 (ct : Nat → ClassId) (a : Nat → Nat → Nat) : va_W := [(a 0 0, .inr (6, [.ref (a 1 0), .ref (a 4 0), .ref (a 7 0), .ref (a 8 0), .ref (a 9 0)]))]
/-! worlds as rows of blocks: a call takes some blocks and gives them back -/
theorem cr_nodup {ws : va_W} : (∀ (i j : Nat) (p q : Nat × va_E), ws[i]? = some p → ws[j]? = some q → p.1 = q.1 → i = j) ↔ (ws.map Prod.fst).Nodup := by
  unfold List.Nodup
  rw [List.pairwise_iff_getElem]
  constructor
  · intro h i j hi hj hij he
    simp only [List.length_map] at hi hj
    simp only [List.getElem_map] at he
    have := h i j ws[i] ws[j] (by simp [hi]) (by simp [hj]) he
    omega
  · intro h i j p q hi hj he
    obtain ⟨h1, h2⟩ := List.getElem?_eq_some_iff.mp hi
    obtain ⟨h3, h4⟩ := List.getElem?_eq_some_iff.mp hj
    rcases Nat.lt_trichotomy i j with h5 | h5 | h5
    · have := h i j (by simpa using h1) (by simpa using h3) h5
      simp only [List.getElem_map, h2, h4] at this
      exact absurd he this
    · exact h5
    · have := h j i (by simpa using h3) (by simpa using h1) h5
      simp only [List.getElem_map, h2, h4] at this
      exact absurd he.symm this
theorem cr_permP {D : va_G} {cl : List vw_C} {ws w' : va_W} {H : Heap} (h : va_P D cl ws H) (hp : w'.Perm ws) : va_P D cl w' H := by
  intro k q hk
  obtain ⟨i, hi⟩ := List.getElem?_of_mem (hp.mem_iff.mp (List.mem_of_getElem? hk))
  exact h i q hi
theorem cr_permD {A : Nat → Prop} {ws w' : va_W} (h : va_D A ws) (hp : w'.Perm ws) : va_D A w' := by
  refine ⟨cr_nodup.mpr ((hp.map Prod.fst).nodup_iff.mpr (cr_nodup.mp h.1)), fun k q hk => ?_⟩
  obtain ⟨i, hi⟩ := List.getElem?_of_mem (hp.mem_iff.mp (List.mem_of_getElem? hk))
  exact h.2 i q hi
theorem cr_rangeF {α : Type} (L : List α) : (List.range L.length).filterMap (fun i => L[i]?) = L := by
  induction L with
  | nil => rfl
  | cons x L ih =>
    rw [List.length_cons, List.range_succ_eq_map, List.filterMap_cons, List.filterMap_map]
    show x :: _ = _
    congr 1
theorem cr_blk {Ls : List va_W} {n : Nat} (ps : List Nat) (hn : Ls.length = n) (hp : ps.Perm (List.range n)) : (ps.filterMap (fun i => Ls[i]?)).flatten.Perm Ls.flatten := by
  subst hn
  have h := hp.filterMap (fun i => Ls[i]?)
  rw [cr_rangeF] at h
  exact h.flatten
section CRB
variable {p : Program} {l : Launch} {e : Env} {R : Room} {s : State} {m : MethodId} {args : Array Value} {below : List Frame} {meth : Method} {c : Code} {H : Heap} {locs : List Loc} {cells slots : Nat} {Q : State → Prop}
variable {own : String} {Ts : List Cond} {cc : ByteArray} {nL : Nat} {ret : Option FieldType} {D : va_G} {ct : Nat → ClassId} {A : Nat → Prop} {ws : va_W} {pc : Nat} {ls : Array Slot} {rest st : List Value} {a b : Nat}
variable {y : MethodName} {bytes : ByteArray} {maxL n index nb : Nat} {rt : Option FieldType} {wy : List Cond} {rm : Room} {Cn : String} {As : List Value} {wc : va_W} {ci : Nat} {fs : List Value} {T : u_T} {N : Nat}
theorem cr_wd.perm {w' : va_W} (hW : cr_wd D A s ws H locs) (hp : w'.Perm ws) : cr_wd D A s w' H locs := ⟨cr_permP hW.1 hp, cr_permD hW.2.1 hp, hW.2.2.1, hW.2.2.2⟩
/-- what a callee's world becomes, beside the rest -/
theorem cr_backP {wr w1 w2 : va_W} {H1 : Heap} {locs1 : List Loc} (hW : cr_wd D A s (wc ++ wr) H locs) (hp : w2.Perm (w1 ++ wr))
    (hk : ∀ q : Nat, q < H.size → ¬ va_A wc H.size q → H1[q]? = H[q]?) (hF : ∀ q, va_A wc H.size q → A q) (hP1 : va_P D vwCl w1 H1) (hD1 : va_D (va_A wc H.size) w1) (hS1 : va_S A s.heap H1 locs1) : cr_wd D A s w2 H1 locs1 := by
  obtain ⟨hP, hD, hS, hA⟩ := hW
  have hmem : ∀ q ∈ wr, ∃ k, (wc ++ wr)[wc.length + k]? = some q ∧ wr[k]? = some q := fun q hq => by
    obtain ⟨k, hk⟩ := List.getElem?_of_mem hq
    exact ⟨k, by rw [List.getElem?_append_right (by omega)]; simpa using hk, hk⟩
  have apart : ∀ (k : Nat) (q : Nat × va_E), wr[k]? = some q → q.1 < H.size ∧ ¬ va_A wc H.size q.1 := by
    intro k q hq
    have h1 : (wc ++ wr)[wc.length + k]? = some q := by rw [List.getElem?_append_right (by omega)]; simpa using hq
    have hl := (hP _ q h1).lt
    refine ⟨hl, fun h => ?_⟩
    rcases h with ⟨k2, e, h⟩ | h
    · have hk2 : k2 < wc.length := (List.getElem?_eq_some_iff.mp h).1
      have h2 : (wc ++ wr)[k2]? = some (q.1, e) := by rw [List.getElem?_append_left hk2]; exact h
      have := hD.1 _ _ q (q.1, e) h1 h2 rfl
      omega
    · omega
  have hPr : va_P D vwCl wr H1 := fun k q hq => by
    have h1 : (wc ++ wr)[wc.length + k]? = some q := by rw [List.getElem?_append_right (by omega)]; simpa using hq
    exact (hP _ q h1).kept (hk q.1 (apart k q hq).1 (apart k q hq).2)
  have hDr : va_D A wr := by
    refine ⟨fun i j p q hi hj hpq => ?_, fun k q hq => ?_⟩
    · have h1 : (wc ++ wr)[wc.length + i]? = some p := by rw [List.getElem?_append_right (by omega)]; simpa using hi
      have h2 : (wc ++ wr)[wc.length + j]? = some q := by rw [List.getElem?_append_right (by omega)]; simpa using hj
      have := hD.1 _ _ p q h1 h2 hpq
      omega
    · have h1 : (wc ++ wr)[wc.length + k]? = some q := by rw [List.getElem?_append_right (by omega)]; simpa using hq
      exact hD.2 _ q h1
  refine ⟨cr_permP (va_P.app hP1 hPr) hp, cr_permD (va_D.app (hD1.weaken (fun k q _ h => hF q.1 h)) hDr (fun i j x y hx hy hxy => ?_)) hp, hS1, hA⟩
  exact (apart j y hy).2 (by rw [← hxy]; exact hD1.2 i x hx)
theorem cr_sub0 {wr : va_W} (hW : cr_wd D A s (wc ++ wr) H locs) : va_P D vwCl wc H ∧ va_D (fun _ => True) wc ∧ ∀ q, va_A wc H.size q → A q := by
  obtain ⟨hP, hD, hS, hA⟩ := hW
  have key : ∀ (k : Nat) (q : Nat × va_E), wc[k]? = some q → (wc ++ wr)[k]? = some q := fun k q hq => by rw [List.getElem?_append_left (List.getElem?_eq_some_iff.mp hq).1]; exact hq
  refine ⟨fun k q hq => hP k q (key k q hq), ⟨fun i j p q hi hj h => hD.1 i j p q (key i p hi) (key j q hj) h, fun _ _ _ => trivial⟩, fun q h => ?_⟩
  rcases h with ⟨k, e, h⟩ | h
  · exact hD.2 k (q, e) (key k _ h)
  · exact hA q (Nat.le_trans hS.1 h)
theorem cr_vVB {S : Type} {q : S} {w1 : S → va_W} (C : cr_Cx p s m meth c args own Ts cc nL ret D ct) (hW : cr_wd D A s ws H locs) (hM : Met l y wy rm (cr_pW D ct wc H.size (.ref b :: As)) (cr_QV D wc H.size (fun u : S => u = q) w1) 0 0 (va_A wc H.size)) (cw : CallW R s args own Cn index y bytes maxL rt wy rm 0 0 n) (bC bR : List Nat) (Ls : List va_W) (w2 : va_W) (L2 : List va_W)
    (hL : Ls.length = nb ∧ Ls.flatten = ws) (hL2 : (L2).length = nb ∧ (L2).flatten = w2) (hwc : (bC.filterMap (fun i => Ls[i]?)).flatten = wc) (hw1 : (bC.filterMap (fun i => (L2)[i]?)).flatten = w1 q) (hwr : bR.filterMap (fun i => (L2)[i]?) = bR.filterMap (fun i => Ls[i]?)) (hps : (bC ++ bR).Perm (List.range nb)) (q0 : Nat) (he : ws[q0]? = some (b, .inr (ci, fs))) (hc : vwCl[ci]? = some (Cn, T, N))
    (hn : As.length = n) (hls : ls.size = nL) (hst : st = As.reverse ++ .ref b :: rest) (hr : (rest.map fun v => v.category).sum ≤ 8) (hdg : decode cc pc = .ok (.invokevirtual index, 3)) (hf : cells ≤ R.cells ∧ slots ≤ R.slots)
    (kk : ∀ (H1 : Heap) (locs1 : List Loc), cr_wd D A s (w2) H1 locs1 → W p l e R s m args below meth c H1 locs1 cells slots Q (F0 m (pc + 3) ls rest)) : W p l e R s m args below meth c H locs cells slots Q (F0 m pc ls st) := by
  obtain ⟨hx, hb, hml, hown, hts, -, -, hK, hN⟩ := C
  have hp1 := cr_blk (bC ++ bR) hL.1 hps
  rw [List.filterMap_append, List.flatten_append, hL.2, hwc] at hp1
  have hWc := hW.perm hp1
  obtain ⟨hP0, hD0, hF⟩ := cr_sub0 hWc
  refine va_callv (va_runV (As := As) (rest := rest) ⟨hx, hb, hml, hown, hts⟩ hM cw ⟨cr_blindW, va_recv hK hW.1 hc he, fun U hU hWm => ⟨rfl, by rw [hU], by rw [hU]; exact hP0, va_K.moved hWm.alike hK, hD0, cr_NW.warm hWm hN⟩⟩ rfl hn hls hst (lv_room hr) hdg hf) hW.2.2.1 (fun q _ h => hF q h) hF (fun u t H1 locs1 ht hvm hw hB hz1 hk1 hS1 => ?_)
  subst hw
  have hp2 := cr_blk (bC ++ bR) (hL2).1 hps
  rw [List.filterMap_append, List.flatten_append, (hL2).2, hw1, hwr] at hp2
  exact kk H1 locs1 (cr_backP hWc hp2.symm hk1 hF (by rw [← ht]; exact hB.1) hB.2 hS1)
theorem cr_vWB {S : Type} {q : Int32 × S} {w1 : S → va_W} (C : cr_Cx p s m meth c args own Ts cc nL ret D ct) (hW : cr_wd D A s ws H locs) (hM : Met l y wy rm (cr_pW D ct wc H.size (.ref b :: As)) (cr_QW D wc H.size (fun r (u : S) => (r, u) = q) w1) 0 0 (va_A wc H.size)) (cw : CallW R s args own Cn index y bytes maxL rt wy rm 0 0 n) (bC bR : List Nat) (Ls : List va_W) (w2 : va_W) (L2 : List va_W)
    (hL : Ls.length = nb ∧ Ls.flatten = ws) (hL2 : (L2).length = nb ∧ (L2).flatten = w2) (hwc : (bC.filterMap (fun i => Ls[i]?)).flatten = wc) (hw1 : (bC.filterMap (fun i => (L2)[i]?)).flatten = w1 q.2) (hwr : bR.filterMap (fun i => (L2)[i]?) = bR.filterMap (fun i => Ls[i]?)) (hps : (bC ++ bR).Perm (List.range nb)) (q0 : Nat) (he : ws[q0]? = some (b, .inr (ci, fs))) (hc : vwCl[ci]? = some (Cn, T, N))
    (hn : As.length = n) (hls : ls.size = nL) (hst : st = As.reverse ++ .ref b :: rest) (hr : (rest.map fun v => v.category).sum ≤ 8) (hdg : decode cc pc = .ok (.invokevirtual index, 3)) (hf : cells ≤ R.cells ∧ slots ≤ R.slots)
    (kk : ∀ (H1 : Heap) (locs1 : List Loc), cr_wd D A s (w2) H1 locs1 → W p l e R s m args below meth c H1 locs1 cells slots Q (F0 m (pc + 3) ls (.int q.1 :: rest))) : W p l e R s m args below meth c H locs cells slots Q (F0 m pc ls st) := by
  obtain ⟨hx, hb, hml, hown, hts, -, -, hK, hN⟩ := C
  have hp1 := cr_blk (bC ++ bR) hL.1 hps
  rw [List.filterMap_append, List.flatten_append, hL.2, hwc] at hp1
  have hWc := hW.perm hp1
  obtain ⟨hP0, hD0, hF⟩ := cr_sub0 hWc
  refine va_calli (va_runV (As := As) (rest := rest) ⟨hx, hb, hml, hown, hts⟩ hM cw ⟨cr_blindW, va_recv hK hW.1 hc he, fun U hU hWm => ⟨rfl, by rw [hU], by rw [hU]; exact hP0, va_K.moved hWm.alike hK, hD0, cr_NW.warm hWm hN⟩⟩ rfl hn hls hst (lv_room hr) hdg hf) hW.2.2.1 (fun q _ h => hF q h) hF (fun r u t H1 locs1 ht hvm hw hB hz1 hk1 hS1 => ?_)
  subst hw
  have hp2 := cr_blk (bC ++ bR) (hL2).1 hps
  rw [List.filterMap_append, List.flatten_append, (hL2).2, hw1, hwr] at hp2
  exact kk H1 locs1 (cr_backP hWc hp2.symm hk1 hF (by rw [← ht]; exact hB.1) hB.2 hS1)
theorem cr_vVBr {S X : Type} {q : S} {w1 : X × S → va_W} (C : cr_Cx p s m meth c args own Ts cc nL ret D ct) (hW : cr_wd D A s ws H locs) (hM : Met l y wy rm (cr_pW D ct wc H.size (.ref b :: As)) (cr_QV D wc H.size (fun u : X × S => u.2 = q) w1) 0 0 (va_A wc H.size)) (cw : CallW R s args own Cn index y bytes maxL rt wy rm 0 0 n) (bC bR : List Nat) (Ls : List va_W) (w2 : X → va_W) (L2 : X → List va_W)
    (hL : Ls.length = nb ∧ Ls.flatten = ws) (hL2 : ∀ x, (L2 x).length = nb ∧ (L2 x).flatten = w2 x) (hwc : (bC.filterMap (fun i => Ls[i]?)).flatten = wc) (hw1 : ∀ x, (bC.filterMap (fun i => (L2 x)[i]?)).flatten = w1 (x, q)) (hwr : ∀ x, bR.filterMap (fun i => (L2 x)[i]?) = bR.filterMap (fun i => Ls[i]?)) (hps : (bC ++ bR).Perm (List.range nb)) (q0 : Nat) (he : ws[q0]? = some (b, .inr (ci, fs))) (hc : vwCl[ci]? = some (Cn, T, N))
    (hn : As.length = n) (hls : ls.size = nL) (hst : st = As.reverse ++ .ref b :: rest) (hr : (rest.map fun v => v.category).sum ≤ 8) (hdg : decode cc pc = .ok (.invokevirtual index, 3)) (hf : cells ≤ R.cells ∧ slots ≤ R.slots)
    (kk : ∀ (x : X) (H1 : Heap) (locs1 : List Loc), cr_wd D A s (w2 x) H1 locs1 → W p l e R s m args below meth c H1 locs1 cells slots Q (F0 m (pc + 3) ls rest)) : W p l e R s m args below meth c H locs cells slots Q (F0 m pc ls st) := by
  obtain ⟨hx, hb, hml, hown, hts, -, -, hK, hN⟩ := C
  have hp1 := cr_blk (bC ++ bR) hL.1 hps
  rw [List.filterMap_append, List.flatten_append, hL.2, hwc] at hp1
  have hWc := hW.perm hp1
  obtain ⟨hP0, hD0, hF⟩ := cr_sub0 hWc
  refine va_callv (va_runV (As := As) (rest := rest) ⟨hx, hb, hml, hown, hts⟩ hM cw ⟨cr_blindW, va_recv hK hW.1 hc he, fun U hU hWm => ⟨rfl, by rw [hU], by rw [hU]; exact hP0, va_K.moved hWm.alike hK, hD0, cr_NW.warm hWm hN⟩⟩ rfl hn hls hst (lv_room hr) hdg hf) hW.2.2.1 (fun q _ h => hF q h) hF (fun u t H1 locs1 ht hvm hw hB hz1 hk1 hS1 => ?_)
  obtain ⟨x, u⟩ := u
  dsimp only at hw
  subst hw
  have hp2 := cr_blk (bC ++ bR) (hL2 x).1 hps
  rw [List.filterMap_append, List.flatten_append, (hL2 x).2, hw1 x, hwr x] at hp2
  exact kk x H1 locs1 (cr_backP hWc hp2.symm hk1 hF (by rw [← ht]; exact hB.1) hB.2 hS1)
theorem cr_vWBr {S X : Type} {q : Int32 × S} {w1 : X × S → va_W} (C : cr_Cx p s m meth c args own Ts cc nL ret D ct) (hW : cr_wd D A s ws H locs) (hM : Met l y wy rm (cr_pW D ct wc H.size (.ref b :: As)) (cr_QW D wc H.size (fun r (u : X × S) => (r, u.2) = q) w1) 0 0 (va_A wc H.size)) (cw : CallW R s args own Cn index y bytes maxL rt wy rm 0 0 n) (bC bR : List Nat) (Ls : List va_W) (w2 : X → va_W) (L2 : X → List va_W)
    (hL : Ls.length = nb ∧ Ls.flatten = ws) (hL2 : ∀ x, (L2 x).length = nb ∧ (L2 x).flatten = w2 x) (hwc : (bC.filterMap (fun i => Ls[i]?)).flatten = wc) (hw1 : ∀ x, (bC.filterMap (fun i => (L2 x)[i]?)).flatten = w1 (x, q.2)) (hwr : ∀ x, bR.filterMap (fun i => (L2 x)[i]?) = bR.filterMap (fun i => Ls[i]?)) (hps : (bC ++ bR).Perm (List.range nb)) (q0 : Nat) (he : ws[q0]? = some (b, .inr (ci, fs))) (hc : vwCl[ci]? = some (Cn, T, N))
    (hn : As.length = n) (hls : ls.size = nL) (hst : st = As.reverse ++ .ref b :: rest) (hr : (rest.map fun v => v.category).sum ≤ 8) (hdg : decode cc pc = .ok (.invokevirtual index, 3)) (hf : cells ≤ R.cells ∧ slots ≤ R.slots)
    (kk : ∀ (x : X) (H1 : Heap) (locs1 : List Loc), cr_wd D A s (w2 x) H1 locs1 → W p l e R s m args below meth c H1 locs1 cells slots Q (F0 m (pc + 3) ls (.int q.1 :: rest))) : W p l e R s m args below meth c H locs cells slots Q (F0 m pc ls st) := by
  obtain ⟨hx, hb, hml, hown, hts, -, -, hK, hN⟩ := C
  have hp1 := cr_blk (bC ++ bR) hL.1 hps
  rw [List.filterMap_append, List.flatten_append, hL.2, hwc] at hp1
  have hWc := hW.perm hp1
  obtain ⟨hP0, hD0, hF⟩ := cr_sub0 hWc
  refine va_calli (va_runV (As := As) (rest := rest) ⟨hx, hb, hml, hown, hts⟩ hM cw ⟨cr_blindW, va_recv hK hW.1 hc he, fun U hU hWm => ⟨rfl, by rw [hU], by rw [hU]; exact hP0, va_K.moved hWm.alike hK, hD0, cr_NW.warm hWm hN⟩⟩ rfl hn hls hst (lv_room hr) hdg hf) hW.2.2.1 (fun q _ h => hF q h) hF (fun r u t H1 locs1 ht hvm hw hB hz1 hk1 hS1 => ?_)
  obtain ⟨x, u⟩ := u
  dsimp only at hw
  subst hw
  have hp2 := cr_blk (bC ++ bR) (hL2 x).1 hps
  rw [List.filterMap_append, List.flatten_append, (hL2 x).2, hw1 x, hwr x] at hp2
  exact kk x H1 locs1 (cr_backP hWc hp2.symm hk1 hF (by rw [← ht]; exact hB.1) hB.2 hS1)
end CRB
