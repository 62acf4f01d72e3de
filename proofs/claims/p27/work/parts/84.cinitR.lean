def cr_xV : Nat → Nat → cr_V := fun _ i => match i with | 0 => cr_hV | _ => cr_zV
section CRQ
variable {p : Program} {l : Launch} {e : Env} {R : Room} {s : State} {m : MethodId} {args : Array Value} {below : List Frame} {meth : Method} {c : Code} {H : Heap} {locs : List Loc} {cells slots : Nat} {Q : State → Prop}
variable {own : String} {Ts : List Cond} {cc : ByteArray} {nL : Nat} {ret : Option FieldType} {D : va_G} {ct : Nat → ClassId} {A : Nat → Prop} {ws : va_W} {pc : Nat} {ls : Array Slot} {rest : List Value} {a : Nat}
theorem cr_newq (C : cr_Cx p s m meth c args own Ts cc nL ret D ct) (hW : cr_wd D A s ws H locs) {Cn : String} {index : Nat} (hclink : Cond.classLink own index Cn ∈ Ts) (hover : va_AO Cn s) (t0 : Nat) {cA : ClassId} (ht : (cr_TY ct)[t0]? = some (cA, .object Cn))
    {n : Int32} {N' : Nat} (hn : ¬ n < 0) (hN : n.toNatClampNeg = N') (hbytes : N' * 4 ≤ 536870912) (hcells : cells + 1 ≤ R.cells) (hslots : slots + N' ≤ R.slots) (hdg : decode cc pc = .ok (.anewarray index, 3))
    (kk : ∀ (q : Nat) (H1 : Heap), cr_wd D A s (ws ++ [(q, .inl (cA, N', .inr (.inr (.inr (.inr (fun _ => none))))))]) H1 locs → W p l e R s m args below meth c H1 locs (cells + 1) (slots + N') Q (F0 m (pc + 3) ls (.ref q :: rest))) : W p l e R s m args below meth c H locs cells slots Q (F0 m pc ls (.int n :: rest)) := by
  obtain ⟨hx, hb, hml2, hown, hts, -, -, hK, hNW⟩ := C
  obtain ⟨hP, hD, hS, hA⟩ := hW
  refine va_newq hx hb hown (hts _ hclink) hover hK hP hD hS hA hn hN hbytes hcells hslots hdg (fun q cB H1 hK1 hP1 hD1 hS1 => ?_)
  have h1 := (hK1.2 (cr_TY ct).length (cB, .object Cn) (by rw [List.getElem?_append_right (Nat.le_refl _), Nat.sub_self]; rfl)).2
  have h2 := (hK.2 t0 (cA, .object Cn) ht).2
  have he : cB = cA := cr_RAi h1 h2
  subst he
  exact kk q H1 ⟨hP1, hD1, hS1, hA⟩
theorem cr_astN (C : cr_Cx p s m meth c args own Ts cc nL ret D ct) (hW : cr_wd D A s ws H locs) (q0 t0 qk ci : Nat) {cA : ClassId} {r : vw_C} {n v k : Nat} {vs : List Value} {f : Nat → Option Nat} (ha : ws[q0]? = some (a, .inl (cA, n, .inr (.inr (.inr (.inr f)))))) (ht : (cr_TY ct)[t0]? = some (cA, .object r.1)) (hv : ws[qk]? = some (v, .inr (ci, vs))) (hc : vwCl[ci]? = some r) {i : Int32} (hin : vp_in i n) (hk : i.toNatClampNeg = k) (w' : va_W) (hw : ws.set q0 (a, .inl (cA, n, .inr (.inr (.inr (.inr (va_up f k (some v))))))) = w') (hdg : decode cc pc = .ok (.aastore, 1))
    (kk : ∀ (H1 : Heap) (locs1 : List Loc), cr_wd D A s w' H1 locs1 → W p l e R s m args below meth c H1 locs1 cells slots Q (F0 m (pc + 1) ls rest)) : W p l e R s m args below meth c H locs cells slots Q (F0 m pc ls (.ref v :: .int i :: .ref a :: rest)) := by
  obtain ⟨hx, hb, hml2, hown, hts, -, -, hK, hNW⟩ := C
  obtain ⟨hP, hD, hS, hA⟩ := hW
  subst hw; subst hk
  exact va_astq hx hb hK hP hD hS q0 t0 qk ci ha ht hv hc hin hdg (fun H1 locs1 h1 h2 h3 => kk H1 locs1 ⟨h1, h2, h3, hA⟩)
theorem cr_cellq (hW : cr_wd D A s ws H locs) (k : Nat) {cA : ClassId} {n : Nat} {f g : Nat → Option Nat} (he : ws[k]? = some (a, .inl (cA, n, .inr (.inr (.inr (.inr f)))))) (h : ∀ j, j < n → f j = g j) (w' : va_W) (hw : ws.set k (a, .inl (cA, n, .inr (.inr (.inr (.inr g))))) = w') : cr_wd D A s w' H locs := by
  obtain ⟨hP, hD, hS, hA⟩ := hW
  subst hw
  have hk := (List.getElem?_eq_some_iff.mp he).1
  have hcell : vp_cell cA (n, .inr (.inr (.inr (.inr g)))) = vp_cell cA (n, .inr (.inr (.inr (.inr f)))) := by
    show arrV cA n (fun j => va_rf (g j)) = arrV cA n (fun j => va_rf (f j))
    unfold arrV
    congr 1
    apply Array.ext
    · simp
    · intro i h1 h2
      simp at h1
      simp [h i h1]
  refine ⟨fun j q hq => ?_, ⟨fun i j p q hi hj hpq => ?_, fun j q hq => ?_⟩, hS, hA⟩
  · by_cases hj : k = j
    · subst hj
      rw [List.getElem?_set_self hk] at hq
      cases hq
      have h0 : H[a]? = some (vp_cell cA (n, .inr (.inr (.inr (.inr f))))) := hP k _ he
      rw [← hcell] at h0
      exact h0
    · rw [List.getElem?_set_ne hj] at hq
      exact hP j q hq
  · have key : ∀ (i : Nat) (p : Nat × va_E), (ws.set k (a, .inl (cA, n, .inr (.inr (.inr (.inr g))))))[i]? = some p → ∃ p', ws[i]? = some p' ∧ p'.1 = p.1 := fun i p hi => by
      by_cases h1 : k = i
      · subst h1
        rw [List.getElem?_set_self hk] at hi
        cases hi
        exact ⟨_, he, rfl⟩
      · rw [List.getElem?_set_ne h1] at hi
        exact ⟨p, hi, rfl⟩
    obtain ⟨p', a1, a2⟩ := key i p hi
    obtain ⟨q', b1, b2⟩ := key j q hj
    exact hD.1 i j p' q' a1 b1 (by rw [a2, b2]; exact hpq)
  · by_cases hj : k = j
    · subst hj
      rw [List.getElem?_set_self hk] at hq
      cases hq
      have h9 := hD.2 k _ he
      exact h9
    · rw [List.getElem?_set_ne hj] at hq
      exact hD.2 j q hq
end CRQ
set_option maxHeartbeats 4000000 in
set_option maxRecDepth 100000 in
theorem m_X2_init (L : Launch) (D : va_G) (ct : Nat → ClassId) (h0 sz : Nat) : Met L yX2_init wsX2_init ({ frames := 3, cells := 45, slots := 352, locals := 52 } : Room) (cr_pI D ct [(h0, .inr (2, [.null, .int 0]))] sz [.ref h0]) (cr_QV D [(h0, .inr (2, [.null, .int 0]))] sz (fun u : (Nat → Nat) × (Nat → Nat → Nat → Nat) => u.1 0 = h0) (fun u => cr_wR ct u.1 cr_zV u.2 cr_xV)) 45 352 (va_A [(h0, .inr (2, [.null, .int 0]))] sz) := by
  have hinX2 : ∀ w ∈ wsX20, w ∈ wsX2_init := fun w h => List.mem_cons_of_mem _ (List.mem_append_left _ (List.mem_append_left _ (List.mem_append_left _ (List.mem_append_right _ h))))
  have hinX3 : ∀ w ∈ wsX30, w ∈ wsX2_init := fun w h => List.mem_cons_of_mem _ (List.mem_append_left _ (List.mem_append_left _ (List.mem_append_right _ h)))
  refine cr_metI (Qc := fun A => va_Qv (fun u : (Nat → Nat) × (Nat → Nat → Nat → Nat) => u.1 0 = h0) (fun u t => cr_at D A (cr_wR ct u.1 cr_zV u.2 cr_xV) t) A) (by decide) rfl rfl (Nat.le_of_ble_eq_true rfl) ?_
  intro p e s m args below meth c ls A hin hNI hFA C hW hl
  obtain ⟨hx, hb, hml, hown, hts, hr, hlocks, hK, hN⟩ := id C
  have hl : lv_has ls 2 [(0, .ref h0)] := hl
  refine lv_aload_n hx hb dX2_init_0 rfl (lv_at hl 0 rfl) ?_
  refine cr_oi C hl.1 (List.mem_of_getElem? (i := 1) rfl) (List.mem_of_getElem? (i := 2) rfl) (List.mem_of_getElem? (i := 3) rfl) dX2_init_1 ⟨Nat.le_of_ble_eq_true rfl, Nat.le_of_ble_eq_true rfl⟩ ?_
  refine lv_aload_n hx hb dX2_init_4 rfl (lv_at hl 0 rfl) ?_
  refine lv_iconst (v := 4) hx hb dX2_init_5 (by decide) ?_
  refine cr_newq C hW (Cn := RX3) (N' := 4) (List.mem_of_getElem? (i := 4) rfl) hNI.2.2.2.2.2.2.2.2.2 3 rfl (by decide) (by decide) (Nat.le_of_ble_eq_true rfl) (Nat.le_of_ble_eq_true rfl) (Nat.le_of_ble_eq_true rfl) dX2_init_6 (fun q H hW => ?_)
  refine cr_putq C hin hW 0 rfl rfl tyX2 tyX2_ok nmX2 0 (by decide) hinX2 (List.mem_of_getElem? (i := 5) rfl) rfl rfl rfl rfl rfl (Nat.le_of_ble_eq_true rfl) [(h0, .inr (2, [.ref q, .int 0])), (q, .inl (ct 3, 4, .inr (.inr (.inr (.inr (fun _ => none))))))] rfl dX2_init_9 (fun H locs hW => ?_)
  refine lv_iconst (v := 0) hx hb dX2_init_12 (by decide) ?_
  refine lv_istore_n (lv' := [(1, .int 0), (0, .ref h0)]) hx hb dX2_init_13 rfl hl (by decide) rfl (fun ls hl => ?_)
  refine lv_iload_n hx hb dX2_init_14 rfl (lv_at hl 0 rfl) ?_
  refine lv_iconst (v := 4) hx hb dX2_init_15 (by decide) ?_
  refine lv_icmp_ge (tgt := 38) hx hb dX2_init_16 (by decide) (fun c9 => absurd c9 (by decide)) (fun c9 => ?_)
  refine lv_aload_n hx hb dX2_init_19 rfl (lv_at hl 1 rfl) ?_
  refine cr_get C hW.1 0 rfl rfl 0 (by decide) hinX2 (List.mem_of_getElem? (i := 5) rfl) (v := .ref q) rfl dX2_init_20 ?_
  refine lv_iload_n hx hb dX2_init_23 rfl (lv_at hl 0 rfl) ?_
  refine cr_new C hW hinX3 tyX3 tyX3_ok (List.mem_of_getElem? (i := 4) rfl) (List.mem_of_getElem? (i := 6) rfl) (List.mem_of_getElem? (i := 7) rfl) (ci := 3) rfl (fs := [.null, .null, .null, .null, .int 0, .int 0, .int 0, .int 0, .int 0]) (fun j hj => by rcases (show j = 0 ∨ j = 1 ∨ j = 2 ∨ j = 3 ∨ j = 4 ∨ j = 5 ∨ j = 6 ∨ j = 7 ∨ j = 8 by omega) with rfl | rfl | rfl | rfl | rfl | rfl | rfl | rfl | rfl <;> rfl) (Nat.le_of_ble_eq_true rfl) (Nat.le_of_ble_eq_true rfl) dX2_init_24 (fun h1 H hW => ?_)
  refine lv_dup hx hb dX2_init_27 rfl ?_
  have hW := hW.perm List.perm_append_comm
  refine cr_iNI hNI hFA C hW (m_X3_init L D ct h1 H.size) ⟨va_cnB 0 hts gX2_init_X3_init_n17 rfl rfl rfl hNI.2.2.1 (hts _ (List.mem_of_getElem? (i := 7) rfl)) (by decide +kernel) ⟨Nat.le_of_ble_eq_true rfl, Nat.le_of_ble_eq_true rfl⟩, rfl, hts _ (List.mem_of_getElem? (i := 8) rfl)⟩ hl.1 (Nat.le_of_ble_eq_true rfl) dX2_init_28 ⟨Nat.le_of_ble_eq_true rfl, Nat.le_of_ble_eq_true rfl⟩ (fun u0 H locs hu hV => ?_)
  subst hu
  have hW := hV
  refine cr_astN C hW 12 3 0 3 rfl rfl rfl rfl (cr_in_of (by decide)) (k := 0) (by decide) ((cr_wH ct u0.1 u0.2.1 u0.2.2 cr_hV cr_zV cr_zV) ++ ([(h0, .inr (2, [.ref q, .int 0])), (q, .inl (ct 3, 4, .inr (.inr (.inr (.inr (va_up (fun _ => none) 0 (some (u0.1 0))))))))])) rfl dX2_init_31 (fun H locs hW => ?_)
  refine lv_iinc (v := 1) (lv' := [(1, .int 1), (0, .ref h0)]) hx hb dX2_init_32 hl (k := 0) rfl rfl (by decide) rfl (fun ls hl => ?_)
  refine lv_goto (tgt := 14) hx hb dX2_init_35 (by decide) ?_
  refine lv_iload_n hx hb dX2_init_14 rfl (lv_at hl 0 rfl) ?_
  refine lv_iconst (v := 4) hx hb dX2_init_15 (by decide) ?_
  refine lv_icmp_ge (tgt := 38) hx hb dX2_init_16 (by decide) (fun c9 => absurd c9 (by decide)) (fun c9 => ?_)
  refine lv_aload_n hx hb dX2_init_19 rfl (lv_at hl 1 rfl) ?_
  refine cr_get C hW.1 11 rfl rfl 0 (by decide) hinX2 (List.mem_of_getElem? (i := 5) rfl) (v := .ref q) rfl dX2_init_20 ?_
  refine lv_iload_n hx hb dX2_init_23 rfl (lv_at hl 0 rfl) ?_
  refine cr_new C hW hinX3 tyX3 tyX3_ok (List.mem_of_getElem? (i := 4) rfl) (List.mem_of_getElem? (i := 6) rfl) (List.mem_of_getElem? (i := 7) rfl) (ci := 3) rfl (fs := [.null, .null, .null, .null, .int 0, .int 0, .int 0, .int 0, .int 0]) (fun j hj => by rcases (show j = 0 ∨ j = 1 ∨ j = 2 ∨ j = 3 ∨ j = 4 ∨ j = 5 ∨ j = 6 ∨ j = 7 ∨ j = 8 by omega) with rfl | rfl | rfl | rfl | rfl | rfl | rfl | rfl | rfl <;> rfl) (Nat.le_of_ble_eq_true rfl) (Nat.le_of_ble_eq_true rfl) dX2_init_24 (fun h2 H hW => ?_)
  refine lv_dup hx hb dX2_init_27 rfl ?_
  have hW := hW.perm List.perm_append_comm
  refine cr_iNI hNI hFA C hW (m_X3_init L D ct h2 H.size) ⟨va_cnB 0 hts gX2_init_X3_init_n17 rfl rfl rfl hNI.2.2.1 (hts _ (List.mem_of_getElem? (i := 7) rfl)) (by decide +kernel) ⟨Nat.le_of_ble_eq_true rfl, Nat.le_of_ble_eq_true rfl⟩, rfl, hts _ (List.mem_of_getElem? (i := 8) rfl)⟩ hl.1 (Nat.le_of_ble_eq_true rfl) dX2_init_28 ⟨Nat.le_of_ble_eq_true rfl, Nat.le_of_ble_eq_true rfl⟩ (fun u1 H locs hu hV => ?_)
  subst hu
  have hW := hV
  refine cr_astN C hW 23 3 0 3 rfl rfl rfl rfl (cr_in_of (by decide)) (k := 1) (by decide) ((cr_wH ct u1.1 u1.2.1 u1.2.2 cr_hV cr_zV cr_zV) ++ ((cr_wH ct u0.1 u0.2.1 u0.2.2 cr_hV cr_zV cr_zV) ++ ([(h0, .inr (2, [.ref q, .int 0])), (q, .inl (ct 3, 4, .inr (.inr (.inr (.inr (va_up (va_up (fun _ => none) 0 (some (u0.1 0))) 1 (some (u1.1 0))))))))]))) rfl dX2_init_31 (fun H locs hW => ?_)
  refine lv_iinc (v := 2) (lv' := [(1, .int 2), (0, .ref h0)]) hx hb dX2_init_32 hl (k := 0) rfl rfl (by decide) rfl (fun ls hl => ?_)
  refine lv_goto (tgt := 14) hx hb dX2_init_35 (by decide) ?_
  refine lv_iload_n hx hb dX2_init_14 rfl (lv_at hl 0 rfl) ?_
  refine lv_iconst (v := 4) hx hb dX2_init_15 (by decide) ?_
  refine lv_icmp_ge (tgt := 38) hx hb dX2_init_16 (by decide) (fun c9 => absurd c9 (by decide)) (fun c9 => ?_)
  refine lv_aload_n hx hb dX2_init_19 rfl (lv_at hl 1 rfl) ?_
  refine cr_get C hW.1 22 rfl rfl 0 (by decide) hinX2 (List.mem_of_getElem? (i := 5) rfl) (v := .ref q) rfl dX2_init_20 ?_
  refine lv_iload_n hx hb dX2_init_23 rfl (lv_at hl 0 rfl) ?_
  refine cr_new C hW hinX3 tyX3 tyX3_ok (List.mem_of_getElem? (i := 4) rfl) (List.mem_of_getElem? (i := 6) rfl) (List.mem_of_getElem? (i := 7) rfl) (ci := 3) rfl (fs := [.null, .null, .null, .null, .int 0, .int 0, .int 0, .int 0, .int 0]) (fun j hj => by rcases (show j = 0 ∨ j = 1 ∨ j = 2 ∨ j = 3 ∨ j = 4 ∨ j = 5 ∨ j = 6 ∨ j = 7 ∨ j = 8 by omega) with rfl | rfl | rfl | rfl | rfl | rfl | rfl | rfl | rfl <;> rfl) (Nat.le_of_ble_eq_true rfl) (Nat.le_of_ble_eq_true rfl) dX2_init_24 (fun h3 H hW => ?_)
  refine lv_dup hx hb dX2_init_27 rfl ?_
  have hW := hW.perm List.perm_append_comm
  refine cr_iNI hNI hFA C hW (m_X3_init L D ct h3 H.size) ⟨va_cnB 0 hts gX2_init_X3_init_n17 rfl rfl rfl hNI.2.2.1 (hts _ (List.mem_of_getElem? (i := 7) rfl)) (by decide +kernel) ⟨Nat.le_of_ble_eq_true rfl, Nat.le_of_ble_eq_true rfl⟩, rfl, hts _ (List.mem_of_getElem? (i := 8) rfl)⟩ hl.1 (Nat.le_of_ble_eq_true rfl) dX2_init_28 ⟨Nat.le_of_ble_eq_true rfl, Nat.le_of_ble_eq_true rfl⟩ (fun u2 H locs hu hV => ?_)
  subst hu
  have hW := hV
  refine cr_astN C hW 34 3 0 3 rfl rfl rfl rfl (cr_in_of (by decide)) (k := 2) (by decide) ((cr_wH ct u2.1 u2.2.1 u2.2.2 cr_hV cr_zV cr_zV) ++ ((cr_wH ct u1.1 u1.2.1 u1.2.2 cr_hV cr_zV cr_zV) ++ ((cr_wH ct u0.1 u0.2.1 u0.2.2 cr_hV cr_zV cr_zV) ++ ([(h0, .inr (2, [.ref q, .int 0])), (q, .inl (ct 3, 4, .inr (.inr (.inr (.inr (va_up (va_up (va_up (fun _ => none) 0 (some (u0.1 0))) 1 (some (u1.1 0))) 2 (some (u2.1 0))))))))])))) rfl dX2_init_31 (fun H locs hW => ?_)
  refine lv_iinc (v := 3) (lv' := [(1, .int 3), (0, .ref h0)]) hx hb dX2_init_32 hl (k := 0) rfl rfl (by decide) rfl (fun ls hl => ?_)
  refine lv_goto (tgt := 14) hx hb dX2_init_35 (by decide) ?_
  refine lv_iload_n hx hb dX2_init_14 rfl (lv_at hl 0 rfl) ?_
  refine lv_iconst (v := 4) hx hb dX2_init_15 (by decide) ?_
  refine lv_icmp_ge (tgt := 38) hx hb dX2_init_16 (by decide) (fun c9 => absurd c9 (by decide)) (fun c9 => ?_)
  refine lv_aload_n hx hb dX2_init_19 rfl (lv_at hl 1 rfl) ?_
  refine cr_get C hW.1 33 rfl rfl 0 (by decide) hinX2 (List.mem_of_getElem? (i := 5) rfl) (v := .ref q) rfl dX2_init_20 ?_
  refine lv_iload_n hx hb dX2_init_23 rfl (lv_at hl 0 rfl) ?_
  refine cr_new C hW hinX3 tyX3 tyX3_ok (List.mem_of_getElem? (i := 4) rfl) (List.mem_of_getElem? (i := 6) rfl) (List.mem_of_getElem? (i := 7) rfl) (ci := 3) rfl (fs := [.null, .null, .null, .null, .int 0, .int 0, .int 0, .int 0, .int 0]) (fun j hj => by rcases (show j = 0 ∨ j = 1 ∨ j = 2 ∨ j = 3 ∨ j = 4 ∨ j = 5 ∨ j = 6 ∨ j = 7 ∨ j = 8 by omega) with rfl | rfl | rfl | rfl | rfl | rfl | rfl | rfl | rfl <;> rfl) (Nat.le_of_ble_eq_true rfl) (Nat.le_of_ble_eq_true rfl) dX2_init_24 (fun h4 H hW => ?_)
  refine lv_dup hx hb dX2_init_27 rfl ?_
  have hW := hW.perm List.perm_append_comm
  refine cr_iNI hNI hFA C hW (m_X3_init L D ct h4 H.size) ⟨va_cnB 0 hts gX2_init_X3_init_n17 rfl rfl rfl hNI.2.2.1 (hts _ (List.mem_of_getElem? (i := 7) rfl)) (by decide +kernel) ⟨Nat.le_of_ble_eq_true rfl, Nat.le_of_ble_eq_true rfl⟩, rfl, hts _ (List.mem_of_getElem? (i := 8) rfl)⟩ hl.1 (Nat.le_of_ble_eq_true rfl) dX2_init_28 ⟨Nat.le_of_ble_eq_true rfl, Nat.le_of_ble_eq_true rfl⟩ (fun u3 H locs hu hV => ?_)
  subst hu
  have hW := hV
  refine cr_astN C hW 45 3 0 3 rfl rfl rfl rfl (cr_in_of (by decide)) (k := 3) (by decide) ((cr_wH ct u3.1 u3.2.1 u3.2.2 cr_hV cr_zV cr_zV) ++ ((cr_wH ct u2.1 u2.2.1 u2.2.2 cr_hV cr_zV cr_zV) ++ ((cr_wH ct u1.1 u1.2.1 u1.2.2 cr_hV cr_zV cr_zV) ++ ((cr_wH ct u0.1 u0.2.1 u0.2.2 cr_hV cr_zV cr_zV) ++ ([(h0, .inr (2, [.ref q, .int 0])), (q, .inl (ct 3, 4, .inr (.inr (.inr (.inr (va_up (va_up (va_up (va_up (fun _ => none) 0 (some (u0.1 0))) 1 (some (u1.1 0))) 2 (some (u2.1 0))) 3 (some (u3.1 0))))))))]))))) rfl dX2_init_31 (fun H locs hW => ?_)
  refine lv_iinc (v := 4) (lv' := [(1, .int 4), (0, .ref h0)]) hx hb dX2_init_32 hl (k := 0) rfl rfl (by decide) rfl (fun ls hl => ?_)
  refine lv_goto (tgt := 14) hx hb dX2_init_35 (by decide) ?_
  refine lv_iload_n hx hb dX2_init_14 rfl (lv_at hl 0 rfl) ?_
  refine lv_iconst (v := 4) hx hb dX2_init_15 (by decide) ?_
  refine lv_icmp_ge (tgt := 38) hx hb dX2_init_16 (by decide) (fun c9 => ?_) (fun c9 => absurd (by decide) c9)
  have hW := cr_cellq hW 45 (g := (fun j => some ((match j with | 0 => u0.1 0 | 1 => u1.1 0 | 2 => u2.1 0 | _ => u3.1 0)))) rfl (fun j hj => by rcases (show j = 0 ∨ j = 1 ∨ j = 2 ∨ j = 3 by omega) with rfl | rfl | rfl | rfl <;> rfl) ((cr_wH ct u3.1 u3.2.1 u3.2.2 cr_hV cr_zV cr_zV) ++ ((cr_wH ct u2.1 u2.2.1 u2.2.2 cr_hV cr_zV cr_zV) ++ ((cr_wH ct u1.1 u1.2.1 u1.2.2 cr_hV cr_zV cr_zV) ++ ((cr_wH ct u0.1 u0.2.1 u0.2.2 cr_hV cr_zV cr_zV) ++ ([(h0, .inr (2, [.ref q, .int 0])), (q, .inl (ct 3, 4, .inr (.inr (.inr (.inr (fun j => some ((match j with | 0 => u0.1 0 | 1 => u1.1 0 | 2 => u2.1 0 | _ => u3.1 0))))))))]))))) rfl
  have hp := cr_blk (Ls := [cr_wH ct u3.1 u3.2.1 u3.2.2 cr_hV cr_zV cr_zV, cr_wH ct u2.1 u2.2.1 u2.2.2 cr_hV cr_zV cr_zV, cr_wH ct u1.1 u1.2.1 u1.2.2 cr_hV cr_zV cr_zV, cr_wH ct u0.1 u0.2.1 u0.2.2 cr_hV cr_zV cr_zV, [(h0, .inr (2, [.ref q, .int 0])), (q, .inl (ct 3, 4, .inr (.inr (.inr (.inr (fun j => some ((match j with | 0 => u0.1 0 | 1 => u1.1 0 | 2 => u2.1 0 | _ => u3.1 0))))))))]]) (n := 5) [4, 3, 2, 1, 0] rfl (by decide)
  have hW2 := hW.perm hp
  have hfe : (fun j => some ((match j with | 0 => u0.1 0 | 1 => u1.1 0 | 2 => u2.1 0 | _ => u3.1 0))) = (fun j => some (((fun j => match j with | 0 => (fun i => match i with | 0 => u0.1 | 1 => u0.2.1 | _ => u0.2.2) | 1 => (fun i => match i with | 0 => u1.1 | 1 => u1.2.1 | _ => u1.2.2) | 2 => (fun i => match i with | 0 => u2.1 | 1 => u2.2.1 | _ => u2.2.2) | _ => (fun i => match i with | 0 => u3.1 | 1 => u3.2.1 | _ => u3.2.2)) : Nat → Nat → Nat → Nat) j 0 0)) := funext fun j => by
    match j with
    | 0 => rfl
    | 1 => rfl
    | 2 => rfl
    | n + 3 => rfl
  rw [hfe] at hW2
  exact cr_retV C (w := fun u : (Nat → Nat) × (Nat → Nat → Nat → Nat) => cr_wR ct u.1 cr_zV u.2 cr_xV) ((fun k => match k with | 0 => h0 | _ => q), ((fun j => match j with | 0 => (fun i => match i with | 0 => u0.1 | 1 => u0.2.1 | _ => u0.2.2) | 1 => (fun i => match i with | 0 => u1.1 | 1 => u1.2.1 | _ => u1.2.2) | 2 => (fun i => match i with | 0 => u2.1 | 1 => u2.2.1 | _ => u2.2.2) | _ => (fun i => match i with | 0 => u3.1 | 1 => u3.2.1 | _ => u3.2.2)) : Nat → Nat → Nat → Nat)) hW2 rfl dX2_init_38
