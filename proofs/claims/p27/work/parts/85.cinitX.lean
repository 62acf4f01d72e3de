section CRI6
variable {p : Program} {l : Launch} {e : Env} {R : Room} {s : State} {m : MethodId} {args : Array Value} {below : List Frame} {meth : Method} {c : Code} {H : Heap} {locs : List Loc} {cells slots : Nat} {Q : State → Prop}
variable {own : String} {Ts : List Cond} {cc : ByteArray} {nL : Nat} {ret : Option FieldType} {D : va_G} {ct : Nat → ClassId} {A : Nat → Prop} {ws : va_W} {pc : Nat} {ls : Array Slot} {rest : List Value} {b : Nat}
variable {y : MethodName} {bytes : ByteArray} {maxL index mc ms : Nat} {wy : List Cond} {rm : Room} {wc wr : va_W} {S : Type} {post : S → Prop} {w1 : S → va_W}
theorem cr_iI (hNI : cr_NI s) (hFA : cr_FA A s s.heap) (C : cr_Cx p s m meth c args own Ts cc nL ret D ct) (hW : cr_wd D A s (wc ++ wr) H locs) (hM : Met l y wy rm (cr_pI D ct wc H.size [.ref b]) (cr_QV D wc H.size post w1) mc ms (va_A wc H.size)) (cw : CallB R s args own index y bytes maxL none wy rm mc ms 0 ∧ y.name = "<init>" ∧ (Cond.instanceMethod y).before args s = true)
    (hls : ls.size = nL) (hr : (rest.map fun v => v.category).sum ≤ 8) (hdg : decode cc pc = .ok (.invokespecial index, 3)) (hf : cells + mc ≤ R.cells ∧ slots + ms ≤ R.slots)
    (kk : ∀ (u : S) (H1 : Heap) (locs1 : List Loc), post u → cr_wd D A s (w1 u ++ wr) H1 locs1 → W p l e R s m args below meth c H1 locs1 (cells + mc) (slots + ms) Q (F0 m (pc + 3) ls rest)) : W p l e R s m args below meth c H locs cells slots Q (F0 m pc ls (.ref b :: rest)) := by
  obtain ⟨hx, hb, hml, hown, hts, -, -, hK, hN⟩ := C
  obtain ⟨hP0, hD0, hF⟩ := cr_sub0 hW
  refine va_callv (va_runI (As := []) (rest := rest) ⟨hx, hb, hml, hown, hts⟩ hM cw ⟨cr_blindI, fun U hU hWm => ⟨rfl, by rw [hU], by rw [hU]; exact hP0, va_K.moved hWm.alike hK, hD0, cr_NW.warm hWm hN, cr_NI.warm hWm hNI, cr_FA.go hFA hW.2.2.1 hF hWm.alike hU⟩⟩ rfl rfl hls rfl (lv_room hr) hdg hf) hW.2.2.1 (fun q _ h => hF q h) hF (fun u t H1 locs1 ht hvm hw hB hz1 hk1 hS1 => ?_)
  exact kk u H1 locs1 hw (cr_backP hW (List.Perm.refl _) hk1 hF (by rw [← ht]; exact hB.1) hB.2 hS1)
theorem cr_iW (C : cr_Cx p s m meth c args own Ts cc nL ret D ct) (hW : cr_wd D A s (wc ++ wr) H locs) (hM : Met l y wy rm (cr_pW D ct wc H.size [.ref b]) (cr_QV D wc H.size post w1) mc ms (va_A wc H.size)) (cw : CallB R s args own index y bytes maxL none wy rm mc ms 0 ∧ y.name = "<init>" ∧ (Cond.instanceMethod y).before args s = true)
    (hls : ls.size = nL) (hr : (rest.map fun v => v.category).sum ≤ 8) (hdg : decode cc pc = .ok (.invokespecial index, 3)) (hf : cells + mc ≤ R.cells ∧ slots + ms ≤ R.slots)
    (kk : ∀ (u : S) (H1 : Heap) (locs1 : List Loc), post u → cr_wd D A s (w1 u ++ wr) H1 locs1 → W p l e R s m args below meth c H1 locs1 (cells + mc) (slots + ms) Q (F0 m (pc + 3) ls rest)) : W p l e R s m args below meth c H locs cells slots Q (F0 m pc ls (.ref b :: rest)) := by
  obtain ⟨hx, hb, hml, hown, hts, -, -, hK, hN⟩ := C
  obtain ⟨hP0, hD0, hF⟩ := cr_sub0 hW
  refine va_callv (va_runI (As := []) (rest := rest) ⟨hx, hb, hml, hown, hts⟩ hM cw ⟨cr_blindW, fun U hU hWm => ⟨rfl, by rw [hU], by rw [hU]; exact hP0, va_K.moved hWm.alike hK, hD0, cr_NW.warm hWm hN⟩⟩ rfl rfl hls rfl (lv_room hr) hdg hf) hW.2.2.1 (fun q _ h => hF q h) hF (fun u t H1 locs1 ht hvm hw hB hz1 hk1 hS1 => ?_)
  exact kk u H1 locs1 hw (cr_backP hW (List.Perm.refl _) hk1 hF (by rw [← ht]; exact hB.1) hB.2 hS1)
end CRI6
set_option maxHeartbeats 4000000 in
set_option maxRecDepth 100000 in
theorem m_X6_init (L : Launch) (D : va_G) (ct : Nat → ClassId) (h0 sz : Nat) : Met L yX6_init wsX6_init ({ frames := 4, cells := 78, slots := 684, locals := 73 } : Room) (cr_pI D ct [(h0, .inr (6, [.null, .null, .null, .null, .null]))] sz [.ref h0]) (cr_QV D [(h0, .inr (6, [.null, .null, .null, .null, .null]))] sz (fun u : (Nat → Nat → Nat) × (Nat → Nat → Nat → Nat) => u.1 0 0 = h0) (fun u => cr_wX ct u.1 u.2 cr_hV cr_zV cr_zV cr_hV cr_zV cr_zV cr_zV cr_xV cr_zV cr_zV)) 78 684 (va_A [(h0, .inr (6, [.null, .null, .null, .null, .null]))] sz) := by
  have hinX3 : ∀ w ∈ wsX30, w ∈ wsX6_init := fun w h => List.mem_cons_of_mem _ (List.mem_append_left _ (List.mem_append_left _ (List.mem_append_left _ (List.mem_append_left _ (List.mem_append_left _ (List.mem_append_left _ (List.mem_append_right _ h)))))))
  have hinX6 : ∀ w ∈ wsX60, w ∈ wsX6_init := fun w h => List.mem_cons_of_mem _ (List.mem_append_left _ (List.mem_append_left _ (List.mem_append_left _ (List.mem_append_left _ (List.mem_append_left _ (List.mem_append_right _ h))))))
  have hinX2 : ∀ w ∈ wsX20, w ∈ wsX6_init := fun w h => List.mem_cons_of_mem _ (List.mem_append_left _ (List.mem_append_left _ (List.mem_append_left _ (List.mem_append_left _ (List.mem_append_right _ h)))))
  have hinX1 : ∀ w ∈ wsX10, w ∈ wsX6_init := fun w h => List.mem_cons_of_mem _ (List.mem_append_left _ (List.mem_append_left _ (List.mem_append_left _ (List.mem_append_right _ h))))
  have hinX5 : ∀ w ∈ wsX50, w ∈ wsX6_init := fun w h => List.mem_cons_of_mem _ (List.mem_append_left _ (List.mem_append_left _ (List.mem_append_right _ h)))
  refine cr_metI (Qc := fun A => va_Qv (fun u : (Nat → Nat → Nat) × (Nat → Nat → Nat → Nat) => u.1 0 0 = h0) (fun u t => cr_at D A (cr_wX ct u.1 u.2 cr_hV cr_zV cr_zV cr_hV cr_zV cr_zV cr_zV cr_xV cr_zV cr_zV) t) A) (by decide) rfl rfl (Nat.le_of_ble_eq_true rfl) ?_
  intro p e s m args below meth c ls A hin hNI hFA C hW hl
  obtain ⟨hx, hb, hml, hown, hts, hr, hlocks, hK, hN⟩ := id C
  have hl : lv_has ls 1 [(0, .ref h0)] := hl
  refine lv_aload_n hx hb dX6_init_0 rfl (lv_at hl 0 rfl) ?_
  refine cr_oi C hl.1 (List.mem_of_getElem? (i := 1) rfl) (List.mem_of_getElem? (i := 2) rfl) (List.mem_of_getElem? (i := 3) rfl) dX6_init_1 ⟨Nat.le_of_ble_eq_true rfl, Nat.le_of_ble_eq_true rfl⟩ ?_
  refine lv_aload_n hx hb dX6_init_4 rfl (lv_at hl 0 rfl) ?_
  refine cr_new C hW hinX3 tyX3 tyX3_ok (List.mem_of_getElem? (i := 4) rfl) (List.mem_of_getElem? (i := 5) rfl) (List.mem_of_getElem? (i := 6) rfl) (ci := 3) rfl (fs := [.null, .null, .null, .null, .int 0, .int 0, .int 0, .int 0, .int 0]) (fun j hj => by rcases (show j = 0 ∨ j = 1 ∨ j = 2 ∨ j = 3 ∨ j = 4 ∨ j = 5 ∨ j = 6 ∨ j = 7 ∨ j = 8 by omega) with rfl | rfl | rfl | rfl | rfl | rfl | rfl | rfl | rfl <;> rfl) (Nat.le_of_ble_eq_true rfl) (Nat.le_of_ble_eq_true rfl) dX6_init_5 (fun q1 H hW => ?_)
  refine lv_dup hx hb dX6_init_8 rfl ?_
  have hW := hW.perm List.perm_append_comm
  refine cr_iNI hNI hFA C hW (m_X3_init L D ct q1 H.size) ⟨va_cnB 0 hts gX6_init_X3_init_n9 rfl rfl rfl hNI.2.2.2.1 (hts _ (List.mem_of_getElem? (i := 6) rfl)) (by decide +kernel) ⟨Nat.le_of_ble_eq_true rfl, Nat.le_of_ble_eq_true rfl⟩, rfl, hts _ (List.mem_of_getElem? (i := 21) rfl)⟩ hl.1 (Nat.le_of_ble_eq_true rfl) dX6_init_9 ⟨Nat.le_of_ble_eq_true rfl, Nat.le_of_ble_eq_true rfl⟩ (fun u1 H locs hu hV => ?_)
  subst hu
  have hW := hV
  refine cr_putq C hin hW 11 (a := h0) (ci := 6) rfl rfl tyX6 tyX6_ok nmX6 0 (by decide) hinX6 (List.mem_of_getElem? (i := 7) rfl) rfl rfl rfl rfl rfl (Nat.le_of_ble_eq_true rfl) (cr_wH ct u1.1 u1.2.1 u1.2.2 cr_hV cr_zV cr_zV ++ ([(h0, .inr (6, [.ref (u1.1 0), .null, .null, .null, .null]))])) rfl dX6_init_12 (fun H locs hW => ?_)
  refine lv_aload_n hx hb dX6_init_15 rfl (lv_at hl 0 rfl) ?_
  refine cr_new C hW hinX3 tyX3 tyX3_ok (List.mem_of_getElem? (i := 4) rfl) (List.mem_of_getElem? (i := 5) rfl) (List.mem_of_getElem? (i := 6) rfl) (ci := 3) rfl (fs := [.null, .null, .null, .null, .int 0, .int 0, .int 0, .int 0, .int 0]) (fun j hj => by rcases (show j = 0 ∨ j = 1 ∨ j = 2 ∨ j = 3 ∨ j = 4 ∨ j = 5 ∨ j = 6 ∨ j = 7 ∨ j = 8 by omega) with rfl | rfl | rfl | rfl | rfl | rfl | rfl | rfl | rfl <;> rfl) (Nat.le_of_ble_eq_true rfl) (Nat.le_of_ble_eq_true rfl) dX6_init_16 (fun q2 H hW => ?_)
  refine lv_dup hx hb dX6_init_19 rfl ?_
  have hW := hW.perm List.perm_append_comm
  refine cr_iNI hNI hFA C hW (m_X3_init L D ct q2 H.size) ⟨va_cnB 0 hts gX6_init_X3_init_n9 rfl rfl rfl hNI.2.2.2.1 (hts _ (List.mem_of_getElem? (i := 6) rfl)) (by decide +kernel) ⟨Nat.le_of_ble_eq_true rfl, Nat.le_of_ble_eq_true rfl⟩, rfl, hts _ (List.mem_of_getElem? (i := 21) rfl)⟩ hl.1 (Nat.le_of_ble_eq_true rfl) dX6_init_20 ⟨Nat.le_of_ble_eq_true rfl, Nat.le_of_ble_eq_true rfl⟩ (fun u2 H locs hu hV => ?_)
  subst hu
  have hW := hV
  refine cr_putq C hin hW 22 (a := h0) (ci := 6) rfl rfl tyX6 tyX6_ok nmX6 1 (by decide) hinX6 (List.mem_of_getElem? (i := 8) rfl) rfl rfl rfl rfl rfl (Nat.le_of_ble_eq_true rfl) (cr_wH ct u2.1 u2.2.1 u2.2.2 cr_hV cr_zV cr_zV ++ (cr_wH ct u1.1 u1.2.1 u1.2.2 cr_hV cr_zV cr_zV ++ ([(h0, .inr (6, [.ref (u1.1 0), .ref (u2.1 0), .null, .null, .null]))]))) rfl dX6_init_23 (fun H locs hW => ?_)
  refine lv_aload_n hx hb dX6_init_26 rfl (lv_at hl 0 rfl) ?_
  refine cr_new C hW hinX2 tyX2 tyX2_ok (List.mem_of_getElem? (i := 9) rfl) (List.mem_of_getElem? (i := 10) rfl) (List.mem_of_getElem? (i := 11) rfl) (ci := 2) rfl (fs := [.null, .int 0]) (fun j hj => by rcases (show j = 0 ∨ j = 1 by omega) with rfl | rfl <;> rfl) (Nat.le_of_ble_eq_true rfl) (Nat.le_of_ble_eq_true rfl) dX6_init_27 (fun q3 H hW => ?_)
  refine lv_dup hx hb dX6_init_30 rfl ?_
  have hW := hW.perm List.perm_append_comm
  refine cr_iI hNI hFA C hW (m_X2_init L D ct q3 H.size) (cwI 0 hts gX6_init_X2_init rfl rfl rfl (hts _ (List.mem_of_getElem? (i := 11) rfl)) (hts _ (List.mem_of_getElem? (i := 53) rfl)) (hts _ (List.mem_of_getElem? (i := 54) rfl)) rfl (by decide +kernel) ⟨Nat.le_of_ble_eq_true rfl, Nat.le_of_ble_eq_true rfl⟩) hl.1 (Nat.le_of_ble_eq_true rfl) dX6_init_31 ⟨Nat.le_of_ble_eq_true rfl, Nat.le_of_ble_eq_true rfl⟩ (fun u3 H locs hu hV => ?_)
  subst hu
  have hW := hV
  refine cr_putq C hin hW 68 (a := h0) (ci := 6) rfl rfl tyX6 tyX6_ok nmX6 2 (by decide) hinX6 (List.mem_of_getElem? (i := 12) rfl) rfl rfl rfl rfl rfl (Nat.le_of_ble_eq_true rfl) (cr_wR ct u3.1 cr_zV u3.2 cr_xV ++ (cr_wH ct u2.1 u2.2.1 u2.2.2 cr_hV cr_zV cr_zV ++ (cr_wH ct u1.1 u1.2.1 u1.2.2 cr_hV cr_zV cr_zV ++ ([(h0, .inr (6, [.ref (u1.1 0), .ref (u2.1 0), .ref (u3.1 0), .null, .null]))])))) rfl dX6_init_34 (fun H locs hW => ?_)
  refine lv_aload_n hx hb dX6_init_37 rfl (lv_at hl 0 rfl) ?_
  refine cr_new C hW hinX1 tyX1 tyX1_ok (List.mem_of_getElem? (i := 13) rfl) (List.mem_of_getElem? (i := 14) rfl) (List.mem_of_getElem? (i := 15) rfl) (ci := 1) rfl (fs := [.null, .null, .int 0, .int 0, .int 0, .int 0, .int 0, .int 0, .null, .null, .null, .null]) (fun j hj => by rcases (show j = 0 ∨ j = 1 ∨ j = 2 ∨ j = 3 ∨ j = 4 ∨ j = 5 ∨ j = 6 ∨ j = 7 ∨ j = 8 ∨ j = 9 ∨ j = 10 ∨ j = 11 by omega) with rfl | rfl | rfl | rfl | rfl | rfl | rfl | rfl | rfl | rfl | rfl | rfl <;> rfl) (Nat.le_of_ble_eq_true rfl) (Nat.le_of_ble_eq_true rfl) dX6_init_38 (fun q4 H hW => ?_)
  refine lv_dup hx hb dX6_init_41 rfl ?_
  have hW := hW.perm List.perm_append_comm
  refine cr_iN C hW (m_X1_init L D ct q4 H.size) ⟨va_cnB 0 hts gX6_init_X1_init_n28 rfl rfl rfl hNI.2.2.2.2.1 (hts _ (List.mem_of_getElem? (i := 15) rfl)) (by decide +kernel) ⟨Nat.le_of_ble_eq_true rfl, Nat.le_of_ble_eq_true rfl⟩, rfl, hts _ (List.mem_of_getElem? (i := 59) rfl)⟩ hl.1 (Nat.le_of_ble_eq_true rfl) dX6_init_42 ⟨Nat.le_of_ble_eq_true rfl, Nat.le_of_ble_eq_true rfl⟩ (fun u4 H locs hu hV => ?_)
  subst hu
  have hW := hV
  refine cr_putq C hin hW 75 (a := h0) (ci := 6) rfl rfl tyX6 tyX6_ok nmX6 3 (by decide) hinX6 (List.mem_of_getElem? (i := 16) rfl) rfl rfl rfl rfl rfl (Nat.le_of_ble_eq_true rfl) (cr_wD ct u4 cr_zV ++ (cr_wR ct u3.1 cr_zV u3.2 cr_xV ++ (cr_wH ct u2.1 u2.2.1 u2.2.2 cr_hV cr_zV cr_zV ++ (cr_wH ct u1.1 u1.2.1 u1.2.2 cr_hV cr_zV cr_zV ++ ([(h0, .inr (6, [.ref (u1.1 0), .ref (u2.1 0), .ref (u3.1 0), .ref (u4 0), .null]))]))))) rfl dX6_init_45 (fun H locs hW => ?_)
  refine lv_aload_n hx hb dX6_init_48 rfl (lv_at hl 0 rfl) ?_
  refine cr_new C hW hinX5 tyX5 tyX5_ok (List.mem_of_getElem? (i := 17) rfl) (List.mem_of_getElem? (i := 18) rfl) (List.mem_of_getElem? (i := 19) rfl) (ci := 5) rfl (fs := [.null, .int 0, .int 0, .int 0, .int 0, .int 0, .int 0, .null]) (fun j hj => by rcases (show j = 0 ∨ j = 1 ∨ j = 2 ∨ j = 3 ∨ j = 4 ∨ j = 5 ∨ j = 6 ∨ j = 7 by omega) with rfl | rfl | rfl | rfl | rfl | rfl | rfl | rfl <;> rfl) (Nat.le_of_ble_eq_true rfl) (Nat.le_of_ble_eq_true rfl) dX6_init_49 (fun q5 H hW => ?_)
  refine lv_dup hx hb dX6_init_52 rfl ?_
  have hW := hW.perm List.perm_append_comm
  refine cr_iN C hW (m_X5_init L D ct q5 H.size) ⟨va_cnB 0 hts gX6_init_X5_init_n35 rfl rfl rfl hNI.2.2.2.2.2.1 (hts _ (List.mem_of_getElem? (i := 19) rfl)) (by decide +kernel) ⟨Nat.le_of_ble_eq_true rfl, Nat.le_of_ble_eq_true rfl⟩, rfl, hts _ (List.mem_of_getElem? (i := 69) rfl)⟩ hl.1 (Nat.le_of_ble_eq_true rfl) dX6_init_53 ⟨Nat.le_of_ble_eq_true rfl, Nat.le_of_ble_eq_true rfl⟩ (fun u5 H locs hu hV => ?_)
  subst hu
  have hW := hV
  refine cr_putq C hin hW 78 (a := h0) (ci := 6) rfl rfl tyX6 tyX6_ok nmX6 4 (by decide) hinX6 (List.mem_of_getElem? (i := 20) rfl) rfl rfl rfl rfl rfl (Nat.le_of_ble_eq_true rfl) (cr_wO ct u5 cr_zV ++ (cr_wD ct u4 cr_zV ++ (cr_wR ct u3.1 cr_zV u3.2 cr_xV ++ (cr_wH ct u2.1 u2.2.1 u2.2.2 cr_hV cr_zV cr_zV ++ (cr_wH ct u1.1 u1.2.1 u1.2.2 cr_hV cr_zV cr_zV ++ ([(h0, .inr (6, [.ref (u1.1 0), .ref (u2.1 0), .ref (u3.1 0), .ref (u4 0), .ref (u5 0)]))])))))) rfl dX6_init_56 (fun H locs hW => ?_)
  have hp := cr_blk (Ls := [cr_wO ct u5 cr_zV, cr_wD ct u4 cr_zV, cr_wR ct u3.1 cr_zV u3.2 cr_xV, cr_wH ct u2.1 u2.2.1 u2.2.2 cr_hV cr_zV cr_zV, cr_wH ct u1.1 u1.2.1 u1.2.2 cr_hV cr_zV cr_zV, [(h0, .inr (6, [.ref (u1.1 0), .ref (u2.1 0), .ref (u3.1 0), .ref (u4 0), .ref (u5 0)]))]]) (n := 6) [5, 4, 3, 2, 1, 0] rfl (by decide)
  have hW2 : cr_wd D A s (cr_wX ct ((fun k => match k with | 0 => (fun _ => h0) | 1 => u1.1 | 2 => u1.2.1 | 3 => u1.2.2 | 4 => u2.1 | 5 => u2.2.1 | 6 => u2.2.2 | 7 => u3.1 | 8 => u4 | _ => u5) : Nat → Nat → Nat) u3.2 cr_hV cr_zV cr_zV cr_hV cr_zV cr_zV cr_zV cr_xV cr_zV cr_zV) H locs := hW.perm hp
  exact cr_retV C (w := fun u : (Nat → Nat → Nat) × (Nat → Nat → Nat → Nat) => cr_wX ct u.1 u.2 cr_hV cr_zV cr_zV cr_hV cr_zV cr_zV cr_zV cr_xV cr_zV cr_zV) (((fun k => match k with | 0 => (fun _ => h0) | 1 => u1.1 | 2 => u1.2.1 | 3 => u1.2.2 | 4 => u2.1 | 5 => u2.2.1 | 6 => u2.2.2 | 7 => u3.1 | 8 => u4 | _ => u5) : Nat → Nat → Nat), u3.2) hW2 rfl dX6_init_59
