set_option maxHeartbeats 4000000 in
set_option maxRecDepth 100000 in
theorem m_X0_init (L : Launch) (D : va_G) (ct : Nat → ClassId) (h0 sz : Nat) : Met L yX0_init wsX0_init ({ frames := 1, cells := 2, slots := 12, locals := 12 } : Room) (cr_pW D ct [(h0, .inr (0, [.null, .null, .int 0]))] sz [.ref h0]) (cr_QV D [(h0, .inr (0, [.null, .null, .int 0]))] sz (fun u : Nat → Nat => u 0 = h0) (fun u => cr_wK ct u cr_zV)) 2 12 (va_A [(h0, .inr (0, [.null, .null, .int 0]))] sz) := by
  have hinX0 : ∀ w ∈ wsX00, w ∈ wsX0_init := fun w h => List.mem_cons_of_mem _ (List.mem_append_right _ h)
  refine cr_metC (Qc := fun A => va_Qv (fun u : Nat → Nat => u 0 = h0) (fun u t => cr_at D A (cr_wK ct u cr_zV) t) A) (by decide) rfl rfl (Nat.le_of_ble_eq_true rfl) ?_
  intro p e s m args below meth c ls A hin C hW hl
  obtain ⟨hx, hb, hml, hown, hts, hr, hlocks, hK, hN⟩ := id C
  have hl : lv_has ls 1 [(0, .ref h0)] := hl
  refine lv_aload_n hx hb dX0_init_0 rfl (lv_at hl 0 rfl) ?_
  refine cr_oi C hl.1 (List.mem_of_getElem? (i := 1) rfl) (List.mem_of_getElem? (i := 2) rfl) (List.mem_of_getElem? (i := 3) rfl) dX0_init_1 ⟨Nat.le_of_ble_eq_true rfl, Nat.le_of_ble_eq_true rfl⟩ ?_
  refine lv_aload_n hx hb dX0_init_4 rfl (lv_at hl 0 rfl) ?_
  refine lv_bipush (v := 6) hx hb dX0_init_5 (by decide) ?_
  refine cr_newa C hW (atype := .int) (List.mem_of_getElem? (i := 4) rfl) 0 rfl rfl (a0 := (6, .inl (fun _ => 0))) (fun _ => rfl) (by decide) (by decide) (Nat.le_of_ble_eq_true rfl) (Nat.le_of_ble_eq_true rfl) (Nat.le_of_ble_eq_true rfl) dX0_init_7 (fun q1 H hW => ?_)
  refine cr_putq C hin hW 0 rfl rfl tyX0 tyX0_ok nmX0 0 (by decide) hinX0 (List.mem_of_getElem? (i := 5) rfl) rfl rfl rfl rfl rfl (Nat.le_of_ble_eq_true rfl) [(h0, .inr (0, [.ref q1, .null, .int 0])), (q1, .inl (ct 0, 6, .inl (fun _ => 0)))] rfl dX0_init_9 (fun H locs hW => ?_)
  refine lv_aload_n hx hb dX0_init_12 rfl (lv_at hl 0 rfl) ?_
  refine lv_bipush (v := 6) hx hb dX0_init_13 (by decide) ?_
  refine cr_newa C hW (atype := .int) (List.mem_of_getElem? (i := 4) rfl) 0 rfl rfl (a0 := (6, .inl (fun _ => 0))) (fun _ => rfl) (by decide) (by decide) (Nat.le_of_ble_eq_true rfl) (Nat.le_of_ble_eq_true rfl) (Nat.le_of_ble_eq_true rfl) dX0_init_15 (fun q2 H hW => ?_)
  refine cr_putq C hin hW 0 rfl rfl tyX0 tyX0_ok nmX0 1 (by decide) hinX0 (List.mem_of_getElem? (i := 6) rfl) rfl rfl rfl rfl rfl (Nat.le_of_ble_eq_true rfl) [(h0, .inr (0, [.ref q1, .ref q2, .int 0])), (q1, .inl (ct 0, 6, .inl (fun _ => 0))), (q2, .inl (ct 0, 6, .inl (fun _ => 0)))] rfl dX0_init_17 (fun H locs hW => ?_)
  exact cr_retV C (w := fun u : Nat → Nat => cr_wK ct u cr_zV) (fun k => match k with | 0 => h0 | 1 => q1 | _ => q2) hW rfl dX0_init_20
set_option maxHeartbeats 4000000 in
set_option maxRecDepth 100000 in
theorem m_X4_init (L : Launch) (D : va_G) (ct : Nat → ClassId) (h0 sz : Nat) : Met L yX4_init wsX4_init ({ frames := 1, cells := 4, slots := 48, locals := 12 } : Room) (cr_pW D ct [(h0, .inr (4, [.null, .null, .null, .null, .int 0, .int 0]))] sz [.ref h0]) (cr_QV D [(h0, .inr (4, [.null, .null, .null, .null, .int 0, .int 0]))] sz (fun u : Nat → Nat => u 0 = h0) (fun u => cr_wL ct u cr_zV)) 4 48 (va_A [(h0, .inr (4, [.null, .null, .null, .null, .int 0, .int 0]))] sz) := by
  have hinX4 : ∀ w ∈ wsX40, w ∈ wsX4_init := fun w h => List.mem_cons_of_mem _ (List.mem_append_right _ h)
  refine cr_metC (Qc := fun A => va_Qv (fun u : Nat → Nat => u 0 = h0) (fun u t => cr_at D A (cr_wL ct u cr_zV) t) A) (by decide) rfl rfl (Nat.le_of_ble_eq_true rfl) ?_
  intro p e s m args below meth c ls A hin C hW hl
  obtain ⟨hx, hb, hml, hown, hts, hr, hlocks, hK, hN⟩ := id C
  have hl : lv_has ls 1 [(0, .ref h0)] := hl
  refine lv_aload_n hx hb dX4_init_0 rfl (lv_at hl 0 rfl) ?_
  refine cr_oi C hl.1 (List.mem_of_getElem? (i := 1) rfl) (List.mem_of_getElem? (i := 2) rfl) (List.mem_of_getElem? (i := 3) rfl) dX4_init_1 ⟨Nat.le_of_ble_eq_true rfl, Nat.le_of_ble_eq_true rfl⟩ ?_
  refine lv_aload_n hx hb dX4_init_4 rfl (lv_at hl 0 rfl) ?_
  refine lv_bipush (v := 12) hx hb dX4_init_5 (by decide) ?_
  refine cr_newa C hW (atype := .int) (List.mem_of_getElem? (i := 4) rfl) 0 rfl rfl (a0 := (12, .inl (fun _ => 0))) (fun _ => rfl) (by decide) (by decide) (Nat.le_of_ble_eq_true rfl) (Nat.le_of_ble_eq_true rfl) (Nat.le_of_ble_eq_true rfl) dX4_init_7 (fun q1 H hW => ?_)
  refine cr_putq C hin hW 0 rfl rfl tyX4 tyX4_ok nmX4 0 (by decide) hinX4 (List.mem_of_getElem? (i := 5) rfl) rfl rfl rfl rfl rfl (Nat.le_of_ble_eq_true rfl) [(h0, .inr (4, [.ref q1, .null, .null, .null, .int 0, .int 0])), (q1, .inl (ct 0, 12, .inl (fun _ => 0)))] rfl dX4_init_9 (fun H locs hW => ?_)
  refine lv_aload_n hx hb dX4_init_12 rfl (lv_at hl 0 rfl) ?_
  refine lv_bipush (v := 12) hx hb dX4_init_13 (by decide) ?_
  refine cr_newa C hW (atype := .int) (List.mem_of_getElem? (i := 4) rfl) 0 rfl rfl (a0 := (12, .inl (fun _ => 0))) (fun _ => rfl) (by decide) (by decide) (Nat.le_of_ble_eq_true rfl) (Nat.le_of_ble_eq_true rfl) (Nat.le_of_ble_eq_true rfl) dX4_init_15 (fun q2 H hW => ?_)
  refine cr_putq C hin hW 0 rfl rfl tyX4 tyX4_ok nmX4 1 (by decide) hinX4 (List.mem_of_getElem? (i := 6) rfl) rfl rfl rfl rfl rfl (Nat.le_of_ble_eq_true rfl) [(h0, .inr (4, [.ref q1, .ref q2, .null, .null, .int 0, .int 0])), (q1, .inl (ct 0, 12, .inl (fun _ => 0))), (q2, .inl (ct 0, 12, .inl (fun _ => 0)))] rfl dX4_init_17 (fun H locs hW => ?_)
  refine lv_aload_n hx hb dX4_init_20 rfl (lv_at hl 0 rfl) ?_
  refine lv_bipush (v := 12) hx hb dX4_init_21 (by decide) ?_
  refine cr_newa C hW (atype := .int) (List.mem_of_getElem? (i := 4) rfl) 0 rfl rfl (a0 := (12, .inl (fun _ => 0))) (fun _ => rfl) (by decide) (by decide) (Nat.le_of_ble_eq_true rfl) (Nat.le_of_ble_eq_true rfl) (Nat.le_of_ble_eq_true rfl) dX4_init_23 (fun q3 H hW => ?_)
  refine cr_putq C hin hW 0 rfl rfl tyX4 tyX4_ok nmX4 2 (by decide) hinX4 (List.mem_of_getElem? (i := 7) rfl) rfl rfl rfl rfl rfl (Nat.le_of_ble_eq_true rfl) [(h0, .inr (4, [.ref q1, .ref q2, .ref q3, .null, .int 0, .int 0])), (q1, .inl (ct 0, 12, .inl (fun _ => 0))), (q2, .inl (ct 0, 12, .inl (fun _ => 0))), (q3, .inl (ct 0, 12, .inl (fun _ => 0)))] rfl dX4_init_25 (fun H locs hW => ?_)
  refine lv_aload_n hx hb dX4_init_28 rfl (lv_at hl 0 rfl) ?_
  refine lv_bipush (v := 12) hx hb dX4_init_29 (by decide) ?_
  refine cr_newa C hW (atype := .int) (List.mem_of_getElem? (i := 4) rfl) 0 rfl rfl (a0 := (12, .inl (fun _ => 0))) (fun _ => rfl) (by decide) (by decide) (Nat.le_of_ble_eq_true rfl) (Nat.le_of_ble_eq_true rfl) (Nat.le_of_ble_eq_true rfl) dX4_init_31 (fun q4 H hW => ?_)
  refine cr_putq C hin hW 0 rfl rfl tyX4 tyX4_ok nmX4 3 (by decide) hinX4 (List.mem_of_getElem? (i := 8) rfl) rfl rfl rfl rfl rfl (Nat.le_of_ble_eq_true rfl) [(h0, .inr (4, [.ref q1, .ref q2, .ref q3, .ref q4, .int 0, .int 0])), (q1, .inl (ct 0, 12, .inl (fun _ => 0))), (q2, .inl (ct 0, 12, .inl (fun _ => 0))), (q3, .inl (ct 0, 12, .inl (fun _ => 0))), (q4, .inl (ct 0, 12, .inl (fun _ => 0)))] rfl dX4_init_33 (fun H locs hW => ?_)
  exact cr_retV C (w := fun u : Nat → Nat => cr_wL ct u cr_zV) (fun k => match k with | 0 => h0 | 1 => q1 | 2 => q2 | 3 => q3 | _ => q4) hW rfl dX4_init_36
set_option maxHeartbeats 4000000 in
set_option maxRecDepth 100000 in
theorem m_X1_init (L : Launch) (D : va_G) (ct : Nat → ClassId) (h0 sz : Nat) : Met L yX1_init wsX1_init ({ frames := 1, cells := 6, slots := 72, locals := 12 } : Room) (cr_pW D ct [(h0, .inr (1, [.null, .null, .int 0, .int 0, .int 0, .int 0, .int 0, .int 0, .null, .null, .null, .null]))] sz [.ref h0]) (cr_QV D [(h0, .inr (1, [.null, .null, .int 0, .int 0, .int 0, .int 0, .int 0, .int 0, .null, .null, .null, .null]))] sz (fun u : Nat → Nat => u 0 = h0) (fun u => cr_wD ct u cr_zV)) 6 72 (va_A [(h0, .inr (1, [.null, .null, .int 0, .int 0, .int 0, .int 0, .int 0, .int 0, .null, .null, .null, .null]))] sz) := by
  have hinX1 : ∀ w ∈ wsX10, w ∈ wsX1_init := fun w h => List.mem_cons_of_mem _ (List.mem_append_right _ h)
  refine cr_metC (Qc := fun A => va_Qv (fun u : Nat → Nat => u 0 = h0) (fun u t => cr_at D A (cr_wD ct u cr_zV) t) A) (by decide) rfl rfl (Nat.le_of_ble_eq_true rfl) ?_
  intro p e s m args below meth c ls A hin C hW hl
  obtain ⟨hx, hb, hml, hown, hts, hr, hlocks, hK, hN⟩ := id C
  have hl : lv_has ls 1 [(0, .ref h0)] := hl
  refine lv_aload_n hx hb dX1_init_0 rfl (lv_at hl 0 rfl) ?_
  refine cr_oi C hl.1 (List.mem_of_getElem? (i := 1) rfl) (List.mem_of_getElem? (i := 2) rfl) (List.mem_of_getElem? (i := 3) rfl) dX1_init_1 ⟨Nat.le_of_ble_eq_true rfl, Nat.le_of_ble_eq_true rfl⟩ ?_
  refine lv_aload_n hx hb dX1_init_4 rfl (lv_at hl 0 rfl) ?_
  refine lv_bipush (v := 12) hx hb dX1_init_5 (by decide) ?_
  refine cr_newa C hW (atype := .int) (List.mem_of_getElem? (i := 4) rfl) 0 rfl rfl (a0 := (12, .inl (fun _ => 0))) (fun _ => rfl) (by decide) (by decide) (Nat.le_of_ble_eq_true rfl) (Nat.le_of_ble_eq_true rfl) (Nat.le_of_ble_eq_true rfl) dX1_init_7 (fun q1 H hW => ?_)
  refine cr_putq C hin hW 0 rfl rfl tyX1 tyX1_ok nmX1 0 (by decide) hinX1 (List.mem_of_getElem? (i := 5) rfl) rfl rfl rfl rfl rfl (Nat.le_of_ble_eq_true rfl) [(h0, .inr (1, [.ref q1, .null, .int 0, .int 0, .int 0, .int 0, .int 0, .int 0, .null, .null, .null, .null])), (q1, .inl (ct 0, 12, .inl (fun _ => 0)))] rfl dX1_init_9 (fun H locs hW => ?_)
  refine lv_aload_n hx hb dX1_init_12 rfl (lv_at hl 0 rfl) ?_
  refine lv_bipush (v := 12) hx hb dX1_init_13 (by decide) ?_
  refine cr_newa C hW (atype := .int) (List.mem_of_getElem? (i := 4) rfl) 0 rfl rfl (a0 := (12, .inl (fun _ => 0))) (fun _ => rfl) (by decide) (by decide) (Nat.le_of_ble_eq_true rfl) (Nat.le_of_ble_eq_true rfl) (Nat.le_of_ble_eq_true rfl) dX1_init_15 (fun q2 H hW => ?_)
  refine cr_putq C hin hW 0 rfl rfl tyX1 tyX1_ok nmX1 1 (by decide) hinX1 (List.mem_of_getElem? (i := 6) rfl) rfl rfl rfl rfl rfl (Nat.le_of_ble_eq_true rfl) [(h0, .inr (1, [.ref q1, .ref q2, .int 0, .int 0, .int 0, .int 0, .int 0, .int 0, .null, .null, .null, .null])), (q1, .inl (ct 0, 12, .inl (fun _ => 0))), (q2, .inl (ct 0, 12, .inl (fun _ => 0)))] rfl dX1_init_17 (fun H locs hW => ?_)
  refine lv_aload_n hx hb dX1_init_20 rfl (lv_at hl 0 rfl) ?_
  refine lv_bipush (v := 12) hx hb dX1_init_21 (by decide) ?_
  refine cr_newa C hW (atype := .boolean) (List.mem_of_getElem? (i := 7) rfl) 1 rfl rfl (a0 := (12, .inl (fun _ => 0))) (fun _ => rfl) (by decide) (by decide) (Nat.le_of_ble_eq_true rfl) (Nat.le_of_ble_eq_true rfl) (Nat.le_of_ble_eq_true rfl) dX1_init_23 (fun q3 H hW => ?_)
  refine cr_putq C hin hW 0 rfl rfl tyX1 tyX1_ok nmX1 8 (by decide) hinX1 (List.mem_of_getElem? (i := 8) rfl) rfl rfl rfl rfl rfl (Nat.le_of_ble_eq_true rfl) [(h0, .inr (1, [.ref q1, .ref q2, .int 0, .int 0, .int 0, .int 0, .int 0, .int 0, .ref q3, .null, .null, .null])), (q1, .inl (ct 0, 12, .inl (fun _ => 0))), (q2, .inl (ct 0, 12, .inl (fun _ => 0))), (q3, .inl (ct 1, 12, .inl (fun _ => 0)))] rfl dX1_init_25 (fun H locs hW => ?_)
  refine lv_aload_n hx hb dX1_init_28 rfl (lv_at hl 0 rfl) ?_
  refine lv_bipush (v := 12) hx hb dX1_init_29 (by decide) ?_
  refine cr_newa C hW (atype := .int) (List.mem_of_getElem? (i := 4) rfl) 0 rfl rfl (a0 := (12, .inl (fun _ => 0))) (fun _ => rfl) (by decide) (by decide) (Nat.le_of_ble_eq_true rfl) (Nat.le_of_ble_eq_true rfl) (Nat.le_of_ble_eq_true rfl) dX1_init_31 (fun q4 H hW => ?_)
  refine cr_putq C hin hW 0 rfl rfl tyX1 tyX1_ok nmX1 9 (by decide) hinX1 (List.mem_of_getElem? (i := 9) rfl) rfl rfl rfl rfl rfl (Nat.le_of_ble_eq_true rfl) [(h0, .inr (1, [.ref q1, .ref q2, .int 0, .int 0, .int 0, .int 0, .int 0, .int 0, .ref q3, .ref q4, .null, .null])), (q1, .inl (ct 0, 12, .inl (fun _ => 0))), (q2, .inl (ct 0, 12, .inl (fun _ => 0))), (q3, .inl (ct 1, 12, .inl (fun _ => 0))), (q4, .inl (ct 0, 12, .inl (fun _ => 0)))] rfl dX1_init_33 (fun H locs hW => ?_)
  refine lv_aload_n hx hb dX1_init_36 rfl (lv_at hl 0 rfl) ?_
  refine lv_bipush (v := 12) hx hb dX1_init_37 (by decide) ?_
  refine cr_newa C hW (atype := .int) (List.mem_of_getElem? (i := 4) rfl) 0 rfl rfl (a0 := (12, .inl (fun _ => 0))) (fun _ => rfl) (by decide) (by decide) (Nat.le_of_ble_eq_true rfl) (Nat.le_of_ble_eq_true rfl) (Nat.le_of_ble_eq_true rfl) dX1_init_39 (fun q5 H hW => ?_)
  refine cr_putq C hin hW 0 rfl rfl tyX1 tyX1_ok nmX1 10 (by decide) hinX1 (List.mem_of_getElem? (i := 10) rfl) rfl rfl rfl rfl rfl (Nat.le_of_ble_eq_true rfl) [(h0, .inr (1, [.ref q1, .ref q2, .int 0, .int 0, .int 0, .int 0, .int 0, .int 0, .ref q3, .ref q4, .ref q5, .null])), (q1, .inl (ct 0, 12, .inl (fun _ => 0))), (q2, .inl (ct 0, 12, .inl (fun _ => 0))), (q3, .inl (ct 1, 12, .inl (fun _ => 0))), (q4, .inl (ct 0, 12, .inl (fun _ => 0))), (q5, .inl (ct 0, 12, .inl (fun _ => 0)))] rfl dX1_init_41 (fun H locs hW => ?_)
  refine lv_aload_n hx hb dX1_init_44 rfl (lv_at hl 0 rfl) ?_
  refine lv_bipush (v := 12) hx hb dX1_init_45 (by decide) ?_
  refine cr_newa C hW (atype := .int) (List.mem_of_getElem? (i := 4) rfl) 0 rfl rfl (a0 := (12, .inl (fun _ => 0))) (fun _ => rfl) (by decide) (by decide) (Nat.le_of_ble_eq_true rfl) (Nat.le_of_ble_eq_true rfl) (Nat.le_of_ble_eq_true rfl) dX1_init_47 (fun q6 H hW => ?_)
  refine cr_putq C hin hW 0 rfl rfl tyX1 tyX1_ok nmX1 11 (by decide) hinX1 (List.mem_of_getElem? (i := 11) rfl) rfl rfl rfl rfl rfl (Nat.le_of_ble_eq_true rfl) [(h0, .inr (1, [.ref q1, .ref q2, .int 0, .int 0, .int 0, .int 0, .int 0, .int 0, .ref q3, .ref q4, .ref q5, .ref q6])), (q1, .inl (ct 0, 12, .inl (fun _ => 0))), (q2, .inl (ct 0, 12, .inl (fun _ => 0))), (q3, .inl (ct 1, 12, .inl (fun _ => 0))), (q4, .inl (ct 0, 12, .inl (fun _ => 0))), (q5, .inl (ct 0, 12, .inl (fun _ => 0))), (q6, .inl (ct 0, 12, .inl (fun _ => 0)))] rfl dX1_init_49 (fun H locs hW => ?_)
  exact cr_retV C (w := fun u : Nat → Nat => cr_wD ct u cr_zV) (fun k => match k with | 0 => h0 | 1 => q1 | 2 => q2 | 9 => q3 | 10 => q4 | 11 => q5 | _ => q6) hW rfl dX1_init_52
set_option maxHeartbeats 4000000 in
set_option maxRecDepth 100000 in
theorem m_X5_init (L : Launch) (D : va_G) (ct : Nat → ClassId) (h0 sz : Nat) : Met L yX5_init wsX5_init ({ frames := 1, cells := 2, slots := 64, locals := 12 } : Room) (cr_pW D ct [(h0, .inr (5, [.null, .int 0, .int 0, .int 0, .int 0, .int 0, .int 0, .null]))] sz [.ref h0]) (cr_QV D [(h0, .inr (5, [.null, .int 0, .int 0, .int 0, .int 0, .int 0, .int 0, .null]))] sz (fun u : Nat → Nat => u 0 = h0) (fun u => cr_wO ct u cr_zV)) 2 64 (va_A [(h0, .inr (5, [.null, .int 0, .int 0, .int 0, .int 0, .int 0, .int 0, .null]))] sz) := by
  have hinX5 : ∀ w ∈ wsX50, w ∈ wsX5_init := fun w h => List.mem_cons_of_mem _ (List.mem_append_right _ h)
  refine cr_metC (Qc := fun A => va_Qv (fun u : Nat → Nat => u 0 = h0) (fun u t => cr_at D A (cr_wO ct u cr_zV) t) A) (by decide) rfl rfl (Nat.le_of_ble_eq_true rfl) ?_
  intro p e s m args below meth c ls A hin C hW hl
  obtain ⟨hx, hb, hml, hown, hts, hr, hlocks, hK, hN⟩ := id C
  have hl : lv_has ls 1 [(0, .ref h0)] := hl
  refine lv_aload_n hx hb dX5_init_0 rfl (lv_at hl 0 rfl) ?_
  refine cr_oi C hl.1 (List.mem_of_getElem? (i := 1) rfl) (List.mem_of_getElem? (i := 2) rfl) (List.mem_of_getElem? (i := 3) rfl) dX5_init_1 ⟨Nat.le_of_ble_eq_true rfl, Nat.le_of_ble_eq_true rfl⟩ ?_
  refine lv_aload_n hx hb dX5_init_4 rfl (lv_at hl 0 rfl) ?_
  refine lv_bipush (v := 60) hx hb dX5_init_5 (by decide) ?_
  refine cr_newa C hW (atype := .char) (List.mem_of_getElem? (i := 4) rfl) 2 rfl rfl (a0 := (60, .inl (fun _ => 0))) (fun _ => rfl) (by decide) (by decide) (Nat.le_of_ble_eq_true rfl) (Nat.le_of_ble_eq_true rfl) (Nat.le_of_ble_eq_true rfl) dX5_init_7 (fun q1 H hW => ?_)
  refine cr_putq C hin hW 0 rfl rfl tyX5 tyX5_ok nmX5 0 (by decide) hinX5 (List.mem_of_getElem? (i := 5) rfl) rfl rfl rfl rfl rfl (Nat.le_of_ble_eq_true rfl) [(h0, .inr (5, [.ref q1, .int 0, .int 0, .int 0, .int 0, .int 0, .int 0, .null])), (q1, .inl (ct 2, 60, .inl (fun _ => 0)))] rfl dX5_init_9 (fun H locs hW => ?_)
  refine lv_aload_n hx hb dX5_init_12 rfl (lv_at hl 0 rfl) ?_
  refine lv_iconst (v := 4) hx hb dX5_init_13 (by decide) ?_
  refine cr_newa C hW (atype := .int) (List.mem_of_getElem? (i := 6) rfl) 0 rfl rfl (a0 := (4, .inl (fun _ => 0))) (fun _ => rfl) (by decide) (by decide) (Nat.le_of_ble_eq_true rfl) (Nat.le_of_ble_eq_true rfl) (Nat.le_of_ble_eq_true rfl) dX5_init_14 (fun q2 H hW => ?_)
  refine cr_putq C hin hW 0 rfl rfl tyX5 tyX5_ok nmX5 7 (by decide) hinX5 (List.mem_of_getElem? (i := 7) rfl) rfl rfl rfl rfl rfl (Nat.le_of_ble_eq_true rfl) [(h0, .inr (5, [.ref q1, .int 0, .int 0, .int 0, .int 0, .int 0, .int 0, .ref q2])), (q1, .inl (ct 2, 60, .inl (fun _ => 0))), (q2, .inl (ct 0, 4, .inl (fun _ => 0)))] rfl dX5_init_16 (fun H locs hW => ?_)
  exact cr_retV C (w := fun u : Nat → Nat => cr_wO ct u cr_zV) (fun k => match k with | 0 => h0 | 1 => q1 | _ => q2) hW rfl dX5_init_19
def cr_zM : cr_V := cr_c cr_zV 0 (upd (upd (upd (upd (upd (upd (upd (upd (upd (fun _ => 0) 8 100) 9 2388) 10 3) 11 2) 12 20) 13 100) 14 150) 15 200) 16 300)
