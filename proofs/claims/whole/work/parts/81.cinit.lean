set_option maxHeartbeats 4000000 in
set_option maxRecDepth 100000 in
theorem m_X0_init (L : Launch) (D : va_G) (ct : Nat → ClassId) (h0 sz : Nat) : Met L yX0_init wsX0_init ({ frames := 1, cells := 2, slots := 12, locals := 12 } : Room) (cr_pW D ct [(h0, .inr (0, [.null, .null, .int 0]))] sz [.ref h0]) (cr_QV D [(h0, .inr (0, [.null, .null, .int 0]))] sz (fun u : Nat → Nat => u 0 = h0) (fun u => cr_wK ct u cr_zV)) 2 12 (va_A [(h0, .inr (0, [.null, .null, .int 0]))] sz) := by
  have hinX0 : ∀ w ∈ wsX00, w ∈ wsX0_init := fun w h => List.mem_cons_of_mem _ (List.mem_append_right _ h)
  refine cr_metC (Qc := fun A => va_Qv (fun u : Nat → Nat => u 0 = h0) (fun u t => cr_at D A (cr_wK ct u cr_zV) t) A) (by decide) rfl rfl (Nat.le_of_ble_eq_true rfl) ?_
  intro p e s m args below meth c ls A hin C hW hl
  obtain ⟨hx, hb, hml, hown, hts, hr, hlocks, hK, hN⟩ := id C
  have hl : lv_has ls 1 [(0, .ref h0)] := hl
  refine lv_aload_n hx hb dX0_init_0 rfl (lv_at hl 0 rfl) ?_
  refine cr_oi C hl.1 (List.mem_of_getElem? (i := 1) rfl) (List.mem_of_getElem? (i := 2) rfl) (List.mem_of_getElem? (i := 3) rfl) dX0_init_1 ⟨Nat.le_of_ble_eq_true rfl, Nat.le_of_ble_eq_true rfl⟩ ?_
  refine lv_aload_n hx hb dX0_init_4 rfl (lv_at hl 0 rfl) ?_
  refine lv_bipush (v := 6) hx hb dX0_init_5 (by decide) ?_
  refine cr_newa C hW (atype := .int) (List.mem_of_getElem? (i := 4) rfl) 0 rfl rfl (a0 := (6, .inl (fun _ => 0))) (fun _ => rfl) (by decide) (by decide) (Nat.le_of_ble_eq_true rfl) (Nat.le_of_ble_eq_true rfl) (Nat.le_of_ble_eq_true rfl) dX0_init_7 (fun q1 H hW => ?_)
  refine cr_putq C hin hW 0 rfl rfl tyX0 tyX0_ok nmX0 0 (by decide) hinX0 (List.mem_of_getElem? (i := 5) rfl) rfl rfl rfl rfl rfl (Nat.le_of_ble_eq_true rfl) [(h0, .inr (0, [.ref q1, .null, .int 0])), (q1, .inl (ct 0, 6, .inl (fun _ => 0)))] rfl dX0_init_9 (fun H locs hW => ?_)
  refine lv_aload_n hx hb dX0_init_12 rfl (lv_at hl 0 rfl) ?_
  refine lv_bipush (v := 6) hx hb dX0_init_13 (by decide) ?_
  refine cr_newa C hW (atype := .int) (List.mem_of_getElem? (i := 4) rfl) 0 rfl rfl (a0 := (6, .inl (fun _ => 0))) (fun _ => rfl) (by decide) (by decide) (Nat.le_of_ble_eq_true rfl) (Nat.le_of_ble_eq_true rfl) (Nat.le_of_ble_eq_true rfl) dX0_init_15 (fun q2 H hW => ?_)
  refine cr_putq C hin hW 0 rfl rfl tyX0 tyX0_ok nmX0 1 (by decide) hinX0 (List.mem_of_getElem? (i := 6) rfl) rfl rfl rfl rfl rfl (Nat.le_of_ble_eq_true rfl) [(h0, .inr (0, [.ref q1, .ref q2, .int 0])), (q1, .inl (ct 0, 6, .inl (fun _ => 0))), (q2, .inl (ct 0, 6, .inl (fun _ => 0)))] rfl dX0_init_17 (fun H locs hW => ?_)
  exact cr_retV C (w := fun u : Nat → Nat => cr_wK ct u cr_zV) (fun k => match k with | 0 => h0 | 1 => q1 | _ => q2) hW rfl dX0_init_20
set_option maxHeartbeats 4000000 in
set_option maxRecDepth 100000 in
theorem m_X4_init (L : Launch) (D : va_G) (ct : Nat → ClassId) (h0 sz : Nat) : Met L yX4_init wsX4_init ({ frames := 1, cells := 4, slots := 48, locals := 12 } : Room) (cr_pW D ct [(h0, .inr (4, [.null, .null, .null, .null, .int 0, .int 0]))] sz [.ref h0]) (cr_QV D [(h0, .inr (4, [.null, .null, .null, .null, .int 0, .int 0]))] sz (fun u : Nat → Nat => u 0 = h0) (fun u => cr_wL ct u cr_zV)) 4 48 (va_A [(h0, .inr (4, [.null, .null, .null, .null, .int 0, .int 0]))] sz) := by
  have hinX4 : ∀ w ∈ wsX40, w ∈ wsX4_init := fun w h => List.mem_cons_of_mem _ (List.mem_append_right _ h)
  refine cr_metC (Qc := fun A => va_Qv (fun u : Nat → Nat => u 0 = h0) (fun u t => cr_at D A (cr_wL ct u cr_zV) t) A) (by decide) rfl rfl (Nat.le_of_ble_eq_true rfl) ?_
  intro p e s m args below meth c ls A hin C hW hl
  obtain ⟨hx, hb, hml, hown, hts, hr, hlocks, hK, hN⟩ := id C
  have hl : lv_has ls 1 [(0, .ref h0)] := hl
  refine lv_aload_n hx hb dX4_init_0 rfl (lv_at hl 0 rfl) ?_
  refine cr_oi C hl.1 (List.mem_of_getElem? (i := 1) rfl) (List.mem_of_getElem? (i := 2) rfl) (List.mem_of_getElem? (i := 3) rfl) dX4_init_1 ⟨Nat.le_of_ble_eq_true rfl, Nat.le_of_ble_eq_true rfl⟩ ?_
  refine lv_aload_n hx hb dX4_init_4 rfl (lv_at hl 0 rfl) ?_
  refine lv_bipush (v := 12) hx hb dX4_init_5 (by decide) ?_
  refine cr_newa C hW (atype := .int) (List.mem_of_getElem? (i := 4) rfl) 0 rfl rfl (a0 := (12, .inl (fun _ => 0))) (fun _ => rfl) (by decide) (by decide) (Nat.le_of_ble_eq_true rfl) (Nat.le_of_ble_eq_true rfl) (Nat.le_of_ble_eq_true rfl) dX4_init_7 (fun q1 H hW => ?_)
  refine cr_putq C hin hW 0 rfl rfl tyX4 tyX4_ok nmX4 0 (by decide) hinX4 (List.mem_of_getElem? (i := 5) rfl) rfl rfl rfl rfl rfl (Nat.le_of_ble_eq_true rfl) [(h0, .inr (4, [.ref q1, .null, .null, .null, .int 0, .int 0])), (q1, .inl (ct 0, 12, .inl (fun _ => 0)))] rfl dX4_init_9 (fun H locs hW => ?_)
  refine lv_aload_n hx hb dX4_init_12 rfl (lv_at hl 0 rfl) ?_
  refine lv_bipush (v := 12) hx hb dX4_init_13 (by decide) ?_
  refine cr_newa C hW (atype := .int) (List.mem_of_getElem? (i := 4) rfl) 0 rfl rfl (a0 := (12, .inl (fun _ => 0))) (fun _ => rfl) (by decide) (by decide) (Nat.le_of_ble_eq_true rfl) (Nat.le_of_ble_eq_true rfl) (Nat.le_of_ble_eq_true rfl) dX4_init_15 (fun q2 H hW => ?_)
  refine cr_putq C hin hW 0 rfl rfl tyX4 tyX4_ok nmX4 1 (by decide) hinX4 (List.mem_of_getElem? (i := 6) rfl) rfl rfl rfl rfl rfl (Nat.le_of_ble_eq_true rfl) [(h0, .inr (4, [.ref q1, .ref q2, .null, .null, .int 0, .int 0])), (q1, .inl (ct 0, 12, .inl (fun _ => 0))), (q2, .inl (ct 0, 12, .inl (fun _ => 0)))] rfl dX4_init_17 (fun H locs hW => ?_)
  refine lv_aload_n hx hb dX4_init_20 rfl (lv_at hl 0 rfl) ?_
  refine lv_bipush (v := 12) hx hb dX4_init_21 (by decide) ?_
  refine cr_newa C hW (atype := .int) (List.mem_of_getElem? (i := 4) rfl) 0 rfl rfl (a0 := (12, .inl (fun _ => 0))) (fun _ => rfl) (by decide) (by decide) (Nat.le_of_ble_eq_true rfl) (Nat.le_of_ble_eq_true rfl) (Nat.le_of_ble_eq_true rfl) dX4_init_23 (fun q3 H hW => ?_)
  refine cr_putq C hin hW 0 rfl rfl tyX4 tyX4_ok nmX4 2 (by decide) hinX4 (List.mem_of_getElem? (i := 7) rfl) rfl rfl rfl rfl rfl (Nat.le_of_ble_eq_true rfl) [(h0, .inr (4, [.ref q1, .ref q2, .ref q3, .null, .int 0, .int 0])), (q1, .inl (ct 0, 12, .inl (fun _ => 0))), (q2, .inl (ct 0, 12, .inl (fun _ => 0))), (q3, .inl (ct 0, 12, .inl (fun _ => 0)))] rfl dX4_init_25 (fun H locs hW => ?_)
  refine lv_aload_n hx hb dX4_init_28 rfl (lv_at hl 0 rfl) ?_
  refine lv_bipush (v := 12) hx hb dX4_init_29 (by decide) ?_
  refine cr_newa C hW (atype := .int) (List.mem_of_getElem? (i := 4) rfl) 0 rfl rfl (a0 := (12, .inl (fun _ => 0))) (fun _ => rfl) (by decide) (by decide) (Nat.le_of_ble_eq_true rfl) (Nat.le_of_ble_eq_true rfl) (Nat.le_of_ble_eq_true rfl) dX4_init_31 (fun q4 H hW => ?_)
  refine cr_putq C hin hW 0 rfl rfl tyX4 tyX4_ok nmX4 3 (by decide) hinX4 (List.mem_of_getElem? (i := 8) rfl) rfl rfl rfl rfl rfl (Nat.le_of_ble_eq_true rfl) [(h0, .inr (4, [.ref q1, .ref q2, .ref q3, .ref q4, .int 0, .int 0])), (q1, .inl (ct 0, 12, .inl (fun _ => 0))), (q2, .inl (ct 0, 12, .inl (fun _ => 0))), (q3, .inl (ct 0, 12, .inl (fun _ => 0))), (q4, .inl (ct 0, 12, .inl (fun _ => 0)))] rfl dX4_init_33 (fun H locs hW => ?_)
  exact cr_retV C (w := fun u : Nat → Nat => cr_wL ct u cr_zV) (fun k => match k with | 0 => h0 | 1 => q1 | 2 => q2 | 3 => q3 | _ => q4) hW rfl dX4_init_36
set_option maxHeartbeats 4000000 in
set_option maxRecDepth 100000 in
theorem m_X1_init (L : Launch) (D : va_G) (ct : Nat → ClassId) (h0 sz : Nat) : Met L yX1_init wsX1_init ({ frames := 1, cells := 6, slots := 72, locals := 12 } : Room) (cr_pW D ct [(h0, .inr (1, [.null, .null, .int 0, .int 0, .int 0, .int 0, .int 0, .int 0, .null, .null, .null, .null]))] sz [.ref h0]) (cr_QV D [(h0, .inr (1, [.null, .null, .int 0, .int 0, .int 0, .int 0, .int 0, .int 0, .null, .null, .null, .null]))] sz (fun u : Nat → Nat => u 0 = h0) (fun u => cr_wD ct u cr_zV)) 6 72 (va_A [(h0, .inr (1, [.null, .null, .int 0, .int 0, .int 0, .int 0, .int 0, .int 0, .null, .null, .null, .null]))] sz) := by
  have hinX1 : ∀ w ∈ wsX10, w ∈ wsX1_init := fun w h => List.mem_cons_of_mem _ (List.mem_append_right _ h)
  refine cr_metC (Qc := fun A => va_Qv (fun u : Nat → Nat => u 0 = h0) (fun u t => cr_at D A (cr_wD ct u cr_zV) t) A) (by decide) rfl rfl (Nat.le_of_ble_eq_true rfl) ?_
  intro p e s m args below meth c ls A hin C hW hl
  obtain ⟨hx, hb, hml, hown, hts, hr, hlocks, hK, hN⟩ := id C
  have hl : lv_has ls 1 [(0, .ref h0)] := hl
  refine lv_aload_n hx hb dX1_init_0 rfl (lv_at hl 0 rfl) ?_
  refine cr_oi C hl.1 (List.mem_of_getElem? (i := 1) rfl) (List.mem_of_getElem? (i := 2) rfl) (List.mem_of_getElem? (i := 3) rfl) dX1_init_1 ⟨Nat.le_of_ble_eq_true rfl, Nat.le_of_ble_eq_true rfl⟩ ?_
  refine lv_aload_n hx hb dX1_init_4 rfl (lv_at hl 0 rfl) ?_
  refine lv_bipush (v := 12) hx hb dX1_init_5 (by decide) ?_
  refine cr_newa C hW (atype := .int) (List.mem_of_getElem? (i := 4) rfl) 0 rfl rfl (a0 := (12, .inl (fun _ => 0))) (fun _ => rfl) (by decide) (by decide) (Nat.le_of_ble_eq_true rfl) (Nat.le_of_ble_eq_true rfl) (Nat.le_of_ble_eq_true rfl) dX1_init_7 (fun q1 H hW => ?_)
  refine cr_putq C hin hW 0 rfl rfl tyX1 tyX1_ok nmX1 0 (by decide) hinX1 (List.mem_of_getElem? (i := 5) rfl) rfl rfl rfl rfl rfl (Nat.le_of_ble_eq_true rfl) [(h0, .inr (1, [.ref q1, .null, .int 0, .int 0, .int 0, .int 0, .int 0, .int 0, .null, .null, .null, .null])), (q1, .inl (ct 0, 12, .inl (fun _ => 0)))] rfl dX1_init_9 (fun H locs hW => ?_)
  refine lv_aload_n hx hb dX1_init_12 rfl (lv_at hl 0 rfl) ?_
  refine lv_bipush (v := 12) hx hb dX1_init_13 (by decide) ?_
  refine cr_newa C hW (atype := .int) (List.mem_of_getElem? (i := 4) rfl) 0 rfl rfl (a0 := (12, .inl (fun _ => 0))) (fun _ => rfl) (by decide) (by decide) (Nat.le_of_ble_eq_true rfl) (Nat.le_of_ble_eq_true rfl) (Nat.le_of_ble_eq_true rfl) dX1_init_15 (fun q2 H hW => ?_)
  refine cr_putq C hin hW 0 rfl rfl tyX1 tyX1_ok nmX1 1 (by decide) hinX1 (List.mem_of_getElem? (i := 6) rfl) rfl rfl rfl rfl rfl (Nat.le_of_ble_eq_true rfl) [(h0, .inr (1, [.ref q1, .ref q2, .int 0, .int 0, .int 0, .int 0, .int 0, .int 0, .null, .null, .null, .null])), (q1, .inl (ct 0, 12, .inl (fun _ => 0))), (q2, .inl (ct 0, 12, .inl (fun _ => 0)))] rfl dX1_init_17 (fun H locs hW => ?_)
  refine lv_aload_n hx hb dX1_init_20 rfl (lv_at hl 0 rfl) ?_
  refine lv_bipush (v := 12) hx hb dX1_init_21 (by decide) ?_
  refine cr_newa C hW (atype := .boolean) (List.mem_of_getElem? (i := 7) rfl) 1 rfl rfl (a0 := (12, .inl (fun _ => 0))) (fun _ => rfl) (by decide) (by decide) (Nat.le_of_ble_eq_true rfl) (Nat.le_of_ble_eq_true rfl) (Nat.le_of_ble_eq_true rfl) dX1_init_23 (fun q3 H hW => ?_)
  refine cr_putq C hin hW 0 rfl rfl tyX1 tyX1_ok nmX1 8 (by decide) hinX1 (List.mem_of_getElem? (i := 8) rfl) rfl rfl rfl rfl rfl (Nat.le_of_ble_eq_true rfl) [(h0, .inr (1, [.ref q1, .ref q2, .int 0, .int 0, .int 0, .int 0, .int 0, .int 0, .ref q3, .null, .null, .null])), (q1, .inl (ct 0, 12, .inl (fun _ => 0))), (q2, .inl (ct 0, 12, .inl (fun _ => 0))), (q3, .inl (ct 1, 12, .inl (fun _ => 0)))] rfl dX1_init_25 (fun H locs hW => ?_)
  refine lv_aload_n hx hb dX1_init_28 rfl (lv_at hl 0 rfl) ?_
  refine lv_bipush (v := 12) hx hb dX1_init_29 (by decide) ?_
  refine cr_newa C hW (atype := .int) (List.mem_of_getElem? (i := 4) rfl) 0 rfl rfl (a0 := (12, .inl (fun _ => 0))) (fun _ => rfl) (by decide) (by decide) (Nat.le_of_ble_eq_true rfl) (Nat.le_of_ble_eq_true rfl) (Nat.le_of_ble_eq_true rfl) dX1_init_31 (fun q4 H hW => ?_)
  refine cr_putq C hin hW 0 rfl rfl tyX1 tyX1_ok nmX1 9 (by decide) hinX1 (List.mem_of_getElem? (i := 9) rfl) rfl rfl rfl rfl rfl (Nat.le_of_ble_eq_true rfl) [(h0, .inr (1, [.ref q1, .ref q2, .int 0, .int 0, .int 0, .int 0, .int 0, .int 0, .ref q3, .ref q4, .null, .null])), (q1, .inl (ct 0, 12, .inl (fun _ => 0))), (q2, .inl (ct 0, 12, .inl (fun _ => 0))), (q3, .inl (ct 1, 12, .inl (fun _ => 0))), (q4, .inl (ct 0, 12, .inl (fun _ => 0)))] rfl dX1_init_33 (fun H locs hW => ?_)
  refine lv_aload_n hx hb dX1_init_36 rfl (lv_at hl 0 rfl) ?_
  refine lv_bipush (v := 12) hx hb dX1_init_37 (by decide) ?_
  refine cr_newa C hW (atype := .int) (List.mem_of_getElem? (i := 4) rfl) 0 rfl rfl (a0 := (12, .inl (fun _ => 0))) (fun _ => rfl) (by decide) (by decide) (Nat.le_of_ble_eq_true rfl) (Nat.le_of_ble_eq_true rfl) (Nat.le_of_ble_eq_true rfl) dX1_init_39 (fun q5 H hW => ?_)
  refine cr_putq C hin hW 0 rfl rfl tyX1 tyX1_ok nmX1 10 (by decide) hinX1 (List.mem_of_getElem? (i := 10) rfl) rfl rfl rfl rfl rfl (Nat.le_of_ble_eq_true rfl) [(h0, .inr (1, [.ref q1, .ref q2, .int 0, .int 0, .int 0, .int 0, .int 0, .int 0, .ref q3, .ref q4, .ref q5, .null])), (q1, .inl (ct 0, 12, .inl (fun _ => 0))), (q2, .inl (ct 0, 12, .inl (fun _ => 0))), (q3, .inl (ct 1, 12, .inl (fun _ => 0))), (q4, .inl (ct 0, 12, .inl (fun _ => 0))), (q5, .inl (ct 0, 12, .inl (fun _ => 0)))] rfl dX1_init_41 (fun H locs hW => ?_)
  refine lv_aload_n hx hb dX1_init_44 rfl (lv_at hl 0 rfl) ?_
  refine lv_bipush (v := 12) hx hb dX1_init_45 (by decide) ?_
  refine cr_newa C hW (atype := .int) (List.mem_of_getElem? (i := 4) rfl) 0 rfl rfl (a0 := (12, .inl (fun _ => 0))) (fun _ => rfl) (by decide) (by decide) (Nat.le_of_ble_eq_true rfl) (Nat.le_of_ble_eq_true rfl) (Nat.le_of_ble_eq_true rfl) dX1_init_47 (fun q6 H hW => ?_)
  refine cr_putq C hin hW 0 rfl rfl tyX1 tyX1_ok nmX1 11 (by decide) hinX1 (List.mem_of_getElem? (i := 11) rfl) rfl rfl rfl rfl rfl (Nat.le_of_ble_eq_true rfl) [(h0, .inr (1, [.ref q1, .ref q2, .int 0, .int 0, .int 0, .int 0, .int 0, .int 0, .ref q3, .ref q4, .ref q5, .ref q6])), (q1, .inl (ct 0, 12, .inl (fun _ => 0))), (q2, .inl (ct 0, 12, .inl (fun _ => 0))), (q3, .inl (ct 1, 12, .inl (fun _ => 0))), (q4, .inl (ct 0, 12, .inl (fun _ => 0))), (q5, .inl (ct 0, 12, .inl (fun _ => 0))), (q6, .inl (ct 0, 12, .inl (fun _ => 0)))] rfl dX1_init_49 (fun H locs hW => ?_)
  exact cr_retV C (w := fun u : Nat → Nat => cr_wD ct u cr_zV) (fun k => match k with | 0 => h0 | 1 => q1 | 2 => q2 | 9 => q3 | 10 => q4 | 11 => q5 | _ => q6) hW rfl dX1_init_52
set_option maxHeartbeats 4000000 in
set_option maxRecDepth 100000 in
theorem m_X5_init (L : Launch) (D : va_G) (ct : Nat → ClassId) (h0 sz : Nat) : Met L yX5_init wsX5_init ({ frames := 1, cells := 2, slots := 64, locals := 12 } : Room) (cr_pW D ct [(h0, .inr (5, [.null, .int 0, .int 0, .int 0, .int 0, .int 0, .int 0, .null]))] sz [.ref h0]) (cr_QV D [(h0, .inr (5, [.null, .int 0, .int 0, .int 0, .int 0, .int 0, .int 0, .null]))] sz (fun u : Nat → Nat => u 0 = h0) (fun u => cr_wO ct u cr_zV)) 2 64 (va_A [(h0, .inr (5, [.null, .int 0, .int 0, .int 0, .int 0, .int 0, .int 0, .null]))] sz) := by
  have hinX5 : ∀ w ∈ wsX50, w ∈ wsX5_init := fun w h => List.mem_cons_of_mem _ (List.mem_append_right _ h)
  refine cr_metC (Qc := fun A => va_Qv (fun u : Nat → Nat => u 0 = h0) (fun u t => cr_at D A (cr_wO ct u cr_zV) t) A) (by decide) rfl rfl (Nat.le_of_ble_eq_true rfl) ?_
  intro p e s m args below meth c ls A hin C hW hl
  obtain ⟨hx, hb, hml, hown, hts, hr, hlocks, hK, hN⟩ := id C
  have hl : lv_has ls 1 [(0, .ref h0)] := hl
  refine lv_aload_n hx hb dX5_init_0 rfl (lv_at hl 0 rfl) ?_
  refine cr_oi C hl.1 (List.mem_of_getElem? (i := 1) rfl) (List.mem_of_getElem? (i := 2) rfl) (List.mem_of_getElem? (i := 3) rfl) dX5_init_1 ⟨Nat.le_of_ble_eq_true rfl, Nat.le_of_ble_eq_true rfl⟩ ?_
  refine lv_aload_n hx hb dX5_init_4 rfl (lv_at hl 0 rfl) ?_
  refine lv_bipush (v := 60) hx hb dX5_init_5 (by decide) ?_
  refine cr_newa C hW (atype := .char) (List.mem_of_getElem? (i := 4) rfl) 2 rfl rfl (a0 := (60, .inl (fun _ => 0))) (fun _ => rfl) (by decide) (by decide) (Nat.le_of_ble_eq_true rfl) (Nat.le_of_ble_eq_true rfl) (Nat.le_of_ble_eq_true rfl) dX5_init_7 (fun q1 H hW => ?_)
  refine cr_putq C hin hW 0 rfl rfl tyX5 tyX5_ok nmX5 0 (by decide) hinX5 (List.mem_of_getElem? (i := 5) rfl) rfl rfl rfl rfl rfl (Nat.le_of_ble_eq_true rfl) [(h0, .inr (5, [.ref q1, .int 0, .int 0, .int 0, .int 0, .int 0, .int 0, .null])), (q1, .inl (ct 2, 60, .inl (fun _ => 0)))] rfl dX5_init_9 (fun H locs hW => ?_)
  refine lv_aload_n hx hb dX5_init_12 rfl (lv_at hl 0 rfl) ?_
  refine lv_iconst (v := 4) hx hb dX5_init_13 (by decide) ?_
  refine cr_newa C hW (atype := .int) (List.mem_of_getElem? (i := 6) rfl) 0 rfl rfl (a0 := (4, .inl (fun _ => 0))) (fun _ => rfl) (by decide) (by decide) (Nat.le_of_ble_eq_true rfl) (Nat.le_of_ble_eq_true rfl) (Nat.le_of_ble_eq_true rfl) dX5_init_14 (fun q2 H hW => ?_)
  refine cr_putq C hin hW 0 rfl rfl tyX5 tyX5_ok nmX5 7 (by decide) hinX5 (List.mem_of_getElem? (i := 7) rfl) rfl rfl rfl rfl rfl (Nat.le_of_ble_eq_true rfl) [(h0, .inr (5, [.ref q1, .int 0, .int 0, .int 0, .int 0, .int 0, .int 0, .ref q2])), (q1, .inl (ct 2, 60, .inl (fun _ => 0))), (q2, .inl (ct 0, 4, .inl (fun _ => 0)))] rfl dX5_init_16 (fun H locs hW => ?_)
  exact cr_retV C (w := fun u : Nat → Nat => cr_wO ct u cr_zV) (fun k => match k with | 0 => h0 | 1 => q1 | _ => q2) hW rfl dX5_init_19
def cr_zM : cr_V := cr_c cr_zV 0 (upd (upd (upd (upd (upd (upd (upd (upd (upd (fun _ => 0) 8 100) 9 2388) 10 3) 11 2) 12 20) 13 100) 14 150) 15 200) 16 300)
set_option maxHeartbeats 4000000 in
set_option maxRecDepth 100000 in
theorem m_X7_init (L : Launch) (D : va_G) (ct : Nat → ClassId) (h0 sz : Nat) : Met L yX7_init wsX7_init ({ frames := 1, cells := 7, slots := 574, locals := 12 } : Room) (cr_pW D ct [(h0, .inr (7, [.null, .null, .null, .int 0, .int 0, .null, .int 0, .null, .null, .int 0, .int 0, .int 0, .int 0, .int 0, .int 0, .int 0, .int 0, .null]))] sz [.ref h0]) (cr_QV D [(h0, .inr (7, [.null, .null, .null, .int 0, .int 0, .null, .int 0, .null, .null, .int 0, .int 0, .int 0, .int 0, .int 0, .int 0, .int 0, .int 0, .null]))] sz (fun u : Nat → Nat => u 0 = h0) (fun u => cr_wM ct u cr_zM)) 7 574 (va_A [(h0, .inr (7, [.null, .null, .null, .int 0, .int 0, .null, .int 0, .null, .null, .int 0, .int 0, .int 0, .int 0, .int 0, .int 0, .int 0, .int 0, .null]))] sz) := by
  have hinX7 : ∀ w ∈ wsX70, w ∈ wsX7_init := fun w h => List.mem_cons_of_mem _ (List.mem_append_right _ h)
  refine cr_metC (Qc := fun A => va_Qv (fun u : Nat → Nat => u 0 = h0) (fun u t => cr_at D A (cr_wM ct u cr_zM) t) A) (by decide) rfl rfl (Nat.le_of_ble_eq_true rfl) ?_
  intro p e s m args below meth c ls A hin C hW hl
  obtain ⟨hx, hb, hml, hown, hts, hr, hlocks, hK, hN⟩ := id C
  have hl : lv_has ls 1 [(0, .ref h0)] := hl
  refine lv_aload_n hx hb dX7_init_0 rfl (lv_at hl 0 rfl) ?_
  refine cr_oi C hl.1 (List.mem_of_getElem? (i := 1) rfl) (List.mem_of_getElem? (i := 2) rfl) (List.mem_of_getElem? (i := 3) rfl) dX7_init_1 ⟨Nat.le_of_ble_eq_true rfl, Nat.le_of_ble_eq_true rfl⟩ ?_
  refine lv_aload_n hx hb dX7_init_4 rfl (lv_at hl 0 rfl) ?_
  refine lv_bipush (v := 81) hx hb dX7_init_5 (by decide) ?_
  refine cr_newa C hW (atype := .int) (List.mem_of_getElem? (i := 4) rfl) 0 rfl rfl (a0 := (81, .inl (fun _ => 0))) (fun _ => rfl) (by decide) (by decide) (Nat.le_of_ble_eq_true rfl) (Nat.le_of_ble_eq_true rfl) (Nat.le_of_ble_eq_true rfl) dX7_init_7 (fun q1 H hW => ?_)
  refine cr_putq C hin hW 0 rfl rfl tyX7 tyX7_ok nmX7 0 (by decide) hinX7 (List.mem_of_getElem? (i := 5) rfl) rfl rfl rfl rfl rfl (Nat.le_of_ble_eq_true rfl) [(h0, .inr (7, [.ref q1, .null, .null, .int 0, .int 0, .null, .int 0, .null, .null, .int 0, .int 0, .int 0, .int 0, .int 0, .int 0, .int 0, .int 0, .null])), (q1, .inl (ct 0, 81, .inl (fun _ => 0)))] rfl dX7_init_9 (fun H locs hW => ?_)
  refine lv_aload_n hx hb dX7_init_12 rfl (lv_at hl 0 rfl) ?_
  refine lv_sipush (v := 324) hx hb dX7_init_13 (by decide) ?_
  refine cr_newa C hW (atype := .int) (List.mem_of_getElem? (i := 4) rfl) 0 rfl rfl (a0 := (324, .inl (fun _ => 0))) (fun _ => rfl) (by decide) (by decide) (Nat.le_of_ble_eq_true rfl) (Nat.le_of_ble_eq_true rfl) (Nat.le_of_ble_eq_true rfl) dX7_init_16 (fun q2 H hW => ?_)
  refine cr_putq C hin hW 0 rfl rfl tyX7 tyX7_ok nmX7 1 (by decide) hinX7 (List.mem_of_getElem? (i := 6) rfl) rfl rfl rfl rfl rfl (Nat.le_of_ble_eq_true rfl) [(h0, .inr (7, [.ref q1, .ref q2, .null, .int 0, .int 0, .null, .int 0, .null, .null, .int 0, .int 0, .int 0, .int 0, .int 0, .int 0, .int 0, .int 0, .null])), (q1, .inl (ct 0, 81, .inl (fun _ => 0))), (q2, .inl (ct 0, 324, .inl (fun _ => 0)))] rfl dX7_init_18 (fun H locs hW => ?_)
  refine lv_aload_n hx hb dX7_init_21 rfl (lv_at hl 0 rfl) ?_
  refine lv_bipush (v := 81) hx hb dX7_init_22 (by decide) ?_
  refine cr_newa C hW (atype := .int) (List.mem_of_getElem? (i := 4) rfl) 0 rfl rfl (a0 := (81, .inl (fun _ => 0))) (fun _ => rfl) (by decide) (by decide) (Nat.le_of_ble_eq_true rfl) (Nat.le_of_ble_eq_true rfl) (Nat.le_of_ble_eq_true rfl) dX7_init_24 (fun q3 H hW => ?_)
  refine cr_putq C hin hW 0 rfl rfl tyX7 tyX7_ok nmX7 2 (by decide) hinX7 (List.mem_of_getElem? (i := 7) rfl) rfl rfl rfl rfl rfl (Nat.le_of_ble_eq_true rfl) [(h0, .inr (7, [.ref q1, .ref q2, .ref q3, .int 0, .int 0, .null, .int 0, .null, .null, .int 0, .int 0, .int 0, .int 0, .int 0, .int 0, .int 0, .int 0, .null])), (q1, .inl (ct 0, 81, .inl (fun _ => 0))), (q2, .inl (ct 0, 324, .inl (fun _ => 0))), (q3, .inl (ct 0, 81, .inl (fun _ => 0)))] rfl dX7_init_26 (fun H locs hW => ?_)
  refine lv_aload_n hx hb dX7_init_29 rfl (lv_at hl 0 rfl) ?_
  refine lv_bipush (v := 60) hx hb dX7_init_30 (by decide) ?_
  refine cr_newa C hW (atype := .int) (List.mem_of_getElem? (i := 4) rfl) 0 rfl rfl (a0 := (60, .inl (fun _ => 0))) (fun _ => rfl) (by decide) (by decide) (Nat.le_of_ble_eq_true rfl) (Nat.le_of_ble_eq_true rfl) (Nat.le_of_ble_eq_true rfl) dX7_init_32 (fun q4 H hW => ?_)
  refine cr_putq C hin hW 0 rfl rfl tyX7 tyX7_ok nmX7 5 (by decide) hinX7 (List.mem_of_getElem? (i := 8) rfl) rfl rfl rfl rfl rfl (Nat.le_of_ble_eq_true rfl) [(h0, .inr (7, [.ref q1, .ref q2, .ref q3, .int 0, .int 0, .ref q4, .int 0, .null, .null, .int 0, .int 0, .int 0, .int 0, .int 0, .int 0, .int 0, .int 0, .null])), (q1, .inl (ct 0, 81, .inl (fun _ => 0))), (q2, .inl (ct 0, 324, .inl (fun _ => 0))), (q3, .inl (ct 0, 81, .inl (fun _ => 0))), (q4, .inl (ct 0, 60, .inl (fun _ => 0)))] rfl dX7_init_34 (fun H locs hW => ?_)
  refine lv_aload_n hx hb dX7_init_37 rfl (lv_at hl 0 rfl) ?_
  refine lv_bipush (v := 12) hx hb dX7_init_38 (by decide) ?_
  refine cr_newa C hW (atype := .int) (List.mem_of_getElem? (i := 4) rfl) 0 rfl rfl (a0 := (12, .inl (fun _ => 0))) (fun _ => rfl) (by decide) (by decide) (Nat.le_of_ble_eq_true rfl) (Nat.le_of_ble_eq_true rfl) (Nat.le_of_ble_eq_true rfl) dX7_init_40 (fun q5 H hW => ?_)
  refine cr_putq C hin hW 0 rfl rfl tyX7 tyX7_ok nmX7 7 (by decide) hinX7 (List.mem_of_getElem? (i := 9) rfl) rfl rfl rfl rfl rfl (Nat.le_of_ble_eq_true rfl) [(h0, .inr (7, [.ref q1, .ref q2, .ref q3, .int 0, .int 0, .ref q4, .int 0, .ref q5, .null, .int 0, .int 0, .int 0, .int 0, .int 0, .int 0, .int 0, .int 0, .null])), (q1, .inl (ct 0, 81, .inl (fun _ => 0))), (q2, .inl (ct 0, 324, .inl (fun _ => 0))), (q3, .inl (ct 0, 81, .inl (fun _ => 0))), (q4, .inl (ct 0, 60, .inl (fun _ => 0))), (q5, .inl (ct 0, 12, .inl (fun _ => 0)))] rfl dX7_init_42 (fun H locs hW => ?_)
  refine lv_aload_n hx hb dX7_init_45 rfl (lv_at hl 0 rfl) ?_
  refine lv_bipush (v := 12) hx hb dX7_init_46 (by decide) ?_
  refine cr_newa C hW (atype := .int) (List.mem_of_getElem? (i := 4) rfl) 0 rfl rfl (a0 := (12, .inl (fun _ => 0))) (fun _ => rfl) (by decide) (by decide) (Nat.le_of_ble_eq_true rfl) (Nat.le_of_ble_eq_true rfl) (Nat.le_of_ble_eq_true rfl) dX7_init_48 (fun q6 H hW => ?_)
  refine cr_putq C hin hW 0 rfl rfl tyX7 tyX7_ok nmX7 8 (by decide) hinX7 (List.mem_of_getElem? (i := 10) rfl) rfl rfl rfl rfl rfl (Nat.le_of_ble_eq_true rfl) [(h0, .inr (7, [.ref q1, .ref q2, .ref q3, .int 0, .int 0, .ref q4, .int 0, .ref q5, .ref q6, .int 0, .int 0, .int 0, .int 0, .int 0, .int 0, .int 0, .int 0, .null])), (q1, .inl (ct 0, 81, .inl (fun _ => 0))), (q2, .inl (ct 0, 324, .inl (fun _ => 0))), (q3, .inl (ct 0, 81, .inl (fun _ => 0))), (q4, .inl (ct 0, 60, .inl (fun _ => 0))), (q5, .inl (ct 0, 12, .inl (fun _ => 0))), (q6, .inl (ct 0, 12, .inl (fun _ => 0)))] rfl dX7_init_50 (fun H locs hW => ?_)
  refine lv_aload_n hx hb dX7_init_53 rfl (lv_at hl 0 rfl) ?_
  refine lv_iconst (v := 4) hx hb dX7_init_54 (by decide) ?_
  refine cr_newa C hW (atype := .int) (List.mem_of_getElem? (i := 4) rfl) 0 rfl rfl (a0 := (4, .inl (fun _ => 0))) (fun _ => rfl) (by decide) (by decide) (Nat.le_of_ble_eq_true rfl) (Nat.le_of_ble_eq_true rfl) (Nat.le_of_ble_eq_true rfl) dX7_init_55 (fun q7 H hW => ?_)
  refine cr_putq C hin hW 0 rfl rfl tyX7 tyX7_ok nmX7 17 (by decide) hinX7 (List.mem_of_getElem? (i := 11) rfl) rfl rfl rfl rfl rfl (Nat.le_of_ble_eq_true rfl) [(h0, .inr (7, [.ref q1, .ref q2, .ref q3, .int 0, .int 0, .ref q4, .int 0, .ref q5, .ref q6, .int 0, .int 0, .int 0, .int 0, .int 0, .int 0, .int 0, .int 0, .ref q7])), (q1, .inl (ct 0, 81, .inl (fun _ => 0))), (q2, .inl (ct 0, 324, .inl (fun _ => 0))), (q3, .inl (ct 0, 81, .inl (fun _ => 0))), (q4, .inl (ct 0, 60, .inl (fun _ => 0))), (q5, .inl (ct 0, 12, .inl (fun _ => 0))), (q6, .inl (ct 0, 12, .inl (fun _ => 0))), (q7, .inl (ct 0, 4, .inl (fun _ => 0)))] rfl dX7_init_57 (fun H locs hW => ?_)
  refine lv_aload_n hx hb dX7_init_60 rfl (lv_at hl 0 rfl) ?_
  refine cr_get C hW.1 0 rfl rfl 0 (by decide) hinX7 (List.mem_of_getElem? (i := 5) rfl) (v := .ref q1) rfl dX7_init_61 ?_
  refine lv_bipush (v := 8) hx hb dX7_init_64 (by decide) ?_
  refine lv_bipush (v := 100) hx hb dX7_init_66 (by decide) ?_
  refine cr_ast C hW 1 rfl (k := 8) (by decide) (by decide) (w' := [(h0, .inr (7, [.ref q1, .ref q2, .ref q3, .int 0, .int 0, .ref q4, .int 0, .ref q5, .ref q6, .int 0, .int 0, .int 0, .int 0, .int 0, .int 0, .int 0, .int 0, .ref q7])), (q1, .inl (ct 0, 81, .inl (upd (fun _ => 0) 8 100))), (q2, .inl (ct 0, 324, .inl (fun _ => 0))), (q3, .inl (ct 0, 81, .inl (fun _ => 0))), (q4, .inl (ct 0, 60, .inl (fun _ => 0))), (q5, .inl (ct 0, 12, .inl (fun _ => 0))), (q6, .inl (ct 0, 12, .inl (fun _ => 0))), (q7, .inl (ct 0, 4, .inl (fun _ => 0)))]) rfl dX7_init_68 (fun H locs hW => ?_)
  refine lv_aload_n hx hb dX7_init_69 rfl (lv_at hl 0 rfl) ?_
  refine cr_get C hW.1 0 rfl rfl 0 (by decide) hinX7 (List.mem_of_getElem? (i := 5) rfl) (v := .ref q1) rfl dX7_init_70 ?_
  refine lv_bipush (v := 9) hx hb dX7_init_73 (by decide) ?_
  refine lv_sipush (v := 2388) hx hb dX7_init_75 (by decide) ?_
  refine cr_ast C hW 1 rfl (k := 9) (by decide) (by decide) (w' := [(h0, .inr (7, [.ref q1, .ref q2, .ref q3, .int 0, .int 0, .ref q4, .int 0, .ref q5, .ref q6, .int 0, .int 0, .int 0, .int 0, .int 0, .int 0, .int 0, .int 0, .ref q7])), (q1, .inl (ct 0, 81, .inl (upd (upd (fun _ => 0) 8 100) 9 2388))), (q2, .inl (ct 0, 324, .inl (fun _ => 0))), (q3, .inl (ct 0, 81, .inl (fun _ => 0))), (q4, .inl (ct 0, 60, .inl (fun _ => 0))), (q5, .inl (ct 0, 12, .inl (fun _ => 0))), (q6, .inl (ct 0, 12, .inl (fun _ => 0))), (q7, .inl (ct 0, 4, .inl (fun _ => 0)))]) rfl dX7_init_78 (fun H locs hW => ?_)
  refine lv_aload_n hx hb dX7_init_79 rfl (lv_at hl 0 rfl) ?_
  refine cr_get C hW.1 0 rfl rfl 0 (by decide) hinX7 (List.mem_of_getElem? (i := 5) rfl) (v := .ref q1) rfl dX7_init_80 ?_
  refine lv_bipush (v := 10) hx hb dX7_init_83 (by decide) ?_
  refine lv_iconst (v := 3) hx hb dX7_init_85 (by decide) ?_
  refine cr_ast C hW 1 rfl (k := 10) (by decide) (by decide) (w' := [(h0, .inr (7, [.ref q1, .ref q2, .ref q3, .int 0, .int 0, .ref q4, .int 0, .ref q5, .ref q6, .int 0, .int 0, .int 0, .int 0, .int 0, .int 0, .int 0, .int 0, .ref q7])), (q1, .inl (ct 0, 81, .inl (upd (upd (upd (fun _ => 0) 8 100) 9 2388) 10 3))), (q2, .inl (ct 0, 324, .inl (fun _ => 0))), (q3, .inl (ct 0, 81, .inl (fun _ => 0))), (q4, .inl (ct 0, 60, .inl (fun _ => 0))), (q5, .inl (ct 0, 12, .inl (fun _ => 0))), (q6, .inl (ct 0, 12, .inl (fun _ => 0))), (q7, .inl (ct 0, 4, .inl (fun _ => 0)))]) rfl dX7_init_86 (fun H locs hW => ?_)
  refine lv_aload_n hx hb dX7_init_87 rfl (lv_at hl 0 rfl) ?_
  refine cr_get C hW.1 0 rfl rfl 0 (by decide) hinX7 (List.mem_of_getElem? (i := 5) rfl) (v := .ref q1) rfl dX7_init_88 ?_
  refine lv_bipush (v := 11) hx hb dX7_init_91 (by decide) ?_
  refine lv_iconst (v := 2) hx hb dX7_init_93 (by decide) ?_
  refine cr_ast C hW 1 rfl (k := 11) (by decide) (by decide) (w' := [(h0, .inr (7, [.ref q1, .ref q2, .ref q3, .int 0, .int 0, .ref q4, .int 0, .ref q5, .ref q6, .int 0, .int 0, .int 0, .int 0, .int 0, .int 0, .int 0, .int 0, .ref q7])), (q1, .inl (ct 0, 81, .inl (upd (upd (upd (upd (fun _ => 0) 8 100) 9 2388) 10 3) 11 2))), (q2, .inl (ct 0, 324, .inl (fun _ => 0))), (q3, .inl (ct 0, 81, .inl (fun _ => 0))), (q4, .inl (ct 0, 60, .inl (fun _ => 0))), (q5, .inl (ct 0, 12, .inl (fun _ => 0))), (q6, .inl (ct 0, 12, .inl (fun _ => 0))), (q7, .inl (ct 0, 4, .inl (fun _ => 0)))]) rfl dX7_init_94 (fun H locs hW => ?_)
  refine lv_aload_n hx hb dX7_init_95 rfl (lv_at hl 0 rfl) ?_
  refine cr_get C hW.1 0 rfl rfl 0 (by decide) hinX7 (List.mem_of_getElem? (i := 5) rfl) (v := .ref q1) rfl dX7_init_96 ?_
  refine lv_bipush (v := 12) hx hb dX7_init_99 (by decide) ?_
  refine lv_bipush (v := 20) hx hb dX7_init_101 (by decide) ?_
  refine cr_ast C hW 1 rfl (k := 12) (by decide) (by decide) (w' := [(h0, .inr (7, [.ref q1, .ref q2, .ref q3, .int 0, .int 0, .ref q4, .int 0, .ref q5, .ref q6, .int 0, .int 0, .int 0, .int 0, .int 0, .int 0, .int 0, .int 0, .ref q7])), (q1, .inl (ct 0, 81, .inl (upd (upd (upd (upd (upd (fun _ => 0) 8 100) 9 2388) 10 3) 11 2) 12 20))), (q2, .inl (ct 0, 324, .inl (fun _ => 0))), (q3, .inl (ct 0, 81, .inl (fun _ => 0))), (q4, .inl (ct 0, 60, .inl (fun _ => 0))), (q5, .inl (ct 0, 12, .inl (fun _ => 0))), (q6, .inl (ct 0, 12, .inl (fun _ => 0))), (q7, .inl (ct 0, 4, .inl (fun _ => 0)))]) rfl dX7_init_103 (fun H locs hW => ?_)
  refine lv_aload_n hx hb dX7_init_104 rfl (lv_at hl 0 rfl) ?_
  refine cr_get C hW.1 0 rfl rfl 0 (by decide) hinX7 (List.mem_of_getElem? (i := 5) rfl) (v := .ref q1) rfl dX7_init_105 ?_
  refine lv_bipush (v := 13) hx hb dX7_init_108 (by decide) ?_
  refine lv_bipush (v := 100) hx hb dX7_init_110 (by decide) ?_
  refine cr_ast C hW 1 rfl (k := 13) (by decide) (by decide) (w' := [(h0, .inr (7, [.ref q1, .ref q2, .ref q3, .int 0, .int 0, .ref q4, .int 0, .ref q5, .ref q6, .int 0, .int 0, .int 0, .int 0, .int 0, .int 0, .int 0, .int 0, .ref q7])), (q1, .inl (ct 0, 81, .inl (upd (upd (upd (upd (upd (upd (fun _ => 0) 8 100) 9 2388) 10 3) 11 2) 12 20) 13 100))), (q2, .inl (ct 0, 324, .inl (fun _ => 0))), (q3, .inl (ct 0, 81, .inl (fun _ => 0))), (q4, .inl (ct 0, 60, .inl (fun _ => 0))), (q5, .inl (ct 0, 12, .inl (fun _ => 0))), (q6, .inl (ct 0, 12, .inl (fun _ => 0))), (q7, .inl (ct 0, 4, .inl (fun _ => 0)))]) rfl dX7_init_112 (fun H locs hW => ?_)
  refine lv_aload_n hx hb dX7_init_113 rfl (lv_at hl 0 rfl) ?_
  refine cr_get C hW.1 0 rfl rfl 0 (by decide) hinX7 (List.mem_of_getElem? (i := 5) rfl) (v := .ref q1) rfl dX7_init_114 ?_
  refine lv_bipush (v := 14) hx hb dX7_init_117 (by decide) ?_
  refine lv_sipush (v := 150) hx hb dX7_init_119 (by decide) ?_
  refine cr_ast C hW 1 rfl (k := 14) (by decide) (by decide) (w' := [(h0, .inr (7, [.ref q1, .ref q2, .ref q3, .int 0, .int 0, .ref q4, .int 0, .ref q5, .ref q6, .int 0, .int 0, .int 0, .int 0, .int 0, .int 0, .int 0, .int 0, .ref q7])), (q1, .inl (ct 0, 81, .inl (upd (upd (upd (upd (upd (upd (upd (fun _ => 0) 8 100) 9 2388) 10 3) 11 2) 12 20) 13 100) 14 150))), (q2, .inl (ct 0, 324, .inl (fun _ => 0))), (q3, .inl (ct 0, 81, .inl (fun _ => 0))), (q4, .inl (ct 0, 60, .inl (fun _ => 0))), (q5, .inl (ct 0, 12, .inl (fun _ => 0))), (q6, .inl (ct 0, 12, .inl (fun _ => 0))), (q7, .inl (ct 0, 4, .inl (fun _ => 0)))]) rfl dX7_init_122 (fun H locs hW => ?_)
  refine lv_aload_n hx hb dX7_init_123 rfl (lv_at hl 0 rfl) ?_
  refine cr_get C hW.1 0 rfl rfl 0 (by decide) hinX7 (List.mem_of_getElem? (i := 5) rfl) (v := .ref q1) rfl dX7_init_124 ?_
  refine lv_bipush (v := 15) hx hb dX7_init_127 (by decide) ?_
  refine lv_sipush (v := 200) hx hb dX7_init_129 (by decide) ?_
  refine cr_ast C hW 1 rfl (k := 15) (by decide) (by decide) (w' := [(h0, .inr (7, [.ref q1, .ref q2, .ref q3, .int 0, .int 0, .ref q4, .int 0, .ref q5, .ref q6, .int 0, .int 0, .int 0, .int 0, .int 0, .int 0, .int 0, .int 0, .ref q7])), (q1, .inl (ct 0, 81, .inl (upd (upd (upd (upd (upd (upd (upd (upd (fun _ => 0) 8 100) 9 2388) 10 3) 11 2) 12 20) 13 100) 14 150) 15 200))), (q2, .inl (ct 0, 324, .inl (fun _ => 0))), (q3, .inl (ct 0, 81, .inl (fun _ => 0))), (q4, .inl (ct 0, 60, .inl (fun _ => 0))), (q5, .inl (ct 0, 12, .inl (fun _ => 0))), (q6, .inl (ct 0, 12, .inl (fun _ => 0))), (q7, .inl (ct 0, 4, .inl (fun _ => 0)))]) rfl dX7_init_132 (fun H locs hW => ?_)
  refine lv_aload_n hx hb dX7_init_133 rfl (lv_at hl 0 rfl) ?_
  refine cr_get C hW.1 0 rfl rfl 0 (by decide) hinX7 (List.mem_of_getElem? (i := 5) rfl) (v := .ref q1) rfl dX7_init_134 ?_
  refine lv_bipush (v := 16) hx hb dX7_init_137 (by decide) ?_
  refine lv_sipush (v := 300) hx hb dX7_init_139 (by decide) ?_
  refine cr_ast C hW 1 rfl (k := 16) (by decide) (by decide) (w' := [(h0, .inr (7, [.ref q1, .ref q2, .ref q3, .int 0, .int 0, .ref q4, .int 0, .ref q5, .ref q6, .int 0, .int 0, .int 0, .int 0, .int 0, .int 0, .int 0, .int 0, .ref q7])), (q1, .inl (ct 0, 81, .inl (upd (upd (upd (upd (upd (upd (upd (upd (upd (fun _ => 0) 8 100) 9 2388) 10 3) 11 2) 12 20) 13 100) 14 150) 15 200) 16 300))), (q2, .inl (ct 0, 324, .inl (fun _ => 0))), (q3, .inl (ct 0, 81, .inl (fun _ => 0))), (q4, .inl (ct 0, 60, .inl (fun _ => 0))), (q5, .inl (ct 0, 12, .inl (fun _ => 0))), (q6, .inl (ct 0, 12, .inl (fun _ => 0))), (q7, .inl (ct 0, 4, .inl (fun _ => 0)))]) rfl dX7_init_142 (fun H locs hW => ?_)
  exact cr_retV C (w := fun u : Nat → Nat => cr_wM ct u cr_zM) (fun k => match k with | 0 => h0 | 1 => q1 | 2 => q2 | 3 => q3 | 6 => q4 | 8 => q5 | 9 => q6 | _ => q7) hW rfl dX7_init_143
