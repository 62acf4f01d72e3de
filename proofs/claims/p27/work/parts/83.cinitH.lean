/-! House, History, CupReceipts: their constructors -/
def cr_hV : cr_V := cr_c (cr_c cr_zV 2 cr_fw) 3 cr_fs
set_option maxHeartbeats 4000000 in
set_option maxRecDepth 100000 in
theorem m_X3_init (L : Launch) (D : va_G) (ct : Nat → ClassId) (h0 sz : Nat) : Met L yX3_init wsX3_init ({ frames := 2, cells := 10, slots := 78, locals := 32 } : Room) (cr_pI D ct [(h0, .inr (3, [.null, .null, .null, .null, .int 0, .int 0, .int 0, .int 0, .int 0]))] sz [.ref h0]) (cr_QV D [(h0, .inr (3, [.null, .null, .null, .null, .int 0, .int 0, .int 0, .int 0, .int 0]))] sz (fun u : (Nat → Nat) × (Nat → Nat) × (Nat → Nat) => u.1 0 = h0) (fun u => cr_wH ct u.1 u.2.1 u.2.2 cr_hV cr_zV cr_zV)) 10 78 (va_A [(h0, .inr (3, [.null, .null, .null, .null, .int 0, .int 0, .int 0, .int 0, .int 0]))] sz) := by
  have hinX4 : ∀ w ∈ wsX40, w ∈ wsX3_init := fun w h => List.mem_cons_of_mem _ (List.mem_append_left _ (List.mem_append_left _ (List.mem_append_right _ h)))
  have hinX3 : ∀ w ∈ wsX30, w ∈ wsX3_init := fun w h => List.mem_cons_of_mem _ (List.mem_append_left _ (List.mem_append_right _ h))
  have hinX0 : ∀ w ∈ wsX00, w ∈ wsX3_init := fun w h => List.mem_cons_of_mem _ (List.mem_append_right _ h)
  refine cr_metI (Qc := fun A => va_Qv (fun u : (Nat → Nat) × (Nat → Nat) × (Nat → Nat) => u.1 0 = h0) (fun u t => cr_at D A (cr_wH ct u.1 u.2.1 u.2.2 cr_hV cr_zV cr_zV) t) A) (by decide) rfl rfl (Nat.le_of_ble_eq_true rfl) ?_
  intro p e s m args below meth c ls A hin hNI hFA C hW hl
  obtain ⟨hx, hb, hml, hown, hts, hr, hlocks, hK, hN⟩ := id C
  have hl : lv_has ls 1 [(0, .ref h0)] := hl
  obtain ⟨t1, t2, hZ1, hE1, hZ2, hE2⟩ := id hFA
  refine lv_aload_n hx hb dX3_init_0 rfl (lv_at hl 0 rfl) ?_
  refine cr_oi C hl.1 (List.mem_of_getElem? (i := 1) rfl) (List.mem_of_getElem? (i := 2) rfl) (List.mem_of_getElem? (i := 3) rfl) dX3_init_1 ⟨Nat.le_of_ble_eq_true rfl, Nat.le_of_ble_eq_true rfl⟩ ?_
  refine lv_aload_n hx hb dX3_init_4 rfl (lv_at hl 0 rfl) ?_
  refine cr_new C hW hinX4 tyX4 tyX4_ok (List.mem_of_getElem? (i := 4) rfl) (List.mem_of_getElem? (i := 5) rfl) (List.mem_of_getElem? (i := 6) rfl) (ci := 4) rfl (fs := [.null, .null, .null, .null, .int 0, .int 0]) (fun j hj => by rcases (show j = 0 ∨ j = 1 ∨ j = 2 ∨ j = 3 ∨ j = 4 ∨ j = 5 by omega) with rfl | rfl | rfl | rfl | rfl | rfl <;> rfl) (Nat.le_of_ble_eq_true rfl) (Nat.le_of_ble_eq_true rfl) dX3_init_5 (fun q1 H hW => ?_)
  refine lv_dup hx hb dX3_init_8 rfl ?_
  have hW := hW.perm List.perm_append_comm
  refine cr_iN C hW (m_X4_init L D ct q1 H.size) ⟨va_cnB 0 hts gX3_init_X4_init_n11 rfl rfl rfl hNI.1 (hts _ (List.mem_of_getElem? (i := 6) rfl)) (by decide +kernel) ⟨Nat.le_of_ble_eq_true rfl, Nat.le_of_ble_eq_true rfl⟩, rfl, hts _ (List.mem_of_getElem? (i := 20) rfl)⟩ hl.1 (Nat.le_of_ble_eq_true rfl) dX3_init_9 ⟨Nat.le_of_ble_eq_true rfl, Nat.le_of_ble_eq_true rfl⟩ (fun u H locs hu hV => ?_)
  subst hu
  have hW := hV
  refine cr_putq C hin hW 5 (a := h0) (ci := 3) rfl rfl tyX3 tyX3_ok nmX3 0 (by decide) hinX3 (List.mem_of_getElem? (i := 7) rfl) rfl rfl rfl rfl rfl (Nat.le_of_ble_eq_true rfl) (cr_wL ct u cr_zV ++ [(h0, .inr (3, [.ref (u 0), .null, .null, .null, .int 0, .int 0, .int 0, .int 0, .int 0]))]) rfl dX3_init_12 (fun H locs hW => ?_)
  refine lv_aload_n hx hb dX3_init_15 rfl (lv_at hl 0 rfl) ?_
  refine cr_new C hW hinX0 tyX0 tyX0_ok (List.mem_of_getElem? (i := 8) rfl) (List.mem_of_getElem? (i := 9) rfl) (List.mem_of_getElem? (i := 10) rfl) (ci := 0) rfl (fs := [.null, .null, .int 0]) (fun j hj => by rcases (show j = 0 ∨ j = 1 ∨ j = 2 by omega) with rfl | rfl | rfl <;> rfl) (Nat.le_of_ble_eq_true rfl) (Nat.le_of_ble_eq_true rfl) dX3_init_16 (fun q2 H hW => ?_)
  refine lv_dup hx hb dX3_init_19 rfl ?_
  have hW := hW.perm List.perm_append_comm
  refine cr_iN C hW (m_X0_init L D ct q2 H.size) ⟨va_cnB 0 hts gX3_init_X0_init_n20 rfl rfl rfl hNI.2.1 (hts _ (List.mem_of_getElem? (i := 10) rfl)) (by decide +kernel) ⟨Nat.le_of_ble_eq_true rfl, Nat.le_of_ble_eq_true rfl⟩, rfl, hts _ (List.mem_of_getElem? (i := 28) rfl)⟩ hl.1 (Nat.le_of_ble_eq_true rfl) dX3_init_20 ⟨Nat.le_of_ble_eq_true rfl, Nat.le_of_ble_eq_true rfl⟩ (fun w H locs hw hV => ?_)
  subst hw
  have hW := hV
  refine cr_putq C hin hW 8 (a := h0) (ci := 3) rfl rfl tyX3 tyX3_ok nmX3 1 (by decide) hinX3 (List.mem_of_getElem? (i := 11) rfl) rfl rfl rfl rfl rfl (Nat.le_of_ble_eq_true rfl) (cr_wK ct w cr_zV ++ (cr_wL ct u cr_zV ++ [(h0, .inr (3, [.ref (u 0), .ref (w 0), .null, .null, .int 0, .int 0, .int 0, .int 0, .int 0]))])) rfl dX3_init_23 (fun H locs hW => ?_)
  refine lv_aload_n hx hb dX3_init_26 rfl (lv_at hl 0 rfl) ?_
  refine va_getsN hx hb hZ1 hW.2.2.1 hown (va_Nw.use rfl hNI.2.2.2.2.2.2.1) (fun _ h9 => h9) dX3_init_27 ?_
  refine cr_clone hE1 hNI.2.2.2.2.2.2.2.2.1 C hW hl.1 (List.mem_of_getElem? (i := 12) rfl) (List.mem_of_getElem? (i := 13) rfl) (List.mem_of_getElem? (i := 14) rfl) (List.mem_of_getElem? (i := 15) rfl) (List.mem_of_getElem? (i := 16) rfl) (Nat.le_of_ble_eq_true rfl) (Nat.le_of_ble_eq_true rfl) (Nat.le_of_ble_eq_true rfl) (Nat.le_of_ble_eq_true rfl) dX3_init_30 (fun q3 H hW => ?_)
  refine cr_castI C hW.1 9 rfl (List.mem_of_getElem? (i := 17) rfl) dX3_init_33 ?_
  refine cr_putq C hin hW 8 (a := h0) (ci := 3) rfl rfl tyX3 tyX3_ok nmX3 2 (by decide) hinX3 (List.mem_of_getElem? (i := 18) rfl) rfl rfl rfl rfl rfl (Nat.le_of_ble_eq_true rfl) (cr_wK ct w cr_zV ++ (cr_wL ct u cr_zV ++ [(h0, .inr (3, [.ref (u 0), .ref (w 0), .ref q3, .null, .int 0, .int 0, .int 0, .int 0, .int 0])), (q3, .inl (ct 0, 4, .inl cr_fw))])) rfl dX3_init_36 (fun H locs hW => ?_)
  refine lv_aload_n hx hb dX3_init_39 rfl (lv_at hl 0 rfl) ?_
  refine va_getsN hx hb hZ2 hW.2.2.1 hown (va_Nw.use rfl hNI.2.2.2.2.2.2.2.1) (fun _ h9 => h9) dX3_init_40 ?_
  refine cr_clone hE2 hNI.2.2.2.2.2.2.2.2.1 C hW hl.1 (List.mem_of_getElem? (i := 12) rfl) (List.mem_of_getElem? (i := 13) rfl) (List.mem_of_getElem? (i := 14) rfl) (List.mem_of_getElem? (i := 15) rfl) (List.mem_of_getElem? (i := 16) rfl) (Nat.le_of_ble_eq_true rfl) (Nat.le_of_ble_eq_true rfl) (Nat.le_of_ble_eq_true rfl) (Nat.le_of_ble_eq_true rfl) dX3_init_43 (fun q4 H hW => ?_)
  refine cr_castI C hW.1 10 rfl (List.mem_of_getElem? (i := 17) rfl) dX3_init_46 ?_
  refine cr_putq C hin hW 8 (a := h0) (ci := 3) rfl rfl tyX3 tyX3_ok nmX3 3 (by decide) hinX3 (List.mem_of_getElem? (i := 19) rfl) rfl rfl rfl rfl rfl (Nat.le_of_ble_eq_true rfl) (cr_wK ct w cr_zV ++ (cr_wL ct u cr_zV ++ [(h0, .inr (3, [.ref (u 0), .ref (w 0), .ref q3, .ref q4, .int 0, .int 0, .int 0, .int 0, .int 0])), (q3, .inl (ct 0, 4, .inl cr_fw)), (q4, .inl (ct 0, 5, .inl cr_fs))])) rfl dX3_init_49 (fun H locs hW => ?_)
  have hp := cr_blk (Ls := [cr_wK ct w cr_zV, cr_wL ct u cr_zV, [(h0, .inr (3, [.ref (u 0), .ref (w 0), .ref q3, .ref q4, .int 0, .int 0, .int 0, .int 0, .int 0])), (q3, .inl (ct 0, 4, .inl cr_fw)), (q4, .inl (ct 0, 5, .inl cr_fs))]]) (n := 3) [2, 1, 0] rfl (by decide)
  have hW2 : cr_wd D A s (cr_wH ct (fun k => match k with | 0 => h0 | 3 => q3 | _ => q4) u w cr_hV cr_zV cr_zV) H locs := hW.perm hp
  exact cr_retV C (w := fun u : (Nat → Nat) × (Nat → Nat) × (Nat → Nat) => cr_wH ct u.1 u.2.1 u.2.2 cr_hV cr_zV cr_zV) ((fun k => match k with | 0 => h0 | 3 => q3 | _ => q4), u, w) hW2 rfl dX3_init_52
