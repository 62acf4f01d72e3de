set_option maxHeartbeats 4000000 in
set_option maxRecDepth 100000 in
theorem m_X6_accept (L : Launch) (D : va_G) (ct : Nat → ClassId) (a : Nat → Nat → Nat) (r : Nat → Nat → Nat → Nat) (vh : cr_V) (vl : cr_V) (vk : cr_V) (vt : cr_V) (vtl : cr_V) (vtk : cr_V) (vs : cr_V) (vx : Nat → Nat → cr_V) (vd : cr_V) (vo : cr_V) (x1 : Int32) (sz : Nat) (out : Int32 × cr_V × cr_V × cr_V × cr_V × (Nat → Nat → cr_V)) (hE : f_X6_accept vh vl vk vt vtl vtk vs vx vd vo x1 = some out) : Met L yX6_accept wsX6_accept ({ frames := 3, cells := 0, slots := 0, locals := 65 } : Room) (cr_pW D ct (cr_wX ct a r vh vl vk vt vtl vtk vs vx vd vo) sz [.ref (a 0 0), .int x1]) (cr_QW D (cr_wX ct a r vh vl vk vt vtl vtk vs vx vd vo) sz (fun r (u : (Nat → Nat → Nat → Nat) × cr_V × cr_V × cr_V × cr_V × (Nat → Nat → cr_V)) => (r, u.2) = out) (fun u : (Nat → Nat → Nat → Nat) × cr_V × cr_V × cr_V × cr_V × (Nat → Nat → cr_V) => cr_wX ct a u.1 u.2.1 u.2.2.1 u.2.2.2.1 vt vtl vtk u.2.2.2.2.1 u.2.2.2.2.2 vd vo)) 0 0 (va_A (cr_wX ct a r vh vl vk vt vtl vtk vs vx vd vo) sz) := by
  have k0 : (Cond.fieldLink RX6 22 "CupReceipts" "history" "LCupReceipts$History;") ∈ wsX6_accept := List.mem_of_getElem? (i := 1) rfl
  have k1 : (Cond.fieldLink RX6 10 "CupReceipts" "house" "LCupReceipts$House;") ∈ wsX6_accept := List.mem_of_getElem? (i := 2) rfl
  have k2 : (Cond.fieldLink RX6 16 "CupReceipts" "trial" "LCupReceipts$House;") ∈ wsX6_accept := List.mem_of_getElem? (i := 3) rfl
  have hinX6 : ∀ w ∈ wsX60, w ∈ wsX6_accept := fun w h => List.mem_cons_of_mem _ (List.mem_append_left _ (List.mem_append_left _ (List.mem_append_left _ (List.mem_append_left _ (List.mem_append_right _ h)))))
  refine cr_metW (Qc := fun A => va_Qi (fun r (u : (Nat → Nat → Nat → Nat) × cr_V × cr_V × cr_V × cr_V × (Nat → Nat → cr_V)) => (r, u.2) = out) (fun u t => cr_at D A ((fun u : (Nat → Nat → Nat → Nat) × cr_V × cr_V × cr_V × cr_V × (Nat → Nat → cr_V) => cr_wX ct a u.1 u.2.1 u.2.2.1 u.2.2.2.1 vt vtl vtk u.2.2.2.2.1 u.2.2.2.2.2 vd vo) u) t) A) (by decide) rfl rfl (Nat.le_of_ble_eq_true rfl) ?_
  intro p e s m args below meth c ls A C hW hl
  obtain ⟨hx, hb, hml, hown, hts, hr, hlocks, hK, hN⟩ := id C
  have hl : lv_has ls 2 [(0, .ref (a 0 0)), (1, .int x1)] := hl
  replace hE : ((f_X6_isError x1).bind fun q1 => if q1 = 0 then ((f_X2_record vs vx vh vl vk).bind fun q3 => (f_X3_copyFrom vh vl vk vt vtl vtk).bind fun q4 => some (x1, q4.1, q4.2.1, q4.2.2, q3.1, q3.2)) else (some (x1, vh, vl, vk, vs, vx))) = some out := hE
  refine lv_iload_n hx hb dX6_accept_0 rfl (lv_at hl 1 rfl) ?_
  obtain ⟨q1, hq1, hE⟩ := cr_bind hE
  refine cr_sRwq (n := 1) (As := [.int x1]) (rest := []) C hW (m_X6_isError L D ct x1 q1 hq1) (va_cwS 1 hts gX6_accept_X6_isError rfl rfl rfl (by decide +kernel) ⟨Nat.le_of_ble_eq_true rfl, Nat.le_of_ble_eq_true rfl⟩) rfl hl.1 rfl (Nat.le_of_ble_eq_true rfl) dX6_accept_1 ⟨Nat.zero_le _, Nat.zero_le _⟩ (fun H locs hW => ?_)
  refine lv_if_ne (tgt := 29) hx hb dX6_accept_4 (by decide) (fun c2 => ?_) (fun c2 => ?_)
  · rw [if_neg c2] at hE
    refine lv_iload_n hx hb dX6_accept_29 rfl (lv_at hl 1 rfl) ?_
    exact cr_retW C (w := (fun u : (Nat → Nat → Nat → Nat) × cr_V × cr_V × cr_V × cr_V × (Nat → Nat → cr_V) => cr_wX ct a u.1 u.2.1 u.2.2.1 u.2.2.2.1 vt vtl vtk u.2.2.2.2.1 u.2.2.2.2.2 vd vo)) (r, vh, vl, vk, vs, vx) hW (Option.some.inj hE) dX6_accept_30
  · rw [if_pos c2] at hE
    refine lv_aload_n hx hb dX6_accept_7 rfl (lv_at hl 0 rfl) ?_
    refine cr_get C hW.1 0 rfl rfl 2 (by decide) hinX6 k0 (v := .ref ((a 7) 0)) rfl dX6_accept_8 ?_
    refine lv_aload_n hx hb dX6_accept_11 rfl (lv_at hl 0 rfl) ?_
    refine cr_get C hW.1 0 rfl rfl 0 (by decide) hinX6 k1 (v := .ref ((a 1) 0)) rfl dX6_accept_12 ?_
    obtain ⟨q3, hq3, hE⟩ := cr_bind hE
    refine cr_vVBr (nb := 6) (n := 1) (As := [.ref ((a 1) 0)]) (rest := []) C hW (m_X2_record L D ct (a 7) (a 1) (a 2) (a 3) r vs vx vh vl vk _ q3 hq3) (cwV 1 hts gX6_accept_X2_record rfl rfl rfl (by decide +kernel) ⟨Nat.le_of_ble_eq_true rfl, Nat.le_of_ble_eq_true rfl⟩) [3, 1] [0, 2, 4, 5] [cr_wX0 ct a, cr_wH ct (a 1) (a 2) (a 3) vh vl vk, cr_wH ct (a 4) (a 5) (a 6) vt vtl vtk, cr_wR ct (a 7) vs r vx, cr_wD ct (a 8) vd, cr_wO ct (a 9) vo] (fun r => cr_wX ct a r vh vl vk vt vtl vtk q3.1 q3.2 vd vo) (fun r => [cr_wX0 ct a, cr_wH ct (a 1) (a 2) (a 3) vh vl vk, cr_wH ct (a 4) (a 5) (a 6) vt vtl vtk, cr_wR ct (a 7) q3.1 r q3.2, cr_wD ct (a 8) vd, cr_wO ct (a 9) vo]) ⟨rfl, rfl⟩ (fun _ => ⟨rfl, rfl⟩) rfl (fun _ => rfl) (fun _ => rfl) (by decide) 23 rfl rfl rfl hl.1 rfl (Nat.le_of_ble_eq_true rfl) dX6_accept_15 ⟨Nat.zero_le _, Nat.zero_le _⟩ (fun r H locs hW => ?_)
    refine lv_aload_n hx hb dX6_accept_18 rfl (lv_at hl 0 rfl) ?_
    refine cr_get C hW.1 0 rfl rfl 0 (by decide) hinX6 k1 (v := .ref ((a 1) 0)) rfl dX6_accept_19 ?_
    refine lv_aload_n hx hb dX6_accept_22 rfl (lv_at hl 0 rfl) ?_
    refine cr_get C hW.1 0 rfl rfl 1 (by decide) hinX6 k2 (v := .ref ((a 4) 0)) rfl dX6_accept_23 ?_
    obtain ⟨q4, hq4, hE⟩ := cr_bind hE
    refine cr_vVB (nb := 6) (n := 1) (As := [.ref ((a 4) 0)]) (rest := []) C hW (m_X3_copyFrom L D ct (a 1) (a 2) (a 3) (a 4) (a 5) (a 6) vh vl vk vt vtl vtk _ q4 hq4) (cwV 1 hts gX6_accept_X3_copyFrom rfl rfl rfl (by decide +kernel) ⟨Nat.le_of_ble_eq_true rfl, Nat.le_of_ble_eq_true rfl⟩) [1, 2] [0, 3, 4, 5] [cr_wX0 ct a, cr_wH ct (a 1) (a 2) (a 3) vh vl vk, cr_wH ct (a 4) (a 5) (a 6) vt vtl vtk, cr_wR ct (a 7) q3.1 r q3.2, cr_wD ct (a 8) vd, cr_wO ct (a 9) vo] (cr_wX ct a r q4.1 q4.2.1 q4.2.2 vt vtl vtk q3.1 q3.2 vd vo) [cr_wX0 ct a, cr_wH ct (a 1) (a 2) (a 3) q4.1 q4.2.1 q4.2.2, cr_wH ct (a 4) (a 5) (a 6) vt vtl vtk, cr_wR ct (a 7) q3.1 r q3.2, cr_wD ct (a 8) vd, cr_wO ct (a 9) vo] ⟨rfl, rfl⟩ ⟨rfl, rfl⟩ rfl rfl rfl (by decide) 1 rfl rfl rfl hl.1 rfl (Nat.le_of_ble_eq_true rfl) dX6_accept_26 ⟨Nat.zero_le _, Nat.zero_le _⟩ (fun H locs hW => ?_)
    refine lv_iload_n hx hb dX6_accept_29 rfl (lv_at hl 1 rfl) ?_
    exact cr_retW C (w := (fun u : (Nat → Nat → Nat → Nat) × cr_V × cr_V × cr_V × cr_V × (Nat → Nat → cr_V) => cr_wX ct a u.1 u.2.1 u.2.2.1 u.2.2.2.1 vt vtl vtk u.2.2.2.2.1 u.2.2.2.2.2 vd vo)) (r, q4.1, q4.2.1, q4.2.2, q3.1, q3.2) hW (Option.some.inj hE) dX6_accept_30

set_option maxHeartbeats 4000000 in
set_option maxRecDepth 100000 in
theorem m_X6_lot (L : Launch) (D : va_G) (ct : Nat → ClassId) (a : Nat → Nat → Nat) (r : Nat → Nat → Nat → Nat) (vh : cr_V) (vl : cr_V) (vk : cr_V) (vt : cr_V) (vtl : cr_V) (vtk : cr_V) (vs : cr_V) (vx : Nat → Nat → cr_V) (vd : cr_V) (vo : cr_V) (x1 : Int32) (x2 : Int32) (sz : Nat) (out : Int32 × cr_V × cr_V × cr_V × cr_V × cr_V × cr_V × cr_V × (Nat → Nat → cr_V)) (hE : f_X6_lot vh vl vk vt vtl vtk vs vx vd vo x1 x2 = some out) : Met L yX6_lot wsX6_lot ({ frames := 4, cells := 0, slots := 0, locals := 86 } : Room) (cr_pW D ct (cr_wX ct a r vh vl vk vt vtl vtk vs vx vd vo) sz [.ref (a 0 0), .int x1, .int x2]) (cr_QW D (cr_wX ct a r vh vl vk vt vtl vtk vs vx vd vo) sz (fun r (u : (Nat → Nat → Nat → Nat) × cr_V × cr_V × cr_V × cr_V × cr_V × cr_V × cr_V × (Nat → Nat → cr_V)) => (r, u.2) = out) (fun u : (Nat → Nat → Nat → Nat) × cr_V × cr_V × cr_V × cr_V × cr_V × cr_V × cr_V × (Nat → Nat → cr_V) => cr_wX ct a u.1 u.2.1 u.2.2.1 u.2.2.2.1 u.2.2.2.2.1 u.2.2.2.2.2.1 u.2.2.2.2.2.2.1 u.2.2.2.2.2.2.2.1 u.2.2.2.2.2.2.2.2 vd vo)) 0 0 (va_A (cr_wX ct a r vh vl vk vt vtl vtk vs vx vd vo) sz) := by
  have k0 : (Cond.fieldLink RX6 16 "CupReceipts" "trial" "LCupReceipts$House;") ∈ wsX6_lot := List.mem_of_getElem? (i := 1) rfl
  have k1 : (Cond.fieldLink RX6 10 "CupReceipts" "house" "LCupReceipts$House;") ∈ wsX6_lot := List.mem_of_getElem? (i := 2) rfl
  have hinX6 : ∀ w ∈ wsX60, w ∈ wsX6_lot := fun w h => List.mem_cons_of_mem _ (List.mem_append_left _ (List.mem_append_left _ (List.mem_append_left _ (List.mem_append_left _ (List.mem_append_right _ h)))))
  refine cr_metW (Qc := fun A => va_Qi (fun r (u : (Nat → Nat → Nat → Nat) × cr_V × cr_V × cr_V × cr_V × cr_V × cr_V × cr_V × (Nat → Nat → cr_V)) => (r, u.2) = out) (fun u t => cr_at D A ((fun u : (Nat → Nat → Nat → Nat) × cr_V × cr_V × cr_V × cr_V × cr_V × cr_V × cr_V × (Nat → Nat → cr_V) => cr_wX ct a u.1 u.2.1 u.2.2.1 u.2.2.2.1 u.2.2.2.2.1 u.2.2.2.2.2.1 u.2.2.2.2.2.2.1 u.2.2.2.2.2.2.2.1 u.2.2.2.2.2.2.2.2 vd vo) u) t) A) (by decide) rfl rfl (Nat.le_of_ble_eq_true rfl) ?_
  intro p e s m args below meth c ls A C hW hl
  obtain ⟨hx, hb, hml, hown, hts, hr, hlocks, hK, hN⟩ := id C
  have hl : lv_has ls 3 [(0, .ref (a 0 0)), (1, .int x1), (2, .int x2)] := hl
  replace hE : ((f_X3_copyFrom vt vtl vtk vh vl vk).bind fun q1 => (f_X3_bringLot q1.1 q1.2.1 q1.2.2 x1 x2).bind fun q2 => (f_X6_accept vh vl vk q1.1 q2.2 q1.2.2 vs vx vd vo q2.1).bind fun q3 => some (q3.1, q3.2.1, q3.2.2.1, q3.2.2.2.1, q1.1, q2.2, q1.2.2, q3.2.2.2.2.1, q3.2.2.2.2.2)) = some out := hE
  refine lv_aload_n hx hb dX6_lot_0 rfl (lv_at hl 0 rfl) ?_
  refine cr_get C hW.1 0 rfl rfl 1 (by decide) hinX6 k0 (v := .ref ((a 4) 0)) rfl dX6_lot_1 ?_
  refine lv_aload_n hx hb dX6_lot_4 rfl (lv_at hl 0 rfl) ?_
  refine cr_get C hW.1 0 rfl rfl 0 (by decide) hinX6 k1 (v := .ref ((a 1) 0)) rfl dX6_lot_5 ?_
  obtain ⟨q1, hq1, hE⟩ := cr_bind hE
  refine cr_vVB (nb := 6) (n := 1) (As := [.ref ((a 1) 0)]) (rest := []) C hW (m_X3_copyFrom L D ct (a 4) (a 5) (a 6) (a 1) (a 2) (a 3) vt vtl vtk vh vl vk _ q1 hq1) (cwV 1 hts gX6_lot_X3_copyFrom rfl rfl rfl (by decide +kernel) ⟨Nat.le_of_ble_eq_true rfl, Nat.le_of_ble_eq_true rfl⟩) [2, 1] [0, 3, 4, 5] [cr_wX0 ct a, cr_wH ct (a 1) (a 2) (a 3) vh vl vk, cr_wH ct (a 4) (a 5) (a 6) vt vtl vtk, cr_wR ct (a 7) vs r vx, cr_wD ct (a 8) vd, cr_wO ct (a 9) vo] (cr_wX ct a r vh vl vk q1.1 q1.2.1 q1.2.2 vs vx vd vo) [cr_wX0 ct a, cr_wH ct (a 1) (a 2) (a 3) vh vl vk, cr_wH ct (a 4) (a 5) (a 6) q1.1 q1.2.1 q1.2.2, cr_wR ct (a 7) vs r vx, cr_wD ct (a 8) vd, cr_wO ct (a 9) vo] ⟨rfl, rfl⟩ ⟨rfl, rfl⟩ rfl rfl rfl (by decide) 12 rfl rfl rfl hl.1 rfl (Nat.le_of_ble_eq_true rfl) dX6_lot_8 ⟨Nat.zero_le _, Nat.zero_le _⟩ (fun H locs hW => ?_)
  refine lv_aload_n hx hb dX6_lot_11 rfl (lv_at hl 0 rfl) ?_
  refine lv_aload_n hx hb dX6_lot_12 rfl (lv_at hl 0 rfl) ?_
  refine cr_get C hW.1 0 rfl rfl 1 (by decide) hinX6 k0 (v := .ref ((a 4) 0)) rfl dX6_lot_13 ?_
  refine lv_iload_n hx hb dX6_lot_16 rfl (lv_at hl 1 rfl) ?_
  refine lv_iload_n hx hb dX6_lot_17 rfl (lv_at hl 2 rfl) ?_
  obtain ⟨q2, hq2, hE⟩ := cr_bind hE
  refine cr_vWB (nb := 6) (n := 2) (As := [.int x1, .int x2]) (rest := [.ref (a 0 0)]) C hW (m_X3_bringLot L D ct (a 4) (a 5) (a 6) q1.1 q1.2.1 q1.2.2 x1 x2 _ q2 hq2) (cwV 2 hts gX6_lot_X3_bringLot rfl rfl rfl (by decide +kernel) ⟨Nat.le_of_ble_eq_true rfl, Nat.le_of_ble_eq_true rfl⟩) [2] [0, 1, 3, 4, 5] [cr_wX0 ct a, cr_wH ct (a 1) (a 2) (a 3) vh vl vk, cr_wH ct (a 4) (a 5) (a 6) q1.1 q1.2.1 q1.2.2, cr_wR ct (a 7) vs r vx, cr_wD ct (a 8) vd, cr_wO ct (a 9) vo] (cr_wX ct a r vh vl vk q1.1 q2.2 q1.2.2 vs vx vd vo) [cr_wX0 ct a, cr_wH ct (a 1) (a 2) (a 3) vh vl vk, cr_wH ct (a 4) (a 5) (a 6) q1.1 q2.2 q1.2.2, cr_wR ct (a 7) vs r vx, cr_wD ct (a 8) vd, cr_wO ct (a 9) vo] ⟨rfl, rfl⟩ ⟨rfl, rfl⟩ rfl rfl rfl (by decide) 12 rfl rfl rfl hl.1 rfl (Nat.le_of_ble_eq_true rfl) dX6_lot_18 ⟨Nat.zero_le _, Nat.zero_le _⟩ (fun H locs hW => ?_)
  obtain ⟨q3, hq3, hE⟩ := cr_bind hE
  refine cr_vWBr (nb := 6) (n := 1) (As := [.int q2.1]) (rest := []) C hW (m_X6_accept L D ct a r vh vl vk q1.1 q2.2 q1.2.2 vs vx vd vo q2.1 _ q3 hq3) (cwV 1 hts gX6_lot_X6_accept rfl rfl rfl (by decide +kernel) ⟨Nat.le_of_ble_eq_true rfl, Nat.le_of_ble_eq_true rfl⟩) [0, 1, 2, 3, 4, 5] [] [cr_wX0 ct a, cr_wH ct (a 1) (a 2) (a 3) vh vl vk, cr_wH ct (a 4) (a 5) (a 6) q1.1 q2.2 q1.2.2, cr_wR ct (a 7) vs r vx, cr_wD ct (a 8) vd, cr_wO ct (a 9) vo] (fun r => cr_wX ct a r q3.2.1 q3.2.2.1 q3.2.2.2.1 q1.1 q2.2 q1.2.2 q3.2.2.2.2.1 q3.2.2.2.2.2 vd vo) (fun r => [cr_wX0 ct a, cr_wH ct (a 1) (a 2) (a 3) q3.2.1 q3.2.2.1 q3.2.2.2.1, cr_wH ct (a 4) (a 5) (a 6) q1.1 q2.2 q1.2.2, cr_wR ct (a 7) q3.2.2.2.2.1 r q3.2.2.2.2.2, cr_wD ct (a 8) vd, cr_wO ct (a 9) vo]) ⟨rfl, rfl⟩ (fun _ => ⟨rfl, rfl⟩) rfl (fun _ => rfl) (fun _ => rfl) (by decide) 0 rfl rfl rfl hl.1 rfl (Nat.le_of_ble_eq_true rfl) dX6_lot_21 ⟨Nat.zero_le _, Nat.zero_le _⟩ (fun r H locs hW => ?_)
  exact cr_retW C (w := (fun u : (Nat → Nat → Nat → Nat) × cr_V × cr_V × cr_V × cr_V × cr_V × cr_V × cr_V × (Nat → Nat → cr_V) => cr_wX ct a u.1 u.2.1 u.2.2.1 u.2.2.2.1 u.2.2.2.2.1 u.2.2.2.2.2.1 u.2.2.2.2.2.2.1 u.2.2.2.2.2.2.2.1 u.2.2.2.2.2.2.2.2 vd vo)) (r, q3.2.1, q3.2.2.1, q3.2.2.2.1, q1.1, q2.2, q1.2.2, q3.2.2.2.2.1, q3.2.2.2.2.2) hW (Option.some.inj hE) dX6_lot_24

set_option maxHeartbeats 4000000 in
set_option maxRecDepth 100000 in
theorem m_X6_part (L : Launch) (D : va_G) (ct : Nat → ClassId) (a : Nat → Nat → Nat) (r : Nat → Nat → Nat → Nat) (vh : cr_V) (vl : cr_V) (vk : cr_V) (vt : cr_V) (vtl : cr_V) (vtk : cr_V) (vs : cr_V) (vx : Nat → Nat → cr_V) (vd : cr_V) (vo : cr_V) (x1 : Int32) (x2 : Int32) (sz : Nat) (out : Int32 × cr_V × cr_V × cr_V × cr_V × cr_V × cr_V × cr_V × (Nat → Nat → cr_V)) (hE : f_X6_part vh vl vk vt vtl vtk vs vx vd vo x1 x2 = some out) : Met L yX6_part wsX6_part ({ frames := 4, cells := 0, slots := 0, locals := 86 } : Room) (cr_pW D ct (cr_wX ct a r vh vl vk vt vtl vtk vs vx vd vo) sz [.ref (a 0 0), .int x1, .int x2]) (cr_QW D (cr_wX ct a r vh vl vk vt vtl vtk vs vx vd vo) sz (fun r (u : (Nat → Nat → Nat → Nat) × cr_V × cr_V × cr_V × cr_V × cr_V × cr_V × cr_V × (Nat → Nat → cr_V)) => (r, u.2) = out) (fun u : (Nat → Nat → Nat → Nat) × cr_V × cr_V × cr_V × cr_V × cr_V × cr_V × cr_V × (Nat → Nat → cr_V) => cr_wX ct a u.1 u.2.1 u.2.2.1 u.2.2.2.1 u.2.2.2.2.1 u.2.2.2.2.2.1 u.2.2.2.2.2.2.1 u.2.2.2.2.2.2.2.1 u.2.2.2.2.2.2.2.2 vd vo)) 0 0 (va_A (cr_wX ct a r vh vl vk vt vtl vtk vs vx vd vo) sz) := by
  have k0 : (Cond.fieldLink RX6 16 "CupReceipts" "trial" "LCupReceipts$House;") ∈ wsX6_part := List.mem_of_getElem? (i := 1) rfl
  have k1 : (Cond.fieldLink RX6 10 "CupReceipts" "house" "LCupReceipts$House;") ∈ wsX6_part := List.mem_of_getElem? (i := 2) rfl
  have hinX6 : ∀ w ∈ wsX60, w ∈ wsX6_part := fun w h => List.mem_cons_of_mem _ (List.mem_append_left _ (List.mem_append_left _ (List.mem_append_left _ (List.mem_append_left _ (List.mem_append_right _ h)))))
  refine cr_metW (Qc := fun A => va_Qi (fun r (u : (Nat → Nat → Nat → Nat) × cr_V × cr_V × cr_V × cr_V × cr_V × cr_V × cr_V × (Nat → Nat → cr_V)) => (r, u.2) = out) (fun u t => cr_at D A ((fun u : (Nat → Nat → Nat → Nat) × cr_V × cr_V × cr_V × cr_V × cr_V × cr_V × cr_V × (Nat → Nat → cr_V) => cr_wX ct a u.1 u.2.1 u.2.2.1 u.2.2.2.1 u.2.2.2.2.1 u.2.2.2.2.2.1 u.2.2.2.2.2.2.1 u.2.2.2.2.2.2.2.1 u.2.2.2.2.2.2.2.2 vd vo) u) t) A) (by decide) rfl rfl (Nat.le_of_ble_eq_true rfl) ?_
  intro p e s m args below meth c ls A C hW hl
  obtain ⟨hx, hb, hml, hown, hts, hr, hlocks, hK, hN⟩ := id C
  have hl : lv_has ls 3 [(0, .ref (a 0 0)), (1, .int x1), (2, .int x2)] := hl
  replace hE : ((f_X3_copyFrom vt vtl vtk vh vl vk).bind fun q1 => (f_X3_partLot q1.1 q1.2.1 q1.2.2 x1 x2).bind fun q2 => (f_X6_accept vh vl vk q1.1 q2.2 q1.2.2 vs vx vd vo q2.1).bind fun q3 => some (q3.1, q3.2.1, q3.2.2.1, q3.2.2.2.1, q1.1, q2.2, q1.2.2, q3.2.2.2.2.1, q3.2.2.2.2.2)) = some out := hE
  refine lv_aload_n hx hb dX6_part_0 rfl (lv_at hl 0 rfl) ?_
  refine cr_get C hW.1 0 rfl rfl 1 (by decide) hinX6 k0 (v := .ref ((a 4) 0)) rfl dX6_part_1 ?_
  refine lv_aload_n hx hb dX6_part_4 rfl (lv_at hl 0 rfl) ?_
  refine cr_get C hW.1 0 rfl rfl 0 (by decide) hinX6 k1 (v := .ref ((a 1) 0)) rfl dX6_part_5 ?_
  obtain ⟨q1, hq1, hE⟩ := cr_bind hE
  refine cr_vVB (nb := 6) (n := 1) (As := [.ref ((a 1) 0)]) (rest := []) C hW (m_X3_copyFrom L D ct (a 4) (a 5) (a 6) (a 1) (a 2) (a 3) vt vtl vtk vh vl vk _ q1 hq1) (cwV 1 hts gX6_part_X3_copyFrom rfl rfl rfl (by decide +kernel) ⟨Nat.le_of_ble_eq_true rfl, Nat.le_of_ble_eq_true rfl⟩) [2, 1] [0, 3, 4, 5] [cr_wX0 ct a, cr_wH ct (a 1) (a 2) (a 3) vh vl vk, cr_wH ct (a 4) (a 5) (a 6) vt vtl vtk, cr_wR ct (a 7) vs r vx, cr_wD ct (a 8) vd, cr_wO ct (a 9) vo] (cr_wX ct a r vh vl vk q1.1 q1.2.1 q1.2.2 vs vx vd vo) [cr_wX0 ct a, cr_wH ct (a 1) (a 2) (a 3) vh vl vk, cr_wH ct (a 4) (a 5) (a 6) q1.1 q1.2.1 q1.2.2, cr_wR ct (a 7) vs r vx, cr_wD ct (a 8) vd, cr_wO ct (a 9) vo] ⟨rfl, rfl⟩ ⟨rfl, rfl⟩ rfl rfl rfl (by decide) 12 rfl rfl rfl hl.1 rfl (Nat.le_of_ble_eq_true rfl) dX6_part_8 ⟨Nat.zero_le _, Nat.zero_le _⟩ (fun H locs hW => ?_)
  refine lv_aload_n hx hb dX6_part_11 rfl (lv_at hl 0 rfl) ?_
  refine lv_aload_n hx hb dX6_part_12 rfl (lv_at hl 0 rfl) ?_
  refine cr_get C hW.1 0 rfl rfl 1 (by decide) hinX6 k0 (v := .ref ((a 4) 0)) rfl dX6_part_13 ?_
  refine lv_iload_n hx hb dX6_part_16 rfl (lv_at hl 1 rfl) ?_
  refine lv_iload_n hx hb dX6_part_17 rfl (lv_at hl 2 rfl) ?_
  obtain ⟨q2, hq2, hE⟩ := cr_bind hE
  refine cr_vWB (nb := 6) (n := 2) (As := [.int x1, .int x2]) (rest := [.ref (a 0 0)]) C hW (m_X3_partLot L D ct (a 4) (a 5) (a 6) q1.1 q1.2.1 q1.2.2 x1 x2 _ q2 hq2) (cwV 2 hts gX6_part_X3_partLot rfl rfl rfl (by decide +kernel) ⟨Nat.le_of_ble_eq_true rfl, Nat.le_of_ble_eq_true rfl⟩) [2] [0, 1, 3, 4, 5] [cr_wX0 ct a, cr_wH ct (a 1) (a 2) (a 3) vh vl vk, cr_wH ct (a 4) (a 5) (a 6) q1.1 q1.2.1 q1.2.2, cr_wR ct (a 7) vs r vx, cr_wD ct (a 8) vd, cr_wO ct (a 9) vo] (cr_wX ct a r vh vl vk q1.1 q2.2 q1.2.2 vs vx vd vo) [cr_wX0 ct a, cr_wH ct (a 1) (a 2) (a 3) vh vl vk, cr_wH ct (a 4) (a 5) (a 6) q1.1 q2.2 q1.2.2, cr_wR ct (a 7) vs r vx, cr_wD ct (a 8) vd, cr_wO ct (a 9) vo] ⟨rfl, rfl⟩ ⟨rfl, rfl⟩ rfl rfl rfl (by decide) 12 rfl rfl rfl hl.1 rfl (Nat.le_of_ble_eq_true rfl) dX6_part_18 ⟨Nat.zero_le _, Nat.zero_le _⟩ (fun H locs hW => ?_)
  obtain ⟨q3, hq3, hE⟩ := cr_bind hE
  refine cr_vWBr (nb := 6) (n := 1) (As := [.int q2.1]) (rest := []) C hW (m_X6_accept L D ct a r vh vl vk q1.1 q2.2 q1.2.2 vs vx vd vo q2.1 _ q3 hq3) (cwV 1 hts gX6_part_X6_accept rfl rfl rfl (by decide +kernel) ⟨Nat.le_of_ble_eq_true rfl, Nat.le_of_ble_eq_true rfl⟩) [0, 1, 2, 3, 4, 5] [] [cr_wX0 ct a, cr_wH ct (a 1) (a 2) (a 3) vh vl vk, cr_wH ct (a 4) (a 5) (a 6) q1.1 q2.2 q1.2.2, cr_wR ct (a 7) vs r vx, cr_wD ct (a 8) vd, cr_wO ct (a 9) vo] (fun r => cr_wX ct a r q3.2.1 q3.2.2.1 q3.2.2.2.1 q1.1 q2.2 q1.2.2 q3.2.2.2.2.1 q3.2.2.2.2.2 vd vo) (fun r => [cr_wX0 ct a, cr_wH ct (a 1) (a 2) (a 3) q3.2.1 q3.2.2.1 q3.2.2.2.1, cr_wH ct (a 4) (a 5) (a 6) q1.1 q2.2 q1.2.2, cr_wR ct (a 7) q3.2.2.2.2.1 r q3.2.2.2.2.2, cr_wD ct (a 8) vd, cr_wO ct (a 9) vo]) ⟨rfl, rfl⟩ (fun _ => ⟨rfl, rfl⟩) rfl (fun _ => rfl) (fun _ => rfl) (by decide) 0 rfl rfl rfl hl.1 rfl (Nat.le_of_ble_eq_true rfl) dX6_part_21 ⟨Nat.zero_le _, Nat.zero_le _⟩ (fun r H locs hW => ?_)
  exact cr_retW C (w := (fun u : (Nat → Nat → Nat → Nat) × cr_V × cr_V × cr_V × cr_V × cr_V × cr_V × cr_V × (Nat → Nat → cr_V) => cr_wX ct a u.1 u.2.1 u.2.2.1 u.2.2.2.1 u.2.2.2.2.1 u.2.2.2.2.2.1 u.2.2.2.2.2.2.1 u.2.2.2.2.2.2.2.1 u.2.2.2.2.2.2.2.2 vd vo)) (r, q3.2.1, q3.2.2.1, q3.2.2.2.1, q1.1, q2.2, q1.2.2, q3.2.2.2.2.1, q3.2.2.2.2.2) hW (Option.some.inj hE) dX6_part_24

set_option maxHeartbeats 4000000 in
set_option maxRecDepth 100000 in
theorem m_X6_blend (L : Launch) (D : va_G) (ct : Nat → ClassId) (a : Nat → Nat → Nat) (r : Nat → Nat → Nat → Nat) (vh : cr_V) (vl : cr_V) (vk : cr_V) (vt : cr_V) (vtl : cr_V) (vtk : cr_V) (vs : cr_V) (vx : Nat → Nat → cr_V) (vd : cr_V) (vo : cr_V) (x1 : Int32) (x2 : Int32) (x3 : Int32) (x4 : Int32) (sz : Nat) (out : Int32 × cr_V × cr_V × cr_V × cr_V × cr_V × cr_V × cr_V × (Nat → Nat → cr_V)) (hE : f_X6_blend vh vl vk vt vtl vtk vs vx vd vo x1 x2 x3 x4 = some out) : Met L yX6_blend wsX6_blend ({ frames := 4, cells := 0, slots := 0, locals := 86 } : Room) (cr_pW D ct (cr_wX ct a r vh vl vk vt vtl vtk vs vx vd vo) sz [.ref (a 0 0), .int x1, .int x2, .int x3, .int x4]) (cr_QW D (cr_wX ct a r vh vl vk vt vtl vtk vs vx vd vo) sz (fun r (u : (Nat → Nat → Nat → Nat) × cr_V × cr_V × cr_V × cr_V × cr_V × cr_V × cr_V × (Nat → Nat → cr_V)) => (r, u.2) = out) (fun u : (Nat → Nat → Nat → Nat) × cr_V × cr_V × cr_V × cr_V × cr_V × cr_V × cr_V × (Nat → Nat → cr_V) => cr_wX ct a u.1 u.2.1 u.2.2.1 u.2.2.2.1 u.2.2.2.2.1 u.2.2.2.2.2.1 u.2.2.2.2.2.2.1 u.2.2.2.2.2.2.2.1 u.2.2.2.2.2.2.2.2 vd vo)) 0 0 (va_A (cr_wX ct a r vh vl vk vt vtl vtk vs vx vd vo) sz) := by
  have k0 : (Cond.fieldLink RX6 16 "CupReceipts" "trial" "LCupReceipts$House;") ∈ wsX6_blend := List.mem_of_getElem? (i := 1) rfl
  have k1 : (Cond.fieldLink RX6 10 "CupReceipts" "house" "LCupReceipts$House;") ∈ wsX6_blend := List.mem_of_getElem? (i := 2) rfl
  have hinX6 : ∀ w ∈ wsX60, w ∈ wsX6_blend := fun w h => List.mem_cons_of_mem _ (List.mem_append_left _ (List.mem_append_left _ (List.mem_append_left _ (List.mem_append_left _ (List.mem_append_right _ h)))))
  refine cr_metW (Qc := fun A => va_Qi (fun r (u : (Nat → Nat → Nat → Nat) × cr_V × cr_V × cr_V × cr_V × cr_V × cr_V × cr_V × (Nat → Nat → cr_V)) => (r, u.2) = out) (fun u t => cr_at D A ((fun u : (Nat → Nat → Nat → Nat) × cr_V × cr_V × cr_V × cr_V × cr_V × cr_V × cr_V × (Nat → Nat → cr_V) => cr_wX ct a u.1 u.2.1 u.2.2.1 u.2.2.2.1 u.2.2.2.2.1 u.2.2.2.2.2.1 u.2.2.2.2.2.2.1 u.2.2.2.2.2.2.2.1 u.2.2.2.2.2.2.2.2 vd vo) u) t) A) (by decide) rfl rfl (Nat.le_of_ble_eq_true rfl) ?_
  intro p e s m args below meth c ls A C hW hl
  obtain ⟨hx, hb, hml, hown, hts, hr, hlocks, hK, hN⟩ := id C
  have hl : lv_has ls 5 [(0, .ref (a 0 0)), (1, .int x1), (2, .int x2), (3, .int x3), (4, .int x4)] := hl
  replace hE : ((f_X3_copyFrom vt vtl vtk vh vl vk).bind fun q1 => (f_X3_blendLots q1.1 q1.2.1 q1.2.2 x1 x2 x3 x4).bind fun q2 => (f_X6_accept vh vl vk q1.1 q2.2 q1.2.2 vs vx vd vo q2.1).bind fun q3 => some (q3.1, q3.2.1, q3.2.2.1, q3.2.2.2.1, q1.1, q2.2, q1.2.2, q3.2.2.2.2.1, q3.2.2.2.2.2)) = some out := hE
  refine lv_aload_n hx hb dX6_blend_0 rfl (lv_at hl 0 rfl) ?_
  refine cr_get C hW.1 0 rfl rfl 1 (by decide) hinX6 k0 (v := .ref ((a 4) 0)) rfl dX6_blend_1 ?_
  refine lv_aload_n hx hb dX6_blend_4 rfl (lv_at hl 0 rfl) ?_
  refine cr_get C hW.1 0 rfl rfl 0 (by decide) hinX6 k1 (v := .ref ((a 1) 0)) rfl dX6_blend_5 ?_
  obtain ⟨q1, hq1, hE⟩ := cr_bind hE
  refine cr_vVB (nb := 6) (n := 1) (As := [.ref ((a 1) 0)]) (rest := []) C hW (m_X3_copyFrom L D ct (a 4) (a 5) (a 6) (a 1) (a 2) (a 3) vt vtl vtk vh vl vk _ q1 hq1) (cwV 1 hts gX6_blend_X3_copyFrom rfl rfl rfl (by decide +kernel) ⟨Nat.le_of_ble_eq_true rfl, Nat.le_of_ble_eq_true rfl⟩) [2, 1] [0, 3, 4, 5] [cr_wX0 ct a, cr_wH ct (a 1) (a 2) (a 3) vh vl vk, cr_wH ct (a 4) (a 5) (a 6) vt vtl vtk, cr_wR ct (a 7) vs r vx, cr_wD ct (a 8) vd, cr_wO ct (a 9) vo] (cr_wX ct a r vh vl vk q1.1 q1.2.1 q1.2.2 vs vx vd vo) [cr_wX0 ct a, cr_wH ct (a 1) (a 2) (a 3) vh vl vk, cr_wH ct (a 4) (a 5) (a 6) q1.1 q1.2.1 q1.2.2, cr_wR ct (a 7) vs r vx, cr_wD ct (a 8) vd, cr_wO ct (a 9) vo] ⟨rfl, rfl⟩ ⟨rfl, rfl⟩ rfl rfl rfl (by decide) 12 rfl rfl rfl hl.1 rfl (Nat.le_of_ble_eq_true rfl) dX6_blend_8 ⟨Nat.zero_le _, Nat.zero_le _⟩ (fun H locs hW => ?_)
  refine lv_aload_n hx hb dX6_blend_11 rfl (lv_at hl 0 rfl) ?_
  refine lv_aload_n hx hb dX6_blend_12 rfl (lv_at hl 0 rfl) ?_
  refine cr_get C hW.1 0 rfl rfl 1 (by decide) hinX6 k0 (v := .ref ((a 4) 0)) rfl dX6_blend_13 ?_
  refine lv_iload_n hx hb dX6_blend_16 rfl (lv_at hl 1 rfl) ?_
  refine lv_iload_n hx hb dX6_blend_17 rfl (lv_at hl 2 rfl) ?_
  refine lv_iload_n hx hb dX6_blend_18 rfl (lv_at hl 3 rfl) ?_
  refine lv_iload hx hb dX6_blend_19 (lv_at hl 4 rfl) ?_
  obtain ⟨q2, hq2, hE⟩ := cr_bind hE
  refine cr_vWB (nb := 6) (n := 4) (As := [.int x1, .int x2, .int x3, .int x4]) (rest := [.ref (a 0 0)]) C hW (m_X3_blendLots L D ct (a 4) (a 5) (a 6) q1.1 q1.2.1 q1.2.2 x1 x2 x3 x4 _ q2 hq2) (cwV 4 hts gX6_blend_X3_blendLots rfl rfl rfl (by decide +kernel) ⟨Nat.le_of_ble_eq_true rfl, Nat.le_of_ble_eq_true rfl⟩) [2] [0, 1, 3, 4, 5] [cr_wX0 ct a, cr_wH ct (a 1) (a 2) (a 3) vh vl vk, cr_wH ct (a 4) (a 5) (a 6) q1.1 q1.2.1 q1.2.2, cr_wR ct (a 7) vs r vx, cr_wD ct (a 8) vd, cr_wO ct (a 9) vo] (cr_wX ct a r vh vl vk q1.1 q2.2 q1.2.2 vs vx vd vo) [cr_wX0 ct a, cr_wH ct (a 1) (a 2) (a 3) vh vl vk, cr_wH ct (a 4) (a 5) (a 6) q1.1 q2.2 q1.2.2, cr_wR ct (a 7) vs r vx, cr_wD ct (a 8) vd, cr_wO ct (a 9) vo] ⟨rfl, rfl⟩ ⟨rfl, rfl⟩ rfl rfl rfl (by decide) 12 rfl rfl rfl hl.1 rfl (Nat.le_of_ble_eq_true rfl) dX6_blend_21 ⟨Nat.zero_le _, Nat.zero_le _⟩ (fun H locs hW => ?_)
  obtain ⟨q3, hq3, hE⟩ := cr_bind hE
  refine cr_vWBr (nb := 6) (n := 1) (As := [.int q2.1]) (rest := []) C hW (m_X6_accept L D ct a r vh vl vk q1.1 q2.2 q1.2.2 vs vx vd vo q2.1 _ q3 hq3) (cwV 1 hts gX6_blend_X6_accept rfl rfl rfl (by decide +kernel) ⟨Nat.le_of_ble_eq_true rfl, Nat.le_of_ble_eq_true rfl⟩) [0, 1, 2, 3, 4, 5] [] [cr_wX0 ct a, cr_wH ct (a 1) (a 2) (a 3) vh vl vk, cr_wH ct (a 4) (a 5) (a 6) q1.1 q2.2 q1.2.2, cr_wR ct (a 7) vs r vx, cr_wD ct (a 8) vd, cr_wO ct (a 9) vo] (fun r => cr_wX ct a r q3.2.1 q3.2.2.1 q3.2.2.2.1 q1.1 q2.2 q1.2.2 q3.2.2.2.2.1 q3.2.2.2.2.2 vd vo) (fun r => [cr_wX0 ct a, cr_wH ct (a 1) (a 2) (a 3) q3.2.1 q3.2.2.1 q3.2.2.2.1, cr_wH ct (a 4) (a 5) (a 6) q1.1 q2.2 q1.2.2, cr_wR ct (a 7) q3.2.2.2.2.1 r q3.2.2.2.2.2, cr_wD ct (a 8) vd, cr_wO ct (a 9) vo]) ⟨rfl, rfl⟩ (fun _ => ⟨rfl, rfl⟩) rfl (fun _ => rfl) (fun _ => rfl) (by decide) 0 rfl rfl rfl hl.1 rfl (Nat.le_of_ble_eq_true rfl) dX6_blend_24 ⟨Nat.zero_le _, Nat.zero_le _⟩ (fun r H locs hW => ?_)
  exact cr_retW C (w := (fun u : (Nat → Nat → Nat → Nat) × cr_V × cr_V × cr_V × cr_V × cr_V × cr_V × cr_V × (Nat → Nat → cr_V) => cr_wX ct a u.1 u.2.1 u.2.2.1 u.2.2.2.1 u.2.2.2.2.1 u.2.2.2.2.2.1 u.2.2.2.2.2.2.1 u.2.2.2.2.2.2.2.1 u.2.2.2.2.2.2.2.2 vd vo)) (r, q3.2.1, q3.2.2.1, q3.2.2.2.1, q1.1, q2.2, q1.2.2, q3.2.2.2.2.1, q3.2.2.2.2.2) hW (Option.some.inj hE) dX6_blend_27

set_option maxHeartbeats 4000000 in
set_option maxRecDepth 100000 in
theorem m_X6_cup (L : Launch) (D : va_G) (ct : Nat → ClassId) (a : Nat → Nat → Nat) (r : Nat → Nat → Nat → Nat) (vh : cr_V) (vl : cr_V) (vk : cr_V) (vt : cr_V) (vtl : cr_V) (vtk : cr_V) (vs : cr_V) (vx : Nat → Nat → cr_V) (vd : cr_V) (vo : cr_V) (x1 : Int32) (sz : Nat) (out : Int32 × cr_V × cr_V × cr_V × cr_V × cr_V × cr_V × cr_V × (Nat → Nat → cr_V)) (hE : f_X6_cup vh vl vk vt vtl vtk vs vx vd vo x1 = some out) : Met L yX6_cup wsX6_cup ({ frames := 4, cells := 0, slots := 0, locals := 86 } : Room) (cr_pW D ct (cr_wX ct a r vh vl vk vt vtl vtk vs vx vd vo) sz [.ref (a 0 0), .int x1]) (cr_QW D (cr_wX ct a r vh vl vk vt vtl vtk vs vx vd vo) sz (fun r (u : (Nat → Nat → Nat → Nat) × cr_V × cr_V × cr_V × cr_V × cr_V × cr_V × cr_V × (Nat → Nat → cr_V)) => (r, u.2) = out) (fun u : (Nat → Nat → Nat → Nat) × cr_V × cr_V × cr_V × cr_V × cr_V × cr_V × cr_V × (Nat → Nat → cr_V) => cr_wX ct a u.1 u.2.1 u.2.2.1 u.2.2.2.1 u.2.2.2.2.1 u.2.2.2.2.2.1 u.2.2.2.2.2.2.1 u.2.2.2.2.2.2.2.1 u.2.2.2.2.2.2.2.2 vd vo)) 0 0 (va_A (cr_wX ct a r vh vl vk vt vtl vtk vs vx vd vo) sz) := by
  have k0 : (Cond.fieldLink RX6 16 "CupReceipts" "trial" "LCupReceipts$House;") ∈ wsX6_cup := List.mem_of_getElem? (i := 1) rfl
  have k1 : (Cond.fieldLink RX6 10 "CupReceipts" "house" "LCupReceipts$House;") ∈ wsX6_cup := List.mem_of_getElem? (i := 2) rfl
  have hinX6 : ∀ w ∈ wsX60, w ∈ wsX6_cup := fun w h => List.mem_cons_of_mem _ (List.mem_append_left _ (List.mem_append_left _ (List.mem_append_left _ (List.mem_append_left _ (List.mem_append_right _ h)))))
  refine cr_metW (Qc := fun A => va_Qi (fun r (u : (Nat → Nat → Nat → Nat) × cr_V × cr_V × cr_V × cr_V × cr_V × cr_V × cr_V × (Nat → Nat → cr_V)) => (r, u.2) = out) (fun u t => cr_at D A ((fun u : (Nat → Nat → Nat → Nat) × cr_V × cr_V × cr_V × cr_V × cr_V × cr_V × cr_V × (Nat → Nat → cr_V) => cr_wX ct a u.1 u.2.1 u.2.2.1 u.2.2.2.1 u.2.2.2.2.1 u.2.2.2.2.2.1 u.2.2.2.2.2.2.1 u.2.2.2.2.2.2.2.1 u.2.2.2.2.2.2.2.2 vd vo) u) t) A) (by decide) rfl rfl (Nat.le_of_ble_eq_true rfl) ?_
  intro p e s m args below meth c ls A C hW hl
  obtain ⟨hx, hb, hml, hown, hts, hr, hlocks, hK, hN⟩ := id C
  have hl : lv_has ls 2 [(0, .ref (a 0 0)), (1, .int x1)] := hl
  replace hE : ((f_X3_copyFrom vt vtl vtk vh vl vk).bind fun q1 => (f_X3_cupAnew q1.1 q1.2.1 q1.2.2 x1).bind fun q2 => (f_X6_accept vh vl vk q1.1 q2.2 q1.2.2 vs vx vd vo q2.1).bind fun q3 => some (q3.1, q3.2.1, q3.2.2.1, q3.2.2.2.1, q1.1, q2.2, q1.2.2, q3.2.2.2.2.1, q3.2.2.2.2.2)) = some out := hE
  refine lv_aload_n hx hb dX6_cup_0 rfl (lv_at hl 0 rfl) ?_
  refine cr_get C hW.1 0 rfl rfl 1 (by decide) hinX6 k0 (v := .ref ((a 4) 0)) rfl dX6_cup_1 ?_
  refine lv_aload_n hx hb dX6_cup_4 rfl (lv_at hl 0 rfl) ?_
  refine cr_get C hW.1 0 rfl rfl 0 (by decide) hinX6 k1 (v := .ref ((a 1) 0)) rfl dX6_cup_5 ?_
  obtain ⟨q1, hq1, hE⟩ := cr_bind hE
  refine cr_vVB (nb := 6) (n := 1) (As := [.ref ((a 1) 0)]) (rest := []) C hW (m_X3_copyFrom L D ct (a 4) (a 5) (a 6) (a 1) (a 2) (a 3) vt vtl vtk vh vl vk _ q1 hq1) (cwV 1 hts gX6_cup_X3_copyFrom rfl rfl rfl (by decide +kernel) ⟨Nat.le_of_ble_eq_true rfl, Nat.le_of_ble_eq_true rfl⟩) [2, 1] [0, 3, 4, 5] [cr_wX0 ct a, cr_wH ct (a 1) (a 2) (a 3) vh vl vk, cr_wH ct (a 4) (a 5) (a 6) vt vtl vtk, cr_wR ct (a 7) vs r vx, cr_wD ct (a 8) vd, cr_wO ct (a 9) vo] (cr_wX ct a r vh vl vk q1.1 q1.2.1 q1.2.2 vs vx vd vo) [cr_wX0 ct a, cr_wH ct (a 1) (a 2) (a 3) vh vl vk, cr_wH ct (a 4) (a 5) (a 6) q1.1 q1.2.1 q1.2.2, cr_wR ct (a 7) vs r vx, cr_wD ct (a 8) vd, cr_wO ct (a 9) vo] ⟨rfl, rfl⟩ ⟨rfl, rfl⟩ rfl rfl rfl (by decide) 12 rfl rfl rfl hl.1 rfl (Nat.le_of_ble_eq_true rfl) dX6_cup_8 ⟨Nat.zero_le _, Nat.zero_le _⟩ (fun H locs hW => ?_)
  refine lv_aload_n hx hb dX6_cup_11 rfl (lv_at hl 0 rfl) ?_
  refine lv_aload_n hx hb dX6_cup_12 rfl (lv_at hl 0 rfl) ?_
  refine cr_get C hW.1 0 rfl rfl 1 (by decide) hinX6 k0 (v := .ref ((a 4) 0)) rfl dX6_cup_13 ?_
  refine lv_iload_n hx hb dX6_cup_16 rfl (lv_at hl 1 rfl) ?_
  obtain ⟨q2, hq2, hE⟩ := cr_bind hE
  refine cr_vWB (nb := 6) (n := 1) (As := [.int x1]) (rest := [.ref (a 0 0)]) C hW (m_X3_cupAnew L D ct (a 4) (a 5) (a 6) q1.1 q1.2.1 q1.2.2 x1 _ q2 hq2) (cwV 1 hts gX6_cup_X3_cupAnew rfl rfl rfl (by decide +kernel) ⟨Nat.le_of_ble_eq_true rfl, Nat.le_of_ble_eq_true rfl⟩) [2] [0, 1, 3, 4, 5] [cr_wX0 ct a, cr_wH ct (a 1) (a 2) (a 3) vh vl vk, cr_wH ct (a 4) (a 5) (a 6) q1.1 q1.2.1 q1.2.2, cr_wR ct (a 7) vs r vx, cr_wD ct (a 8) vd, cr_wO ct (a 9) vo] (cr_wX ct a r vh vl vk q1.1 q2.2 q1.2.2 vs vx vd vo) [cr_wX0 ct a, cr_wH ct (a 1) (a 2) (a 3) vh vl vk, cr_wH ct (a 4) (a 5) (a 6) q1.1 q2.2 q1.2.2, cr_wR ct (a 7) vs r vx, cr_wD ct (a 8) vd, cr_wO ct (a 9) vo] ⟨rfl, rfl⟩ ⟨rfl, rfl⟩ rfl rfl rfl (by decide) 12 rfl rfl rfl hl.1 rfl (Nat.le_of_ble_eq_true rfl) dX6_cup_17 ⟨Nat.zero_le _, Nat.zero_le _⟩ (fun H locs hW => ?_)
  obtain ⟨q3, hq3, hE⟩ := cr_bind hE
  refine cr_vWBr (nb := 6) (n := 1) (As := [.int q2.1]) (rest := []) C hW (m_X6_accept L D ct a r vh vl vk q1.1 q2.2 q1.2.2 vs vx vd vo q2.1 _ q3 hq3) (cwV 1 hts gX6_cup_X6_accept rfl rfl rfl (by decide +kernel) ⟨Nat.le_of_ble_eq_true rfl, Nat.le_of_ble_eq_true rfl⟩) [0, 1, 2, 3, 4, 5] [] [cr_wX0 ct a, cr_wH ct (a 1) (a 2) (a 3) vh vl vk, cr_wH ct (a 4) (a 5) (a 6) q1.1 q2.2 q1.2.2, cr_wR ct (a 7) vs r vx, cr_wD ct (a 8) vd, cr_wO ct (a 9) vo] (fun r => cr_wX ct a r q3.2.1 q3.2.2.1 q3.2.2.2.1 q1.1 q2.2 q1.2.2 q3.2.2.2.2.1 q3.2.2.2.2.2 vd vo) (fun r => [cr_wX0 ct a, cr_wH ct (a 1) (a 2) (a 3) q3.2.1 q3.2.2.1 q3.2.2.2.1, cr_wH ct (a 4) (a 5) (a 6) q1.1 q2.2 q1.2.2, cr_wR ct (a 7) q3.2.2.2.2.1 r q3.2.2.2.2.2, cr_wD ct (a 8) vd, cr_wO ct (a 9) vo]) ⟨rfl, rfl⟩ (fun _ => ⟨rfl, rfl⟩) rfl (fun _ => rfl) (fun _ => rfl) (by decide) 0 rfl rfl rfl hl.1 rfl (Nat.le_of_ble_eq_true rfl) dX6_cup_20 ⟨Nat.zero_le _, Nat.zero_le _⟩ (fun r H locs hW => ?_)
  exact cr_retW C (w := (fun u : (Nat → Nat → Nat → Nat) × cr_V × cr_V × cr_V × cr_V × cr_V × cr_V × cr_V × (Nat → Nat → cr_V) => cr_wX ct a u.1 u.2.1 u.2.2.1 u.2.2.2.1 u.2.2.2.2.1 u.2.2.2.2.2.1 u.2.2.2.2.2.2.1 u.2.2.2.2.2.2.2.1 u.2.2.2.2.2.2.2.2 vd vo)) (r, q3.2.1, q3.2.2.1, q3.2.2.2.1, q1.1, q2.2, q1.2.2, q3.2.2.2.2.1, q3.2.2.2.2.2) hW (Option.some.inj hE) dX6_cup_23

set_option maxHeartbeats 4000000 in
set_option maxRecDepth 100000 in
theorem m_X6_worth (L : Launch) (D : va_G) (ct : Nat → ClassId) (a : Nat → Nat → Nat) (r : Nat → Nat → Nat → Nat) (vh : cr_V) (vl : cr_V) (vk : cr_V) (vt : cr_V) (vtl : cr_V) (vtk : cr_V) (vs : cr_V) (vx : Nat → Nat → cr_V) (vd : cr_V) (vo : cr_V) (x1 : Int32) (x2 : Int32) (sz : Nat) (out : Int32 × cr_V × cr_V × cr_V × cr_V × cr_V × cr_V × cr_V × (Nat → Nat → cr_V)) (hE : f_X6_worth vh vl vk vt vtl vtk vs vx vd vo x1 x2 = some out) : Met L yX6_worth wsX6_worth ({ frames := 4, cells := 0, slots := 0, locals := 86 } : Room) (cr_pW D ct (cr_wX ct a r vh vl vk vt vtl vtk vs vx vd vo) sz [.ref (a 0 0), .int x1, .int x2]) (cr_QW D (cr_wX ct a r vh vl vk vt vtl vtk vs vx vd vo) sz (fun r (u : (Nat → Nat → Nat → Nat) × cr_V × cr_V × cr_V × cr_V × cr_V × cr_V × cr_V × (Nat → Nat → cr_V)) => (r, u.2) = out) (fun u : (Nat → Nat → Nat → Nat) × cr_V × cr_V × cr_V × cr_V × cr_V × cr_V × cr_V × (Nat → Nat → cr_V) => cr_wX ct a u.1 u.2.1 u.2.2.1 u.2.2.2.1 u.2.2.2.2.1 u.2.2.2.2.2.1 u.2.2.2.2.2.2.1 u.2.2.2.2.2.2.2.1 u.2.2.2.2.2.2.2.2 vd vo)) 0 0 (va_A (cr_wX ct a r vh vl vk vt vtl vtk vs vx vd vo) sz) := by
  have k0 : (Cond.fieldLink RX6 16 "CupReceipts" "trial" "LCupReceipts$House;") ∈ wsX6_worth := List.mem_of_getElem? (i := 1) rfl
  have k1 : (Cond.fieldLink RX6 10 "CupReceipts" "house" "LCupReceipts$House;") ∈ wsX6_worth := List.mem_of_getElem? (i := 2) rfl
  have hinX6 : ∀ w ∈ wsX60, w ∈ wsX6_worth := fun w h => List.mem_cons_of_mem _ (List.mem_append_left _ (List.mem_append_left _ (List.mem_append_left _ (List.mem_append_left _ (List.mem_append_right _ h)))))
  refine cr_metW (Qc := fun A => va_Qi (fun r (u : (Nat → Nat → Nat → Nat) × cr_V × cr_V × cr_V × cr_V × cr_V × cr_V × cr_V × (Nat → Nat → cr_V)) => (r, u.2) = out) (fun u t => cr_at D A ((fun u : (Nat → Nat → Nat → Nat) × cr_V × cr_V × cr_V × cr_V × cr_V × cr_V × cr_V × (Nat → Nat → cr_V) => cr_wX ct a u.1 u.2.1 u.2.2.1 u.2.2.2.1 u.2.2.2.2.1 u.2.2.2.2.2.1 u.2.2.2.2.2.2.1 u.2.2.2.2.2.2.2.1 u.2.2.2.2.2.2.2.2 vd vo) u) t) A) (by decide) rfl rfl (Nat.le_of_ble_eq_true rfl) ?_
  intro p e s m args below meth c ls A C hW hl
  obtain ⟨hx, hb, hml, hown, hts, hr, hlocks, hK, hN⟩ := id C
  have hl : lv_has ls 3 [(0, .ref (a 0 0)), (1, .int x1), (2, .int x2)] := hl
  replace hE : ((f_X3_copyFrom vt vtl vtk vh vl vk).bind fun q1 => (f_X3_changeWorth q1.1 q1.2.1 q1.2.2 x1 x2).bind fun q2 => (f_X6_accept vh vl vk q2.2 q1.2.1 q1.2.2 vs vx vd vo q2.1).bind fun q3 => some (q3.1, q3.2.1, q3.2.2.1, q3.2.2.2.1, q2.2, q1.2.1, q1.2.2, q3.2.2.2.2.1, q3.2.2.2.2.2)) = some out := hE
  refine lv_aload_n hx hb dX6_worth_0 rfl (lv_at hl 0 rfl) ?_
  refine cr_get C hW.1 0 rfl rfl 1 (by decide) hinX6 k0 (v := .ref ((a 4) 0)) rfl dX6_worth_1 ?_
  refine lv_aload_n hx hb dX6_worth_4 rfl (lv_at hl 0 rfl) ?_
  refine cr_get C hW.1 0 rfl rfl 0 (by decide) hinX6 k1 (v := .ref ((a 1) 0)) rfl dX6_worth_5 ?_
  obtain ⟨q1, hq1, hE⟩ := cr_bind hE
  refine cr_vVB (nb := 6) (n := 1) (As := [.ref ((a 1) 0)]) (rest := []) C hW (m_X3_copyFrom L D ct (a 4) (a 5) (a 6) (a 1) (a 2) (a 3) vt vtl vtk vh vl vk _ q1 hq1) (cwV 1 hts gX6_worth_X3_copyFrom rfl rfl rfl (by decide +kernel) ⟨Nat.le_of_ble_eq_true rfl, Nat.le_of_ble_eq_true rfl⟩) [2, 1] [0, 3, 4, 5] [cr_wX0 ct a, cr_wH ct (a 1) (a 2) (a 3) vh vl vk, cr_wH ct (a 4) (a 5) (a 6) vt vtl vtk, cr_wR ct (a 7) vs r vx, cr_wD ct (a 8) vd, cr_wO ct (a 9) vo] (cr_wX ct a r vh vl vk q1.1 q1.2.1 q1.2.2 vs vx vd vo) [cr_wX0 ct a, cr_wH ct (a 1) (a 2) (a 3) vh vl vk, cr_wH ct (a 4) (a 5) (a 6) q1.1 q1.2.1 q1.2.2, cr_wR ct (a 7) vs r vx, cr_wD ct (a 8) vd, cr_wO ct (a 9) vo] ⟨rfl, rfl⟩ ⟨rfl, rfl⟩ rfl rfl rfl (by decide) 12 rfl rfl rfl hl.1 rfl (Nat.le_of_ble_eq_true rfl) dX6_worth_8 ⟨Nat.zero_le _, Nat.zero_le _⟩ (fun H locs hW => ?_)
  refine lv_aload_n hx hb dX6_worth_11 rfl (lv_at hl 0 rfl) ?_
  refine lv_aload_n hx hb dX6_worth_12 rfl (lv_at hl 0 rfl) ?_
  refine cr_get C hW.1 0 rfl rfl 1 (by decide) hinX6 k0 (v := .ref ((a 4) 0)) rfl dX6_worth_13 ?_
  refine lv_iload_n hx hb dX6_worth_16 rfl (lv_at hl 1 rfl) ?_
  refine lv_iload_n hx hb dX6_worth_17 rfl (lv_at hl 2 rfl) ?_
  obtain ⟨q2, hq2, hE⟩ := cr_bind hE
  refine cr_vWB (nb := 6) (n := 2) (As := [.int x1, .int x2]) (rest := [.ref (a 0 0)]) C hW (m_X3_changeWorth L D ct (a 4) (a 5) (a 6) q1.1 q1.2.1 q1.2.2 x1 x2 _ q2 hq2) (cwV 2 hts gX6_worth_X3_changeWorth rfl rfl rfl (by decide +kernel) ⟨Nat.le_of_ble_eq_true rfl, Nat.le_of_ble_eq_true rfl⟩) [2] [0, 1, 3, 4, 5] [cr_wX0 ct a, cr_wH ct (a 1) (a 2) (a 3) vh vl vk, cr_wH ct (a 4) (a 5) (a 6) q1.1 q1.2.1 q1.2.2, cr_wR ct (a 7) vs r vx, cr_wD ct (a 8) vd, cr_wO ct (a 9) vo] (cr_wX ct a r vh vl vk q2.2 q1.2.1 q1.2.2 vs vx vd vo) [cr_wX0 ct a, cr_wH ct (a 1) (a 2) (a 3) vh vl vk, cr_wH ct (a 4) (a 5) (a 6) q2.2 q1.2.1 q1.2.2, cr_wR ct (a 7) vs r vx, cr_wD ct (a 8) vd, cr_wO ct (a 9) vo] ⟨rfl, rfl⟩ ⟨rfl, rfl⟩ rfl rfl rfl (by decide) 12 rfl rfl rfl hl.1 rfl (Nat.le_of_ble_eq_true rfl) dX6_worth_18 ⟨Nat.zero_le _, Nat.zero_le _⟩ (fun H locs hW => ?_)
  obtain ⟨q3, hq3, hE⟩ := cr_bind hE
  refine cr_vWBr (nb := 6) (n := 1) (As := [.int q2.1]) (rest := []) C hW (m_X6_accept L D ct a r vh vl vk q2.2 q1.2.1 q1.2.2 vs vx vd vo q2.1 _ q3 hq3) (cwV 1 hts gX6_worth_X6_accept rfl rfl rfl (by decide +kernel) ⟨Nat.le_of_ble_eq_true rfl, Nat.le_of_ble_eq_true rfl⟩) [0, 1, 2, 3, 4, 5] [] [cr_wX0 ct a, cr_wH ct (a 1) (a 2) (a 3) vh vl vk, cr_wH ct (a 4) (a 5) (a 6) q2.2 q1.2.1 q1.2.2, cr_wR ct (a 7) vs r vx, cr_wD ct (a 8) vd, cr_wO ct (a 9) vo] (fun r => cr_wX ct a r q3.2.1 q3.2.2.1 q3.2.2.2.1 q2.2 q1.2.1 q1.2.2 q3.2.2.2.2.1 q3.2.2.2.2.2 vd vo) (fun r => [cr_wX0 ct a, cr_wH ct (a 1) (a 2) (a 3) q3.2.1 q3.2.2.1 q3.2.2.2.1, cr_wH ct (a 4) (a 5) (a 6) q2.2 q1.2.1 q1.2.2, cr_wR ct (a 7) q3.2.2.2.2.1 r q3.2.2.2.2.2, cr_wD ct (a 8) vd, cr_wO ct (a 9) vo]) ⟨rfl, rfl⟩ (fun _ => ⟨rfl, rfl⟩) rfl (fun _ => rfl) (fun _ => rfl) (by decide) 0 rfl rfl rfl hl.1 rfl (Nat.le_of_ble_eq_true rfl) dX6_worth_21 ⟨Nat.zero_le _, Nat.zero_le _⟩ (fun r H locs hW => ?_)
  exact cr_retW C (w := (fun u : (Nat → Nat → Nat → Nat) × cr_V × cr_V × cr_V × cr_V × cr_V × cr_V × cr_V × (Nat → Nat → cr_V) => cr_wX ct a u.1 u.2.1 u.2.2.1 u.2.2.2.1 u.2.2.2.2.1 u.2.2.2.2.2.1 u.2.2.2.2.2.2.1 u.2.2.2.2.2.2.2.1 u.2.2.2.2.2.2.2.2 vd vo)) (r, q3.2.1, q3.2.2.1, q3.2.2.2.1, q2.2, q1.2.1, q1.2.2, q3.2.2.2.2.1, q3.2.2.2.2.2) hW (Option.some.inj hE) dX6_worth_24

set_option maxHeartbeats 4000000 in
set_option maxRecDepth 100000 in
theorem m_X6_sell (L : Launch) (D : va_G) (ct : Nat → ClassId) (a : Nat → Nat → Nat) (r : Nat → Nat → Nat → Nat) (vh : cr_V) (vl : cr_V) (vk : cr_V) (vt : cr_V) (vtl : cr_V) (vtk : cr_V) (vs : cr_V) (vx : Nat → Nat → cr_V) (vd : cr_V) (vo : cr_V) (x1 : Int32) (x2 : Int32) (sz : Nat) (out : Int32 × cr_V × cr_V × cr_V × cr_V × cr_V × cr_V × cr_V × (Nat → Nat → cr_V)) (hE : f_X6_sell vh vl vk vt vtl vtk vs vx vd vo x1 x2 = some out) : Met L yX6_sell wsX6_sell ({ frames := 4, cells := 0, slots := 0, locals := 86 } : Room) (cr_pW D ct (cr_wX ct a r vh vl vk vt vtl vtk vs vx vd vo) sz [.ref (a 0 0), .int x1, .int x2]) (cr_QW D (cr_wX ct a r vh vl vk vt vtl vtk vs vx vd vo) sz (fun r (u : (Nat → Nat → Nat → Nat) × cr_V × cr_V × cr_V × cr_V × cr_V × cr_V × cr_V × (Nat → Nat → cr_V)) => (r, u.2) = out) (fun u : (Nat → Nat → Nat → Nat) × cr_V × cr_V × cr_V × cr_V × cr_V × cr_V × cr_V × (Nat → Nat → cr_V) => cr_wX ct a u.1 u.2.1 u.2.2.1 u.2.2.2.1 u.2.2.2.2.1 u.2.2.2.2.2.1 u.2.2.2.2.2.2.1 u.2.2.2.2.2.2.2.1 u.2.2.2.2.2.2.2.2 vd vo)) 0 0 (va_A (cr_wX ct a r vh vl vk vt vtl vtk vs vx vd vo) sz) := by
  have k0 : (Cond.fieldLink RX6 16 "CupReceipts" "trial" "LCupReceipts$House;") ∈ wsX6_sell := List.mem_of_getElem? (i := 1) rfl
  have k1 : (Cond.fieldLink RX6 10 "CupReceipts" "house" "LCupReceipts$House;") ∈ wsX6_sell := List.mem_of_getElem? (i := 2) rfl
  have hinX6 : ∀ w ∈ wsX60, w ∈ wsX6_sell := fun w h => List.mem_cons_of_mem _ (List.mem_append_left _ (List.mem_append_left _ (List.mem_append_left _ (List.mem_append_left _ (List.mem_append_right _ h)))))
  refine cr_metW (Qc := fun A => va_Qi (fun r (u : (Nat → Nat → Nat → Nat) × cr_V × cr_V × cr_V × cr_V × cr_V × cr_V × cr_V × (Nat → Nat → cr_V)) => (r, u.2) = out) (fun u t => cr_at D A ((fun u : (Nat → Nat → Nat → Nat) × cr_V × cr_V × cr_V × cr_V × cr_V × cr_V × cr_V × (Nat → Nat → cr_V) => cr_wX ct a u.1 u.2.1 u.2.2.1 u.2.2.2.1 u.2.2.2.2.1 u.2.2.2.2.2.1 u.2.2.2.2.2.2.1 u.2.2.2.2.2.2.2.1 u.2.2.2.2.2.2.2.2 vd vo) u) t) A) (by decide) rfl rfl (Nat.le_of_ble_eq_true rfl) ?_
  intro p e s m args below meth c ls A C hW hl
  obtain ⟨hx, hb, hml, hown, hts, hr, hlocks, hK, hN⟩ := id C
  have hl : lv_has ls 3 [(0, .ref (a 0 0)), (1, .int x1), (2, .int x2)] := hl
  replace hE : ((f_X3_copyFrom vt vtl vtk vh vl vk).bind fun q1 => (f_X3_sellContract q1.1 q1.2.1 q1.2.2 x1 x2).bind fun q2 => (f_X6_accept vh vl vk q1.1 q1.2.1 q2.2 vs vx vd vo q2.1).bind fun q3 => some (q3.1, q3.2.1, q3.2.2.1, q3.2.2.2.1, q1.1, q1.2.1, q2.2, q3.2.2.2.2.1, q3.2.2.2.2.2)) = some out := hE
  refine lv_aload_n hx hb dX6_sell_0 rfl (lv_at hl 0 rfl) ?_
  refine cr_get C hW.1 0 rfl rfl 1 (by decide) hinX6 k0 (v := .ref ((a 4) 0)) rfl dX6_sell_1 ?_
  refine lv_aload_n hx hb dX6_sell_4 rfl (lv_at hl 0 rfl) ?_
  refine cr_get C hW.1 0 rfl rfl 0 (by decide) hinX6 k1 (v := .ref ((a 1) 0)) rfl dX6_sell_5 ?_
  obtain ⟨q1, hq1, hE⟩ := cr_bind hE
  refine cr_vVB (nb := 6) (n := 1) (As := [.ref ((a 1) 0)]) (rest := []) C hW (m_X3_copyFrom L D ct (a 4) (a 5) (a 6) (a 1) (a 2) (a 3) vt vtl vtk vh vl vk _ q1 hq1) (cwV 1 hts gX6_sell_X3_copyFrom rfl rfl rfl (by decide +kernel) ⟨Nat.le_of_ble_eq_true rfl, Nat.le_of_ble_eq_true rfl⟩) [2, 1] [0, 3, 4, 5] [cr_wX0 ct a, cr_wH ct (a 1) (a 2) (a 3) vh vl vk, cr_wH ct (a 4) (a 5) (a 6) vt vtl vtk, cr_wR ct (a 7) vs r vx, cr_wD ct (a 8) vd, cr_wO ct (a 9) vo] (cr_wX ct a r vh vl vk q1.1 q1.2.1 q1.2.2 vs vx vd vo) [cr_wX0 ct a, cr_wH ct (a 1) (a 2) (a 3) vh vl vk, cr_wH ct (a 4) (a 5) (a 6) q1.1 q1.2.1 q1.2.2, cr_wR ct (a 7) vs r vx, cr_wD ct (a 8) vd, cr_wO ct (a 9) vo] ⟨rfl, rfl⟩ ⟨rfl, rfl⟩ rfl rfl rfl (by decide) 12 rfl rfl rfl hl.1 rfl (Nat.le_of_ble_eq_true rfl) dX6_sell_8 ⟨Nat.zero_le _, Nat.zero_le _⟩ (fun H locs hW => ?_)
  refine lv_aload_n hx hb dX6_sell_11 rfl (lv_at hl 0 rfl) ?_
  refine lv_aload_n hx hb dX6_sell_12 rfl (lv_at hl 0 rfl) ?_
  refine cr_get C hW.1 0 rfl rfl 1 (by decide) hinX6 k0 (v := .ref ((a 4) 0)) rfl dX6_sell_13 ?_
  refine lv_iload_n hx hb dX6_sell_16 rfl (lv_at hl 1 rfl) ?_
  refine lv_iload_n hx hb dX6_sell_17 rfl (lv_at hl 2 rfl) ?_
  obtain ⟨q2, hq2, hE⟩ := cr_bind hE
  refine cr_vWB (nb := 6) (n := 2) (As := [.int x1, .int x2]) (rest := [.ref (a 0 0)]) C hW (m_X3_sellContract L D ct (a 4) (a 5) (a 6) q1.1 q1.2.1 q1.2.2 x1 x2 _ q2 hq2) (cwV 2 hts gX6_sell_X3_sellContract rfl rfl rfl (by decide +kernel) ⟨Nat.le_of_ble_eq_true rfl, Nat.le_of_ble_eq_true rfl⟩) [2] [0, 1, 3, 4, 5] [cr_wX0 ct a, cr_wH ct (a 1) (a 2) (a 3) vh vl vk, cr_wH ct (a 4) (a 5) (a 6) q1.1 q1.2.1 q1.2.2, cr_wR ct (a 7) vs r vx, cr_wD ct (a 8) vd, cr_wO ct (a 9) vo] (cr_wX ct a r vh vl vk q1.1 q1.2.1 q2.2 vs vx vd vo) [cr_wX0 ct a, cr_wH ct (a 1) (a 2) (a 3) vh vl vk, cr_wH ct (a 4) (a 5) (a 6) q1.1 q1.2.1 q2.2, cr_wR ct (a 7) vs r vx, cr_wD ct (a 8) vd, cr_wO ct (a 9) vo] ⟨rfl, rfl⟩ ⟨rfl, rfl⟩ rfl rfl rfl (by decide) 12 rfl rfl rfl hl.1 rfl (Nat.le_of_ble_eq_true rfl) dX6_sell_18 ⟨Nat.zero_le _, Nat.zero_le _⟩ (fun H locs hW => ?_)
  obtain ⟨q3, hq3, hE⟩ := cr_bind hE
  refine cr_vWBr (nb := 6) (n := 1) (As := [.int q2.1]) (rest := []) C hW (m_X6_accept L D ct a r vh vl vk q1.1 q1.2.1 q2.2 vs vx vd vo q2.1 _ q3 hq3) (cwV 1 hts gX6_sell_X6_accept rfl rfl rfl (by decide +kernel) ⟨Nat.le_of_ble_eq_true rfl, Nat.le_of_ble_eq_true rfl⟩) [0, 1, 2, 3, 4, 5] [] [cr_wX0 ct a, cr_wH ct (a 1) (a 2) (a 3) vh vl vk, cr_wH ct (a 4) (a 5) (a 6) q1.1 q1.2.1 q2.2, cr_wR ct (a 7) vs r vx, cr_wD ct (a 8) vd, cr_wO ct (a 9) vo] (fun r => cr_wX ct a r q3.2.1 q3.2.2.1 q3.2.2.2.1 q1.1 q1.2.1 q2.2 q3.2.2.2.2.1 q3.2.2.2.2.2 vd vo) (fun r => [cr_wX0 ct a, cr_wH ct (a 1) (a 2) (a 3) q3.2.1 q3.2.2.1 q3.2.2.2.1, cr_wH ct (a 4) (a 5) (a 6) q1.1 q1.2.1 q2.2, cr_wR ct (a 7) q3.2.2.2.2.1 r q3.2.2.2.2.2, cr_wD ct (a 8) vd, cr_wO ct (a 9) vo]) ⟨rfl, rfl⟩ (fun _ => ⟨rfl, rfl⟩) rfl (fun _ => rfl) (fun _ => rfl) (by decide) 0 rfl rfl rfl hl.1 rfl (Nat.le_of_ble_eq_true rfl) dX6_sell_21 ⟨Nat.zero_le _, Nat.zero_le _⟩ (fun r H locs hW => ?_)
  exact cr_retW C (w := (fun u : (Nat → Nat → Nat → Nat) × cr_V × cr_V × cr_V × cr_V × cr_V × cr_V × cr_V × (Nat → Nat → cr_V) => cr_wX ct a u.1 u.2.1 u.2.2.1 u.2.2.2.1 u.2.2.2.2.1 u.2.2.2.2.2.1 u.2.2.2.2.2.2.1 u.2.2.2.2.2.2.2.1 u.2.2.2.2.2.2.2.2 vd vo)) (r, q3.2.1, q3.2.2.1, q3.2.2.2.1, q1.1, q1.2.1, q2.2, q3.2.2.2.2.1, q3.2.2.2.2.2) hW (Option.some.inj hE) dX6_sell_24

set_option maxHeartbeats 4000000 in
set_option maxRecDepth 100000 in
theorem m_X6_buyBack (L : Launch) (D : va_G) (ct : Nat → ClassId) (a : Nat → Nat → Nat) (r : Nat → Nat → Nat → Nat) (vh : cr_V) (vl : cr_V) (vk : cr_V) (vt : cr_V) (vtl : cr_V) (vtk : cr_V) (vs : cr_V) (vx : Nat → Nat → cr_V) (vd : cr_V) (vo : cr_V) (x1 : Int32) (x2 : Int32) (sz : Nat) (out : Int32 × cr_V × cr_V × cr_V × cr_V × cr_V × cr_V × cr_V × (Nat → Nat → cr_V)) (hE : f_X6_buyBack vh vl vk vt vtl vtk vs vx vd vo x1 x2 = some out) : Met L yX6_buyBack wsX6_buyBack ({ frames := 4, cells := 0, slots := 0, locals := 86 } : Room) (cr_pW D ct (cr_wX ct a r vh vl vk vt vtl vtk vs vx vd vo) sz [.ref (a 0 0), .int x1, .int x2]) (cr_QW D (cr_wX ct a r vh vl vk vt vtl vtk vs vx vd vo) sz (fun r (u : (Nat → Nat → Nat → Nat) × cr_V × cr_V × cr_V × cr_V × cr_V × cr_V × cr_V × (Nat → Nat → cr_V)) => (r, u.2) = out) (fun u : (Nat → Nat → Nat → Nat) × cr_V × cr_V × cr_V × cr_V × cr_V × cr_V × cr_V × (Nat → Nat → cr_V) => cr_wX ct a u.1 u.2.1 u.2.2.1 u.2.2.2.1 u.2.2.2.2.1 u.2.2.2.2.2.1 u.2.2.2.2.2.2.1 u.2.2.2.2.2.2.2.1 u.2.2.2.2.2.2.2.2 vd vo)) 0 0 (va_A (cr_wX ct a r vh vl vk vt vtl vtk vs vx vd vo) sz) := by
  have k0 : (Cond.fieldLink RX6 16 "CupReceipts" "trial" "LCupReceipts$House;") ∈ wsX6_buyBack := List.mem_of_getElem? (i := 1) rfl
  have k1 : (Cond.fieldLink RX6 10 "CupReceipts" "house" "LCupReceipts$House;") ∈ wsX6_buyBack := List.mem_of_getElem? (i := 2) rfl
  have hinX6 : ∀ w ∈ wsX60, w ∈ wsX6_buyBack := fun w h => List.mem_cons_of_mem _ (List.mem_append_left _ (List.mem_append_left _ (List.mem_append_left _ (List.mem_append_left _ (List.mem_append_right _ h)))))
  refine cr_metW (Qc := fun A => va_Qi (fun r (u : (Nat → Nat → Nat → Nat) × cr_V × cr_V × cr_V × cr_V × cr_V × cr_V × cr_V × (Nat → Nat → cr_V)) => (r, u.2) = out) (fun u t => cr_at D A ((fun u : (Nat → Nat → Nat → Nat) × cr_V × cr_V × cr_V × cr_V × cr_V × cr_V × cr_V × (Nat → Nat → cr_V) => cr_wX ct a u.1 u.2.1 u.2.2.1 u.2.2.2.1 u.2.2.2.2.1 u.2.2.2.2.2.1 u.2.2.2.2.2.2.1 u.2.2.2.2.2.2.2.1 u.2.2.2.2.2.2.2.2 vd vo) u) t) A) (by decide) rfl rfl (Nat.le_of_ble_eq_true rfl) ?_
  intro p e s m args below meth c ls A C hW hl
  obtain ⟨hx, hb, hml, hown, hts, hr, hlocks, hK, hN⟩ := id C
  have hl : lv_has ls 3 [(0, .ref (a 0 0)), (1, .int x1), (2, .int x2)] := hl
  replace hE : ((f_X3_copyFrom vt vtl vtk vh vl vk).bind fun q1 => (f_X3_buyContractBack q1.1 q1.2.1 q1.2.2 x1 x2).bind fun q2 => (f_X6_accept vh vl vk q2.2.1 q1.2.1 q2.2.2 vs vx vd vo q2.1).bind fun q3 => some (q3.1, q3.2.1, q3.2.2.1, q3.2.2.2.1, q2.2.1, q1.2.1, q2.2.2, q3.2.2.2.2.1, q3.2.2.2.2.2)) = some out := hE
  refine lv_aload_n hx hb dX6_buyBack_0 rfl (lv_at hl 0 rfl) ?_
  refine cr_get C hW.1 0 rfl rfl 1 (by decide) hinX6 k0 (v := .ref ((a 4) 0)) rfl dX6_buyBack_1 ?_
  refine lv_aload_n hx hb dX6_buyBack_4 rfl (lv_at hl 0 rfl) ?_
  refine cr_get C hW.1 0 rfl rfl 0 (by decide) hinX6 k1 (v := .ref ((a 1) 0)) rfl dX6_buyBack_5 ?_
  obtain ⟨q1, hq1, hE⟩ := cr_bind hE
  refine cr_vVB (nb := 6) (n := 1) (As := [.ref ((a 1) 0)]) (rest := []) C hW (m_X3_copyFrom L D ct (a 4) (a 5) (a 6) (a 1) (a 2) (a 3) vt vtl vtk vh vl vk _ q1 hq1) (cwV 1 hts gX6_buyBack_X3_copyFrom rfl rfl rfl (by decide +kernel) ⟨Nat.le_of_ble_eq_true rfl, Nat.le_of_ble_eq_true rfl⟩) [2, 1] [0, 3, 4, 5] [cr_wX0 ct a, cr_wH ct (a 1) (a 2) (a 3) vh vl vk, cr_wH ct (a 4) (a 5) (a 6) vt vtl vtk, cr_wR ct (a 7) vs r vx, cr_wD ct (a 8) vd, cr_wO ct (a 9) vo] (cr_wX ct a r vh vl vk q1.1 q1.2.1 q1.2.2 vs vx vd vo) [cr_wX0 ct a, cr_wH ct (a 1) (a 2) (a 3) vh vl vk, cr_wH ct (a 4) (a 5) (a 6) q1.1 q1.2.1 q1.2.2, cr_wR ct (a 7) vs r vx, cr_wD ct (a 8) vd, cr_wO ct (a 9) vo] ⟨rfl, rfl⟩ ⟨rfl, rfl⟩ rfl rfl rfl (by decide) 12 rfl rfl rfl hl.1 rfl (Nat.le_of_ble_eq_true rfl) dX6_buyBack_8 ⟨Nat.zero_le _, Nat.zero_le _⟩ (fun H locs hW => ?_)
  refine lv_aload_n hx hb dX6_buyBack_11 rfl (lv_at hl 0 rfl) ?_
  refine lv_aload_n hx hb dX6_buyBack_12 rfl (lv_at hl 0 rfl) ?_
  refine cr_get C hW.1 0 rfl rfl 1 (by decide) hinX6 k0 (v := .ref ((a 4) 0)) rfl dX6_buyBack_13 ?_
  refine lv_iload_n hx hb dX6_buyBack_16 rfl (lv_at hl 1 rfl) ?_
  refine lv_iload_n hx hb dX6_buyBack_17 rfl (lv_at hl 2 rfl) ?_
  obtain ⟨q2, hq2, hE⟩ := cr_bind hE
  refine cr_vWB (nb := 6) (n := 2) (As := [.int x1, .int x2]) (rest := [.ref (a 0 0)]) C hW (m_X3_buyContractBack L D ct (a 4) (a 5) (a 6) q1.1 q1.2.1 q1.2.2 x1 x2 _ q2 hq2) (cwV 2 hts gX6_buyBack_X3_buyContractBack rfl rfl rfl (by decide +kernel) ⟨Nat.le_of_ble_eq_true rfl, Nat.le_of_ble_eq_true rfl⟩) [2] [0, 1, 3, 4, 5] [cr_wX0 ct a, cr_wH ct (a 1) (a 2) (a 3) vh vl vk, cr_wH ct (a 4) (a 5) (a 6) q1.1 q1.2.1 q1.2.2, cr_wR ct (a 7) vs r vx, cr_wD ct (a 8) vd, cr_wO ct (a 9) vo] (cr_wX ct a r vh vl vk q2.2.1 q1.2.1 q2.2.2 vs vx vd vo) [cr_wX0 ct a, cr_wH ct (a 1) (a 2) (a 3) vh vl vk, cr_wH ct (a 4) (a 5) (a 6) q2.2.1 q1.2.1 q2.2.2, cr_wR ct (a 7) vs r vx, cr_wD ct (a 8) vd, cr_wO ct (a 9) vo] ⟨rfl, rfl⟩ ⟨rfl, rfl⟩ rfl rfl rfl (by decide) 12 rfl rfl rfl hl.1 rfl (Nat.le_of_ble_eq_true rfl) dX6_buyBack_18 ⟨Nat.zero_le _, Nat.zero_le _⟩ (fun H locs hW => ?_)
  obtain ⟨q3, hq3, hE⟩ := cr_bind hE
  refine cr_vWBr (nb := 6) (n := 1) (As := [.int q2.1]) (rest := []) C hW (m_X6_accept L D ct a r vh vl vk q2.2.1 q1.2.1 q2.2.2 vs vx vd vo q2.1 _ q3 hq3) (cwV 1 hts gX6_buyBack_X6_accept rfl rfl rfl (by decide +kernel) ⟨Nat.le_of_ble_eq_true rfl, Nat.le_of_ble_eq_true rfl⟩) [0, 1, 2, 3, 4, 5] [] [cr_wX0 ct a, cr_wH ct (a 1) (a 2) (a 3) vh vl vk, cr_wH ct (a 4) (a 5) (a 6) q2.2.1 q1.2.1 q2.2.2, cr_wR ct (a 7) vs r vx, cr_wD ct (a 8) vd, cr_wO ct (a 9) vo] (fun r => cr_wX ct a r q3.2.1 q3.2.2.1 q3.2.2.2.1 q2.2.1 q1.2.1 q2.2.2 q3.2.2.2.2.1 q3.2.2.2.2.2 vd vo) (fun r => [cr_wX0 ct a, cr_wH ct (a 1) (a 2) (a 3) q3.2.1 q3.2.2.1 q3.2.2.2.1, cr_wH ct (a 4) (a 5) (a 6) q2.2.1 q1.2.1 q2.2.2, cr_wR ct (a 7) q3.2.2.2.2.1 r q3.2.2.2.2.2, cr_wD ct (a 8) vd, cr_wO ct (a 9) vo]) ⟨rfl, rfl⟩ (fun _ => ⟨rfl, rfl⟩) rfl (fun _ => rfl) (fun _ => rfl) (by decide) 0 rfl rfl rfl hl.1 rfl (Nat.le_of_ble_eq_true rfl) dX6_buyBack_21 ⟨Nat.zero_le _, Nat.zero_le _⟩ (fun r H locs hW => ?_)
  exact cr_retW C (w := (fun u : (Nat → Nat → Nat → Nat) × cr_V × cr_V × cr_V × cr_V × cr_V × cr_V × cr_V × (Nat → Nat → cr_V) => cr_wX ct a u.1 u.2.1 u.2.2.1 u.2.2.2.1 u.2.2.2.2.1 u.2.2.2.2.2.1 u.2.2.2.2.2.2.1 u.2.2.2.2.2.2.2.1 u.2.2.2.2.2.2.2.2 vd vo)) (r, q3.2.1, q3.2.2.1, q3.2.2.2.1, q2.2.1, q1.2.1, q2.2.2, q3.2.2.2.2.1, q3.2.2.2.2.2) hW (Option.some.inj hE) dX6_buyBack_24

set_option maxHeartbeats 4000000 in
set_option maxRecDepth 100000 in
theorem m_X6_meet (L : Launch) (D : va_G) (ct : Nat → ClassId) (a : Nat → Nat → Nat) (r : Nat → Nat → Nat → Nat) (vh : cr_V) (vl : cr_V) (vk : cr_V) (vt : cr_V) (vtl : cr_V) (vtk : cr_V) (vs : cr_V) (vx : Nat → Nat → cr_V) (vd : cr_V) (vo : cr_V) (x1 : Int32) (sz : Nat) (out : Int32 × cr_V × cr_V × cr_V × cr_V × cr_V × cr_V × cr_V × (Nat → Nat → cr_V) × cr_V) (hE : f_X6_meet vh vl vk vt vtl vtk vs vx vd vo x1 = some out) : Met L yX6_meet wsX6_meet ({ frames := 4, cells := 0, slots := 0, locals := 97 } : Room) (cr_pW D ct (cr_wX ct a r vh vl vk vt vtl vtk vs vx vd vo) sz [.ref (a 0 0), .int x1]) (cr_QW D (cr_wX ct a r vh vl vk vt vtl vtk vs vx vd vo) sz (fun r (u : (Nat → Nat → Nat → Nat) × cr_V × cr_V × cr_V × cr_V × cr_V × cr_V × cr_V × (Nat → Nat → cr_V) × cr_V) => (r, u.2) = out) (fun u : (Nat → Nat → Nat → Nat) × cr_V × cr_V × cr_V × cr_V × cr_V × cr_V × cr_V × (Nat → Nat → cr_V) × cr_V => cr_wX ct a u.1 u.2.1 u.2.2.1 u.2.2.2.1 u.2.2.2.2.1 u.2.2.2.2.2.1 u.2.2.2.2.2.2.1 u.2.2.2.2.2.2.2.1 u.2.2.2.2.2.2.2.2.1 u.2.2.2.2.2.2.2.2.2 vo)) 0 0 (va_A (cr_wX ct a r vh vl vk vt vtl vtk vs vx vd vo) sz) := by
  have k0 : (Cond.fieldLink RX6 16 "CupReceipts" "trial" "LCupReceipts$House;") ∈ wsX6_meet := List.mem_of_getElem? (i := 1) rfl
  have k1 : (Cond.fieldLink RX6 10 "CupReceipts" "house" "LCupReceipts$House;") ∈ wsX6_meet := List.mem_of_getElem? (i := 2) rfl
  have k2 : (Cond.fieldLink RX6 29 "CupReceipts" "delivery" "LCupReceipts$Delivery;") ∈ wsX6_meet := List.mem_of_getElem? (i := 3) rfl
  have hinX6 : ∀ w ∈ wsX60, w ∈ wsX6_meet := fun w h => List.mem_cons_of_mem _ (List.mem_append_left _ (List.mem_append_left _ (List.mem_append_left _ (List.mem_append_left _ (List.mem_append_left _ (List.mem_append_right _ h))))))
  refine cr_metW (Qc := fun A => va_Qi (fun r (u : (Nat → Nat → Nat → Nat) × cr_V × cr_V × cr_V × cr_V × cr_V × cr_V × cr_V × (Nat → Nat → cr_V) × cr_V) => (r, u.2) = out) (fun u t => cr_at D A ((fun u : (Nat → Nat → Nat → Nat) × cr_V × cr_V × cr_V × cr_V × cr_V × cr_V × cr_V × (Nat → Nat → cr_V) × cr_V => cr_wX ct a u.1 u.2.1 u.2.2.1 u.2.2.2.1 u.2.2.2.2.1 u.2.2.2.2.2.1 u.2.2.2.2.2.2.1 u.2.2.2.2.2.2.2.1 u.2.2.2.2.2.2.2.2.1 u.2.2.2.2.2.2.2.2.2 vo) u) t) A) (by decide) rfl rfl (Nat.le_of_ble_eq_true rfl) ?_
  intro p e s m args below meth c ls A C hW hl
  obtain ⟨hx, hb, hml, hown, hts, hr, hlocks, hK, hN⟩ := id C
  have hl : lv_has ls 2 [(0, .ref (a 0 0)), (1, .int x1)] := hl
  replace hE : ((f_X3_copyFrom vt vtl vtk vh vl vk).bind fun q1 => (f_X3_meetContract q1.1 q1.2.1 q1.2.2 vd x1).bind fun q2 => (f_X6_accept vh vl vk q2.2.1 q2.2.2.1 q2.2.2.2.1 vs vx q2.2.2.2.2 vo q2.1).bind fun q3 => some (q3.1, q3.2.1, q3.2.2.1, q3.2.2.2.1, q2.2.1, q2.2.2.1, q2.2.2.2.1, q3.2.2.2.2.1, q3.2.2.2.2.2, q2.2.2.2.2)) = some out := hE
  refine lv_aload_n hx hb dX6_meet_0 rfl (lv_at hl 0 rfl) ?_
  refine cr_get C hW.1 0 rfl rfl 1 (by decide) hinX6 k0 (v := .ref ((a 4) 0)) rfl dX6_meet_1 ?_
  refine lv_aload_n hx hb dX6_meet_4 rfl (lv_at hl 0 rfl) ?_
  refine cr_get C hW.1 0 rfl rfl 0 (by decide) hinX6 k1 (v := .ref ((a 1) 0)) rfl dX6_meet_5 ?_
  obtain ⟨q1, hq1, hE⟩ := cr_bind hE
  refine cr_vVB (nb := 6) (n := 1) (As := [.ref ((a 1) 0)]) (rest := []) C hW (m_X3_copyFrom L D ct (a 4) (a 5) (a 6) (a 1) (a 2) (a 3) vt vtl vtk vh vl vk _ q1 hq1) (cwV 1 hts gX6_meet_X3_copyFrom rfl rfl rfl (by decide +kernel) ⟨Nat.le_of_ble_eq_true rfl, Nat.le_of_ble_eq_true rfl⟩) [2, 1] [0, 3, 4, 5] [cr_wX0 ct a, cr_wH ct (a 1) (a 2) (a 3) vh vl vk, cr_wH ct (a 4) (a 5) (a 6) vt vtl vtk, cr_wR ct (a 7) vs r vx, cr_wD ct (a 8) vd, cr_wO ct (a 9) vo] (cr_wX ct a r vh vl vk q1.1 q1.2.1 q1.2.2 vs vx vd vo) [cr_wX0 ct a, cr_wH ct (a 1) (a 2) (a 3) vh vl vk, cr_wH ct (a 4) (a 5) (a 6) q1.1 q1.2.1 q1.2.2, cr_wR ct (a 7) vs r vx, cr_wD ct (a 8) vd, cr_wO ct (a 9) vo] ⟨rfl, rfl⟩ ⟨rfl, rfl⟩ rfl rfl rfl (by decide) 12 rfl rfl rfl hl.1 rfl (Nat.le_of_ble_eq_true rfl) dX6_meet_8 ⟨Nat.zero_le _, Nat.zero_le _⟩ (fun H locs hW => ?_)
  refine lv_aload_n hx hb dX6_meet_11 rfl (lv_at hl 0 rfl) ?_
  refine lv_aload_n hx hb dX6_meet_12 rfl (lv_at hl 0 rfl) ?_
  refine cr_get C hW.1 0 rfl rfl 1 (by decide) hinX6 k0 (v := .ref ((a 4) 0)) rfl dX6_meet_13 ?_
  refine lv_iload_n hx hb dX6_meet_16 rfl (lv_at hl 1 rfl) ?_
  refine lv_aload_n hx hb dX6_meet_17 rfl (lv_at hl 0 rfl) ?_
  refine cr_get C hW.1 0 rfl rfl 3 (by decide) hinX6 k2 (v := .ref ((a 8) 0)) rfl dX6_meet_18 ?_
  obtain ⟨q2, hq2, hE⟩ := cr_bind hE
  refine cr_vWB (nb := 6) (n := 2) (As := [.int x1, .ref ((a 8) 0)]) (rest := [.ref (a 0 0)]) C hW (m_X3_meetContract L D ct (a 4) (a 5) (a 6) (a 8) q1.1 q1.2.1 q1.2.2 vd x1 _ q2 hq2) (cwV 2 hts gX6_meet_X3_meetContract rfl rfl rfl (by decide +kernel) ⟨Nat.le_of_ble_eq_true rfl, Nat.le_of_ble_eq_true rfl⟩) [2, 4] [0, 1, 3, 5] [cr_wX0 ct a, cr_wH ct (a 1) (a 2) (a 3) vh vl vk, cr_wH ct (a 4) (a 5) (a 6) q1.1 q1.2.1 q1.2.2, cr_wR ct (a 7) vs r vx, cr_wD ct (a 8) vd, cr_wO ct (a 9) vo] (cr_wX ct a r vh vl vk q2.2.1 q2.2.2.1 q2.2.2.2.1 vs vx q2.2.2.2.2 vo) [cr_wX0 ct a, cr_wH ct (a 1) (a 2) (a 3) vh vl vk, cr_wH ct (a 4) (a 5) (a 6) q2.2.1 q2.2.2.1 q2.2.2.2.1, cr_wR ct (a 7) vs r vx, cr_wD ct (a 8) q2.2.2.2.2, cr_wO ct (a 9) vo] ⟨rfl, rfl⟩ ⟨rfl, rfl⟩ rfl rfl rfl (by decide) 12 rfl rfl rfl hl.1 rfl (Nat.le_of_ble_eq_true rfl) dX6_meet_21 ⟨Nat.zero_le _, Nat.zero_le _⟩ (fun H locs hW => ?_)
  obtain ⟨q3, hq3, hE⟩ := cr_bind hE
  refine cr_vWBr (nb := 6) (n := 1) (As := [.int q2.1]) (rest := []) C hW (m_X6_accept L D ct a r vh vl vk q2.2.1 q2.2.2.1 q2.2.2.2.1 vs vx q2.2.2.2.2 vo q2.1 _ q3 hq3) (cwV 1 hts gX6_meet_X6_accept rfl rfl rfl (by decide +kernel) ⟨Nat.le_of_ble_eq_true rfl, Nat.le_of_ble_eq_true rfl⟩) [0, 1, 2, 3, 4, 5] [] [cr_wX0 ct a, cr_wH ct (a 1) (a 2) (a 3) vh vl vk, cr_wH ct (a 4) (a 5) (a 6) q2.2.1 q2.2.2.1 q2.2.2.2.1, cr_wR ct (a 7) vs r vx, cr_wD ct (a 8) q2.2.2.2.2, cr_wO ct (a 9) vo] (fun r => cr_wX ct a r q3.2.1 q3.2.2.1 q3.2.2.2.1 q2.2.1 q2.2.2.1 q2.2.2.2.1 q3.2.2.2.2.1 q3.2.2.2.2.2 q2.2.2.2.2 vo) (fun r => [cr_wX0 ct a, cr_wH ct (a 1) (a 2) (a 3) q3.2.1 q3.2.2.1 q3.2.2.2.1, cr_wH ct (a 4) (a 5) (a 6) q2.2.1 q2.2.2.1 q2.2.2.2.1, cr_wR ct (a 7) q3.2.2.2.2.1 r q3.2.2.2.2.2, cr_wD ct (a 8) q2.2.2.2.2, cr_wO ct (a 9) vo]) ⟨rfl, rfl⟩ (fun _ => ⟨rfl, rfl⟩) rfl (fun _ => rfl) (fun _ => rfl) (by decide) 0 rfl rfl rfl hl.1 rfl (Nat.le_of_ble_eq_true rfl) dX6_meet_24 ⟨Nat.zero_le _, Nat.zero_le _⟩ (fun r H locs hW => ?_)
  exact cr_retW C (w := (fun u : (Nat → Nat → Nat → Nat) × cr_V × cr_V × cr_V × cr_V × cr_V × cr_V × cr_V × (Nat → Nat → cr_V) × cr_V => cr_wX ct a u.1 u.2.1 u.2.2.1 u.2.2.2.1 u.2.2.2.2.1 u.2.2.2.2.2.1 u.2.2.2.2.2.2.1 u.2.2.2.2.2.2.2.1 u.2.2.2.2.2.2.2.2.1 u.2.2.2.2.2.2.2.2.2 vo)) (r, q3.2.1, q3.2.2.1, q3.2.2.2.1, q2.2.1, q2.2.2.1, q2.2.2.2.1, q3.2.2.2.2.1, q3.2.2.2.2.2, q2.2.2.2.2) hW (Option.some.inj hE) dX6_meet_27

set_option maxHeartbeats 4000000 in
set_option maxRecDepth 100000 in
theorem m_X6_pass (L : Launch) (D : va_G) (ct : Nat → ClassId) (a : Nat → Nat → Nat) (r : Nat → Nat → Nat → Nat) (vh : cr_V) (vl : cr_V) (vk : cr_V) (vt : cr_V) (vtl : cr_V) (vtk : cr_V) (vs : cr_V) (vx : Nat → Nat → cr_V) (vd : cr_V) (vo : cr_V) (x1 : Int32) (sz : Nat) (out : Int32 × cr_V × cr_V × cr_V × cr_V × cr_V × cr_V × cr_V × (Nat → Nat → cr_V)) (hE : f_X6_pass vh vl vk vt vtl vtk vs vx vd vo x1 = some out) : Met L yX6_pass wsX6_pass ({ frames := 4, cells := 0, slots := 0, locals := 86 } : Room) (cr_pW D ct (cr_wX ct a r vh vl vk vt vtl vtk vs vx vd vo) sz [.ref (a 0 0), .int x1]) (cr_QW D (cr_wX ct a r vh vl vk vt vtl vtk vs vx vd vo) sz (fun r (u : (Nat → Nat → Nat → Nat) × cr_V × cr_V × cr_V × cr_V × cr_V × cr_V × cr_V × (Nat → Nat → cr_V)) => (r, u.2) = out) (fun u : (Nat → Nat → Nat → Nat) × cr_V × cr_V × cr_V × cr_V × cr_V × cr_V × cr_V × (Nat → Nat → cr_V) => cr_wX ct a u.1 u.2.1 u.2.2.1 u.2.2.2.1 u.2.2.2.2.1 u.2.2.2.2.2.1 u.2.2.2.2.2.2.1 u.2.2.2.2.2.2.2.1 u.2.2.2.2.2.2.2.2 vd vo)) 0 0 (va_A (cr_wX ct a r vh vl vk vt vtl vtk vs vx vd vo) sz) := by
  have k0 : (Cond.fieldLink RX6 16 "CupReceipts" "trial" "LCupReceipts$House;") ∈ wsX6_pass := List.mem_of_getElem? (i := 1) rfl
  have k1 : (Cond.fieldLink RX6 10 "CupReceipts" "house" "LCupReceipts$House;") ∈ wsX6_pass := List.mem_of_getElem? (i := 2) rfl
  have hinX6 : ∀ w ∈ wsX60, w ∈ wsX6_pass := fun w h => List.mem_cons_of_mem _ (List.mem_append_left _ (List.mem_append_left _ (List.mem_append_left _ (List.mem_append_left _ (List.mem_append_right _ h)))))
  refine cr_metW (Qc := fun A => va_Qi (fun r (u : (Nat → Nat → Nat → Nat) × cr_V × cr_V × cr_V × cr_V × cr_V × cr_V × cr_V × (Nat → Nat → cr_V)) => (r, u.2) = out) (fun u t => cr_at D A ((fun u : (Nat → Nat → Nat → Nat) × cr_V × cr_V × cr_V × cr_V × cr_V × cr_V × cr_V × (Nat → Nat → cr_V) => cr_wX ct a u.1 u.2.1 u.2.2.1 u.2.2.2.1 u.2.2.2.2.1 u.2.2.2.2.2.1 u.2.2.2.2.2.2.1 u.2.2.2.2.2.2.2.1 u.2.2.2.2.2.2.2.2 vd vo) u) t) A) (by decide) rfl rfl (Nat.le_of_ble_eq_true rfl) ?_
  intro p e s m args below meth c ls A C hW hl
  obtain ⟨hx, hb, hml, hown, hts, hr, hlocks, hK, hN⟩ := id C
  have hl : lv_has ls 2 [(0, .ref (a 0 0)), (1, .int x1)] := hl
  replace hE : ((f_X3_copyFrom vt vtl vtk vh vl vk).bind fun q1 => (f_X3_passMonths q1.1 q1.2.1 q1.2.2 x1).bind fun q2 => (f_X6_accept vh vl vk q2.2.1 q1.2.1 q2.2.2 vs vx vd vo q2.1).bind fun q3 => some (q3.1, q3.2.1, q3.2.2.1, q3.2.2.2.1, q2.2.1, q1.2.1, q2.2.2, q3.2.2.2.2.1, q3.2.2.2.2.2)) = some out := hE
  refine lv_aload_n hx hb dX6_pass_0 rfl (lv_at hl 0 rfl) ?_
  refine cr_get C hW.1 0 rfl rfl 1 (by decide) hinX6 k0 (v := .ref ((a 4) 0)) rfl dX6_pass_1 ?_
  refine lv_aload_n hx hb dX6_pass_4 rfl (lv_at hl 0 rfl) ?_
  refine cr_get C hW.1 0 rfl rfl 0 (by decide) hinX6 k1 (v := .ref ((a 1) 0)) rfl dX6_pass_5 ?_
  obtain ⟨q1, hq1, hE⟩ := cr_bind hE
  refine cr_vVB (nb := 6) (n := 1) (As := [.ref ((a 1) 0)]) (rest := []) C hW (m_X3_copyFrom L D ct (a 4) (a 5) (a 6) (a 1) (a 2) (a 3) vt vtl vtk vh vl vk _ q1 hq1) (cwV 1 hts gX6_pass_X3_copyFrom rfl rfl rfl (by decide +kernel) ⟨Nat.le_of_ble_eq_true rfl, Nat.le_of_ble_eq_true rfl⟩) [2, 1] [0, 3, 4, 5] [cr_wX0 ct a, cr_wH ct (a 1) (a 2) (a 3) vh vl vk, cr_wH ct (a 4) (a 5) (a 6) vt vtl vtk, cr_wR ct (a 7) vs r vx, cr_wD ct (a 8) vd, cr_wO ct (a 9) vo] (cr_wX ct a r vh vl vk q1.1 q1.2.1 q1.2.2 vs vx vd vo) [cr_wX0 ct a, cr_wH ct (a 1) (a 2) (a 3) vh vl vk, cr_wH ct (a 4) (a 5) (a 6) q1.1 q1.2.1 q1.2.2, cr_wR ct (a 7) vs r vx, cr_wD ct (a 8) vd, cr_wO ct (a 9) vo] ⟨rfl, rfl⟩ ⟨rfl, rfl⟩ rfl rfl rfl (by decide) 12 rfl rfl rfl hl.1 rfl (Nat.le_of_ble_eq_true rfl) dX6_pass_8 ⟨Nat.zero_le _, Nat.zero_le _⟩ (fun H locs hW => ?_)
  refine lv_aload_n hx hb dX6_pass_11 rfl (lv_at hl 0 rfl) ?_
  refine lv_aload_n hx hb dX6_pass_12 rfl (lv_at hl 0 rfl) ?_
  refine cr_get C hW.1 0 rfl rfl 1 (by decide) hinX6 k0 (v := .ref ((a 4) 0)) rfl dX6_pass_13 ?_
  refine lv_iload_n hx hb dX6_pass_16 rfl (lv_at hl 1 rfl) ?_
  obtain ⟨q2, hq2, hE⟩ := cr_bind hE
  refine cr_vWB (nb := 6) (n := 1) (As := [.int x1]) (rest := [.ref (a 0 0)]) C hW (m_X3_passMonths L D ct (a 4) (a 5) (a 6) q1.1 q1.2.1 q1.2.2 x1 _ q2 hq2) (cwV 1 hts gX6_pass_X3_passMonths rfl rfl rfl (by decide +kernel) ⟨Nat.le_of_ble_eq_true rfl, Nat.le_of_ble_eq_true rfl⟩) [2] [0, 1, 3, 4, 5] [cr_wX0 ct a, cr_wH ct (a 1) (a 2) (a 3) vh vl vk, cr_wH ct (a 4) (a 5) (a 6) q1.1 q1.2.1 q1.2.2, cr_wR ct (a 7) vs r vx, cr_wD ct (a 8) vd, cr_wO ct (a 9) vo] (cr_wX ct a r vh vl vk q2.2.1 q1.2.1 q2.2.2 vs vx vd vo) [cr_wX0 ct a, cr_wH ct (a 1) (a 2) (a 3) vh vl vk, cr_wH ct (a 4) (a 5) (a 6) q2.2.1 q1.2.1 q2.2.2, cr_wR ct (a 7) vs r vx, cr_wD ct (a 8) vd, cr_wO ct (a 9) vo] ⟨rfl, rfl⟩ ⟨rfl, rfl⟩ rfl rfl rfl (by decide) 12 rfl rfl rfl hl.1 rfl (Nat.le_of_ble_eq_true rfl) dX6_pass_17 ⟨Nat.zero_le _, Nat.zero_le _⟩ (fun H locs hW => ?_)
  obtain ⟨q3, hq3, hE⟩ := cr_bind hE
  refine cr_vWBr (nb := 6) (n := 1) (As := [.int q2.1]) (rest := []) C hW (m_X6_accept L D ct a r vh vl vk q2.2.1 q1.2.1 q2.2.2 vs vx vd vo q2.1 _ q3 hq3) (cwV 1 hts gX6_pass_X6_accept rfl rfl rfl (by decide +kernel) ⟨Nat.le_of_ble_eq_true rfl, Nat.le_of_ble_eq_true rfl⟩) [0, 1, 2, 3, 4, 5] [] [cr_wX0 ct a, cr_wH ct (a 1) (a 2) (a 3) vh vl vk, cr_wH ct (a 4) (a 5) (a 6) q2.2.1 q1.2.1 q2.2.2, cr_wR ct (a 7) vs r vx, cr_wD ct (a 8) vd, cr_wO ct (a 9) vo] (fun r => cr_wX ct a r q3.2.1 q3.2.2.1 q3.2.2.2.1 q2.2.1 q1.2.1 q2.2.2 q3.2.2.2.2.1 q3.2.2.2.2.2 vd vo) (fun r => [cr_wX0 ct a, cr_wH ct (a 1) (a 2) (a 3) q3.2.1 q3.2.2.1 q3.2.2.2.1, cr_wH ct (a 4) (a 5) (a 6) q2.2.1 q1.2.1 q2.2.2, cr_wR ct (a 7) q3.2.2.2.2.1 r q3.2.2.2.2.2, cr_wD ct (a 8) vd, cr_wO ct (a 9) vo]) ⟨rfl, rfl⟩ (fun _ => ⟨rfl, rfl⟩) rfl (fun _ => rfl) (fun _ => rfl) (by decide) 0 rfl rfl rfl hl.1 rfl (Nat.le_of_ble_eq_true rfl) dX6_pass_20 ⟨Nat.zero_le _, Nat.zero_le _⟩ (fun r H locs hW => ?_)
  exact cr_retW C (w := (fun u : (Nat → Nat → Nat → Nat) × cr_V × cr_V × cr_V × cr_V × cr_V × cr_V × cr_V × (Nat → Nat → cr_V) => cr_wX ct a u.1 u.2.1 u.2.2.1 u.2.2.2.1 u.2.2.2.2.1 u.2.2.2.2.2.1 u.2.2.2.2.2.2.1 u.2.2.2.2.2.2.2.1 u.2.2.2.2.2.2.2.2 vd vo)) (r, q3.2.1, q3.2.2.1, q3.2.2.2.1, q2.2.1, q1.2.1, q2.2.2, q3.2.2.2.2.1, q3.2.2.2.2.2) hW (Option.some.inj hE) dX6_pass_23

set_option maxHeartbeats 4000000 in
set_option maxRecDepth 100000 in
theorem m_X6_lotOf (L : Launch) (D : va_G) (ct : Nat → ClassId) (a : Nat → Nat → Nat) (r : Nat → Nat → Nat → Nat) (vh : cr_V) (vl : cr_V) (vk : cr_V) (vt : cr_V) (vtl : cr_V) (vtk : cr_V) (vs : cr_V) (vx : Nat → Nat → cr_V) (vd : cr_V) (vo : cr_V) (x1 : Int32) (x2 : Int32) (out : Int32) (hE : f_X6_lotOf vh vl vk vt vtl vtk vs vx vd vo x1 x2 = some out) : Met L yX6_lotOf wsX6_lotOf ({ frames := 2, cells := 0, slots := 0, locals := 45 } : Room) (cr_pR D ct (cr_wX ct a r vh vl vk vt vtl vtk vs vx vd vo) [.ref (a 0 0), .int x1, .int x2]) (cr_QR (fun r => r = out)) 0 0 cr_no := by
  have k0 : (Cond.fieldLink RX6 10 "CupReceipts" "house" "LCupReceipts$House;") ∈ wsX6_lotOf := List.mem_of_getElem? (i := 1) rfl
  have k1 : (Cond.fieldLink RX6 81 "CupReceipts$House" "lots" "LCupReceipts$Lots;") ∈ wsX6_lotOf := List.mem_of_getElem? (i := 2) rfl
  have k2 : (Cond.constant RX6 90 (-2000000001)) ∈ wsX6_lotOf := List.mem_of_getElem? (i := 3) rfl
  have hinX3 : ∀ w ∈ wsX30, w ∈ wsX6_lotOf := fun w h => List.mem_cons_of_mem _ (List.mem_append_left _ (List.mem_append_right _ h))
  have hinX6 : ∀ w ∈ wsX60, w ∈ wsX6_lotOf := fun w h => List.mem_cons_of_mem _ (List.mem_append_left _ (List.mem_append_left _ (List.mem_append_right _ h)))
  refine cr_metR (by decide) rfl rfl (Nat.le_of_ble_eq_true rfl) ?_
  intro p e s m args below meth c ls C hP hS hl
  obtain ⟨hx, hb, hml, hown, hts, hr, hlocks, hK, hN⟩ := id C
  have hl : lv_has ls 4 [(0, .ref (a 0 0)), (1, .int x1), (2, .int x2)] := hl
  replace hE : ((f_X4_rowOf vl x1).bind fun q1 => if 0 ≤ q1 then ((f_X3_tellOfLot vh vl vk q1 x2).bind fun q3 => some q3) else (some (-2000000001))) = some out := hE
  refine lv_aload_n hx hb dX6_lotOf_0 rfl (lv_at hl 0 rfl) ?_
  refine cr_get C hP 0 rfl rfl 0 (by decide) hinX6 k0 (v := .ref ((a 1) 0)) rfl dX6_lotOf_1 ?_
  refine cr_get C hP 1 rfl rfl 0 (by decide) hinX3 k1 (v := .ref ((a 2) 0)) rfl dX6_lotOf_4 ?_
  refine lv_iload_n hx hb dX6_lotOf_7 rfl (lv_at hl 1 rfl) ?_
  obtain ⟨q1, hq1, hE⟩ := cr_bind hE
  refine cr_vRq (n := 1) (As := [.int x1]) (rest := []) C hP hS (m_X4_rowOf L D ct (a 2) vl x1 q1 hq1) (cwV 1 hts gX6_lotOf_X4_rowOf rfl rfl rfl (by decide +kernel) ⟨Nat.le_of_ble_eq_true rfl, Nat.le_of_ble_eq_true rfl⟩) [4, 5, 6, 7, 8] rfl 4 rfl rfl rfl hl.1 rfl (Nat.le_of_ble_eq_true rfl) dX6_lotOf_8 ⟨Nat.zero_le _, Nat.zero_le _⟩ (fun H locs hP hS => ?_)
  refine lv_istore_n (lv' := [(3, .int q1), (0, .ref (a 0 0)), (1, .int x1), (2, .int x2)]) hx hb dX6_lotOf_11 rfl hl (by decide) rfl (fun ls hl => ?_)
  refine lv_iload_n hx hb dX6_lotOf_12 rfl (lv_at hl 0 rfl) ?_
  refine lv_if_ge (tgt := 21) hx hb dX6_lotOf_13 (by decide) (fun c2 => ?_) (fun c2 => ?_)
  · rw [if_pos c2] at hE
    refine lv_aload_n hx hb dX6_lotOf_21 rfl (lv_at hl 1 rfl) ?_
    refine cr_get C hP 0 rfl rfl 0 (by decide) hinX6 k0 (v := .ref ((a 1) 0)) rfl dX6_lotOf_22 ?_
    refine lv_iload_n hx hb dX6_lotOf_25 rfl (lv_at hl 0 rfl) ?_
    refine lv_iload_n hx hb dX6_lotOf_26 rfl (lv_at hl 3 rfl) ?_
    obtain ⟨q3, hq3, hE⟩ := cr_bind hE
    refine cr_vRq (n := 2) (As := [.int q1, .int x2]) (rest := []) C hP hS (m_X3_tellOfLot L D ct (a 1) (a 2) (a 3) vh vl vk q1 x2 q3 hq3) (cwV 2 hts gX6_lotOf_X3_tellOfLot rfl rfl rfl (by decide +kernel) ⟨Nat.le_of_ble_eq_true rfl, Nat.le_of_ble_eq_true rfl⟩) [1, 2, 3, 4, 5, 6, 7, 8, 9, 10, 11] rfl 1 rfl rfl rfl hl.1 rfl (Nat.le_of_ble_eq_true rfl) dX6_lotOf_27 ⟨Nat.zero_le _, Nat.zero_le _⟩ (fun H locs hP hS => ?_)
    exact cr_retR C hS (Option.some.inj hE) dX6_lotOf_30
  · rw [if_neg c2] at hE
    refine cr_ldc C k2 dX6_lotOf_16 ?_
    refine lv_goto (tgt := 30) hx hb dX6_lotOf_18 (by decide) ?_
    exact cr_retR C hS (Option.some.inj hE) dX6_lotOf_30

set_option maxHeartbeats 4000000 in
set_option maxRecDepth 100000 in
theorem m_X6_numberOf (L : Launch) (D : va_G) (ct : Nat → ClassId) (a : Nat → Nat → Nat) (r : Nat → Nat → Nat → Nat) (vh : cr_V) (vl : cr_V) (vk : cr_V) (vt : cr_V) (vtl : cr_V) (vtk : cr_V) (vs : cr_V) (vx : Nat → Nat → cr_V) (vd : cr_V) (vo : cr_V) (x1 : Int32) (out : Int32) (hE : f_X6_numberOf vh vl vk vt vtl vtk vs vx vd vo x1 = some out) : Met L yX6_numberOf wsX6_numberOf ({ frames := 0, cells := 0, slots := 0, locals := 0 } : Room) (cr_pR D ct (cr_wX ct a r vh vl vk vt vtl vtk vs vx vd vo) [.ref (a 0 0), .int x1]) (cr_QR (fun r => r = out)) 0 0 cr_no := by
  have k0 : (Cond.fieldLink RX6 10 "CupReceipts" "house" "LCupReceipts$House;") ∈ wsX6_numberOf := List.mem_of_getElem? (i := 2) rfl
  have k1 : (Cond.fieldLink RX6 81 "CupReceipts$House" "lots" "LCupReceipts$Lots;") ∈ wsX6_numberOf := List.mem_of_getElem? (i := 3) rfl
  have k2 : (Cond.fieldLink RX6 94 "CupReceipts$Lots" "size" "I") ∈ wsX6_numberOf := List.mem_of_getElem? (i := 4) rfl
  have k3 : (Cond.constant RX6 102 (-2000000004)) ∈ wsX6_numberOf := List.mem_of_getElem? (i := 6) rfl
  have k4 : (Cond.fieldLink RX6 98 "CupReceipts$Lots" "numbers" "[I") ∈ wsX6_numberOf := List.mem_of_getElem? (i := 5) rfl
  have k5 : (Cond.constant RX6 90 (-2000000001)) ∈ wsX6_numberOf := List.mem_of_getElem? (i := 1) rfl
  have hinX3 : ∀ w ∈ wsX30, w ∈ wsX6_numberOf := fun w h => List.mem_cons_of_mem _ (List.mem_append_left _ (List.mem_append_right _ h))
  have hinX4 : ∀ w ∈ wsX40, w ∈ wsX6_numberOf := fun w h => List.mem_cons_of_mem _ (List.mem_append_right _ h)
  have hinX6 : ∀ w ∈ wsX60, w ∈ wsX6_numberOf := fun w h => List.mem_cons_of_mem _ (List.mem_append_left _ (List.mem_append_left _ (List.mem_append_right _ h)))
  refine cr_metR (by decide) rfl rfl (Nat.le_of_ble_eq_true rfl) ?_
  intro p e s m args below meth c ls C hP hS hl
  obtain ⟨hx, hb, hml, hown, hts, hr, hlocks, hK, hN⟩ := id C
  have hl : lv_has ls 2 [(0, .ref (a 0 0)), (1, .int x1)] := hl
  replace hE : (if 0 ≤ x1 then (if (vl 4 0) ≤ x1 then (some (-2000000004)) else (if cr_in x1 12 = true then some (vl 0 (cr_x x1)) else none)) else (some (-2000000001))) = some out := hE
  refine lv_iload_n hx hb dX6_numberOf_0 rfl (lv_at hl 1 rfl) ?_
  refine lv_if_ge (tgt := 7) hx hb dX6_numberOf_1 (by decide) (fun c1 => ?_) (fun c1 => ?_)
  · rw [if_pos c1] at hE
    refine lv_iload_n hx hb dX6_numberOf_7 rfl (lv_at hl 1 rfl) ?_
    refine lv_aload_n hx hb dX6_numberOf_8 rfl (lv_at hl 0 rfl) ?_
    refine cr_get C hP 0 rfl rfl 0 (by decide) hinX6 k0 (v := .ref ((a 1) 0)) rfl dX6_numberOf_9 ?_
    refine cr_get C hP 1 rfl rfl 0 (by decide) hinX3 k1 (v := .ref ((a 2) 0)) rfl dX6_numberOf_12 ?_
    refine cr_get C hP 4 rfl rfl 4 (by decide) hinX4 k2 (v := .int (vl 4 0)) rfl dX6_numberOf_15 ?_
    refine lv_icmp_ge (tgt := 36) hx hb dX6_numberOf_18 (by decide) (fun c2 => ?_) (fun c2 => ?_)
    · rw [if_pos c2] at hE
      refine cr_ldc C k3 dX6_numberOf_36 ?_
      exact cr_retR C hS (Option.some.inj hE) dX6_numberOf_38
    · rw [if_neg c2] at hE
      refine lv_aload_n hx hb dX6_numberOf_21 rfl (lv_at hl 0 rfl) ?_
      refine cr_get C hP 0 rfl rfl 0 (by decide) hinX6 k0 (v := .ref ((a 1) 0)) rfl dX6_numberOf_22 ?_
      refine cr_get C hP 1 rfl rfl 0 (by decide) hinX3 k1 (v := .ref ((a 2) 0)) rfl dX6_numberOf_25 ?_
      refine cr_get C hP 4 rfl rfl 0 (by decide) hinX4 k4 (v := .ref ((a 2) 1)) rfl dX6_numberOf_28 ?_
      refine lv_iload_n hx hb dX6_numberOf_31 rfl (lv_at hl 1 rfl) ?_
      obtain ⟨i3, hE⟩ := cr_ifn hE
      refine cr_ald C hP 5 (f := vl 0) (k := cr_x x1) rfl i3 (cr_xe _) dX6_numberOf_32 ?_
      refine lv_goto (tgt := 38) hx hb dX6_numberOf_33 (by decide) ?_
      exact cr_retR C hS (Option.some.inj hE) dX6_numberOf_38
  · rw [if_neg c1] at hE
    refine cr_ldc C k5 dX6_numberOf_4 ?_
    exact cr_retR C hS (Option.some.inj hE) dX6_numberOf_6

set_option maxHeartbeats 4000000 in
set_option maxRecDepth 100000 in
theorem m_X6_contractOf (L : Launch) (D : va_G) (ct : Nat → ClassId) (a : Nat → Nat → Nat) (r : Nat → Nat → Nat → Nat) (vh : cr_V) (vl : cr_V) (vk : cr_V) (vt : cr_V) (vtl : cr_V) (vtk : cr_V) (vs : cr_V) (vx : Nat → Nat → cr_V) (vd : cr_V) (vo : cr_V) (x1 : Int32) (x2 : Int32) (out : Int32) (hE : f_X6_contractOf vh vl vk vt vtl vtk vs vx vd vo x1 x2 = some out) : Met L yX6_contractOf wsX6_contractOf ({ frames := 1, cells := 0, slots := 0, locals := 21 } : Room) (cr_pR D ct (cr_wX ct a r vh vl vk vt vtl vtk vs vx vd vo) [.ref (a 0 0), .int x1, .int x2]) (cr_QR (fun r => r = out)) 0 0 cr_no := by
  have k0 : (Cond.fieldLink RX6 10 "CupReceipts" "house" "LCupReceipts$House;") ∈ wsX6_contractOf := List.mem_of_getElem? (i := 1) rfl
  have k1 : (Cond.fieldLink RX6 103 "CupReceipts$House" "contracts" "LCupReceipts$Contracts;") ∈ wsX6_contractOf := List.mem_of_getElem? (i := 2) rfl
  have k2 : (Cond.fieldLink RX6 113 "CupReceipts$Contracts" "months" "[I") ∈ wsX6_contractOf := List.mem_of_getElem? (i := 4) rfl
  have k3 : (Cond.fieldLink RX6 116 "CupReceipts$Contracts" "prices" "[I") ∈ wsX6_contractOf := List.mem_of_getElem? (i := 5) rfl
  have k4 : (Cond.fieldLink RX6 119 "CupReceipts$House" "month" "I") ∈ wsX6_contractOf := List.mem_of_getElem? (i := 6) rfl
  have k5 : (Cond.constant RX6 90 (-2000000001)) ∈ wsX6_contractOf := List.mem_of_getElem? (i := 3) rfl
  have hinX0 : ∀ w ∈ wsX00, w ∈ wsX6_contractOf := fun w h => List.mem_cons_of_mem _ (List.mem_append_right _ h)
  have hinX3 : ∀ w ∈ wsX30, w ∈ wsX6_contractOf := fun w h => List.mem_cons_of_mem _ (List.mem_append_left _ (List.mem_append_right _ h))
  have hinX6 : ∀ w ∈ wsX60, w ∈ wsX6_contractOf := fun w h => List.mem_cons_of_mem _ (List.mem_append_left _ (List.mem_append_left _ (List.mem_append_right _ h)))
  refine cr_metR (by decide) rfl rfl (Nat.le_of_ble_eq_true rfl) ?_
  intro p e s m args below meth c ls C hP hS hl
  obtain ⟨hx, hb, hml, hown, hts, hr, hlocks, hK, hN⟩ := id C
  have hl : lv_has ls 3 [(0, .ref (a 0 0)), (1, .int x1), (2, .int x2)] := hl
  replace hE : ((f_X0_isOpen vk x1).bind fun q1 => if q1 = 0 then (some (-2000000001)) else (if x2 = 0 then (if cr_in x1 6 = true then some (vk 0 (cr_x x1)) else none) else (if x2 = 1 then (if cr_in x1 6 = true then some (vk 1 (cr_x x1)) else none) else (if x2 = 2 then (if cr_in x1 6 = true then some ((vk 0 (cr_x x1)) - (vh 4 0)) else none) else (some (-2000000001)))))) = some out := hE
  refine lv_aload_n hx hb dX6_contractOf_0 rfl (lv_at hl 0 rfl) ?_
  refine cr_get C hP 0 rfl rfl 0 (by decide) hinX6 k0 (v := .ref ((a 1) 0)) rfl dX6_contractOf_1 ?_
  refine cr_get C hP 1 rfl rfl 1 (by decide) hinX3 k1 (v := .ref ((a 3) 0)) rfl dX6_contractOf_4 ?_
  refine lv_iload_n hx hb dX6_contractOf_7 rfl (lv_at hl 1 rfl) ?_
  obtain ⟨q1, hq1, hE⟩ := cr_bind hE
  refine cr_vRq (n := 1) (As := [.int x1]) (rest := []) C hP hS (m_X0_isOpen L D ct (a 3) vk x1 q1 hq1) (cwV 1 hts gX6_contractOf_X0_isOpen rfl rfl rfl (by decide +kernel) ⟨Nat.le_of_ble_eq_true rfl, Nat.le_of_ble_eq_true rfl⟩) [9, 10, 11] rfl 9 rfl rfl rfl hl.1 rfl (Nat.le_of_ble_eq_true rfl) dX6_contractOf_8 ⟨Nat.zero_le _, Nat.zero_le _⟩ (fun H locs hP hS => ?_)
  refine lv_if_ne (tgt := 17) hx hb dX6_contractOf_11 (by decide) (fun c2 => ?_) (fun c2 => ?_)
  · rw [if_neg c2] at hE
    refine lv_iload_n hx hb dX6_contractOf_17 rfl (lv_at hl 2 rfl) ?_
    by_cases c3 : x2 = 0
    · rw [if_pos c3] at hE
      refine lv_tableIn (tgt := 44) (off := 26) hx hb dX6_contractOf_18 (by rw [c3]; decide) (by rw [c3]; decide) (by rw [c3]; rfl) (by decide) ?_
      refine lv_aload_n hx hb dX6_contractOf_44 rfl (lv_at hl 0 rfl) ?_
      refine cr_get C hP 0 rfl rfl 0 (by decide) hinX6 k0 (v := .ref ((a 1) 0)) rfl dX6_contractOf_45 ?_
      refine cr_get C hP 1 rfl rfl 1 (by decide) hinX3 k1 (v := .ref ((a 3) 0)) rfl dX6_contractOf_48 ?_
      refine cr_get C hP 9 rfl rfl 0 (by decide) hinX0 k2 (v := .ref ((a 3) 1)) rfl dX6_contractOf_51 ?_
      refine lv_iload_n hx hb dX6_contractOf_54 rfl (lv_at hl 1 rfl) ?_
      obtain ⟨i4, hE⟩ := cr_ifn hE
      refine cr_ald C hP 10 (f := vk 0) (k := cr_x x1) rfl i4 (cr_xe _) dX6_contractOf_55 ?_
      exact cr_retR C hS (Option.some.inj hE) dX6_contractOf_56
    · rw [if_neg c3] at hE
      by_cases c5 : x2 = 1
      · rw [if_pos c5] at hE
        refine lv_tableIn (tgt := 57) (off := 39) hx hb dX6_contractOf_18 (by rw [c5]; decide) (by rw [c5]; decide) (by rw [c5]; rfl) (by decide) ?_
        refine lv_aload_n hx hb dX6_contractOf_57 rfl (lv_at hl 0 rfl) ?_
        refine cr_get C hP 0 rfl rfl 0 (by decide) hinX6 k0 (v := .ref ((a 1) 0)) rfl dX6_contractOf_58 ?_
        refine cr_get C hP 1 rfl rfl 1 (by decide) hinX3 k1 (v := .ref ((a 3) 0)) rfl dX6_contractOf_61 ?_
        refine cr_get C hP 9 rfl rfl 1 (by decide) hinX0 k3 (v := .ref ((a 3) 2)) rfl dX6_contractOf_64 ?_
        refine lv_iload_n hx hb dX6_contractOf_67 rfl (lv_at hl 1 rfl) ?_
        obtain ⟨i6, hE⟩ := cr_ifn hE
        refine cr_ald C hP 11 (f := vk 1) (k := cr_x x1) rfl i6 (cr_xe _) dX6_contractOf_68 ?_
        exact cr_retR C hS (Option.some.inj hE) dX6_contractOf_69
      · rw [if_neg c5] at hE
        by_cases c7 : x2 = 2
        · rw [if_pos c7] at hE
          refine lv_tableIn (tgt := 70) (off := 52) hx hb dX6_contractOf_18 (by rw [c7]; decide) (by rw [c7]; decide) (by rw [c7]; rfl) (by decide) ?_
          refine lv_aload_n hx hb dX6_contractOf_70 rfl (lv_at hl 0 rfl) ?_
          refine cr_get C hP 0 rfl rfl 0 (by decide) hinX6 k0 (v := .ref ((a 1) 0)) rfl dX6_contractOf_71 ?_
          refine cr_get C hP 1 rfl rfl 1 (by decide) hinX3 k1 (v := .ref ((a 3) 0)) rfl dX6_contractOf_74 ?_
          refine cr_get C hP 9 rfl rfl 0 (by decide) hinX0 k2 (v := .ref ((a 3) 1)) rfl dX6_contractOf_77 ?_
          refine lv_iload_n hx hb dX6_contractOf_80 rfl (lv_at hl 1 rfl) ?_
          obtain ⟨i8, hE⟩ := cr_ifn hE
          refine cr_ald C hP 10 (f := vk 0) (k := cr_x x1) rfl i8 (cr_xe _) dX6_contractOf_81 ?_
          refine lv_aload_n hx hb dX6_contractOf_82 rfl (lv_at hl 0 rfl) ?_
          refine cr_get C hP 0 rfl rfl 0 (by decide) hinX6 k0 (v := .ref ((a 1) 0)) rfl dX6_contractOf_83 ?_
          refine cr_get C hP 1 rfl rfl 4 (by decide) hinX3 k4 (v := .int (vh 4 0)) rfl dX6_contractOf_86 ?_
          refine lv_isub hx hb dX6_contractOf_89 ?_
          exact cr_retR C hS (Option.some.inj hE) dX6_contractOf_90
        · rw [if_neg c7] at hE
          refine lv_tableOut (tgt := 91) hx hb dX6_contractOf_18 (by have e0 := cr_ne (n := 0) (by decide) c3; have e1 := cr_ne (n := 1) (by decide) c5; have e2 := cr_ne (n := 2) (by decide) c7; omega) (by decide) ?_
          refine cr_ldc C k5 dX6_contractOf_91 ?_
          exact cr_retR C hS (Option.some.inj hE) dX6_contractOf_93
  · rw [if_pos c2] at hE
    refine cr_ldc C k5 dX6_contractOf_14 ?_
    exact cr_retR C hS (Option.some.inj hE) dX6_contractOf_16

set_option maxHeartbeats 4000000 in
set_option maxRecDepth 100000 in
theorem m_X6_count (L : Launch) (D : va_G) (ct : Nat → ClassId) (a : Nat → Nat → Nat) (r : Nat → Nat → Nat → Nat) (vh : cr_V) (vl : cr_V) (vk : cr_V) (vt : cr_V) (vtl : cr_V) (vtk : cr_V) (vs : cr_V) (vx : Nat → Nat → cr_V) (vd : cr_V) (vo : cr_V) (x1 : Int32) (out : Int32) (hE : f_X6_count vh vl vk vt vtl vtk vs vx vd vo x1 = some out) : Met L yX6_count wsX6_count ({ frames := 3, cells := 0, slots := 0, locals := 67 } : Room) (cr_pR D ct (cr_wX ct a r vh vl vk vt vtl vtk vs vx vd vo) [.ref (a 0 0), .int x1]) (cr_QR (fun r => r = out)) 0 0 cr_no := by
  have k0 : (Cond.fieldLink RX6 22 "CupReceipts" "history" "LCupReceipts$History;") ∈ wsX6_count := List.mem_of_getElem? (i := 3) rfl
  have k1 : (Cond.fieldLink RX6 185 "CupReceipts$History" "states" "I") ∈ wsX6_count := List.mem_of_getElem? (i := 4) rfl
  have k2 : (Cond.fieldLink RX6 36 "CupReceipts" "orders" "LCupReceipts$Orders;") ∈ wsX6_count := List.mem_of_getElem? (i := 5) rfl
  have k3 : (Cond.fieldLink RX6 188 "CupReceipts$Orders" "length" "I") ∈ wsX6_count := List.mem_of_getElem? (i := 6) rfl
  have k4 : (Cond.fieldLink RX6 10 "CupReceipts" "house" "LCupReceipts$House;") ∈ wsX6_count := List.mem_of_getElem? (i := 1) rfl
  have k5 : (Cond.fieldLink RX6 172 "CupReceipts$House" "settings" "[I") ∈ wsX6_count := List.mem_of_getElem? (i := 2) rfl
  have hinX2 : ∀ w ∈ wsX20, w ∈ wsX6_count := fun w h => List.mem_cons_of_mem _ (List.mem_append_left _ (List.mem_append_left _ (List.mem_append_left _ (List.mem_append_right _ h))))
  have hinX3 : ∀ w ∈ wsX30, w ∈ wsX6_count := fun w h => List.mem_cons_of_mem _ (List.mem_append_left _ (List.mem_append_left _ (List.mem_append_left _ (List.mem_append_left _ (List.mem_append_right _ h)))))
  have hinX5 : ∀ w ∈ wsX50, w ∈ wsX6_count := fun w h => List.mem_cons_of_mem _ (List.mem_append_left _ (List.mem_append_left _ (List.mem_append_right _ h)))
  have hinX6 : ∀ w ∈ wsX60, w ∈ wsX6_count := fun w h => List.mem_cons_of_mem _ (List.mem_append_left _ (List.mem_append_left _ (List.mem_append_left _ (List.mem_append_left _ (List.mem_append_left _ (List.mem_append_right _ h))))))
  refine cr_metR (by decide) rfl rfl (Nat.le_of_ble_eq_true rfl) ?_
  intro p e s m args below meth c ls C hP hS hl
  obtain ⟨hx, hb, hml, hown, hts, hr, hlocks, hK, hN⟩ := id C
  have hl : lv_has ls 2 [(0, .ref (a 0 0)), (1, .int x1)] := hl
  replace hE : ((f_X6_isWithin x1 20 24).bind fun q1 => if q1 = 0 then (if x1 = 10 then (some (vs 1 0)) else (if x1 = 11 then (some (vo 1 0)) else ((f_X3_tellCount vh vl vk x1).bind fun q5 => some q5))) else (if cr_in (x1 - 20) 5 = true then some (vh 3 (cr_x (x1 - 20))) else none)) = some out := hE
  refine lv_iload_n hx hb dX6_count_0 rfl (lv_at hl 1 rfl) ?_
  refine lv_bipush (v := 20) hx hb dX6_count_1 (by decide) ?_
  refine lv_bipush (v := 24) hx hb dX6_count_3 (by decide) ?_
  obtain ⟨q1, hq1, hE⟩ := cr_bind hE
  refine cr_sRq (n := 3) (As := [.int x1, .int 20, .int 24]) (rest := []) C hP hS (m_X6_isWithin L D ct x1 20 24 q1 hq1) (va_cwS 3 hts gX6_count_X6_isWithin rfl rfl rfl (by decide +kernel) ⟨Nat.le_of_ble_eq_true rfl, Nat.le_of_ble_eq_true rfl⟩) rfl hl.1 rfl (Nat.le_of_ble_eq_true rfl) dX6_count_5 ⟨Nat.zero_le _, Nat.zero_le _⟩ (fun H locs hP hS => ?_)
  refine lv_if_eq (tgt := 24) hx hb dX6_count_8 (by decide) (fun c2 => ?_) (fun c2 => ?_)
  · rw [if_pos c2] at hE
    refine lv_iload_n hx hb dX6_count_24 rfl (lv_at hl 1 rfl) ?_
    by_cases c3 : x1 = 10
    · rw [if_pos c3] at hE
      refine lv_lookup (tgt := 52) (off := 27) hx hb dX6_count_25 (by decide) (by rw [c3]; rfl) (by decide) ?_
      refine lv_aload_n hx hb dX6_count_52 rfl (lv_at hl 0 rfl) ?_
      refine cr_get C hP 0 rfl rfl 2 (by decide) hinX6 k0 (v := .ref ((a 7) 0)) rfl dX6_count_53 ?_
      refine cr_get C hP 23 rfl rfl 1 (by decide) hinX2 k1 (v := .int (vs 1 0)) rfl dX6_count_56 ?_
      exact cr_retR C hS (Option.some.inj hE) dX6_count_59
    · rw [if_neg c3] at hE
      by_cases c4 : x1 = 11
      · rw [if_pos c4] at hE
        refine lv_lookup (tgt := 60) (off := 35) hx hb dX6_count_25 (by decide) (by rw [c4]; rfl) (by decide) ?_
        refine lv_aload_n hx hb dX6_count_60 rfl (lv_at hl 0 rfl) ?_
        refine cr_get C hP 0 rfl rfl 4 (by decide) hinX6 k2 (v := .ref ((a 9) 0)) rfl dX6_count_61 ?_
        refine cr_get C hP 76 rfl rfl 1 (by decide) hinX5 k3 (v := .int (vo 1 0)) rfl dX6_count_64 ?_
        exact cr_retR C hS (Option.some.inj hE) dX6_count_67
      · rw [if_neg c4] at hE
        refine lv_lookup (tgt := 68) (off := 43) hx hb dX6_count_25 (by decide) (by have e0 := cr_ne (n := 10) (by decide) c3; have e1 := cr_ne (n := 11) (by decide) c4; simp [Op.lookupswitch.offset, Ne.symm, *]) (by decide) ?_
        refine lv_aload_n hx hb dX6_count_68 rfl (lv_at hl 0 rfl) ?_
        refine cr_get C hP 0 rfl rfl 0 (by decide) hinX6 k4 (v := .ref ((a 1) 0)) rfl dX6_count_69 ?_
        refine lv_iload_n hx hb dX6_count_72 rfl (lv_at hl 1 rfl) ?_
        obtain ⟨q5, hq5, hE⟩ := cr_bind hE
        refine cr_vRq (n := 1) (As := [.int x1]) (rest := []) C hP hS (m_X3_tellCount L D ct (a 1) (a 2) (a 3) vh vl vk x1 q5 hq5) (cwV 1 hts gX6_count_X3_tellCount rfl rfl rfl (by decide +kernel) ⟨Nat.le_of_ble_eq_true rfl, Nat.le_of_ble_eq_true rfl⟩) [1, 2, 3, 4, 5, 6, 7, 8, 9, 10, 11] rfl 1 rfl rfl rfl hl.1 rfl (Nat.le_of_ble_eq_true rfl) dX6_count_73 ⟨Nat.zero_le _, Nat.zero_le _⟩ (fun H locs hP hS => ?_)
        exact cr_retR C hS (Option.some.inj hE) dX6_count_76
  · rw [if_neg c2] at hE
    refine lv_aload_n hx hb dX6_count_11 rfl (lv_at hl 0 rfl) ?_
    refine cr_get C hP 0 rfl rfl 0 (by decide) hinX6 k4 (v := .ref ((a 1) 0)) rfl dX6_count_12 ?_
    refine cr_get C hP 1 rfl rfl 3 (by decide) hinX3 k5 (v := .ref ((a 1) 4)) rfl dX6_count_15 ?_
    refine lv_iload_n hx hb dX6_count_18 rfl (lv_at hl 1 rfl) ?_
    refine lv_bipush (v := 20) hx hb dX6_count_19 (by decide) ?_
    refine lv_isub hx hb dX6_count_21 ?_
    obtain ⟨i6, hE⟩ := cr_ifn hE
    refine cr_ald C hP 3 (f := vh 3) (k := cr_x (x1 - 20)) rfl i6 (cr_xe _) dX6_count_22 ?_
    exact cr_retR C hS (Option.some.inj hE) dX6_count_23
