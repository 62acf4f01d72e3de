set_option maxHeartbeats 4000000 in
set_option maxRecDepth 100000 in
theorem m_X6_accept (L : Launch) (D : va_G) (ct : Nat → ClassId) (a : Nat → Nat → Nat) (r : Nat → Nat → Nat → Nat) (vh : cr_V) (vl : cr_V) (vk : cr_V) (vt : cr_V) (vtl : cr_V) (vtk : cr_V) (vs : cr_V) (vx : Nat → Nat → cr_V) (vd : cr_V) (vo : cr_V) (x1 : Int32) (sz : Nat) (out : Int32 × cr_V × cr_V × cr_V × cr_V × (Nat → Nat → cr_V)) (hE : f_X6_accept vh vl vk vt vtl vtk vs vx vd vo x1 = some out) : Met L yX6_accept wsX6_accept ({ frames := 3, cells := 0, slots := 0, locals := 65 } : Room) (cr_pW D ct (cr_wX ct a r vh vl vk vt vtl vtk vs vx vd vo) sz [.ref (a 0 0), .int x1]) (cr_QW D (cr_wX ct a r vh vl vk vt vtl vtk vs vx vd vo) sz (fun r (u : (Nat → Nat → Nat → Nat) × cr_V × cr_V × cr_V × cr_V × (Nat → Nat → cr_V)) => (r, u.2) = out) (fun u : (Nat → Nat → Nat → Nat) × cr_V × cr_V × cr_V × cr_V × (Nat → Nat → cr_V) => cr_wX ct a u.1 u.2.1 u.2.2.1 u.2.2.2.1 vt vtl vtk u.2.2.2.2.1 u.2.2.2.2.2 vd vo)) 0 0 (va_A (cr_wX ct a r vh vl vk vt vtl vtk vs vx vd vo) sz) := by
  have k0 : (Cond.fieldLink RX6 22 "CupReceipts" "history" "LCupReceipts$History;") ∈ wsX6_accept := List.mem_of_getElem? (i := 1) rfl
  have k1 : (Cond.fieldLink RX6 10 "CupReceipts" "house" "LCupReceipts$House;") ∈ wsX6_accept := List.mem_of_getElem? (i := 2) rfl
  have k2 : (Cond.fieldLink RX6 16 "CupReceipts" "trial" "LCupReceipts$House;") ∈ wsX6_accept := List.mem_of_getElem? (i := 3) rfl
  have hinX6 : ∀ w ∈ wsX60, w ∈ wsX6_accept := fun w h => List.mem_cons_of_mem _ (List.mem_append_left _ (List.mem_append_left _ (List.mem_append_left _ (List.mem_append_left _ (List.mem_append_right _ h)))))
  refine cr_metW (Qc := fun A => va_Qi (fun r (u : (Nat → Nat → Nat → Nat) × cr_V × cr_V × cr_V × cr_V × (Nat → Nat → cr_V)) => (r, u.2) = out) (fun u t => cr_at D A ((fun u : (Nat → Nat → Nat → Nat) × cr_V × cr_V × cr_V × cr_V × (Nat → Nat → cr_V) => cr_wX ct a u.1 u.2.1 u.2.2.1 u.2.2.2.1 vt vtl vtk u.2.2.2.2.1 u.2.2.2.2.2 vd vo) u) t) A) (by decide) rfl rfl (Nat.le_of_ble_eq_true rfl) ?_
  intro p e s m args below meth c ls A C hW hl
  obtain ⟨hx, hb, hml, hown, hts, hr, hlocks, hK, hN⟩ := id C
  have hl : lv_has ls 2 [(0, .ref (a 0 0)), (1, .int x1)] := hl
  replace hE : ((f_X6_isError x1).bind fun q1 => if q1 = 0 then ((f_X2_record vs vx vh vl vk).bind fun q3 => (f_X3_copyFrom vh vl vk vt vtl vtk).bind fun q4 => some (x1, q4.1, q4.2.1, q4.2.2, q3.1, q3.2)) else (some (x1, vh, vl, vk, vs, vx))) = some out := hE
  refine lv_iload_n hx hb dX6_accept_0 rfl (lv_at hl 1 rfl) ?_
  obtain ⟨q1, hq1, hE⟩ := cr_bind hE
  refine cr_sRwq (n := 1) (As := [.int x1]) (rest := []) C hW (m_X6_isError L D ct x1 q1 hq1) (va_cwS 1 hts gX6_accept_X6_isError rfl rfl rfl (by decide +kernel) ⟨Nat.le_of_ble_eq_true rfl, Nat.le_of_ble_eq_true rfl⟩) rfl hl.1 rfl (Nat.le_of_ble_eq_true rfl) dX6_accept_1 ⟨Nat.zero_le _, Nat.zero_le _⟩ (fun H locs hW => ?_)
  refine lv_if_ne (tgt := 29) hx hb dX6_accept_4 (by decide) (fun c2 => ?_) (fun c2 => ?_)
  · rw [if_neg c2] at hE
    refine lv_iload_n hx hb dX6_accept_29 rfl (lv_at hl 1 rfl) ?_
    exact cr_retW C (w := (fun u : (Nat → Nat → Nat → Nat) × cr_V × cr_V × cr_V × cr_V × (Nat → Nat → cr_V) => cr_wX ct a u.1 u.2.1 u.2.2.1 u.2.2.2.1 vt vtl vtk u.2.2.2.2.1 u.2.2.2.2.2 vd vo)) (r, vh, vl, vk, vs, vx) hW (Option.some.inj hE) dX6_accept_30
  · rw [if_pos c2] at hE
    refine lv_aload_n hx hb dX6_accept_7 rfl (lv_at hl 0 rfl) ?_
    refine cr_get C hW.1 0 rfl rfl 2 (by decide) hinX6 k0 (v := .ref ((a 7) 0)) rfl dX6_accept_8 ?_
    refine lv_aload_n hx hb dX6_accept_11 rfl (lv_at hl 0 rfl) ?_
    refine cr_get C hW.1 0 rfl rfl 0 (by decide) hinX6 k1 (v := .ref ((a 1) 0)) rfl dX6_accept_12 ?_
    obtain ⟨q3, hq3, hE⟩ := cr_bind hE
    refine cr_vVBr (nb := 6) (n := 1) (As := [.ref ((a 1) 0)]) (rest := []) C hW (m_X2_record L D ct (a 7) (a 1) (a 2) (a 3) r vs vx vh vl vk _ q3 hq3) (cwV 1 hts gX6_accept_X2_record rfl rfl rfl (by decide +kernel) ⟨Nat.le_of_ble_eq_true rfl, Nat.le_of_ble_eq_true rfl⟩) [3, 1] [0, 2, 4, 5] [cr_wX0 ct a, cr_wH ct (a 1) (a 2) (a 3) vh vl vk, cr_wH ct (a 4) (a 5) (a 6) vt vtl vtk, cr_wR ct (a 7) vs r vx, cr_wD ct (a 8) vd, cr_wO ct (a 9) vo] (fun r => cr_wX ct a r vh vl vk vt vtl vtk q3.1 q3.2 vd vo) (fun r => [cr_wX0 ct a, cr_wH ct (a 1) (a 2) (a 3) vh vl vk, cr_wH ct (a 4) (a 5) (a 6) vt vtl vtk, cr_wR ct (a 7) q3.1 r q3.2, cr_wD ct (a 8) vd, cr_wO ct (a 9) vo]) ⟨rfl, rfl⟩ (fun _ => ⟨rfl, rfl⟩) rfl (fun _ => rfl) (fun _ => rfl) (by decide) 23 rfl rfl rfl hl.1 rfl (Nat.le_of_ble_eq_true rfl) dX6_accept_15 ⟨Nat.zero_le _, Nat.zero_le _⟩ (fun r H locs hW => ?_)
    refine lv_aload_n hx hb dX6_accept_18 rfl (lv_at hl 0 rfl) ?_
    refine cr_get C hW.1 0 rfl rfl 0 (by decide) hinX6 k1 (v := .ref ((a 1) 0)) rfl dX6_accept_19 ?_
    refine lv_aload_n hx hb dX6_accept_22 rfl (lv_at hl 0 rfl) ?_
    refine cr_get C hW.1 0 rfl rfl 1 (by decide) hinX6 k2 (v := .ref ((a 4) 0)) rfl dX6_accept_23 ?_
    obtain ⟨q4, hq4, hE⟩ := cr_bind hE
    refine cr_vVB (nb := 6) (n := 1) (As := [.ref ((a 4) 0)]) (rest := []) C hW (m_X3_copyFrom L D ct (a 1) (a 2) (a 3) (a 4) (a 5) (a 6) vh vl vk vt vtl vtk _ q4 hq4) (cwV 1 hts gX6_accept_X3_copyFrom rfl rfl rfl (by decide +kernel) ⟨Nat.le_of_ble_eq_true rfl, Nat.le_of_ble_eq_true rfl⟩) [1, 2] [0, 3, 4, 5] [cr_wX0 ct a, cr_wH ct (a 1) (a 2) (a 3) vh vl vk, cr_wH ct (a 4) (a 5) (a 6) vt vtl vtk, cr_wR ct (a 7) q3.1 r q3.2, cr_wD ct (a 8) vd, cr_wO ct (a 9) vo] (cr_wX ct a r q4.1 q4.2.1 q4.2.2 vt vtl vtk q3.1 q3.2 vd vo) [cr_wX0 ct a, cr_wH ct (a 1) (a 2) (a 3) q4.1 q4.2.1 q4.2.2, cr_wH ct (a 4) (a 5) (a 6) vt vtl vtk, cr_wR ct (a 7) q3.1 r q3.2, cr_wD ct (a 8) vd, cr_wO ct (a 9) vo] ⟨rfl, rfl⟩ ⟨rfl, rfl⟩ rfl rfl rfl (by decide) 1 rfl rfl rfl hl.1 rfl (Nat.le_of_ble_eq_true rfl) dX6_accept_26 ⟨Nat.zero_le _, Nat.zero_le _⟩ (fun H locs hW => ?_)
    refine lv_iload_n hx hb dX6_accept_29 rfl (lv_at hl 1 rfl) ?_
    exact cr_retW C (w := (fun u : (Nat → Nat → Nat → Nat) × cr_V × cr_V × cr_V × cr_V × (Nat → Nat → cr_V) => cr_wX ct a u.1 u.2.1 u.2.2.1 u.2.2.2.1 vt vtl vtk u.2.2.2.2.1 u.2.2.2.2.2 vd vo)) (r, q4.1, q4.2.1, q4.2.2, q3.1, q3.2) hW (Option.some.inj hE) dX6_accept_30

set_option maxHeartbeats 4000000 in
set_option maxRecDepth 100000 in
theorem m_X6_lot (L : Launch) (D : va_G) (ct : Nat → ClassId) (a : Nat → Nat → Nat) (r : Nat → Nat → Nat → Nat) (vh : cr_V) (vl : cr_V) (vk : cr_V) (vt : cr_V) (vtl : cr_V) (vtk : cr_V) (vs : cr_V) (vx : Nat → Nat → cr_V) (vd : cr_V) (vo : cr_V) (x1 : Int32) (x2 : Int32) (sz : Nat) (out : Int32 × cr_V × cr_V × cr_V × cr_V × cr_V × cr_V × cr_V × (Nat → Nat → cr_V)) (hE : f_X6_lot vh vl vk vt vtl vtk vs vx vd vo x1 x2 = some out) : Met L yX6_lot wsX6_lot ({ frames := 4, cells := 0, slots := 0, locals := 86 } : Room) (cr_pW D ct (cr_wX ct a r vh vl vk vt vtl vtk vs vx vd vo) sz [.ref (a 0 0), .int x1, .int x2]) (cr_QW D (cr_wX ct a r vh vl vk vt vtl vtk vs vx vd vo) sz (fun r (u : (Nat → Nat → Nat → Nat) × cr_V × cr_V × cr_V × cr_V × cr_V × cr_V × cr_V × (Nat → Nat → cr_V)) => (r, u.2) = out) (fun u : (Nat → Nat → Nat → Nat) × cr_V × cr_V × cr_V × cr_V × cr_V × cr_V × cr_V × (Nat → Nat → cr_V) => cr_wX ct a u.1 u.2.1 u.2.2.1 u.2.2.2.1 u.2.2.2.2.1 u.2.2.2.2.2.1 u.2.2.2.2.2.2.1 u.2.2.2.2.2.2.2.1 u.2.2.2.2.2.2.2.2 vd vo)) 0 0 (va_A (cr_wX ct a r vh vl vk vt vtl vtk vs vx vd vo) sz) := by
  have k0 : (Cond.fieldLink RX6 16 "CupReceipts" "trial" "LCupReceipts$House;") ∈ wsX6_lot := List.mem_of_getElem? (i := 1) rfl
  have k1 : (Cond.fieldLink RX6 10 "CupReceipts" "house" "LCupReceipts$House;") ∈ wsX6_lot := List.mem_of_getElem? (i := 2) rfl
  have hinX6 : ∀ w ∈ wsX60, w ∈ wsX6_lot := fun w h => List.mem_cons_of_mem _ (List.mem_append_left _ (List.mem_append_left _ (List.mem_append_left _ (List.mem_append_left _ (List.mem_append_right _ h)))))
  refine cr_metW (Qc := fun A => va_Qi (fun r (u : (Nat → Nat → Nat → Nat) × cr_V × cr_V × cr_V × cr_V × cr_V × cr_V × cr_V × (Nat → Nat → cr_V)) => (r, u.2) = out) (fun u t => cr_at D A ((fun u : (Nat → Nat → Nat → Nat) × cr_V × cr_V × cr_V × cr_V × cr_V × cr_V × cr_V × (Nat → Nat → cr_V) => cr_wX ct a u.1 u.2.1 u.2.2.1 u.2.2.2.1 u.2.2.2.2.1 u.2.2.2.2.2.1 u.2.2.2.2.2.2.1 u.2.2.2.2.2.2.2.1 u.2.2.2.2.2.2.2.2 vd vo) u) t) A) (by decide) rfl rfl (Nat.le_of_ble_eq_true rfl) ?_
  intro p e s m args below meth c ls A C hW hl
  obtain ⟨hx, hb, hml, hown, hts, hr, hlocks, hK, hN⟩ := id C
  have hl : lv_has ls 3 [(0, .ref (a 0 0)), (1, .int x1), (2, .int x2)] := hl
  replace hE : ((f_X3_copyFrom vt vtl vtk vh vl vk).bind fun q1 => (f_X3_bringLot q1.1 q1.2.1 q1.2.2 x1 x2).bind fun q2 => (f_X6_accept vh vl vk q1.1 q2.2 q1.2.2 vs vx vd vo q2.1).bind fun q3 => some (q3.1, q3.2.1, q3.2.2.1, q3.2.2.2.1, q1.1, q2.2, q1.2.2, q3.2.2.2.2.1, q3.2.2.2.2.2)) = some out := hE
  refine lv_aload_n hx hb dX6_lot_0 rfl (lv_at hl 0 rfl) ?_
  refine cr_get C hW.1 0 rfl rfl 1 (by decide) hinX6 k0 (v := .ref ((a 4) 0)) rfl dX6_lot_1 ?_
  refine lv_aload_n hx hb dX6_lot_4 rfl (lv_at hl 0 rfl) ?_
  refine cr_get C hW.1 0 rfl rfl 0 (by decide) hinX6 k1 (v := .ref ((a 1) 0)) rfl dX6_lot_5 ?_
  obtain ⟨q1, hq1, hE⟩ := cr_bind hE
  refine cr_vVB (nb := 6) (n := 1) (As := [.ref ((a 1) 0)]) (rest := []) C hW (m_X3_copyFrom L D ct (a 4) (a 5) (a 6) (a 1) (a 2) (a 3) vt vtl vtk vh vl vk _ q1 hq1) (cwV 1 hts gX6_lot_X3_copyFrom rfl rfl rfl (by decide +kernel) ⟨Nat.le_of_ble_eq_true rfl, Nat.le_of_ble_eq_true rfl⟩) [2, 1] [0, 3, 4, 5] [cr_wX0 ct a, cr_wH ct (a 1) (a 2) (a 3) vh vl vk, cr_wH ct (a 4) (a 5) (a 6) vt vtl vtk, cr_wR ct (a 7) vs r vx, cr_wD ct (a 8) vd, cr_wO ct (a 9) vo] (cr_wX ct a r vh vl vk q1.1 q1.2.1 q1.2.2 vs vx vd vo) [cr_wX0 ct a, cr_wH ct (a 1) (a 2) (a 3) vh vl vk, cr_wH ct (a 4) (a 5) (a 6) q1.1 q1.2.1 q1.2.2, cr_wR ct (a 7) vs r vx, cr_wD ct (a 8) vd, cr_wO ct (a 9) vo] ⟨rfl, rfl⟩ ⟨rfl, rfl⟩ rfl rfl rfl (by decide) 12 rfl rfl rfl hl.1 rfl (Nat.le_of_ble_eq_true rfl) dX6_lot_8 ⟨Nat.zero_le _, Nat.zero_le _⟩ (fun H locs hW => ?_)
  refine lv_aload_n hx hb dX6_lot_11 rfl (lv_at hl 0 rfl) ?_
  refine lv_aload_n hx hb dX6_lot_12 rfl (lv_at hl 0 rfl) ?_
  refine cr_get C hW.1 0 rfl rfl 1 (by decide) hinX6 k0 (v := .ref ((a 4) 0)) rfl dX6_lot_13 ?_
  refine lv_iload_n hx hb dX6_lot_16 rfl (lv_at hl 1 rfl) ?_
  refine lv_iload_n hx hb dX6_lot_17 rfl (lv_at hl 2 rfl) ?_
  obtain ⟨q2, hq2, hE⟩ := cr_bind hE
  refine cr_vWB (nb := 6) (n := 2) (As := [.int x1, .int x2]) (rest := [.ref (a 0 0)]) C hW (m_X3_bringLot L D ct (a 4) (a 5) (a 6) q1.1 q1.2.1 q1.2.2 x1 x2 _ q2 hq2) (cwV 2 hts gX6_lot_X3_bringLot rfl rfl rfl (by decide +kernel) ⟨Nat.le_of_ble_eq_true rfl, Nat.le_of_ble_eq_true rfl⟩) [2] [0, 1, 3, 4, 5] [cr_wX0 ct a, cr_wH ct (a 1) (a 2) (a 3) vh vl vk, cr_wH ct (a 4) (a 5) (a 6) q1.1 q1.2.1 q1.2.2, cr_wR ct (a 7) vs r vx, cr_wD ct (a 8) vd, cr_wO ct (a 9) vo] (cr_wX ct a r vh vl vk q1.1 q2.2 q1.2.2 vs vx vd vo) [cr_wX0 ct a, cr_wH ct (a 1) (a 2) (a 3) vh vl vk, cr_wH ct (a 4) (a 5) (a 6) q1.1 q2.2 q1.2.2, cr_wR ct (a 7) vs r vx, cr_wD ct (a 8) vd, cr_wO ct (a 9) vo] ⟨rfl, rfl⟩ ⟨rfl, rfl⟩ rfl rfl rfl (by decide) 12 rfl rfl rfl hl.1 rfl (Nat.le_of_ble_eq_true rfl) dX6_lot_18 ⟨Nat.zero_le _, Nat.zero_le _⟩ (fun H locs hW => ?_)
  obtain ⟨q3, hq3, hE⟩ := cr_bind hE
  refine cr_vWBr (nb := 6) (n := 1) (As := [.int q2.1]) (rest := []) C hW (m_X6_accept L D ct a r vh vl vk q1.1 q2.2 q1.2.2 vs vx vd vo q2.1 _ q3 hq3) (cwV 1 hts gX6_lot_X6_accept rfl rfl rfl (by decide +kernel) ⟨Nat.le_of_ble_eq_true rfl, Nat.le_of_ble_eq_true rfl⟩) [0, 1, 2, 3, 4, 5] [] [cr_wX0 ct a, cr_wH ct (a 1) (a 2) (a 3) vh vl vk, cr_wH ct (a 4) (a 5) (a 6) q1.1 q2.2 q1.2.2, cr_wR ct (a 7) vs r vx, cr_wD ct (a 8) vd, cr_wO ct (a 9) vo] (fun r => cr_wX ct a r q3.2.1 q3.2.2.1 q3.2.2.2.1 q1.1 q2.2 q1.2.2 q3.2.2.2.2.1 q3.2.2.2.2.2 vd vo) (fun r => [cr_wX0 ct a, cr_wH ct (a 1) (a 2) (a 3) q3.2.1 q3.2.2.1 q3.2.2.2.1, cr_wH ct (a 4) (a 5) (a 6) q1.1 q2.2 q1.2.2, cr_wR ct (a 7) q3.2.2.2.2.1 r q3.2.2.2.2.2, cr_wD ct (a 8) vd, cr_wO ct (a 9) vo]) ⟨rfl, rfl⟩ (fun _ => ⟨rfl, rfl⟩) rfl (fun _ => rfl) (fun _ => rfl) (by decide) 0 rfl rfl rfl hl.1 rfl (Nat.le_of_ble_eq_true rfl) dX6_lot_21 ⟨Nat.zero_le _, Nat.zero_le _⟩ (fun r H locs hW => ?_)
  exact cr_retW C (w := (fun u : (Nat → Nat → Nat → Nat) × cr_V × cr_V × cr_V × cr_V × cr_V × cr_V × cr_V × (Nat → Nat → cr_V) => cr_wX ct a u.1 u.2.1 u.2.2.1 u.2.2.2.1 u.2.2.2.2.1 u.2.2.2.2.2.1 u.2.2.2.2.2.2.1 u.2.2.2.2.2.2.2.1 u.2.2.2.2.2.2.2.2 vd vo)) (r, q3.2.1, q3.2.2.1, q3.2.2.2.1, q1.1, q2.2, q1.2.2, q3.2.2.2.2.1, q3.2.2.2.2.2) hW (Option.some.inj hE) dX6_lot_24

set_option maxHeartbeats 4000000 in
set_option maxRecDepth 100000 in
theorem m_X6_part (L : Launch) (D : va_G) (ct : Nat → ClassId) (a : Nat → Nat → Nat) (r : Nat → Nat → Nat → Nat) (vh : cr_V) (vl : cr_V) (vk : cr_V) (vt : cr_V) (vtl : cr_V) (vtk : cr_V) (vs : cr_V) (vx : Nat → Nat → cr_V) (vd : cr_V) (vo : cr_V) (x1 : Int32) (x2 : Int32) (sz : Nat) (out : Int32 × cr_V × cr_V × cr_V × cr_V × cr_V × cr_V × cr_V × (Nat → Nat → cr_V)) (hE : f_X6_part vh vl vk vt vtl vtk vs vx vd vo x1 x2 = some out) : Met L yX6_part wsX6_part ({ frames := 4, cells := 0, slots := 0, locals := 86 } : Room) (cr_pW D ct (cr_wX ct a r vh vl vk vt vtl vtk vs vx vd vo) sz [.ref (a 0 0), .int x1, .int x2]) (cr_QW D (cr_wX ct a r vh vl vk vt vtl vtk vs vx vd vo) sz (fun r (u : (Nat → Nat → Nat → Nat) × cr_V × cr_V × cr_V × cr_V × cr_V × cr_V × cr_V × (Nat → Nat → cr_V)) => (r, u.2) = out) (fun u : (Nat → Nat → Nat → Nat) × cr_V × cr_V × cr_V × cr_V × cr_V × cr_V × cr_V × (Nat → Nat → cr_V) => cr_wX ct a u.1 u.2.1 u.2.2.1 u.2.2.2.1 u.2.2.2.2.1 u.2.2.2.2.2.1 u.2.2.2.2.2.2.1 u.2.2.2.2.2.2.2.1 u.2.2.2.2.2.2.2.2 vd vo)) 0 0 (va_A (cr_wX ct a r vh vl vk vt vtl vtk vs vx vd vo) sz) := by
  have k0 : (Cond.fieldLink RX6 16 "CupReceipts" "trial" "LCupReceipts$House;") ∈ wsX6_part := List.mem_of_getElem? (i := 1) rfl
  have k1 : (Cond.fieldLink RX6 10 "CupReceipts" "house" "LCupReceipts$House;") ∈ wsX6_part := List.mem_of_getElem? (i := 2) rfl
  have hinX6 : ∀ w ∈ wsX60, w ∈ wsX6_part := fun w h => List.mem_cons_of_mem _ (List.mem_append_left _ (List.mem_append_left _ (List.mem_append_left _ (List.mem_append_left _ (List.mem_append_right _ h)))))
  refine cr_metW (Qc := fun A => va_Qi (fun r (u : (Nat → Nat → Nat → Nat) × cr_V × cr_V × cr_V × cr_V × cr_V × cr_V × cr_V × (Nat → Nat → cr_V)) => (r, u.2) = out) (fun u t => cr_at D A ((fun u : (Nat → Nat → Nat → Nat) × cr_V × cr_V × cr_V × cr_V × cr_V × cr_V × cr_V × (Nat → Nat → cr_V) => cr_wX ct a u.1 u.2.1 u.2.2.1 u.2.2.2.1 u.2.2.2.2.1 u.2.2.2.2.2.1 u.2.2.2.2.2.2.1 u.2.2.2.2.2.2.2.1 u.2.2.2.2.2.2.2.2 vd vo) u) t) A) (by decide) rfl rfl (Nat.le_of_ble_eq_true rfl) ?_
  intro p e s m args below meth c ls A C hW hl
  obtain ⟨hx, hb, hml, hown, hts, hr, hlocks, hK, hN⟩ := id C
  have hl : lv_has ls 3 [(0, .ref (a 0 0)), (1, .int x1), (2, .int x2)] := hl
  replace hE : ((f_X3_copyFrom vt vtl vtk vh vl vk).bind fun q1 => (f_X3_partLot q1.1 q1.2.1 q1.2.2 x1 x2).bind fun q2 => (f_X6_accept vh vl vk q1.1 q2.2 q1.2.2 vs vx vd vo q2.1).bind fun q3 => some (q3.1, q3.2.1, q3.2.2.1, q3.2.2.2.1, q1.1, q2.2, q1.2.2, q3.2.2.2.2.1, q3.2.2.2.2.2)) = some out := hE
  refine lv_aload_n hx hb dX6_part_0 rfl (lv_at hl 0 rfl) ?_
  refine cr_get C hW.1 0 rfl rfl 1 (by decide) hinX6 k0 (v := .ref ((a 4) 0)) rfl dX6_part_1 ?_
  refine lv_aload_n hx hb dX6_part_4 rfl (lv_at hl 0 rfl) ?_
  refine cr_get C hW.1 0 rfl rfl 0 (by decide) hinX6 k1 (v := .ref ((a 1) 0)) rfl dX6_part_5 ?_
  obtain ⟨q1, hq1, hE⟩ := cr_bind hE
  refine cr_vVB (nb := 6) (n := 1) (As := [.ref ((a 1) 0)]) (rest := []) C hW (m_X3_copyFrom L D ct (a 4) (a 5) (a 6) (a 1) (a 2) (a 3) vt vtl vtk vh vl vk _ q1 hq1) (cwV 1 hts gX6_part_X3_copyFrom rfl rfl rfl (by decide +kernel) ⟨Nat.le_of_ble_eq_true rfl, Nat.le_of_ble_eq_true rfl⟩) [2, 1] [0, 3, 4, 5] [cr_wX0 ct a, cr_wH ct (a 1) (a 2) (a 3) vh vl vk, cr_wH ct (a 4) (a 5) (a 6) vt vtl vtk, cr_wR ct (a 7) vs r vx, cr_wD ct (a 8) vd, cr_wO ct (a 9) vo] (cr_wX ct a r vh vl vk q1.1 q1.2.1 q1.2.2 vs vx vd vo) [cr_wX0 ct a, cr_wH ct (a 1) (a 2) (a 3) vh vl vk, cr_wH ct (a 4) (a 5) (a 6) q1.1 q1.2.1 q1.2.2, cr_wR ct (a 7) vs r vx, cr_wD ct (a 8) vd, cr_wO ct (a 9) vo] ⟨rfl, rfl⟩ ⟨rfl, rfl⟩ rfl rfl rfl (by decide) 12 rfl rfl rfl hl.1 rfl (Nat.le_of_ble_eq_true rfl) dX6_part_8 ⟨Nat.zero_le _, Nat.zero_le _⟩ (fun H locs hW => ?_)
  refine lv_aload_n hx hb dX6_part_11 rfl (lv_at hl 0 rfl) ?_
  refine lv_aload_n hx hb dX6_part_12 rfl (lv_at hl 0 rfl) ?_
  refine cr_get C hW.1 0 rfl rfl 1 (by decide) hinX6 k0 (v := .ref ((a 4) 0)) rfl dX6_part_13 ?_
  refine lv_iload_n hx hb dX6_part_16 rfl (lv_at hl 1 rfl) ?_
  refine lv_iload_n hx hb dX6_part_17 rfl (lv_at hl 2 rfl) ?_
  obtain ⟨q2, hq2, hE⟩ := cr_bind hE
  refine cr_vWB (nb := 6) (n := 2) (As := [.int x1, .int x2]) (rest := [.ref (a 0 0)]) C hW (m_X3_partLot L D ct (a 4) (a 5) (a 6) q1.1 q1.2.1 q1.2.2 x1 x2 _ q2 hq2) (cwV 2 hts gX6_part_X3_partLot rfl rfl rfl (by decide +kernel) ⟨Nat.le_of_ble_eq_true rfl, Nat.le_of_ble_eq_true rfl⟩) [2] [0, 1, 3, 4, 5] [cr_wX0 ct a, cr_wH ct (a 1) (a 2) (a 3) vh vl vk, cr_wH ct (a 4) (a 5) (a 6) q1.1 q1.2.1 q1.2.2, cr_wR ct (a 7) vs r vx, cr_wD ct (a 8) vd, cr_wO ct (a 9) vo] (cr_wX ct a r vh vl vk q1.1 q2.2 q1.2.2 vs vx vd vo) [cr_wX0 ct a, cr_wH ct (a 1) (a 2) (a 3) vh vl vk, cr_wH ct (a 4) (a 5) (a 6) q1.1 q2.2 q1.2.2, cr_wR ct (a 7) vs r vx, cr_wD ct (a 8) vd, cr_wO ct (a 9) vo] ⟨rfl, rfl⟩ ⟨rfl, rfl⟩ rfl rfl rfl (by decide) 12 rfl rfl rfl hl.1 rfl (Nat.le_of_ble_eq_true rfl) dX6_part_18 ⟨Nat.zero_le _, Nat.zero_le _⟩ (fun H locs hW => ?_)
  obtain ⟨q3, hq3, hE⟩ := cr_bind hE
  refine cr_vWBr (nb := 6) (n := 1) (As := [.int q2.1]) (rest := []) C hW (m_X6_accept L D ct a r vh vl vk q1.1 q2.2 q1.2.2 vs vx vd vo q2.1 _ q3 hq3) (cwV 1 hts gX6_part_X6_accept rfl rfl rfl (by decide +kernel) ⟨Nat.le_of_ble_eq_true rfl, Nat.le_of_ble_eq_true rfl⟩) [0, 1, 2, 3, 4, 5] [] [cr_wX0 ct a, cr_wH ct (a 1) (a 2) (a 3) vh vl vk, cr_wH ct (a 4) (a 5) (a 6) q1.1 q2.2 q1.2.2, cr_wR ct (a 7) vs r vx, cr_wD ct (a 8) vd, cr_wO ct (a 9) vo] (fun r => cr_wX ct a r q3.2.1 q3.2.2.1 q3.2.2.2.1 q1.1 q2.2 q1.2.2 q3.2.2.2.2.1 q3.2.2.2.2.2 vd vo) (fun r => [cr_wX0 ct a, cr_wH ct (a 1) (a 2) (a 3) q3.2.1 q3.2.2.1 q3.2.2.2.1, cr_wH ct (a 4) (a 5) (a 6) q1.1 q2.2 q1.2.2, cr_wR ct (a 7) q3.2.2.2.2.1 r q3.2.2.2.2.2, cr_wD ct (a 8) vd, cr_wO ct (a 9) vo]) ⟨rfl, rfl⟩ (fun _ => ⟨rfl, rfl⟩) rfl (fun _ => rfl) (fun _ => rfl) (by decide) 0 rfl rfl rfl hl.1 rfl (Nat.le_of_ble_eq_true rfl) dX6_part_21 ⟨Nat.zero_le _, Nat.zero_le _⟩ (fun r H locs hW => ?_)
  exact cr_retW C (w := (fun u : (Nat → Nat → Nat → Nat) × cr_V × cr_V × cr_V × cr_V × cr_V × cr_V × cr_V × (Nat → Nat → cr_V) => cr_wX ct a u.1 u.2.1 u.2.2.1 u.2.2.2.1 u.2.2.2.2.1 u.2.2.2.2.2.1 u.2.2.2.2.2.2.1 u.2.2.2.2.2.2.2.1 u.2.2.2.2.2.2.2.2 vd vo)) (r, q3.2.1, q3.2.2.1, q3.2.2.2.1, q1.1, q2.2, q1.2.2, q3.2.2.2.2.1, q3.2.2.2.2.2) hW (Option.some.inj hE) dX6_part_24

set_option maxHeartbeats 4000000 in
set_option maxRecDepth 100000 in
theorem m_X6_blend (L : Launch) (D : va_G) (ct : Nat → ClassId) (a : Nat → Nat → Nat) (r : Nat → Nat → Nat → Nat) (vh : cr_V) (vl : cr_V) (vk : cr_V) (vt : cr_V) (vtl : cr_V) (vtk : cr_V) (vs : cr_V) (vx : Nat → Nat → cr_V) (vd : cr_V) (vo : cr_V) (x1 : Int32) (x2 : Int32) (x3 : Int32) (x4 : Int32) (sz : Nat) (out : Int32 × cr_V × cr_V × cr_V × cr_V × cr_V × cr_V × cr_V × (Nat → Nat → cr_V)) (hE : f_X6_blend vh vl vk vt vtl vtk vs vx vd vo x1 x2 x3 x4 = some out) : Met L yX6_blend wsX6_blend ({ frames := 4, cells := 0, slots := 0, locals := 86 } : Room) (cr_pW D ct (cr_wX ct a r vh vl vk vt vtl vtk vs vx vd vo) sz [.ref (a 0 0), .int x1, .int x2, .int x3, .int x4]) (cr_QW D (cr_wX ct a r vh vl vk vt vtl vtk vs vx vd vo) sz (fun r (u : (Nat → Nat → Nat → Nat) × cr_V × cr_V × cr_V × cr_V × cr_V × cr_V × cr_V × (Nat → Nat → cr_V)) => (r, u.2) = out) (fun u : (Nat → Nat → Nat → Nat) × cr_V × cr_V × cr_V × cr_V × cr_V × cr_V × cr_V × (Nat → Nat → cr_V) => cr_wX ct a u.1 u.2.1 u.2.2.1 u.2.2.2.1 u.2.2.2.2.1 u.2.2.2.2.2.1 u.2.2.2.2.2.2.1 u.2.2.2.2.2.2.2.1 u.2.2.2.2.2.2.2.2 vd vo)) 0 0 (va_A (cr_wX ct a r vh vl vk vt vtl vtk vs vx vd vo) sz) := by
  have k0 : (Cond.fieldLink RX6 16 "CupReceipts" "trial" "LCupReceipts$House;") ∈ wsX6_blend := List.mem_of_getElem? (i := 1) rfl
  have k1 : (Cond.fieldLink RX6 10 "CupReceipts" "house" "LCupReceipts$House;") ∈ wsX6_blend := List.mem_of_getElem? (i := 2) rfl
  have hinX6 : ∀ w ∈ wsX60, w ∈ wsX6_blend := fun w h => List.mem_cons_of_mem _ (List.mem_append_left _ (List.mem_append_left _ (List.mem_append_left _ (List.mem_append_left _ (List.mem_append_right _ h)))))
  refine cr_metW (Qc := fun A => va_Qi (fun r (u : (Nat → Nat → Nat → Nat) × cr_V × cr_V × cr_V × cr_V × cr_V × cr_V × cr_V × (Nat → Nat → cr_V)) => (r, u.2) = out) (fun u t => cr_at D A ((fun u : (Nat → Nat → Nat → Nat) × cr_V × cr_V × cr_V × cr_V × cr_V × cr_V × cr_V × (Nat → Nat → cr_V) => cr_wX ct a u.1 u.2.1 u.2.2.1 u.2.2.2.1 u.2.2.2.2.1 u.2.2.2.2.2.1 u.2.2.2.2.2.2.1 u.2.2.2.2.2.2.2.1 u.2.2.2.2.2.2.2.2 vd vo) u) t) A) (by decide) rfl rfl (Nat.le_of_ble_eq_true rfl) ?_
  intro p e s m args below meth c ls A C hW hl
  obtain ⟨hx, hb, hml, hown, hts, hr, hlocks, hK, hN⟩ := id C
  have hl : lv_has ls 5 [(0, .ref (a 0 0)), (1, .int x1), (2, .int x2), (3, .int x3), (4, .int x4)] := hl
  replace hE : ((f_X3_copyFrom vt vtl vtk vh vl vk).bind fun q1 => (f_X3_blendLots q1.1 q1.2.1 q1.2.2 x1 x2 x3 x4).bind fun q2 => (f_X6_accept vh vl vk q1.1 q2.2 q1.2.2 vs vx vd vo q2.1).bind fun q3 => some (q3.1, q3.2.1, q3.2.2.1, q3.2.2.2.1, q1.1, q2.2, q1.2.2, q3.2.2.2.2.1, q3.2.2.2.2.2)) = some out := hE
  refine lv_aload_n hx hb dX6_blend_0 rfl (lv_at hl 0 rfl) ?_
  refine cr_get C hW.1 0 rfl rfl 1 (by decide) hinX6 k0 (v := .ref ((a 4) 0)) rfl dX6_blend_1 ?_
  refine lv_aload_n hx hb dX6_blend_4 rfl (lv_at hl 0 rfl) ?_
  refine cr_get C hW.1 0 rfl rfl 0 (by decide) hinX6 k1 (v := .ref ((a 1) 0)) rfl dX6_blend_5 ?_
  obtain ⟨q1, hq1, hE⟩ := cr_bind hE
  refine cr_vVB (nb := 6) (n := 1) (As := [.ref ((a 1) 0)]) (rest := []) C hW (m_X3_copyFrom L D ct (a 4) (a 5) (a 6) (a 1) (a 2) (a 3) vt vtl vtk vh vl vk _ q1 hq1) (cwV 1 hts gX6_blend_X3_copyFrom rfl rfl rfl (by decide +kernel) ⟨Nat.le_of_ble_eq_true rfl, Nat.le_of_ble_eq_true rfl⟩) [2, 1] [0, 3, 4, 5] [cr_wX0 ct a, cr_wH ct (a 1) (a 2) (a 3) vh vl vk, cr_wH ct (a 4) (a 5) (a 6) vt vtl vtk, cr_wR ct (a 7) vs r vx, cr_wD ct (a 8) vd, cr_wO ct (a 9) vo] (cr_wX ct a r vh vl vk q1.1 q1.2.1 q1.2.2 vs vx vd vo) [cr_wX0 ct a, cr_wH ct (a 1) (a 2) (a 3) vh vl vk, cr_wH ct (a 4) (a 5) (a 6) q1.1 q1.2.1 q1.2.2, cr_wR ct (a 7) vs r vx, cr_wD ct (a 8) vd, cr_wO ct (a 9) vo] ⟨rfl, rfl⟩ ⟨rfl, rfl⟩ rfl rfl rfl (by decide) 12 rfl rfl rfl hl.1 rfl (Nat.le_of_ble_eq_true rfl) dX6_blend_8 ⟨Nat.zero_le _, Nat.zero_le _⟩ (fun H locs hW => ?_)
  refine lv_aload_n hx hb dX6_blend_11 rfl (lv_at hl 0 rfl) ?_
  refine lv_aload_n hx hb dX6_blend_12 rfl (lv_at hl 0 rfl) ?_
  refine cr_get C hW.1 0 rfl rfl 1 (by decide) hinX6 k0 (v := .ref ((a 4) 0)) rfl dX6_blend_13 ?_
  refine lv_iload_n hx hb dX6_blend_16 rfl (lv_at hl 1 rfl) ?_
  refine lv_iload_n hx hb dX6_blend_17 rfl (lv_at hl 2 rfl) ?_
  refine lv_iload_n hx hb dX6_blend_18 rfl (lv_at hl 3 rfl) ?_
  refine lv_iload hx hb dX6_blend_19 (lv_at hl 4 rfl) ?_
  obtain ⟨q2, hq2, hE⟩ := cr_bind hE
  refine cr_vWB (nb := 6) (n := 4) (As := [.int x1, .int x2, .int x3, .int x4]) (rest := [.ref (a 0 0)]) C hW (m_X3_blendLots L D ct (a 4) (a 5) (a 6) q1.1 q1.2.1 q1.2.2 x1 x2 x3 x4 _ q2 hq2) (cwV 4 hts gX6_blend_X3_blendLots rfl rfl rfl (by decide +kernel) ⟨Nat.le_of_ble_eq_true rfl, Nat.le_of_ble_eq_true rfl⟩) [2] [0, 1, 3, 4, 5] [cr_wX0 ct a, cr_wH ct (a 1) (a 2) (a 3) vh vl vk, cr_wH ct (a 4) (a 5) (a 6) q1.1 q1.2.1 q1.2.2, cr_wR ct (a 7) vs r vx, cr_wD ct (a 8) vd, cr_wO ct (a 9) vo] (cr_wX ct a r vh vl vk q1.1 q2.2 q1.2.2 vs vx vd vo) [cr_wX0 ct a, cr_wH ct (a 1) (a 2) (a 3) vh vl vk, cr_wH ct (a 4) (a 5) (a 6) q1.1 q2.2 q1.2.2, cr_wR ct (a 7) vs r vx, cr_wD ct (a 8) vd, cr_wO ct (a 9) vo] ⟨rfl, rfl⟩ ⟨rfl, rfl⟩ rfl rfl rfl (by decide) 12 rfl rfl rfl hl.1 rfl (Nat.le_of_ble_eq_true rfl) dX6_blend_21 ⟨Nat.zero_le _, Nat.zero_le _⟩ (fun H locs hW => ?_)
  obtain ⟨q3, hq3, hE⟩ := cr_bind hE
  refine cr_vWBr (nb := 6) (n := 1) (As := [.int q2.1]) (rest := []) C hW (m_X6_accept L D ct a r vh vl vk q1.1 q2.2 q1.2.2 vs vx vd vo q2.1 _ q3 hq3) (cwV 1 hts gX6_blend_X6_accept rfl rfl rfl (by decide +kernel) ⟨Nat.le_of_ble_eq_true rfl, Nat.le_of_ble_eq_true rfl⟩) [0, 1, 2, 3, 4, 5] [] [cr_wX0 ct a, cr_wH ct (a 1) (a 2) (a 3) vh vl vk, cr_wH ct (a 4) (a 5) (a 6) q1.1 q2.2 q1.2.2, cr_wR ct (a 7) vs r vx, cr_wD ct (a 8) vd, cr_wO ct (a 9) vo] (fun r => cr_wX ct a r q3.2.1 q3.2.2.1 q3.2.2.2.1 q1.1 q2.2 q1.2.2 q3.2.2.2.2.1 q3.2.2.2.2.2 vd vo) (fun r => [cr_wX0 ct a, cr_wH ct (a 1) (a 2) (a 3) q3.2.1 q3.2.2.1 q3.2.2.2.1, cr_wH ct (a 4) (a 5) (a 6) q1.1 q2.2 q1.2.2, cr_wR ct (a 7) q3.2.2.2.2.1 r q3.2.2.2.2.2, cr_wD ct (a 8) vd, cr_wO ct (a 9) vo]) ⟨rfl, rfl⟩ (fun _ => ⟨rfl, rfl⟩) rfl (fun _ => rfl) (fun _ => rfl) (by decide) 0 rfl rfl rfl hl.1 rfl (Nat.le_of_ble_eq_true rfl) dX6_blend_24 ⟨Nat.zero_le _, Nat.zero_le _⟩ (fun r H locs hW => ?_)
  exact cr_retW C (w := (fun u : (Nat → Nat → Nat → Nat) × cr_V × cr_V × cr_V × cr_V × cr_V × cr_V × cr_V × (Nat → Nat → cr_V) => cr_wX ct a u.1 u.2.1 u.2.2.1 u.2.2.2.1 u.2.2.2.2.1 u.2.2.2.2.2.1 u.2.2.2.2.2.2.1 u.2.2.2.2.2.2.2.1 u.2.2.2.2.2.2.2.2 vd vo)) (r, q3.2.1, q3.2.2.1, q3.2.2.2.1, q1.1, q2.2, q1.2.2, q3.2.2.2.2.1, q3.2.2.2.2.2) hW (Option.some.inj hE) dX6_blend_27

set_option maxHeartbeats 4000000 in
set_option maxRecDepth 100000 in
theorem m_X6_cup (L : Launch) (D : va_G) (ct : Nat → ClassId) (a : Nat → Nat → Nat) (r : Nat → Nat → Nat → Nat) (vh : cr_V) (vl : cr_V) (vk : cr_V) (vt : cr_V) (vtl : cr_V) (vtk : cr_V) (vs : cr_V) (vx : Nat → Nat → cr_V) (vd : cr_V) (vo : cr_V) (x1 : Int32) (sz : Nat) (out : Int32 × cr_V × cr_V × cr_V × cr_V × cr_V × cr_V × cr_V × (Nat → Nat → cr_V)) (hE : f_X6_cup vh vl vk vt vtl vtk vs vx vd vo x1 = some out) : Met L yX6_cup wsX6_cup ({ frames := 4, cells := 0, slots := 0, locals := 86 } : Room) (cr_pW D ct (cr_wX ct a r vh vl vk vt vtl vtk vs vx vd vo) sz [.ref (a 0 0), .int x1]) (cr_QW D (cr_wX ct a r vh vl vk vt vtl vtk vs vx vd vo) sz (fun r (u : (Nat → Nat → Nat → Nat) × cr_V × cr_V × cr_V × cr_V × cr_V × cr_V × cr_V × (Nat → Nat → cr_V)) => (r, u.2) = out) (fun u : (Nat → Nat → Nat → Nat) × cr_V × cr_V × cr_V × cr_V × cr_V × cr_V × cr_V × (Nat → Nat → cr_V) => cr_wX ct a u.1 u.2.1 u.2.2.1 u.2.2.2.1 u.2.2.2.2.1 u.2.2.2.2.2.1 u.2.2.2.2.2.2.1 u.2.2.2.2.2.2.2.1 u.2.2.2.2.2.2.2.2 vd vo)) 0 0 (va_A (cr_wX ct a r vh vl vk vt vtl vtk vs vx vd vo) sz) := by
  have k0 : (Cond.fieldLink RX6 16 "CupReceipts" "trial" "LCupReceipts$House;") ∈ wsX6_cup := List.mem_of_getElem? (i := 1) rfl
  have k1 : (Cond.fieldLink RX6 10 "CupReceipts" "house" "LCupReceipts$House;") ∈ wsX6_cup := List.mem_of_getElem? (i := 2) rfl
  have hinX6 : ∀ w ∈ wsX60, w ∈ wsX6_cup := fun w h => List.mem_cons_of_mem _ (List.mem_append_left _ (List.mem_append_left _ (List.mem_append_left _ (List.mem_append_left _ (List.mem_append_right _ h)))))
  refine cr_metW (Qc := fun A => va_Qi (fun r (u : (Nat → Nat → Nat → Nat) × cr_V × cr_V × cr_V × cr_V × cr_V × cr_V × cr_V × (Nat → Nat → cr_V)) => (r, u.2) = out) (fun u t => cr_at D A ((fun u : (Nat → Nat → Nat → Nat) × cr_V × cr_V × cr_V × cr_V × cr_V × cr_V × cr_V × (Nat → Nat → cr_V) => cr_wX ct a u.1 u.2.1 u.2.2.1 u.2.2.2.1 u.2.2.2.2.1 u.2.2.2.2.2.1 u.2.2.2.2.2.2.1 u.2.2.2.2.2.2.2.1 u.2.2.2.2.2.2.2.2 vd vo) u) t) A) (by decide) rfl rfl (Nat.le_of_ble_eq_true rfl) ?_
  intro p e s m args below meth c ls A C hW hl
  obtain ⟨hx, hb, hml, hown, hts, hr, hlocks, hK, hN⟩ := id C
  have hl : lv_has ls 2 [(0, .ref (a 0 0)), (1, .int x1)] := hl
  replace hE : ((f_X3_copyFrom vt vtl vtk vh vl vk).bind fun q1 => (f_X3_cupAnew q1.1 q1.2.1 q1.2.2 x1).bind fun q2 => (f_X6_accept vh vl vk q1.1 q2.2 q1.2.2 vs vx vd vo q2.1).bind fun q3 => some (q3.1, q3.2.1, q3.2.2.1, q3.2.2.2.1, q1.1, q2.2, q1.2.2, q3.2.2.2.2.1, q3.2.2.2.2.2)) = some out := hE
  refine lv_aload_n hx hb dX6_cup_0 rfl (lv_at hl 0 rfl) ?_
  refine cr_get C hW.1 0 rfl rfl 1 (by decide) hinX6 k0 (v := .ref ((a 4) 0)) rfl dX6_cup_1 ?_
  refine lv_aload_n hx hb dX6_cup_4 rfl (lv_at hl 0 rfl) ?_
  refine cr_get C hW.1 0 rfl rfl 0 (by decide) hinX6 k1 (v := .ref ((a 1) 0)) rfl dX6_cup_5 ?_
  obtain ⟨q1, hq1, hE⟩ := cr_bind hE
  refine cr_vVB (nb := 6) (n := 1) (As := [.ref ((a 1) 0)]) (rest := []) C hW (m_X3_copyFrom L D ct (a 4) (a 5) (a 6) (a 1) (a 2) (a 3) vt vtl vtk vh vl vk _ q1 hq1) (cwV 1 hts gX6_cup_X3_copyFrom rfl rfl rfl (by decide +kernel) ⟨Nat.le_of_ble_eq_true rfl, Nat.le_of_ble_eq_true rfl⟩) [2, 1] [0, 3, 4, 5] [cr_wX0 ct a, cr_wH ct (a 1) (a 2) (a 3) vh vl vk, cr_wH ct (a 4) (a 5) (a 6) vt vtl vtk, cr_wR ct (a 7) vs r vx, cr_wD ct (a 8) vd, cr_wO ct (a 9) vo] (cr_wX ct a r vh vl vk q1.1 q1.2.1 q1.2.2 vs vx vd vo) [cr_wX0 ct a, cr_wH ct (a 1) (a 2) (a 3) vh vl vk, cr_wH ct (a 4) (a 5) (a 6) q1.1 q1.2.1 q1.2.2, cr_wR ct (a 7) vs r vx, cr_wD ct (a 8) vd, cr_wO ct (a 9) vo] ⟨rfl, rfl⟩ ⟨rfl, rfl⟩ rfl rfl rfl (by decide) 12 rfl rfl rfl hl.1 rfl (Nat.le_of_ble_eq_true rfl) dX6_cup_8 ⟨Nat.zero_le _, Nat.zero_le _⟩ (fun H locs hW => ?_)
  refine lv_aload_n hx hb dX6_cup_11 rfl (lv_at hl 0 rfl) ?_
  refine lv_aload_n hx hb dX6_cup_12 rfl (lv_at hl 0 rfl) ?_
  refine cr_get C hW.1 0 rfl rfl 1 (by decide) hinX6 k0 (v := .ref ((a 4) 0)) rfl dX6_cup_13 ?_
  refine lv_iload_n hx hb dX6_cup_16 rfl (lv_at hl 1 rfl) ?_
  obtain ⟨q2, hq2, hE⟩ := cr_bind hE
  refine cr_vWB (nb := 6) (n := 1) (As := [.int x1]) (rest := [.ref (a 0 0)]) C hW (m_X3_cupAnew L D ct (a 4) (a 5) (a 6) q1.1 q1.2.1 q1.2.2 x1 _ q2 hq2) (cwV 1 hts gX6_cup_X3_cupAnew rfl rfl rfl (by decide +kernel) ⟨Nat.le_of_ble_eq_true rfl, Nat.le_of_ble_eq_true rfl⟩) [2] [0, 1, 3, 4, 5] [cr_wX0 ct a, cr_wH ct (a 1) (a 2) (a 3) vh vl vk, cr_wH ct (a 4) (a 5) (a 6) q1.1 q1.2.1 q1.2.2, cr_wR ct (a 7) vs r vx, cr_wD ct (a 8) vd, cr_wO ct (a 9) vo] (cr_wX ct a r vh vl vk q1.1 q2.2 q1.2.2 vs vx vd vo) [cr_wX0 ct a, cr_wH ct (a 1) (a 2) (a 3) vh vl vk, cr_wH ct (a 4) (a 5) (a 6) q1.1 q2.2 q1.2.2, cr_wR ct (a 7) vs r vx, cr_wD ct (a 8) vd, cr_wO ct (a 9) vo] ⟨rfl, rfl⟩ ⟨rfl, rfl⟩ rfl rfl rfl (by decide) 12 rfl rfl rfl hl.1 rfl (Nat.le_of_ble_eq_true rfl) dX6_cup_17 ⟨Nat.zero_le _, Nat.zero_le _⟩ (fun H locs hW => ?_)
  obtain ⟨q3, hq3, hE⟩ := cr_bind hE
  refine cr_vWBr (nb := 6) (n := 1) (As := [.int q2.1]) (rest := []) C hW (m_X6_accept L D ct a r vh vl vk q1.1 q2.2 q1.2.2 vs vx vd vo q2.1 _ q3 hq3) (cwV 1 hts gX6_cup_X6_accept rfl rfl rfl (by decide +kernel) ⟨Nat.le_of_ble_eq_true rfl, Nat.le_of_ble_eq_true rfl⟩) [0, 1, 2, 3, 4, 5] [] [cr_wX0 ct a, cr_wH ct (a 1) (a 2) (a 3) vh vl vk, cr_wH ct (a 4) (a 5) (a 6) q1.1 q2.2 q1.2.2, cr_wR ct (a 7) vs r vx, cr_wD ct (a 8) vd, cr_wO ct (a 9) vo] (fun r => cr_wX ct a r q3.2.1 q3.2.2.1 q3.2.2.2.1 q1.1 q2.2 q1.2.2 q3.2.2.2.2.1 q3.2.2.2.2.2 vd vo) (fun r => [cr_wX0 ct a, cr_wH ct (a 1) (a 2) (a 3) q3.2.1 q3.2.2.1 q3.2.2.2.1, cr_wH ct (a 4) (a 5) (a 6) q1.1 q2.2 q1.2.2, cr_wR ct (a 7) q3.2.2.2.2.1 r q3.2.2.2.2.2, cr_wD ct (a 8) vd, cr_wO ct (a 9) vo]) ⟨rfl, rfl⟩ (fun _ => ⟨rfl, rfl⟩) rfl (fun _ => rfl) (fun _ => rfl) (by decide) 0 rfl rfl rfl hl.1 rfl (Nat.le_of_ble_eq_true rfl) dX6_cup_20 ⟨Nat.zero_le _, Nat.zero_le _⟩ (fun r H locs hW => ?_)
  exact cr_retW C (w := (fun u : (Nat → Nat → Nat → Nat) × cr_V × cr_V × cr_V × cr_V × cr_V × cr_V × cr_V × (Nat → Nat → cr_V) => cr_wX ct a u.1 u.2.1 u.2.2.1 u.2.2.2.1 u.2.2.2.2.1 u.2.2.2.2.2.1 u.2.2.2.2.2.2.1 u.2.2.2.2.2.2.2.1 u.2.2.2.2.2.2.2.2 vd vo)) (r, q3.2.1, q3.2.2.1, q3.2.2.2.1, q1.1, q2.2, q1.2.2, q3.2.2.2.2.1, q3.2.2.2.2.2) hW (Option.some.inj hE) dX6_cup_23

set_option maxHeartbeats 4000000 in
set_option maxRecDepth 100000 in
theorem m_X6_worth (L : Launch) (D : va_G) (ct : Nat → ClassId) (a : Nat → Nat → Nat) (r : Nat → Nat → Nat → Nat) (vh : cr_V) (vl : cr_V) (vk : cr_V) (vt : cr_V) (vtl : cr_V) (vtk : cr_V) (vs : cr_V) (vx : Nat → Nat → cr_V) (vd : cr_V) (vo : cr_V) (x1 : Int32) (x2 : Int32) (sz : Nat) (out : Int32 × cr_V × cr_V × cr_V × cr_V × cr_V × cr_V × cr_V × (Nat → Nat → cr_V)) (hE : f_X6_worth vh vl vk vt vtl vtk vs vx vd vo x1 x2 = some out) : Met L yX6_worth wsX6_worth ({ frames := 4, cells := 0, slots := 0, locals := 86 } : Room) (cr_pW D ct (cr_wX ct a r vh vl vk vt vtl vtk vs vx vd vo) sz [.ref (a 0 0), .int x1, .int x2]) (cr_QW D (cr_wX ct a r vh vl vk vt vtl vtk vs vx vd vo) sz (fun r (u : (Nat → Nat → Nat → Nat) × cr_V × cr_V × cr_V × cr_V × cr_V × cr_V × cr_V × (Nat → Nat → cr_V)) => (r, u.2) = out) (fun u : (Nat → Nat → Nat → Nat) × cr_V × cr_V × cr_V × cr_V × cr_V × cr_V × cr_V × (Nat → Nat → cr_V) => cr_wX ct a u.1 u.2.1 u.2.2.1 u.2.2.2.1 u.2.2.2.2.1 u.2.2.2.2.2.1 u.2.2.2.2.2.2.1 u.2.2.2.2.2.2.2.1 u.2.2.2.2.2.2.2.2 vd vo)) 0 0 (va_A (cr_wX ct a r vh vl vk vt vtl vtk vs vx vd vo) sz) := by
  have k0 : (Cond.fieldLink RX6 16 "CupReceipts" "trial" "LCupReceipts$House;") ∈ wsX6_worth := List.mem_of_getElem? (i := 1) rfl
  have k1 : (Cond.fieldLink RX6 10 "CupReceipts" "house" "LCupReceipts$House;") ∈ wsX6_worth := List.mem_of_getElem? (i := 2) rfl
  have hinX6 : ∀ w ∈ wsX60, w ∈ wsX6_worth := fun w h => List.mem_cons_of_mem _ (List.mem_append_left _ (List.mem_append_left _ (List.mem_append_left _ (List.mem_append_left _ (List.mem_append_right _ h)))))
  refine cr_metW (Qc := fun A => va_Qi (fun r (u : (Nat → Nat → Nat → Nat) × cr_V × cr_V × cr_V × cr_V × cr_V × cr_V × cr_V × (Nat → Nat → cr_V)) => (r, u.2) = out) (fun u t => cr_at D A ((fun u : (Nat → Nat → Nat → Nat) × cr_V × cr_V × cr_V × cr_V × cr_V × cr_V × cr_V × (Nat → Nat → cr_V) => cr_wX ct a u.1 u.2.1 u.2.2.1 u.2.2.2.1 u.2.2.2.2.1 u.2.2.2.2.2.1 u.2.2.2.2.2.2.1 u.2.2.2.2.2.2.2.1 u.2.2.2.2.2.2.2.2 vd vo) u) t) A) (by decide) rfl rfl (Nat.le_of_ble_eq_true rfl) ?_
  intro p e s m args below meth c ls A C hW hl
  obtain ⟨hx, hb, hml, hown, hts, hr, hlocks, hK, hN⟩ := id C
  have hl : lv_has ls 3 [(0, .ref (a 0 0)), (1, .int x1), (2, .int x2)] := hl
  replace hE : ((f_X3_copyFrom vt vtl vtk vh vl vk).bind fun q1 => (f_X3_changeWorth q1.1 q1.2.1 q1.2.2 x1 x2).bind fun q2 => (f_X6_accept vh vl vk q2.2 q1.2.1 q1.2.2 vs vx vd vo q2.1).bind fun q3 => some (q3.1, q3.2.1, q3.2.2.1, q3.2.2.2.1, q2.2, q1.2.1, q1.2.2, q3.2.2.2.2.1, q3.2.2.2.2.2)) = some out := hE
  refine lv_aload_n hx hb dX6_worth_0 rfl (lv_at hl 0 rfl) ?_
  refine cr_get C hW.1 0 rfl rfl 1 (by decide) hinX6 k0 (v := .ref ((a 4) 0)) rfl dX6_worth_1 ?_
  refine lv_aload_n hx hb dX6_worth_4 rfl (lv_at hl 0 rfl) ?_
  refine cr_get C hW.1 0 rfl rfl 0 (by decide) hinX6 k1 (v := .ref ((a 1) 0)) rfl dX6_worth_5 ?_
  obtain ⟨q1, hq1, hE⟩ := cr_bind hE
  refine cr_vVB (nb := 6) (n := 1) (As := [.ref ((a 1) 0)]) (rest := []) C hW (m_X3_copyFrom L D ct (a 4) (a 5) (a 6) (a 1) (a 2) (a 3) vt vtl vtk vh vl vk _ q1 hq1) (cwV 1 hts gX6_worth_X3_copyFrom rfl rfl rfl (by decide +kernel) ⟨Nat.le_of_ble_eq_true rfl, Nat.le_of_ble_eq_true rfl⟩) [2, 1] [0, 3, 4, 5] [cr_wX0 ct a, cr_wH ct (a 1) (a 2) (a 3) vh vl vk, cr_wH ct (a 4) (a 5) (a 6) vt vtl vtk, cr_wR ct (a 7) vs r vx, cr_wD ct (a 8) vd, cr_wO ct (a 9) vo] (cr_wX ct a r vh vl vk q1.1 q1.2.1 q1.2.2 vs vx vd vo) [cr_wX0 ct a, cr_wH ct (a 1) (a 2) (a 3) vh vl vk, cr_wH ct (a 4) (a 5) (a 6) q1.1 q1.2.1 q1.2.2, cr_wR ct (a 7) vs r vx, cr_wD ct (a 8) vd, cr_wO ct (a 9) vo] ⟨rfl, rfl⟩ ⟨rfl, rfl⟩ rfl rfl rfl (by decide) 12 rfl rfl rfl hl.1 rfl (Nat.le_of_ble_eq_true rfl) dX6_worth_8 ⟨Nat.zero_le _, Nat.zero_le _⟩ (fun H locs hW => ?_)
  refine lv_aload_n hx hb dX6_worth_11 rfl (lv_at hl 0 rfl) ?_
  refine lv_aload_n hx hb dX6_worth_12 rfl (lv_at hl 0 rfl) ?_
  refine cr_get C hW.1 0 rfl rfl 1 (by decide) hinX6 k0 (v := .ref ((a 4) 0)) rfl dX6_worth_13 ?_
  refine lv_iload_n hx hb dX6_worth_16 rfl (lv_at hl 1 rfl) ?_
  refine lv_iload_n hx hb dX6_worth_17 rfl (lv_at hl 2 rfl) ?_
  obtain ⟨q2, hq2, hE⟩ := cr_bind hE
  refine cr_vWB (nb := 6) (n := 2) (As := [.int x1, .int x2]) (rest := [.ref (a 0 0)]) C hW (m_X3_changeWorth L D ct (a 4) (a 5) (a 6) q1.1 q1.2.1 q1.2.2 x1 x2 _ q2 hq2) (cwV 2 hts gX6_worth_X3_changeWorth rfl rfl rfl (by decide +kernel) ⟨Nat.le_of_ble_eq_true rfl, Nat.le_of_ble_eq_true rfl⟩) [2] [0, 1, 3, 4, 5] [cr_wX0 ct a, cr_wH ct (a 1) (a 2) (a 3) vh vl vk, cr_wH ct (a 4) (a 5) (a 6) q1.1 q1.2.1 q1.2.2, cr_wR ct (a 7) vs r vx, cr_wD ct (a 8) vd, cr_wO ct (a 9) vo] (cr_wX ct a r vh vl vk q2.2 q1.2.1 q1.2.2 vs vx vd vo) [cr_wX0 ct a, cr_wH ct (a 1) (a 2) (a 3) vh vl vk, cr_wH ct (a 4) (a 5) (a 6) q2.2 q1.2.1 q1.2.2, cr_wR ct (a 7) vs r vx, cr_wD ct (a 8) vd, cr_wO ct (a 9) vo] ⟨rfl, rfl⟩ ⟨rfl, rfl⟩ rfl rfl rfl (by decide) 12 rfl rfl rfl hl.1 rfl (Nat.le_of_ble_eq_true rfl) dX6_worth_18 ⟨Nat.zero_le _, Nat.zero_le _⟩ (fun H locs hW => ?_)
  obtain ⟨q3, hq3, hE⟩ := cr_bind hE
  refine cr_vWBr (nb := 6) (n := 1) (As := [.int q2.1]) (rest := []) C hW (m_X6_accept L D ct a r vh vl vk q2.2 q1.2.1 q1.2.2 vs vx vd vo q2.1 _ q3 hq3) (cwV 1 hts gX6_worth_X6_accept rfl rfl rfl (by decide +kernel) ⟨Nat.le_of_ble_eq_true rfl, Nat.le_of_ble_eq_true rfl⟩) [0, 1, 2, 3, 4, 5] [] [cr_wX0 ct a, cr_wH ct (a 1) (a 2) (a 3) vh vl vk, cr_wH ct (a 4) (a 5) (a 6) q2.2 q1.2.1 q1.2.2, cr_wR ct (a 7) vs r vx, cr_wD ct (a 8) vd, cr_wO ct (a 9) vo] (fun r => cr_wX ct a r q3.2.1 q3.2.2.1 q3.2.2.2.1 q2.2 q1.2.1 q1.2.2 q3.2.2.2.2.1 q3.2.2.2.2.2 vd vo) (fun r => [cr_wX0 ct a, cr_wH ct (a 1) (a 2) (a 3) q3.2.1 q3.2.2.1 q3.2.2.2.1, cr_wH ct (a 4) (a 5) (a 6) q2.2 q1.2.1 q1.2.2, cr_wR ct (a 7) q3.2.2.2.2.1 r q3.2.2.2.2.2, cr_wD ct (a 8) vd, cr_wO ct (a 9) vo]) ⟨rfl, rfl⟩ (fun _ => ⟨rfl, rfl⟩) rfl (fun _ => rfl) (fun _ => rfl) (by decide) 0 rfl rfl rfl hl.1 rfl (Nat.le_of_ble_eq_true rfl) dX6_worth_21 ⟨Nat.zero_le _, Nat.zero_le _⟩ (fun r H locs hW => ?_)
  exact cr_retW C (w := (fun u : (Nat → Nat → Nat → Nat) × cr_V × cr_V × cr_V × cr_V × cr_V × cr_V × cr_V × (Nat → Nat → cr_V) => cr_wX ct a u.1 u.2.1 u.2.2.1 u.2.2.2.1 u.2.2.2.2.1 u.2.2.2.2.2.1 u.2.2.2.2.2.2.1 u.2.2.2.2.2.2.2.1 u.2.2.2.2.2.2.2.2 vd vo)) (r, q3.2.1, q3.2.2.1, q3.2.2.2.1, q2.2, q1.2.1, q1.2.2, q3.2.2.2.2.1, q3.2.2.2.2.2) hW (Option.some.inj hE) dX6_worth_24

set_option maxHeartbeats 4000000 in
set_option maxRecDepth 100000 in
theorem m_X6_sell (L : Launch) (D : va_G) (ct : Nat → ClassId) (a : Nat → Nat → Nat) (r : Nat → Nat → Nat → Nat) (vh : cr_V) (vl : cr_V) (vk : cr_V) (vt : cr_V) (vtl : cr_V) (vtk : cr_V) (vs : cr_V) (vx : Nat → Nat → cr_V) (vd : cr_V) (vo : cr_V) (x1 : Int32) (x2 : Int32) (sz : Nat) (out : Int32 × cr_V × cr_V × cr_V × cr_V × cr_V × cr_V × cr_V × (Nat → Nat → cr_V)) (hE : f_X6_sell vh vl vk vt vtl vtk vs vx vd vo x1 x2 = some out) : Met L yX6_sell wsX6_sell ({ frames := 4, cells := 0, slots := 0, locals := 86 } : Room) (cr_pW D ct (cr_wX ct a r vh vl vk vt vtl vtk vs vx vd vo) sz [.ref (a 0 0), .int x1, .int x2]) (cr_QW D (cr_wX ct a r vh vl vk vt vtl vtk vs vx vd vo) sz (fun r (u : (Nat → Nat → Nat → Nat) × cr_V × cr_V × cr_V × cr_V × cr_V × cr_V × cr_V × (Nat → Nat → cr_V)) => (r, u.2) = out) (fun u : (Nat → Nat → Nat → Nat) × cr_V × cr_V × cr_V × cr_V × cr_V × cr_V × cr_V × (Nat → Nat → cr_V) => cr_wX ct a u.1 u.2.1 u.2.2.1 u.2.2.2.1 u.2.2.2.2.1 u.2.2.2.2.2.1 u.2.2.2.2.2.2.1 u.2.2.2.2.2.2.2.1 u.2.2.2.2.2.2.2.2 vd vo)) 0 0 (va_A (cr_wX ct a r vh vl vk vt vtl vtk vs vx vd vo) sz) := by
  have k0 : (Cond.fieldLink RX6 16 "CupReceipts" "trial" "LCupReceipts$House;") ∈ wsX6_sell := List.mem_of_getElem? (i := 1) rfl
  have k1 : (Cond.fieldLink RX6 10 "CupReceipts" "house" "LCupReceipts$House;") ∈ wsX6_sell := List.mem_of_getElem? (i := 2) rfl
  have hinX6 : ∀ w ∈ wsX60, w ∈ wsX6_sell := fun w h => List.mem_cons_of_mem _ (List.mem_append_left _ (List.mem_append_left _ (List.mem_append_left _ (List.mem_append_left _ (List.mem_append_right _ h)))))
  refine cr_metW (Qc := fun A => va_Qi (fun r (u : (Nat → Nat → Nat → Nat) × cr_V × cr_V × cr_V × cr_V × cr_V × cr_V × cr_V × (Nat → Nat → cr_V)) => (r, u.2) = out) (fun u t => cr_at D A ((fun u : (Nat → Nat → Nat → Nat) × cr_V × cr_V × cr_V × cr_V × cr_V × cr_V × cr_V × (Nat → Nat → cr_V) => cr_wX ct a u.1 u.2.1 u.2.2.1 u.2.2.2.1 u.2.2.2.2.1 u.2.2.2.2.2.1 u.2.2.2.2.2.2.1 u.2.2.2.2.2.2.2.1 u.2.2.2.2.2.2.2.2 vd vo) u) t) A) (by decide) rfl rfl (Nat.le_of_ble_eq_true rfl) ?_
  intro p e s m args below meth c ls A C hW hl
  obtain ⟨hx, hb, hml, hown, hts, hr, hlocks, hK, hN⟩ := id C
  have hl : lv_has ls 3 [(0, .ref (a 0 0)), (1, .int x1), (2, .int x2)] := hl
  replace hE : ((f_X3_copyFrom vt vtl vtk vh vl vk).bind fun q1 => (f_X3_sellContract q1.1 q1.2.1 q1.2.2 x1 x2).bind fun q2 => (f_X6_accept vh vl vk q1.1 q1.2.1 q2.2 vs vx vd vo q2.1).bind fun q3 => some (q3.1, q3.2.1, q3.2.2.1, q3.2.2.2.1, q1.1, q1.2.1, q2.2, q3.2.2.2.2.1, q3.2.2.2.2.2)) = some out := hE
  refine lv_aload_n hx hb dX6_sell_0 rfl (lv_at hl 0 rfl) ?_
  refine cr_get C hW.1 0 rfl rfl 1 (by decide) hinX6 k0 (v := .ref ((a 4) 0)) rfl dX6_sell_1 ?_
  refine lv_aload_n hx hb dX6_sell_4 rfl (lv_at hl 0 rfl) ?_
  refine cr_get C hW.1 0 rfl rfl 0 (by decide) hinX6 k1 (v := .ref ((a 1) 0)) rfl dX6_sell_5 ?_
  obtain ⟨q1, hq1, hE⟩ := cr_bind hE
  refine cr_vVB (nb := 6) (n := 1) (As := [.ref ((a 1) 0)]) (rest := []) C hW (m_X3_copyFrom L D ct (a 4) (a 5) (a 6) (a 1) (a 2) (a 3) vt vtl vtk vh vl vk _ q1 hq1) (cwV 1 hts gX6_sell_X3_copyFrom rfl rfl rfl (by decide +kernel) ⟨Nat.le_of_ble_eq_true rfl, Nat.le_of_ble_eq_true rfl⟩) [2, 1] [0, 3, 4, 5] [cr_wX0 ct a, cr_wH ct (a 1) (a 2) (a 3) vh vl vk, cr_wH ct (a 4) (a 5) (a 6) vt vtl vtk, cr_wR ct (a 7) vs r vx, cr_wD ct (a 8) vd, cr_wO ct (a 9) vo] (cr_wX ct a r vh vl vk q1.1 q1.2.1 q1.2.2 vs vx vd vo) [cr_wX0 ct a, cr_wH ct (a 1) (a 2) (a 3) vh vl vk, cr_wH ct (a 4) (a 5) (a 6) q1.1 q1.2.1 q1.2.2, cr_wR ct (a 7) vs r vx, cr_wD ct (a 8) vd, cr_wO ct (a 9) vo] ⟨rfl, rfl⟩ ⟨rfl, rfl⟩ rfl rfl rfl (by decide) 12 rfl rfl rfl hl.1 rfl (Nat.le_of_ble_eq_true rfl) dX6_sell_8 ⟨Nat.zero_le _, Nat.zero_le _⟩ (fun H locs hW => ?_)
  refine lv_aload_n hx hb dX6_sell_11 rfl (lv_at hl 0 rfl) ?_
  refine lv_aload_n hx hb dX6_sell_12 rfl (lv_at hl 0 rfl) ?_
  refine cr_get C hW.1 0 rfl rfl 1 (by decide) hinX6 k0 (v := .ref ((a 4) 0)) rfl dX6_sell_13 ?_
  refine lv_iload_n hx hb dX6_sell_16 rfl (lv_at hl 1 rfl) ?_
  refine lv_iload_n hx hb dX6_sell_17 rfl (lv_at hl 2 rfl) ?_
  obtain ⟨q2, hq2, hE⟩ := cr_bind hE
  refine cr_vWB (nb := 6) (n := 2) (As := [.int x1, .int x2]) (rest := [.ref (a 0 0)]) C hW (m_X3_sellContract L D ct (a 4) (a 5) (a 6) q1.1 q1.2.1 q1.2.2 x1 x2 _ q2 hq2) (cwV 2 hts gX6_sell_X3_sellContract rfl rfl rfl (by decide +kernel) ⟨Nat.le_of_ble_eq_true rfl, Nat.le_of_ble_eq_true rfl⟩) [2] [0, 1, 3, 4, 5] [cr_wX0 ct a, cr_wH ct (a 1) (a 2) (a 3) vh vl vk, cr_wH ct (a 4) (a 5) (a 6) q1.1 q1.2.1 q1.2.2, cr_wR ct (a 7) vs r vx, cr_wD ct (a 8) vd, cr_wO ct (a 9) vo] (cr_wX ct a r vh vl vk q1.1 q1.2.1 q2.2 vs vx vd vo) [cr_wX0 ct a, cr_wH ct (a 1) (a 2) (a 3) vh vl vk, cr_wH ct (a 4) (a 5) (a 6) q1.1 q1.2.1 q2.2, cr_wR ct (a 7) vs r vx, cr_wD ct (a 8) vd, cr_wO ct (a 9) vo] ⟨rfl, rfl⟩ ⟨rfl, rfl⟩ rfl rfl rfl (by decide) 12 rfl rfl rfl hl.1 rfl (Nat.le_of_ble_eq_true rfl) dX6_sell_18 ⟨Nat.zero_le _, Nat.zero_le _⟩ (fun H locs hW => ?_)
  obtain ⟨q3, hq3, hE⟩ := cr_bind hE
  refine cr_vWBr (nb := 6) (n := 1) (As := [.int q2.1]) (rest := []) C hW (m_X6_accept L D ct a r vh vl vk q1.1 q1.2.1 q2.2 vs vx vd vo q2.1 _ q3 hq3) (cwV 1 hts gX6_sell_X6_accept rfl rfl rfl (by decide +kernel) ⟨Nat.le_of_ble_eq_true rfl, Nat.le_of_ble_eq_true rfl⟩) [0, 1, 2, 3, 4, 5] [] [cr_wX0 ct a, cr_wH ct (a 1) (a 2) (a 3) vh vl vk, cr_wH ct (a 4) (a 5) (a 6) q1.1 q1.2.1 q2.2, cr_wR ct (a 7) vs r vx, cr_wD ct (a 8) vd, cr_wO ct (a 9) vo] (fun r => cr_wX ct a r q3.2.1 q3.2.2.1 q3.2.2.2.1 q1.1 q1.2.1 q2.2 q3.2.2.2.2.1 q3.2.2.2.2.2 vd vo) (fun r => [cr_wX0 ct a, cr_wH ct (a 1) (a 2) (a 3) q3.2.1 q3.2.2.1 q3.2.2.2.1, cr_wH ct (a 4) (a 5) (a 6) q1.1 q1.2.1 q2.2, cr_wR ct (a 7) q3.2.2.2.2.1 r q3.2.2.2.2.2, cr_wD ct (a 8) vd, cr_wO ct (a 9) vo]) ⟨rfl, rfl⟩ (fun _ => ⟨rfl, rfl⟩) rfl (fun _ => rfl) (fun _ => rfl) (by decide) 0 rfl rfl rfl hl.1 rfl (Nat.le_of_ble_eq_true rfl) dX6_sell_21 ⟨Nat.zero_le _, Nat.zero_le _⟩ (fun r H locs hW => ?_)
  exact cr_retW C (w := (fun u : (Nat → Nat → Nat → Nat) × cr_V × cr_V × cr_V × cr_V × cr_V × cr_V × cr_V × (Nat → Nat → cr_V) => cr_wX ct a u.1 u.2.1 u.2.2.1 u.2.2.2.1 u.2.2.2.2.1 u.2.2.2.2.2.1 u.2.2.2.2.2.2.1 u.2.2.2.2.2.2.2.1 u.2.2.2.2.2.2.2.2 vd vo)) (r, q3.2.1, q3.2.2.1, q3.2.2.2.1, q1.1, q1.2.1, q2.2, q3.2.2.2.2.1, q3.2.2.2.2.2) hW (Option.some.inj hE) dX6_sell_24

set_option maxHeartbeats 4000000 in
set_option maxRecDepth 100000 in
theorem m_X6_buyBack (L : Launch) (D : va_G) (ct : Nat → ClassId) (a : Nat → Nat → Nat) (r : Nat → Nat → Nat → Nat) (vh : cr_V) (vl : cr_V) (vk : cr_V) (vt : cr_V) (vtl : cr_V) (vtk : cr_V) (vs : cr_V) (vx : Nat → Nat → cr_V) (vd : cr_V) (vo : cr_V) (x1 : Int32) (x2 : Int32) (sz : Nat) (out : Int32 × cr_V × cr_V × cr_V × cr_V × cr_V × cr_V × cr_V × (Nat → Nat → cr_V)) (hE : f_X6_buyBack vh vl vk vt vtl vtk vs vx vd vo x1 x2 = some out) : Met L yX6_buyBack wsX6_buyBack ({ frames := 4, cells := 0, slots := 0, locals := 86 } : Room) (cr_pW D ct (cr_wX ct a r vh vl vk vt vtl vtk vs vx vd vo) sz [.ref (a 0 0), .int x1, .int x2]) (cr_QW D (cr_wX ct a r vh vl vk vt vtl vtk vs vx vd vo) sz (fun r (u : (Nat → Nat → Nat → Nat) × cr_V × cr_V × cr_V × cr_V × cr_V × cr_V × cr_V × (Nat → Nat → cr_V)) => (r, u.2) = out) (fun u : (Nat → Nat → Nat → Nat) × cr_V × cr_V × cr_V × cr_V × cr_V × cr_V × cr_V × (Nat → Nat → cr_V) => cr_wX ct a u.1 u.2.1 u.2.2.1 u.2.2.2.1 u.2.2.2.2.1 u.2.2.2.2.2.1 u.2.2.2.2.2.2.1 u.2.2.2.2.2.2.2.1 u.2.2.2.2.2.2.2.2 vd vo)) 0 0 (va_A (cr_wX ct a r vh vl vk vt vtl vtk vs vx vd vo) sz) := by
  have k0 : (Cond.fieldLink RX6 16 "CupReceipts" "trial" "LCupReceipts$House;") ∈ wsX6_buyBack := List.mem_of_getElem? (i := 1) rfl
  have k1 : (Cond.fieldLink RX6 10 "CupReceipts" "house" "LCupReceipts$House;") ∈ wsX6_buyBack := List.mem_of_getElem? (i := 2) rfl
  have hinX6 : ∀ w ∈ wsX60, w ∈ wsX6_buyBack := fun w h => List.mem_cons_of_mem _ (List.mem_append_left _ (List.mem_append_left _ (List.mem_append_left _ (List.mem_append_left _ (List.mem_append_right _ h)))))
  refine cr_metW (Qc := fun A => va_Qi (fun r (u : (Nat → Nat → Nat → Nat) × cr_V × cr_V × cr_V × cr_V × cr_V × cr_V × cr_V × (Nat → Nat → cr_V)) => (r, u.2) = out) (fun u t => cr_at D A ((fun u : (Nat → Nat → Nat → Nat) × cr_V × cr_V × cr_V × cr_V × cr_V × cr_V × cr_V × (Nat → Nat → cr_V) => cr_wX ct a u.1 u.2.1 u.2.2.1 u.2.2.2.1 u.2.2.2.2.1 u.2.2.2.2.2.1 u.2.2.2.2.2.2.1 u.2.2.2.2.2.2.2.1 u.2.2.2.2.2.2.2.2 vd vo) u) t) A) (by decide) rfl rfl (Nat.le_of_ble_eq_true rfl) ?_
  intro p e s m args below meth c ls A C hW hl
  obtain ⟨hx, hb, hml, hown, hts, hr, hlocks, hK, hN⟩ := id C
  have hl : lv_has ls 3 [(0, .ref (a 0 0)), (1, .int x1), (2, .int x2)] := hl
  replace hE : ((f_X3_copyFrom vt vtl vtk vh vl vk).bind fun q1 => (f_X3_buyContractBack q1.1 q1.2.1 q1.2.2 x1 x2).bind fun q2 => (f_X6_accept vh vl vk q2.2.1 q1.2.1 q2.2.2 vs vx vd vo q2.1).bind fun q3 => some (q3.1, q3.2.1, q3.2.2.1, q3.2.2.2.1, q2.2.1, q1.2.1, q2.2.2, q3.2.2.2.2.1, q3.2.2.2.2.2)) = some out := hE
  refine lv_aload_n hx hb dX6_buyBack_0 rfl (lv_at hl 0 rfl) ?_
  refine cr_get C hW.1 0 rfl rfl 1 (by decide) hinX6 k0 (v := .ref ((a 4) 0)) rfl dX6_buyBack_1 ?_
  refine lv_aload_n hx hb dX6_buyBack_4 rfl (lv_at hl 0 rfl) ?_
  refine cr_get C hW.1 0 rfl rfl 0 (by decide) hinX6 k1 (v := .ref ((a 1) 0)) rfl dX6_buyBack_5 ?_
  obtain ⟨q1, hq1, hE⟩ := cr_bind hE
  refine cr_vVB (nb := 6) (n := 1) (As := [.ref ((a 1) 0)]) (rest := []) C hW (m_X3_copyFrom L D ct (a 4) (a 5) (a 6) (a 1) (a 2) (a 3) vt vtl vtk vh vl vk _ q1 hq1) (cwV 1 hts gX6_buyBack_X3_copyFrom rfl rfl rfl (by decide +kernel) ⟨Nat.le_of_ble_eq_true rfl, Nat.le_of_ble_eq_true rfl⟩) [2, 1] [0, 3, 4, 5] [cr_wX0 ct a, cr_wH ct (a 1) (a 2) (a 3) vh vl vk, cr_wH ct (a 4) (a 5) (a 6) vt vtl vtk, cr_wR ct (a 7) vs r vx, cr_wD ct (a 8) vd, cr_wO ct (a 9) vo] (cr_wX ct a r vh vl vk q1.1 q1.2.1 q1.2.2 vs vx vd vo) [cr_wX0 ct a, cr_wH ct (a 1) (a 2) (a 3) vh vl vk, cr_wH ct (a 4) (a 5) (a 6) q1.1 q1.2.1 q1.2.2, cr_wR ct (a 7) vs r vx, cr_wD ct (a 8) vd, cr_wO ct (a 9) vo] ⟨rfl, rfl⟩ ⟨rfl, rfl⟩ rfl rfl rfl (by decide) 12 rfl rfl rfl hl.1 rfl (Nat.le_of_ble_eq_true rfl) dX6_buyBack_8 ⟨Nat.zero_le _, Nat.zero_le _⟩ (fun H locs hW => ?_)
  refine lv_aload_n hx hb dX6_buyBack_11 rfl (lv_at hl 0 rfl) ?_
  refine lv_aload_n hx hb dX6_buyBack_12 rfl (lv_at hl 0 rfl) ?_
  refine cr_get C hW.1 0 rfl rfl 1 (by decide) hinX6 k0 (v := .ref ((a 4) 0)) rfl dX6_buyBack_13 ?_
  refine lv_iload_n hx hb dX6_buyBack_16 rfl (lv_at hl 1 rfl) ?_
  refine lv_iload_n hx hb dX6_buyBack_17 rfl (lv_at hl 2 rfl) ?_
  obtain ⟨q2, hq2, hE⟩ := cr_bind hE
  refine cr_vWB (nb := 6) (n := 2) (As := [.int x1, .int x2]) (rest := [.ref (a 0 0)]) C hW (m_X3_buyContractBack L D ct (a 4) (a 5) (a 6) q1.1 q1.2.1 q1.2.2 x1 x2 _ q2 hq2) (cwV 2 hts gX6_buyBack_X3_buyContractBack rfl rfl rfl (by decide +kernel) ⟨Nat.le_of_ble_eq_true rfl, Nat.le_of_ble_eq_true rfl⟩) [2] [0, 1, 3, 4, 5] [cr_wX0 ct a, cr_wH ct (a 1) (a 2) (a 3) vh vl vk, cr_wH ct (a 4) (a 5) (a 6) q1.1 q1.2.1 q1.2.2, cr_wR ct (a 7) vs r vx, cr_wD ct (a 8) vd, cr_wO ct (a 9) vo] (cr_wX ct a r vh vl vk q2.2.1 q1.2.1 q2.2.2 vs vx vd vo) [cr_wX0 ct a, cr_wH ct (a 1) (a 2) (a 3) vh vl vk, cr_wH ct (a 4) (a 5) (a 6) q2.2.1 q1.2.1 q2.2.2, cr_wR ct (a 7) vs r vx, cr_wD ct (a 8) vd, cr_wO ct (a 9) vo] ⟨rfl, rfl⟩ ⟨rfl, rfl⟩ rfl rfl rfl (by decide) 12 rfl rfl rfl hl.1 rfl (Nat.le_of_ble_eq_true rfl) dX6_buyBack_18 ⟨Nat.zero_le _, Nat.zero_le _⟩ (fun H locs hW => ?_)
  obtain ⟨q3, hq3, hE⟩ := cr_bind hE
  refine cr_vWBr (nb := 6) (n := 1) (As := [.int q2.1]) (rest := []) C hW (m_X6_accept L D ct a r vh vl vk q2.2.1 q1.2.1 q2.2.2 vs vx vd vo q2.1 _ q3 hq3) (cwV 1 hts gX6_buyBack_X6_accept rfl rfl rfl (by decide +kernel) ⟨Nat.le_of_ble_eq_true rfl, Nat.le_of_ble_eq_true rfl⟩) [0, 1, 2, 3, 4, 5] [] [cr_wX0 ct a, cr_wH ct (a 1) (a 2) (a 3) vh vl vk, cr_wH ct (a 4) (a 5) (a 6) q2.2.1 q1.2.1 q2.2.2, cr_wR ct (a 7) vs r vx, cr_wD ct (a 8) vd, cr_wO ct (a 9) vo] (fun r => cr_wX ct a r q3.2.1 q3.2.2.1 q3.2.2.2.1 q2.2.1 q1.2.1 q2.2.2 q3.2.2.2.2.1 q3.2.2.2.2.2 vd vo) (fun r => [cr_wX0 ct a, cr_wH ct (a 1) (a 2) (a 3) q3.2.1 q3.2.2.1 q3.2.2.2.1, cr_wH ct (a 4) (a 5) (a 6) q2.2.1 q1.2.1 q2.2.2, cr_wR ct (a 7) q3.2.2.2.2.1 r q3.2.2.2.2.2, cr_wD ct (a 8) vd, cr_wO ct (a 9) vo]) ⟨rfl, rfl⟩ (fun _ => ⟨rfl, rfl⟩) rfl (fun _ => rfl) (fun _ => rfl) (by decide) 0 rfl rfl rfl hl.1 rfl (Nat.le_of_ble_eq_true rfl) dX6_buyBack_21 ⟨Nat.zero_le _, Nat.zero_le _⟩ (fun r H locs hW => ?_)
  exact cr_retW C (w := (fun u : (Nat → Nat → Nat → Nat) × cr_V × cr_V × cr_V × cr_V × cr_V × cr_V × cr_V × (Nat → Nat → cr_V) => cr_wX ct a u.1 u.2.1 u.2.2.1 u.2.2.2.1 u.2.2.2.2.1 u.2.2.2.2.2.1 u.2.2.2.2.2.2.1 u.2.2.2.2.2.2.2.1 u.2.2.2.2.2.2.2.2 vd vo)) (r, q3.2.1, q3.2.2.1, q3.2.2.2.1, q2.2.1, q1.2.1, q2.2.2, q3.2.2.2.2.1, q3.2.2.2.2.2) hW (Option.some.inj hE) dX6_buyBack_24

set_option maxHeartbeats 4000000 in
set_option maxRecDepth 100000 in
theorem m_X6_meet (L : Launch) (D : va_G) (ct : Nat → ClassId) (a : Nat → Nat → Nat) (r : Nat → Nat → Nat → Nat) (vh : cr_V) (vl : cr_V) (vk : cr_V) (vt : cr_V) (vtl : cr_V) (vtk : cr_V) (vs : cr_V) (vx : Nat → Nat → cr_V) (vd : cr_V) (vo : cr_V) (x1 : Int32) (sz : Nat) (out : Int32 × cr_V × cr_V × cr_V × cr_V × cr_V × cr_V × cr_V × (Nat → Nat → cr_V) × cr_V) (hE : f_X6_meet vh vl vk vt vtl vtk vs vx vd vo x1 = some out) : Met L yX6_meet wsX6_meet ({ frames := 4, cells := 0, slots := 0, locals := 97 } : Room) (cr_pW D ct (cr_wX ct a r vh vl vk vt vtl vtk vs vx vd vo) sz [.ref (a 0 0), .int x1]) (cr_QW D (cr_wX ct a r vh vl vk vt vtl vtk vs vx vd vo) sz (fun r (u : (Nat → Nat → Nat → Nat) × cr_V × cr_V × cr_V × cr_V × cr_V × cr_V × cr_V × (Nat → Nat → cr_V) × cr_V) => (r, u.2) = out) (fun u : (Nat → Nat → Nat → Nat) × cr_V × cr_V × cr_V × cr_V × cr_V × cr_V × cr_V × (Nat → Nat → cr_V) × cr_V => cr_wX ct a u.1 u.2.1 u.2.2.1 u.2.2.2.1 u.2.2.2.2.1 u.2.2.2.2.2.1 u.2.2.2.2.2.2.1 u.2.2.2.2.2.2.2.1 u.2.2.2.2.2.2.2.2.1 u.2.2.2.2.2.2.2.2.2 vo)) 0 0 (va_A (cr_wX ct a r vh vl vk vt vtl vtk vs vx vd vo) sz) := by
  have k0 : (Cond.fieldLink RX6 16 "CupReceipts" "trial" "LCupReceipts$House;") ∈ wsX6_meet := List.mem_of_getElem? (i := 1) rfl
  have k1 : (Cond.fieldLink RX6 10 "CupReceipts" "house" "LCupReceipts$House;") ∈ wsX6_meet := List.mem_of_getElem? (i := 2) rfl
  have k2 : (Cond.fieldLink RX6 29 "CupReceipts" "delivery" "LCupReceipts$Delivery;") ∈ wsX6_meet := List.mem_of_getElem? (i := 3) rfl
  have hinX6 : ∀ w ∈ wsX60, w ∈ wsX6_meet := fun w h => List.mem_cons_of_mem _ (List.mem_append_left _ (List.mem_append_left _ (List.mem_append_left _ (List.mem_append_left _ (List.mem_append_left _ (List.mem_append_right _ h))))))
  refine cr_metW (Qc := fun A => va_Qi (fun r (u : (Nat → Nat → Nat → Nat) × cr_V × cr_V × cr_V × cr_V × cr_V × cr_V × cr_V × (Nat → Nat → cr_V) × cr_V) => (r, u.2) = out) (fun u t => cr_at D A ((fun u : (Nat → Nat → Nat → Nat) × cr_V × cr_V × cr_V × cr_V × cr_V × cr_V × cr_V × (Nat → Nat → cr_V) × cr_V => cr_wX ct a u.1 u.2.1 u.2.2.1 u.2.2.2.1 u.2.2.2.2.1 u.2.2.2.2.2.1 u.2.2.2.2.2.2.1 u.2.2.2.2.2.2.2.1 u.2.2.2.2.2.2.2.2.1 u.2.2.2.2.2.2.2.2.2 vo) u) t) A) (by decide) rfl rfl (Nat.le_of_ble_eq_true rfl) ?_
  intro p e s m args below meth c ls A C hW hl
  obtain ⟨hx, hb, hml, hown, hts, hr, hlocks, hK, hN⟩ := id C
  have hl : lv_has ls 2 [(0, .ref (a 0 0)), (1, .int x1)] := hl
  replace hE : ((f_X3_copyFrom vt vtl vtk vh vl vk).bind fun q1 => (f_X3_meetContract q1.1 q1.2.1 q1.2.2 vd x1).bind fun q2 => (f_X6_accept vh vl vk q2.2.1 q2.2.2.1 q2.2.2.2.1 vs vx q2.2.2.2.2 vo q2.1).bind fun q3 => some (q3.1, q3.2.1, q3.2.2.1, q3.2.2.2.1, q2.2.1, q2.2.2.1, q2.2.2.2.1, q3.2.2.2.2.1, q3.2.2.2.2.2, q2.2.2.2.2)) = some out := hE
  refine lv_aload_n hx hb dX6_meet_0 rfl (lv_at hl 0 rfl) ?_
  refine cr_get C hW.1 0 rfl rfl 1 (by decide) hinX6 k0 (v := .ref ((a 4) 0)) rfl dX6_meet_1 ?_
  refine lv_aload_n hx hb dX6_meet_4 rfl (lv_at hl 0 rfl) ?_
  refine cr_get C hW.1 0 rfl rfl 0 (by decide) hinX6 k1 (v := .ref ((a 1) 0)) rfl dX6_meet_5 ?_
  obtain ⟨q1, hq1, hE⟩ := cr_bind hE
  refine cr_vVB (nb := 6) (n := 1) (As := [.ref ((a 1) 0)]) (rest := []) C hW (m_X3_copyFrom L D ct (a 4) (a 5) (a 6) (a 1) (a 2) (a 3) vt vtl vtk vh vl vk _ q1 hq1) (cwV 1 hts gX6_meet_X3_copyFrom rfl rfl rfl (by decide +kernel) ⟨Nat.le_of_ble_eq_true rfl, Nat.le_of_ble_eq_true rfl⟩) [2, 1] [0, 3, 4, 5] [cr_wX0 ct a, cr_wH ct (a 1) (a 2) (a 3) vh vl vk, cr_wH ct (a 4) (a 5) (a 6) vt vtl vtk, cr_wR ct (a 7) vs r vx, cr_wD ct (a 8) vd, cr_wO ct (a 9) vo] (cr_wX ct a r vh vl vk q1.1 q1.2.1 q1.2.2 vs vx vd vo) [cr_wX0 ct a, cr_wH ct (a 1) (a 2) (a 3) vh vl vk, cr_wH ct (a 4) (a 5) (a 6) q1.1 q1.2.1 q1.2.2, cr_wR ct (a 7) vs r vx, cr_wD ct (a 8) vd, cr_wO ct (a 9) vo] ⟨rfl, rfl⟩ ⟨rfl, rfl⟩ rfl rfl rfl (by decide) 12 rfl rfl rfl hl.1 rfl (Nat.le_of_ble_eq_true rfl) dX6_meet_8 ⟨Nat.zero_le _, Nat.zero_le _⟩ (fun H locs hW => ?_)
  refine lv_aload_n hx hb dX6_meet_11 rfl (lv_at hl 0 rfl) ?_
  refine lv_aload_n hx hb dX6_meet_12 rfl (lv_at hl 0 rfl) ?_
  refine cr_get C hW.1 0 rfl rfl 1 (by decide) hinX6 k0 (v := .ref ((a 4) 0)) rfl dX6_meet_13 ?_
  refine lv_iload_n hx hb dX6_meet_16 rfl (lv_at hl 1 rfl) ?_
  refine lv_aload_n hx hb dX6_meet_17 rfl (lv_at hl 0 rfl) ?_
  refine cr_get C hW.1 0 rfl rfl 3 (by decide) hinX6 k2 (v := .ref ((a 8) 0)) rfl dX6_meet_18 ?_
  obtain ⟨q2, hq2, hE⟩ := cr_bind hE
  refine cr_vWB (nb := 6) (n := 2) (As := [.int x1, .ref ((a 8) 0)]) (rest := [.ref (a 0 0)]) C hW (m_X3_meetContract L D ct (a 4) (a 5) (a 6) (a 8) q1.1 q1.2.1 q1.2.2 vd x1 _ q2 hq2) (cwV 2 hts gX6_meet_X3_meetContract rfl rfl rfl (by decide +kernel) ⟨Nat.le_of_ble_eq_true rfl, Nat.le_of_ble_eq_true rfl⟩) [2, 4] [0, 1, 3, 5] [cr_wX0 ct a, cr_wH ct (a 1) (a 2) (a 3) vh vl vk, cr_wH ct (a 4) (a 5) (a 6) q1.1 q1.2.1 q1.2.2, cr_wR ct (a 7) vs r vx, cr_wD ct (a 8) vd, cr_wO ct (a 9) vo] (cr_wX ct a r vh vl vk q2.2.1 q2.2.2.1 q2.2.2.2.1 vs vx q2.2.2.2.2 vo) [cr_wX0 ct a, cr_wH ct (a 1) (a 2) (a 3) vh vl vk, cr_wH ct (a 4) (a 5) (a 6) q2.2.1 q2.2.2.1 q2.2.2.2.1, cr_wR ct (a 7) vs r vx, cr_wD ct (a 8) q2.2.2.2.2, cr_wO ct (a 9) vo] ⟨rfl, rfl⟩ ⟨rfl, rfl⟩ rfl rfl rfl (by decide) 12 rfl rfl rfl hl.1 rfl (Nat.le_of_ble_eq_true rfl) dX6_meet_21 ⟨Nat.zero_le _, Nat.zero_le _⟩ (fun H locs hW => ?_)
  obtain ⟨q3, hq3, hE⟩ := cr_bind hE
  refine cr_vWBr (nb := 6) (n := 1) (As := [.int q2.1]) (rest := []) C hW (m_X6_accept L D ct a r vh vl vk q2.2.1 q2.2.2.1 q2.2.2.2.1 vs vx q2.2.2.2.2 vo q2.1 _ q3 hq3) (cwV 1 hts gX6_meet_X6_accept rfl rfl rfl (by decide +kernel) ⟨Nat.le_of_ble_eq_true rfl, Nat.le_of_ble_eq_true rfl⟩) [0, 1, 2, 3, 4, 5] [] [cr_wX0 ct a, cr_wH ct (a 1) (a 2) (a 3) vh vl vk, cr_wH ct (a 4) (a 5) (a 6) q2.2.1 q2.2.2.1 q2.2.2.2.1, cr_wR ct (a 7) vs r vx, cr_wD ct (a 8) q2.2.2.2.2, cr_wO ct (a 9) vo] (fun r => cr_wX ct a r q3.2.1 q3.2.2.1 q3.2.2.2.1 q2.2.1 q2.2.2.1 q2.2.2.2.1 q3.2.2.2.2.1 q3.2.2.2.2.2 q2.2.2.2.2 vo) (fun r => [cr_wX0 ct a, cr_wH ct (a 1) (a 2) (a 3) q3.2.1 q3.2.2.1 q3.2.2.2.1, cr_wH ct (a 4) (a 5) (a 6) q2.2.1 q2.2.2.1 q2.2.2.2.1, cr_wR ct (a 7) q3.2.2.2.2.1 r q3.2.2.2.2.2, cr_wD ct (a 8) q2.2.2.2.2, cr_wO ct (a 9) vo]) ⟨rfl, rfl⟩ (fun _ => ⟨rfl, rfl⟩) rfl (fun _ => rfl) (fun _ => rfl) (by decide) 0 rfl rfl rfl hl.1 rfl (Nat.le_of_ble_eq_true rfl) dX6_meet_24 ⟨Nat.zero_le _, Nat.zero_le _⟩ (fun r H locs hW => ?_)
  exact cr_retW C (w := (fun u : (Nat → Nat → Nat → Nat) × cr_V × cr_V × cr_V × cr_V × cr_V × cr_V × cr_V × (Nat → Nat → cr_V) × cr_V => cr_wX ct a u.1 u.2.1 u.2.2.1 u.2.2.2.1 u.2.2.2.2.1 u.2.2.2.2.2.1 u.2.2.2.2.2.2.1 u.2.2.2.2.2.2.2.1 u.2.2.2.2.2.2.2.2.1 u.2.2.2.2.2.2.2.2.2 vo)) (r, q3.2.1, q3.2.2.1, q3.2.2.2.1, q2.2.1, q2.2.2.1, q2.2.2.2.1, q3.2.2.2.2.1, q3.2.2.2.2.2, q2.2.2.2.2) hW (Option.some.inj hE) dX6_meet_27

set_option maxHeartbeats 4000000 in
set_option maxRecDepth 100000 in
theorem m_X6_pass (L : Launch) (D : va_G) (ct : Nat → ClassId) (a : Nat → Nat → Nat) (r : Nat → Nat → Nat → Nat) (vh : cr_V) (vl : cr_V) (vk : cr_V) (vt : cr_V) (vtl : cr_V) (vtk : cr_V) (vs : cr_V) (vx : Nat → Nat → cr_V) (vd : cr_V) (vo : cr_V) (x1 : Int32) (sz : Nat) (out : Int32 × cr_V × cr_V × cr_V × cr_V × cr_V × cr_V × cr_V × (Nat → Nat → cr_V)) (hE : f_X6_pass vh vl vk vt vtl vtk vs vx vd vo x1 = some out) : Met L yX6_pass wsX6_pass ({ frames := 4, cells := 0, slots := 0, locals := 86 } : Room) (cr_pW D ct (cr_wX ct a r vh vl vk vt vtl vtk vs vx vd vo) sz [.ref (a 0 0), .int x1]) (cr_QW D (cr_wX ct a r vh vl vk vt vtl vtk vs vx vd vo) sz (fun r (u : (Nat → Nat → Nat → Nat) × cr_V × cr_V × cr_V × cr_V × cr_V × cr_V × cr_V × (Nat → Nat → cr_V)) => (r, u.2) = out) (fun u : (Nat → Nat → Nat → Nat) × cr_V × cr_V × cr_V × cr_V × cr_V × cr_V × cr_V × (Nat → Nat → cr_V) => cr_wX ct a u.1 u.2.1 u.2.2.1 u.2.2.2.1 u.2.2.2.2.1 u.2.2.2.2.2.1 u.2.2.2.2.2.2.1 u.2.2.2.2.2.2.2.1 u.2.2.2.2.2.2.2.2 vd vo)) 0 0 (va_A (cr_wX ct a r vh vl vk vt vtl vtk vs vx vd vo) sz) := by
  have k0 : (Cond.fieldLink RX6 16 "CupReceipts" "trial" "LCupReceipts$House;") ∈ wsX6_pass := List.mem_of_getElem? (i := 1) rfl
  have k1 : (Cond.fieldLink RX6 10 "CupReceipts" "house" "LCupReceipts$House;") ∈ wsX6_pass := List.mem_of_getElem? (i := 2) rfl
  have hinX6 : ∀ w ∈ wsX60, w ∈ wsX6_pass := fun w h => List.mem_cons_of_mem _ (List.mem_append_left _ (List.mem_append_left _ (List.mem_append_left _ (List.mem_append_left _ (List.mem_append_right _ h)))))
  refine cr_metW (Qc := fun A => va_Qi (fun r (u : (Nat → Nat → Nat → Nat) × cr_V × cr_V × cr_V × cr_V × cr_V × cr_V × cr_V × (Nat → Nat → cr_V)) => (r, u.2) = out) (fun u t => cr_at D A ((fun u : (Nat → Nat → Nat → Nat) × cr_V × cr_V × cr_V × cr_V × cr_V × cr_V × cr_V × (Nat → Nat → cr_V) => cr_wX ct a u.1 u.2.1 u.2.2.1 u.2.2.2.1 u.2.2.2.2.1 u.2.2.2.2.2.1 u.2.2.2.2.2.2.1 u.2.2.2.2.2.2.2.1 u.2.2.2.2.2.2.2.2 vd vo) u) t) A) (by decide) rfl rfl (Nat.le_of_ble_eq_true rfl) ?_
  intro p e s m args below meth c ls A C hW hl
  obtain ⟨hx, hb, hml, hown, hts, hr, hlocks, hK, hN⟩ := id C
  have hl : lv_has ls 2 [(0, .ref (a 0 0)), (1, .int x1)] := hl
  replace hE : ((f_X3_copyFrom vt vtl vtk vh vl vk).bind fun q1 => (f_X3_passMonths q1.1 q1.2.1 q1.2.2 x1).bind fun q2 => (f_X6_accept vh vl vk q2.2.1 q1.2.1 q2.2.2 vs vx vd vo q2.1).bind fun q3 => some (q3.1, q3.2.1, q3.2.2.1, q3.2.2.2.1, q2.2.1, q1.2.1, q2.2.2, q3.2.2.2.2.1, q3.2.2.2.2.2)) = some out := hE
  refine lv_aload_n hx hb dX6_pass_0 rfl (lv_at hl 0 rfl) ?_
  refine cr_get C hW.1 0 rfl rfl 1 (by decide) hinX6 k0 (v := .ref ((a 4) 0)) rfl dX6_pass_1 ?_
  refine lv_aload_n hx hb dX6_pass_4 rfl (lv_at hl 0 rfl) ?_
  refine cr_get C hW.1 0 rfl rfl 0 (by decide) hinX6 k1 (v := .ref ((a 1) 0)) rfl dX6_pass_5 ?_
  obtain ⟨q1, hq1, hE⟩ := cr_bind hE
  refine cr_vVB (nb := 6) (n := 1) (As := [.ref ((a 1) 0)]) (rest := []) C hW (m_X3_copyFrom L D ct (a 4) (a 5) (a 6) (a 1) (a 2) (a 3) vt vtl vtk vh vl vk _ q1 hq1) (cwV 1 hts gX6_pass_X3_copyFrom rfl rfl rfl (by decide +kernel) ⟨Nat.le_of_ble_eq_true rfl, Nat.le_of_ble_eq_true rfl⟩) [2, 1] [0, 3, 4, 5] [cr_wX0 ct a, cr_wH ct (a 1) (a 2) (a 3) vh vl vk, cr_wH ct (a 4) (a 5) (a 6) vt vtl vtk, cr_wR ct (a 7) vs r vx, cr_wD ct (a 8) vd, cr_wO ct (a 9) vo] (cr_wX ct a r vh vl vk q1.1 q1.2.1 q1.2.2 vs vx vd vo) [cr_wX0 ct a, cr_wH ct (a 1) (a 2) (a 3) vh vl vk, cr_wH ct (a 4) (a 5) (a 6) q1.1 q1.2.1 q1.2.2, cr_wR ct (a 7) vs r vx, cr_wD ct (a 8) vd, cr_wO ct (a 9) vo] ⟨rfl, rfl⟩ ⟨rfl, rfl⟩ rfl rfl rfl (by decide) 12 rfl rfl rfl hl.1 rfl (Nat.le_of_ble_eq_true rfl) dX6_pass_8 ⟨Nat.zero_le _, Nat.zero_le _⟩ (fun H locs hW => ?_)
  refine lv_aload_n hx hb dX6_pass_11 rfl (lv_at hl 0 rfl) ?_
  refine lv_aload_n hx hb dX6_pass_12 rfl (lv_at hl 0 rfl) ?_
  refine cr_get C hW.1 0 rfl rfl 1 (by decide) hinX6 k0 (v := .ref ((a 4) 0)) rfl dX6_pass_13 ?_
  refine lv_iload_n hx hb dX6_pass_16 rfl (lv_at hl 1 rfl) ?_
  obtain ⟨q2, hq2, hE⟩ := cr_bind hE
  refine cr_vWB (nb := 6) (n := 1) (As := [.int x1]) (rest := [.ref (a 0 0)]) C hW (m_X3_passMonths L D ct (a 4) (a 5) (a 6) q1.1 q1.2.1 q1.2.2 x1 _ q2 hq2) (cwV 1 hts gX6_pass_X3_passMonths rfl rfl rfl (by decide +kernel) ⟨Nat.le_of_ble_eq_true rfl, Nat.le_of_ble_eq_true rfl⟩) [2] [0, 1, 3, 4, 5] [cr_wX0 ct a, cr_wH ct (a 1) (a 2) (a 3) vh vl vk, cr_wH ct (a 4) (a 5) (a 6) q1.1 q1.2.1 q1.2.2, cr_wR ct (a 7) vs r vx, cr_wD ct (a 8) vd, cr_wO ct (a 9) vo] (cr_wX ct a r vh vl vk q2.2.1 q1.2.1 q2.2.2 vs vx vd vo) [cr_wX0 ct a, cr_wH ct (a 1) (a 2) (a 3) vh vl vk, cr_wH ct (a 4) (a 5) (a 6) q2.2.1 q1.2.1 q2.2.2, cr_wR ct (a 7) vs r vx, cr_wD ct (a 8) vd, cr_wO ct (a 9) vo] ⟨rfl, rfl⟩ ⟨rfl, rfl⟩ rfl rfl rfl (by decide) 12 rfl rfl rfl hl.1 rfl (Nat.le_of_ble_eq_true rfl) dX6_pass_17 ⟨Nat.zero_le _, Nat.zero_le _⟩ (fun H locs hW => ?_)
  obtain ⟨q3, hq3, hE⟩ := cr_bind hE
  refine cr_vWBr (nb := 6) (n := 1) (As := [.int q2.1]) (rest := []) C hW (m_X6_accept L D ct a r vh vl vk q2.2.1 q1.2.1 q2.2.2 vs vx vd vo q2.1 _ q3 hq3) (cwV 1 hts gX6_pass_X6_accept rfl rfl rfl (by decide +kernel) ⟨Nat.le_of_ble_eq_true rfl, Nat.le_of_ble_eq_true rfl⟩) [0, 1, 2, 3, 4, 5] [] [cr_wX0 ct a, cr_wH ct (a 1) (a 2) (a 3) vh vl vk, cr_wH ct (a 4) (a 5) (a 6) q2.2.1 q1.2.1 q2.2.2, cr_wR ct (a 7) vs r vx, cr_wD ct (a 8) vd, cr_wO ct (a 9) vo] (fun r => cr_wX ct a r q3.2.1 q3.2.2.1 q3.2.2.2.1 q2.2.1 q1.2.1 q2.2.2 q3.2.2.2.2.1 q3.2.2.2.2.2 vd vo) (fun r => [cr_wX0 ct a, cr_wH ct (a 1) (a 2) (a 3) q3.2.1 q3.2.2.1 q3.2.2.2.1, cr_wH ct (a 4) (a 5) (a 6) q2.2.1 q1.2.1 q2.2.2, cr_wR ct (a 7) q3.2.2.2.2.1 r q3.2.2.2.2.2, cr_wD ct (a 8) vd, cr_wO ct (a 9) vo]) ⟨rfl, rfl⟩ (fun _ => ⟨rfl, rfl⟩) rfl (fun _ => rfl) (fun _ => rfl) (by decide) 0 rfl rfl rfl hl.1 rfl (Nat.le_of_ble_eq_true rfl) dX6_pass_20 ⟨Nat.zero_le _, Nat.zero_le _⟩ (fun r H locs hW => ?_)
  exact cr_retW C (w := (fun u : (Nat → Nat → Nat → Nat) × cr_V × cr_V × cr_V × cr_V × cr_V × cr_V × cr_V × (Nat → Nat → cr_V) => cr_wX ct a u.1 u.2.1 u.2.2.1 u.2.2.2.1 u.2.2.2.2.1 u.2.2.2.2.2.1 u.2.2.2.2.2.2.1 u.2.2.2.2.2.2.2.1 u.2.2.2.2.2.2.2.2 vd vo)) (r, q3.2.1, q3.2.2.1, q3.2.2.2.1, q2.2.1, q1.2.1, q2.2.2, q3.2.2.2.2.1, q3.2.2.2.2.2) hW (Option.some.inj hE) dX6_pass_23

set_option maxHeartbeats 4000000 in
set_option maxRecDepth 100000 in
theorem m_X6_lotOf (L : Launch) (D : va_G) (ct : Nat → ClassId) (a : Nat → Nat → Nat) (r : Nat → Nat → Nat → Nat) (vh : cr_V) (vl : cr_V) (vk : cr_V) (vt : cr_V) (vtl : cr_V) (vtk : cr_V) (vs : cr_V) (vx : Nat → Nat → cr_V) (vd : cr_V) (vo : cr_V) (x1 : Int32) (x2 : Int32) (out : Int32) (hE : f_X6_lotOf vh vl vk vt vtl vtk vs vx vd vo x1 x2 = some out) : Met L yX6_lotOf wsX6_lotOf ({ frames := 2, cells := 0, slots := 0, locals := 45 } : Room) (cr_pR D ct (cr_wX ct a r vh vl vk vt vtl vtk vs vx vd vo) [.ref (a 0 0), .int x1, .int x2]) (cr_QR (fun r => r = out)) 0 0 cr_no := by
  have k0 : (Cond.fieldLink RX6 10 "CupReceipts" "house" "LCupReceipts$House;") ∈ wsX6_lotOf := List.mem_of_getElem? (i := 1) rfl
  have k1 : (Cond.fieldLink RX6 81 "CupReceipts$House" "lots" "LCupReceipts$Lots;") ∈ wsX6_lotOf := List.mem_of_getElem? (i := 2) rfl
  have k2 : (Cond.constant RX6 90 (-2000000001)) ∈ wsX6_lotOf := List.mem_of_getElem? (i := 3) rfl
  have hinX3 : ∀ w ∈ wsX30, w ∈ wsX6_lotOf := fun w h => List.mem_cons_of_mem _ (List.mem_append_left _ (List.mem_append_right _ h))
  have hinX6 : ∀ w ∈ wsX60, w ∈ wsX6_lotOf := fun w h => List.mem_cons_of_mem _ (List.mem_append_left _ (List.mem_append_left _ (List.mem_append_right _ h)))
  refine cr_metR (by decide) rfl rfl (Nat.le_of_ble_eq_true rfl) ?_
  intro p e s m args below meth c ls C hP hS hl
  obtain ⟨hx, hb, hml, hown, hts, hr, hlocks, hK, hN⟩ := id C
  have hl : lv_has ls 4 [(0, .ref (a 0 0)), (1, .int x1), (2, .int x2)] := hl
  replace hE : ((f_X4_rowOf vl x1).bind fun q1 => if 0 ≤ q1 then ((f_X3_tellOfLot vh vl vk q1 x2).bind fun q3 => some q3) else (some (-2000000001))) = some out := hE
  refine lv_aload_n hx hb dX6_lotOf_0 rfl (lv_at hl 0 rfl) ?_
  refine cr_get C hP 0 rfl rfl 0 (by decide) hinX6 k0 (v := .ref ((a 1) 0)) rfl dX6_lotOf_1 ?_
  refine cr_get C hP 1 rfl rfl 0 (by decide) hinX3 k1 (v := .ref ((a 2) 0)) rfl dX6_lotOf_4 ?_
  refine lv_iload_n hx hb dX6_lotOf_7 rfl (lv_at hl 1 rfl) ?_
  obtain ⟨q1, hq1, hE⟩ := cr_bind hE
  refine cr_vRq (n := 1) (As := [.int x1]) (rest := []) C hP hS (m_X4_rowOf L D ct (a 2) vl x1 q1 hq1) (cwV 1 hts gX6_lotOf_X4_rowOf rfl rfl rfl (by decide +kernel) ⟨Nat.le_of_ble_eq_true rfl, Nat.le_of_ble_eq_true rfl⟩) [4, 5, 6, 7, 8] rfl 4 rfl rfl rfl hl.1 rfl (Nat.le_of_ble_eq_true rfl) dX6_lotOf_8 ⟨Nat.zero_le _, Nat.zero_le _⟩ (fun H locs hP hS => ?_)
  refine lv_istore_n (lv' := [(3, .int q1), (0, .ref (a 0 0)), (1, .int x1), (2, .int x2)]) hx hb dX6_lotOf_11 rfl hl (by decide) rfl (fun ls hl => ?_)
  refine lv_iload_n hx hb dX6_lotOf_12 rfl (lv_at hl 0 rfl) ?_
  refine lv_if_ge (tgt := 21) hx hb dX6_lotOf_13 (by decide) (fun c2 => ?_) (fun c2 => ?_)
  · rw [if_pos c2] at hE
    refine lv_aload_n hx hb dX6_lotOf_21 rfl (lv_at hl 1 rfl) ?_
    refine cr_get C hP 0 rfl rfl 0 (by decide) hinX6 k0 (v := .ref ((a 1) 0)) rfl dX6_lotOf_22 ?_
    refine lv_iload_n hx hb dX6_lotOf_25 rfl (lv_at hl 0 rfl) ?_
    refine lv_iload_n hx hb dX6_lotOf_26 rfl (lv_at hl 3 rfl) ?_
    obtain ⟨q3, hq3, hE⟩ := cr_bind hE
    refine cr_vRq (n := 2) (As := [.int q1, .int x2]) (rest := []) C hP hS (m_X3_tellOfLot L D ct (a 1) (a 2) (a 3) vh vl vk q1 x2 q3 hq3) (cwV 2 hts gX6_lotOf_X3_tellOfLot rfl rfl rfl (by decide +kernel) ⟨Nat.le_of_ble_eq_true rfl, Nat.le_of_ble_eq_true rfl⟩) [1, 2, 3, 4, 5, 6, 7, 8, 9, 10, 11] rfl 1 rfl rfl rfl hl.1 rfl (Nat.le_of_ble_eq_true rfl) dX6_lotOf_27 ⟨Nat.zero_le _, Nat.zero_le _⟩ (fun H locs hP hS => ?_)
    exact cr_retR C hS (Option.some.inj hE) dX6_lotOf_30
  · rw [if_neg c2] at hE
    refine cr_ldc C k2 dX6_lotOf_16 ?_
    refine lv_goto (tgt := 30) hx hb dX6_lotOf_18 (by decide) ?_
    exact cr_retR C hS (Option.some.inj hE) dX6_lotOf_30

set_option maxHeartbeats 4000000 in
set_option maxRecDepth 100000 in
theorem m_X6_numberOf (L : Launch) (D : va_G) (ct : Nat → ClassId) (a : Nat → Nat → Nat) (r : Nat → Nat → Nat → Nat) (vh : cr_V) (vl : cr_V) (vk : cr_V) (vt : cr_V) (vtl : cr_V) (vtk : cr_V) (vs : cr_V) (vx : Nat → Nat → cr_V) (vd : cr_V) (vo : cr_V) (x1 : Int32) (out : Int32) (hE : f_X6_numberOf vh vl vk vt vtl vtk vs vx vd vo x1 = some out) : Met L yX6_numberOf wsX6_numberOf ({ frames := 0, cells := 0, slots := 0, locals := 0 } : Room) (cr_pR D ct (cr_wX ct a r vh vl vk vt vtl vtk vs vx vd vo) [.ref (a 0 0), .int x1]) (cr_QR (fun r => r = out)) 0 0 cr_no := by
  have k0 : (Cond.fieldLink RX6 10 "CupReceipts" "house" "LCupReceipts$House;") ∈ wsX6_numberOf := List.mem_of_getElem? (i := 2) rfl
  have k1 : (Cond.fieldLink RX6 81 "CupReceipts$House" "lots" "LCupReceipts$Lots;") ∈ wsX6_numberOf := List.mem_of_getElem? (i := 3) rfl
  have k2 : (Cond.fieldLink RX6 94 "CupReceipts$Lots" "size" "I") ∈ wsX6_numberOf := List.mem_of_getElem? (i := 4) rfl
  have k3 : (Cond.constant RX6 102 (-2000000004)) ∈ wsX6_numberOf := List.mem_of_getElem? (i := 6) rfl
  have k4 : (Cond.fieldLink RX6 98 "CupReceipts$Lots" "numbers" "[I") ∈ wsX6_numberOf := List.mem_of_getElem? (i := 5) rfl
  have k5 : (Cond.constant RX6 90 (-2000000001)) ∈ wsX6_numberOf := List.mem_of_getElem? (i := 1) rfl
  have hinX3 : ∀ w ∈ wsX30, w ∈ wsX6_numberOf := fun w h => List.mem_cons_of_mem _ (List.mem_append_left _ (List.mem_append_right _ h))
  have hinX4 : ∀ w ∈ wsX40, w ∈ wsX6_numberOf := fun w h => List.mem_cons_of_mem _ (List.mem_append_right _ h)
  have hinX6 : ∀ w ∈ wsX60, w ∈ wsX6_numberOf := fun w h => List.mem_cons_of_mem _ (List.mem_append_left _ (List.mem_append_left _ (List.mem_append_right _ h)))
  refine cr_metR (by decide) rfl rfl (Nat.le_of_ble_eq_true rfl) ?_
  intro p e s m args below meth c ls C hP hS hl
  obtain ⟨hx, hb, hml, hown, hts, hr, hlocks, hK, hN⟩ := id C
  have hl : lv_has ls 2 [(0, .ref (a 0 0)), (1, .int x1)] := hl
  replace hE : (if 0 ≤ x1 then (if (vl 4 0) ≤ x1 then (some (-2000000004)) else (if cr_in x1 12 = true then some (vl 0 (cr_x x1)) else none)) else (some (-2000000001))) = some out := hE
  refine lv_iload_n hx hb dX6_numberOf_0 rfl (lv_at hl 1 rfl) ?_
  refine lv_if_ge (tgt := 7) hx hb dX6_numberOf_1 (by decide) (fun c1 => ?_) (fun c1 => ?_)
  · rw [if_pos c1] at hE
    refine lv_iload_n hx hb dX6_numberOf_7 rfl (lv_at hl 1 rfl) ?_
    refine lv_aload_n hx hb dX6_numberOf_8 rfl (lv_at hl 0 rfl) ?_
    refine cr_get C hP 0 rfl rfl 0 (by decide) hinX6 k0 (v := .ref ((a 1) 0)) rfl dX6_numberOf_9 ?_
    refine cr_get C hP 1 rfl rfl 0 (by decide) hinX3 k1 (v := .ref ((a 2) 0)) rfl dX6_numberOf_12 ?_
    refine cr_get C hP 4 rfl rfl 4 (by decide) hinX4 k2 (v := .int (vl 4 0)) rfl dX6_numberOf_15 ?_
    refine lv_icmp_ge (tgt := 36) hx hb dX6_numberOf_18 (by decide) (fun c2 => ?_) (fun c2 => ?_)
    · rw [if_pos c2] at hE
      refine cr_ldc C k3 dX6_numberOf_36 ?_
      exact cr_retR C hS (Option.some.inj hE) dX6_numberOf_38
    · rw [if_neg c2] at hE
      refine lv_aload_n hx hb dX6_numberOf_21 rfl (lv_at hl 0 rfl) ?_
      refine cr_get C hP 0 rfl rfl 0 (by decide) hinX6 k0 (v := .ref ((a 1) 0)) rfl dX6_numberOf_22 ?_
      refine cr_get C hP 1 rfl rfl 0 (by decide) hinX3 k1 (v := .ref ((a 2) 0)) rfl dX6_numberOf_25 ?_
      refine cr_get C hP 4 rfl rfl 0 (by decide) hinX4 k4 (v := .ref ((a 2) 1)) rfl dX6_numberOf_28 ?_
      refine lv_iload_n hx hb dX6_numberOf_31 rfl (lv_at hl 1 rfl) ?_
      obtain ⟨i3, hE⟩ := cr_ifn hE
      refine cr_ald C hP 5 (f := vl 0) (k := cr_x x1) rfl i3 (cr_xe _) dX6_numberOf_32 ?_
      refine lv_goto (tgt := 38) hx hb dX6_numberOf_33 (by decide) ?_
      exact cr_retR C hS (Option.some.inj hE) dX6_numberOf_38
  · rw [if_neg c1] at hE
    refine cr_ldc C k5 dX6_numberOf_4 ?_
    exact cr_retR C hS (Option.some.inj hE) dX6_numberOf_6

set_option maxHeartbeats 4000000 in
set_option maxRecDepth 100000 in
theorem m_X6_contractOf (L : Launch) (D : va_G) (ct : Nat → ClassId) (a : Nat → Nat → Nat) (r : Nat → Nat → Nat → Nat) (vh : cr_V) (vl : cr_V) (vk : cr_V) (vt : cr_V) (vtl : cr_V) (vtk : cr_V) (vs : cr_V) (vx : Nat → Nat → cr_V) (vd : cr_V) (vo : cr_V) (x1 : Int32) (x2 : Int32) (out : Int32) (hE : f_X6_contractOf vh vl vk vt vtl vtk vs vx vd vo x1 x2 = some out) : Met L yX6_contractOf wsX6_contractOf ({ frames := 1, cells := 0, slots := 0, locals := 21 } : Room) (cr_pR D ct (cr_wX ct a r vh vl vk vt vtl vtk vs vx vd vo) [.ref (a 0 0), .int x1, .int x2]) (cr_QR (fun r => r = out)) 0 0 cr_no := by
  have k0 : (Cond.fieldLink RX6 10 "CupReceipts" "house" "LCupReceipts$House;") ∈ wsX6_contractOf := List.mem_of_getElem? (i := 1) rfl
  have k1 : (Cond.fieldLink RX6 103 "CupReceipts$House" "contracts" "LCupReceipts$Contracts;") ∈ wsX6_contractOf := List.mem_of_getElem? (i := 2) rfl
  have k2 : (Cond.fieldLink RX6 113 "CupReceipts$Contracts" "months" "[I") ∈ wsX6_contractOf := List.mem_of_getElem? (i := 4) rfl
  have k3 : (Cond.fieldLink RX6 116 "CupReceipts$Contracts" "prices" "[I") ∈ wsX6_contractOf := List.mem_of_getElem? (i := 5) rfl
  have k4 : (Cond.fieldLink RX6 119 "CupReceipts$House" "month" "I") ∈ wsX6_contractOf := List.mem_of_getElem? (i := 6) rfl
  have k5 : (Cond.constant RX6 90 (-2000000001)) ∈ wsX6_contractOf := List.mem_of_getElem? (i := 3) rfl
  have hinX0 : ∀ w ∈ wsX00, w ∈ wsX6_contractOf := fun w h => List.mem_cons_of_mem _ (List.mem_append_right _ h)
  have hinX3 : ∀ w ∈ wsX30, w ∈ wsX6_contractOf := fun w h => List.mem_cons_of_mem _ (List.mem_append_left _ (List.mem_append_right _ h))
  have hinX6 : ∀ w ∈ wsX60, w ∈ wsX6_contractOf := fun w h => List.mem_cons_of_mem _ (List.mem_append_left _ (List.mem_append_left _ (List.mem_append_right _ h)))
  refine cr_metR (by decide) rfl rfl (Nat.le_of_ble_eq_true rfl) ?_
  intro p e s m args below meth c ls C hP hS hl
  obtain ⟨hx, hb, hml, hown, hts, hr, hlocks, hK, hN⟩ := id C
  have hl : lv_has ls 3 [(0, .ref (a 0 0)), (1, .int x1), (2, .int x2)] := hl
  replace hE : ((f_X0_isOpen vk x1).bind fun q1 => if q1 = 0 then (some (-2000000001)) else (if x2 = 0 then (if cr_in x1 6 = true then some (vk 0 (cr_x x1)) else none) else (if x2 = 1 then (if cr_in x1 6 = true then some (vk 1 (cr_x x1)) else none) else (if x2 = 2 then (if cr_in x1 6 = true then some ((vk 0 (cr_x x1)) - (vh 4 0)) else none) else (some (-2000000001)))))) = some out := hE
  refine lv_aload_n hx hb dX6_contractOf_0 rfl (lv_at hl 0 rfl) ?_
  refine cr_get C hP 0 rfl rfl 0 (by decide) hinX6 k0 (v := .ref ((a 1) 0)) rfl dX6_contractOf_1 ?_
  refine cr_get C hP 1 rfl rfl 1 (by decide) hinX3 k1 (v := .ref ((a 3) 0)) rfl dX6_contractOf_4 ?_
  refine lv_iload_n hx hb dX6_contractOf_7 rfl (lv_at hl 1 rfl) ?_
  obtain ⟨q1, hq1, hE⟩ := cr_bind hE
  refine cr_vRq (n := 1) (As := [.int x1]) (rest := []) C hP hS (m_X0_isOpen L D ct (a 3) vk x1 q1 hq1) (cwV 1 hts gX6_contractOf_X0_isOpen rfl rfl rfl (by decide +kernel) ⟨Nat.le_of_ble_eq_true rfl, Nat.le_of_ble_eq_true rfl⟩) [9, 10, 11] rfl 9 rfl rfl rfl hl.1 rfl (Nat.le_of_ble_eq_true rfl) dX6_contractOf_8 ⟨Nat.zero_le _, Nat.zero_le _⟩ (fun H locs hP hS => ?_)
  refine lv_if_ne (tgt := 17) hx hb dX6_contractOf_11 (by decide) (fun c2 => ?_) (fun c2 => ?_)
  · rw [if_neg c2] at hE
    refine lv_iload_n hx hb dX6_contractOf_17 rfl (lv_at hl 2 rfl) ?_
    by_cases c3 : x2 = 0
    · rw [if_pos c3] at hE
      refine lv_tableIn (tgt := 44) (off := 26) hx hb dX6_contractOf_18 (by rw [c3]; decide) (by rw [c3]; decide) (by rw [c3]; rfl) (by decide) ?_
      refine lv_aload_n hx hb dX6_contractOf_44 rfl (lv_at hl 0 rfl) ?_
      refine cr_get C hP 0 rfl rfl 0 (by decide) hinX6 k0 (v := .ref ((a 1) 0)) rfl dX6_contractOf_45 ?_
      refine cr_get C hP 1 rfl rfl 1 (by decide) hinX3 k1 (v := .ref ((a 3) 0)) rfl dX6_contractOf_48 ?_
      refine cr_get C hP 9 rfl rfl 0 (by decide) hinX0 k2 (v := .ref ((a 3) 1)) rfl dX6_contractOf_51 ?_
      refine lv_iload_n hx hb dX6_contractOf_54 rfl (lv_at hl 1 rfl) ?_
      obtain ⟨i4, hE⟩ := cr_ifn hE
      refine cr_ald C hP 10 (f := vk 0) (k := cr_x x1) rfl i4 (cr_xe _) dX6_contractOf_55 ?_
      exact cr_retR C hS (Option.some.inj hE) dX6_contractOf_56
    · rw [if_neg c3] at hE
      by_cases c5 : x2 = 1
      · rw [if_pos c5] at hE
        refine lv_tableIn (tgt := 57) (off := 39) hx hb dX6_contractOf_18 (by rw [c5]; decide) (by rw [c5]; decide) (by rw [c5]; rfl) (by decide) ?_
        refine lv_aload_n hx hb dX6_contractOf_57 rfl (lv_at hl 0 rfl) ?_
        refine cr_get C hP 0 rfl rfl 0 (by decide) hinX6 k0 (v := .ref ((a 1) 0)) rfl dX6_contractOf_58 ?_
        refine cr_get C hP 1 rfl rfl 1 (by decide) hinX3 k1 (v := .ref ((a 3) 0)) rfl dX6_contractOf_61 ?_
        refine cr_get C hP 9 rfl rfl 1 (by decide) hinX0 k3 (v := .ref ((a 3) 2)) rfl dX6_contractOf_64 ?_
        refine lv_iload_n hx hb dX6_contractOf_67 rfl (lv_at hl 1 rfl) ?_
        obtain ⟨i6, hE⟩ := cr_ifn hE
        refine cr_ald C hP 11 (f := vk 1) (k := cr_x x1) rfl i6 (cr_xe _) dX6_contractOf_68 ?_
        exact cr_retR C hS (Option.some.inj hE) dX6_contractOf_69
      · rw [if_neg c5] at hE
        by_cases c7 : x2 = 2
        · rw [if_pos c7] at hE
          refine lv_tableIn (tgt := 70) (off := 52) hx hb dX6_contractOf_18 (by rw [c7]; decide) (by rw [c7]; decide) (by rw [c7]; rfl) (by decide) ?_
          refine lv_aload_n hx hb dX6_contractOf_70 rfl (lv_at hl 0 rfl) ?_
          refine cr_get C hP 0 rfl rfl 0 (by decide) hinX6 k0 (v := .ref ((a 1) 0)) rfl dX6_contractOf_71 ?_
          refine cr_get C hP 1 rfl rfl 1 (by decide) hinX3 k1 (v := .ref ((a 3) 0)) rfl dX6_contractOf_74 ?_
          refine cr_get C hP 9 rfl rfl 0 (by decide) hinX0 k2 (v := .ref ((a 3) 1)) rfl dX6_contractOf_77 ?_
          refine lv_iload_n hx hb dX6_contractOf_80 rfl (lv_at hl 1 rfl) ?_
          obtain ⟨i8, hE⟩ := cr_ifn hE
          refine cr_ald C hP 10 (f := vk 0) (k := cr_x x1) rfl i8 (cr_xe _) dX6_contractOf_81 ?_
          refine lv_aload_n hx hb dX6_contractOf_82 rfl (lv_at hl 0 rfl) ?_
          refine cr_get C hP 0 rfl rfl 0 (by decide) hinX6 k0 (v := .ref ((a 1) 0)) rfl dX6_contractOf_83 ?_
          refine cr_get C hP 1 rfl rfl 4 (by decide) hinX3 k4 (v := .int (vh 4 0)) rfl dX6_contractOf_86 ?_
          refine lv_isub hx hb dX6_contractOf_89 ?_
          exact cr_retR C hS (Option.some.inj hE) dX6_contractOf_90
        · rw [if_neg c7] at hE
          refine lv_tableOut (tgt := 91) hx hb dX6_contractOf_18 (by have e0 := cr_ne (n := 0) (by decide) c3; have e1 := cr_ne (n := 1) (by decide) c5; have e2 := cr_ne (n := 2) (by decide) c7; omega) (by decide) ?_
          refine cr_ldc C k5 dX6_contractOf_91 ?_
          exact cr_retR C hS (Option.some.inj hE) dX6_contractOf_93
  · rw [if_pos c2] at hE
    refine cr_ldc C k5 dX6_contractOf_14 ?_
    exact cr_retR C hS (Option.some.inj hE) dX6_contractOf_16

set_option maxHeartbeats 4000000 in
set_option maxRecDepth 100000 in
theorem m_X6_paid (L : Launch) (D : va_G) (ct : Nat → ClassId) (a : Nat → Nat → Nat) (r : Nat → Nat → Nat → Nat) (vh : cr_V) (vl : cr_V) (vk : cr_V) (vt : cr_V) (vtl : cr_V) (vtk : cr_V) (vs : cr_V) (vx : Nat → Nat → cr_V) (vd : cr_V) (vo : cr_V) (x1 : Int32) (x2 : Int32) (x3 : Int32) (out : Int32) (hE : f_X6_paid vh vl vk vt vtl vtk vs vx vd vo x1 x2 x3 = some out) : Met L yX6_paid wsX6_paid ({ frames := 1, cells := 0, slots := 0, locals := 24 } : Room) (cr_pR D ct (cr_wX ct a r vh vl vk vt vtl vtk vs vx vd vo) [.ref (a 0 0), .int x1, .int x2, .int x3]) (cr_QR (fun r => r = out)) 0 0 cr_no := by
  have k0 : (Cond.fieldLink RX6 10 "CupReceipts" "house" "LCupReceipts$House;") ∈ wsX6_paid := List.mem_of_getElem? (i := 1) rfl
  have k1 : (Cond.fieldLink RX6 81 "CupReceipts$House" "lots" "LCupReceipts$Lots;") ∈ wsX6_paid := List.mem_of_getElem? (i := 2) rfl
  have k2 : (Cond.constant RX6 90 (-2000000001)) ∈ wsX6_paid := List.mem_of_getElem? (i := 3) rfl
  have k3 : (Cond.fieldLink RX6 119 "CupReceipts$House" "month" "I") ∈ wsX6_paid := List.mem_of_getElem? (i := 4) rfl
  have k4 : (Cond.fieldLink RX6 136 "CupReceipts$House" "worths" "[I") ∈ wsX6_paid := List.mem_of_getElem? (i := 6) rfl
  have k5 : (Cond.constant RX6 102 (-2000000004)) ∈ wsX6_paid := List.mem_of_getElem? (i := 5) rfl
  have hinX3 : ∀ w ∈ wsX30, w ∈ wsX6_paid := fun w h => List.mem_cons_of_mem _ (List.mem_append_left _ (List.mem_append_right _ h))
  have hinX6 : ∀ w ∈ wsX60, w ∈ wsX6_paid := fun w h => List.mem_cons_of_mem _ (List.mem_append_left _ (List.mem_append_left _ (List.mem_append_right _ h)))
  refine cr_metR (by decide) rfl rfl (Nat.le_of_ble_eq_true rfl) ?_
  intro p e s m args below meth c ls C hP hS hl
  obtain ⟨hx, hb, hml, hown, hts, hr, hlocks, hK, hN⟩ := id C
  have hl : lv_has ls 7 [(0, .ref (a 0 0)), (1, .int x1), (2, .int x2), (3, .int x3)] := hl
  replace hE : ((f_X4_rowOf vl x1).bind fun q1 => if q1 < 0 then (some (-2000000001)) else ((f_X6_isWithin x2 1 999).bind fun q3 => if q3 = 0 then (some (-2000000001)) else ((f_X6_isWithin x3 0 1).bind fun q5 => if q5 = 0 then (some (-2000000001)) else ((f_X4_cupAt vl q1 (vh 4 0)).bind fun q7 => if 70 ≤ q7 then ((f_X4_monthsTooOld vl q1 (vh 4 0)).bind fun q9 => (f_X3_payForBag vh vl vk x2 q7 q9).bind fun q10 => if x3 = 0 then (some q10) else ((f_X6_bandOf q7).bind fun q12 => if cr_in q12 4 = true then some ((q10 - (vh 2 (cr_x q12))) + 10000) else none)) else (some (-2000000004)))))) = some out := hE
  refine lv_aload_n hx hb dX6_paid_0 rfl (lv_at hl 0 rfl) ?_
  refine cr_get C hP 0 rfl rfl 0 (by decide) hinX6 k0 (v := .ref ((a 1) 0)) rfl dX6_paid_1 ?_
  refine cr_get C hP 1 rfl rfl 0 (by decide) hinX3 k1 (v := .ref ((a 2) 0)) rfl dX6_paid_4 ?_
  refine lv_iload_n hx hb dX6_paid_7 rfl (lv_at hl 1 rfl) ?_
  obtain ⟨q1, hq1, hE⟩ := cr_bind hE
  refine cr_vRq (n := 1) (As := [.int x1]) (rest := []) C hP hS (m_X4_rowOf L D ct (a 2) vl x1 q1 hq1) (cwV 1 hts gX6_paid_X4_rowOf rfl rfl rfl (by decide +kernel) ⟨Nat.le_of_ble_eq_true rfl, Nat.le_of_ble_eq_true rfl⟩) [4, 5, 6, 7, 8] rfl 4 rfl rfl rfl hl.1 rfl (Nat.le_of_ble_eq_true rfl) dX6_paid_8 ⟨Nat.zero_le _, Nat.zero_le _⟩ (fun H locs hP hS => ?_)
  refine lv_istore (lv' := [(4, .int q1), (0, .ref (a 0 0)), (1, .int x1), (2, .int x2), (3, .int x3)]) hx hb dX6_paid_11 hl (by decide) rfl (fun ls hl => ?_)
  refine lv_iload hx hb dX6_paid_13 (lv_at hl 0 rfl) ?_
  refine lv_if_lt (tgt := 38) hx hb dX6_paid_15 (by decide) (fun c2 => ?_) (fun c2 => ?_)
  · rw [if_pos c2] at hE
    refine cr_ldc C k2 dX6_paid_38 ?_
    exact cr_retR C hS (Option.some.inj hE) dX6_paid_40
  · rw [if_neg c2] at hE
    refine lv_iload_n hx hb dX6_paid_18 rfl (lv_at hl 3 rfl) ?_
    refine lv_iconst (v := 1) hx hb dX6_paid_19 (by decide) ?_
    refine lv_sipush (v := 999) hx hb dX6_paid_20 (by decide) ?_
    obtain ⟨q3, hq3, hE⟩ := cr_bind hE
    refine cr_sRq (n := 3) (As := [.int x2, .int 1, .int 999]) (rest := []) C hP hS (m_X6_isWithin L D ct x2 1 999 q3 hq3) (va_cwS 3 hts gX6_paid_X6_isWithin rfl rfl rfl (by decide +kernel) ⟨Nat.le_of_ble_eq_true rfl, Nat.le_of_ble_eq_true rfl⟩) rfl hl.1 rfl (Nat.le_of_ble_eq_true rfl) dX6_paid_23 ⟨Nat.zero_le _, Nat.zero_le _⟩ (fun H locs hP hS => ?_)
    refine lv_if_eq (tgt := 38) hx hb dX6_paid_26 (by decide) (fun c4 => ?_) (fun c4 => ?_)
    · rw [if_pos c4] at hE
      refine cr_ldc C k2 dX6_paid_38 ?_
      exact cr_retR C hS (Option.some.inj hE) dX6_paid_40
    · rw [if_neg c4] at hE
      refine lv_iload_n hx hb dX6_paid_29 rfl (lv_at hl 4 rfl) ?_
      refine lv_iconst (v := 0) hx hb dX6_paid_30 (by decide) ?_
      refine lv_iconst (v := 1) hx hb dX6_paid_31 (by decide) ?_
      obtain ⟨q5, hq5, hE⟩ := cr_bind hE
      refine cr_sRq (n := 3) (As := [.int x3, .int 0, .int 1]) (rest := []) C hP hS (m_X6_isWithin L D ct x3 0 1 q5 hq5) (va_cwS 3 hts gX6_paid_X6_isWithin rfl rfl rfl (by decide +kernel) ⟨Nat.le_of_ble_eq_true rfl, Nat.le_of_ble_eq_true rfl⟩) rfl hl.1 rfl (Nat.le_of_ble_eq_true rfl) dX6_paid_32 ⟨Nat.zero_le _, Nat.zero_le _⟩ (fun H locs hP hS => ?_)
      refine lv_if_ne (tgt := 41) hx hb dX6_paid_35 (by decide) (fun c6 => ?_) (fun c6 => ?_)
      · rw [if_neg c6] at hE
        refine lv_aload_n hx hb dX6_paid_41 rfl (lv_at hl 1 rfl) ?_
        refine cr_get C hP 0 rfl rfl 0 (by decide) hinX6 k0 (v := .ref ((a 1) 0)) rfl dX6_paid_42 ?_
        refine cr_get C hP 1 rfl rfl 0 (by decide) hinX3 k1 (v := .ref ((a 2) 0)) rfl dX6_paid_45 ?_
        refine lv_iload hx hb dX6_paid_48 (lv_at hl 0 rfl) ?_
        refine lv_aload_n hx hb dX6_paid_50 rfl (lv_at hl 1 rfl) ?_
        refine cr_get C hP 0 rfl rfl 0 (by decide) hinX6 k0 (v := .ref ((a 1) 0)) rfl dX6_paid_51 ?_
        refine cr_get C hP 1 rfl rfl 4 (by decide) hinX3 k3 (v := .int (vh 4 0)) rfl dX6_paid_54 ?_
        obtain ⟨q7, hq7, hE⟩ := cr_bind hE
        refine cr_vRq (n := 2) (As := [.int q1, .int (vh 4 0)]) (rest := []) C hP hS (m_X4_cupAt L D ct (a 2) vl q1 (vh 4 0) q7 hq7) (cwV 2 hts gX6_paid_X4_cupAt rfl rfl rfl (by decide +kernel) ⟨Nat.le_of_ble_eq_true rfl, Nat.le_of_ble_eq_true rfl⟩) [4, 5, 6, 7, 8] rfl 4 rfl rfl rfl hl.1 rfl (Nat.le_of_ble_eq_true rfl) dX6_paid_57 ⟨Nat.zero_le _, Nat.zero_le _⟩ (fun H locs hP hS => ?_)
        refine lv_istore (lv' := [(5, .int q7), (4, .int q1), (0, .ref (a 0 0)), (1, .int x1), (2, .int x2), (3, .int x3)]) hx hb dX6_paid_60 hl (by decide) rfl (fun ls hl => ?_)
        refine lv_iload hx hb dX6_paid_62 (lv_at hl 0 rfl) ?_
        refine lv_bipush (v := 70) hx hb dX6_paid_64 (by decide) ?_
        refine lv_icmp_ge (tgt := 72) hx hb dX6_paid_66 (by decide) (fun c8 => ?_) (fun c8 => ?_)
        · rw [if_pos c8] at hE
          refine lv_aload_n hx hb dX6_paid_72 rfl (lv_at hl 2 rfl) ?_
          refine cr_get C hP 0 rfl rfl 0 (by decide) hinX6 k0 (v := .ref ((a 1) 0)) rfl dX6_paid_73 ?_
          refine lv_iload_n hx hb dX6_paid_76 rfl (lv_at hl 4 rfl) ?_
          refine lv_iload hx hb dX6_paid_77 (lv_at hl 0 rfl) ?_
          refine lv_aload_n hx hb dX6_paid_79 rfl (lv_at hl 2 rfl) ?_
          refine cr_get C hP 0 rfl rfl 0 (by decide) hinX6 k0 (v := .ref ((a 1) 0)) rfl dX6_paid_80 ?_
          refine cr_get C hP 1 rfl rfl 0 (by decide) hinX3 k1 (v := .ref ((a 2) 0)) rfl dX6_paid_83 ?_
          refine lv_iload hx hb dX6_paid_86 (lv_at hl 1 rfl) ?_
          refine lv_aload_n hx hb dX6_paid_88 rfl (lv_at hl 2 rfl) ?_
          refine cr_get C hP 0 rfl rfl 0 (by decide) hinX6 k0 (v := .ref ((a 1) 0)) rfl dX6_paid_89 ?_
          refine cr_get C hP 1 rfl rfl 4 (by decide) hinX3 k3 (v := .int (vh 4 0)) rfl dX6_paid_92 ?_
          obtain ⟨q9, hq9, hE⟩ := cr_bind hE
          refine cr_vRq (n := 2) (As := [.int q1, .int (vh 4 0)]) (rest := [.int q7, .int x2, .ref ((a 1) 0)]) C hP hS (m_X4_monthsTooOld L D ct (a 2) vl q1 (vh 4 0) q9 hq9) (cwV 2 hts gX6_paid_X4_monthsTooOld rfl rfl rfl (by decide +kernel) ⟨Nat.le_of_ble_eq_true rfl, Nat.le_of_ble_eq_true rfl⟩) [4, 5, 6, 7, 8] rfl 4 rfl rfl rfl hl.1 rfl (Nat.le_of_ble_eq_true rfl) dX6_paid_95 ⟨Nat.zero_le _, Nat.zero_le _⟩ (fun H locs hP hS => ?_)
          obtain ⟨q10, hq10, hE⟩ := cr_bind hE
          refine cr_vRq (n := 3) (As := [.int x2, .int q7, .int q9]) (rest := []) C hP hS (m_X3_payForBag L D ct (a 1) (a 2) (a 3) vh vl vk x2 q7 q9 q10 hq10) (cwV 3 hts gX6_paid_X3_payForBag rfl rfl rfl (by decide +kernel) ⟨Nat.le_of_ble_eq_true rfl, Nat.le_of_ble_eq_true rfl⟩) [1, 2, 3, 4, 5, 6, 7, 8, 9, 10, 11] rfl 1 rfl rfl rfl hl.1 rfl (Nat.le_of_ble_eq_true rfl) dX6_paid_98 ⟨Nat.zero_le _, Nat.zero_le _⟩ (fun H locs hP hS => ?_)
          refine lv_istore (lv' := [(6, .int q10), (5, .int q7), (4, .int q1), (0, .ref (a 0 0)), (1, .int x1), (2, .int x2), (3, .int x3)]) hx hb dX6_paid_101 hl (by decide) rfl (fun ls hl => ?_)
          refine lv_iload_n hx hb dX6_paid_103 rfl (lv_at hl 6 rfl) ?_
          refine lv_if_ne (tgt := 112) hx hb dX6_paid_104 (by decide) (fun c11 => ?_) (fun c11 => ?_)
          · rw [if_neg c11] at hE
            refine lv_iload hx hb dX6_paid_112 (lv_at hl 0 rfl) ?_
            refine lv_aload_n hx hb dX6_paid_114 rfl (lv_at hl 3 rfl) ?_
            refine cr_get C hP 0 rfl rfl 0 (by decide) hinX6 k0 (v := .ref ((a 1) 0)) rfl dX6_paid_115 ?_
            refine cr_get C hP 1 rfl rfl 2 (by decide) hinX3 k4 (v := .ref ((a 1) 3)) rfl dX6_paid_118 ?_
            refine lv_iload hx hb dX6_paid_121 (lv_at hl 1 rfl) ?_
            obtain ⟨q12, hq12, hE⟩ := cr_bind hE
            refine cr_sRq (n := 1) (As := [.int q7]) (rest := [.ref ((a 1) 3), .int q10]) C hP hS (m_X6_bandOf L D ct q7 q12 hq12) (va_cwS 1 hts gX6_paid_X6_bandOf rfl rfl rfl (by decide +kernel) ⟨Nat.le_of_ble_eq_true rfl, Nat.le_of_ble_eq_true rfl⟩) rfl hl.1 rfl (Nat.le_of_ble_eq_true rfl) dX6_paid_123 ⟨Nat.zero_le _, Nat.zero_le _⟩ (fun H locs hP hS => ?_)
            obtain ⟨i13, hE⟩ := cr_ifn hE
            refine cr_ald C hP 2 (f := vh 2) (k := cr_x q12) rfl i13 (cr_xe _) dX6_paid_126 ?_
            refine lv_isub hx hb dX6_paid_127 ?_
            refine lv_sipush (v := 10000) hx hb dX6_paid_128 (by decide) ?_
            refine lv_iadd hx hb dX6_paid_131 ?_
            exact cr_retR C hS (Option.some.inj hE) dX6_paid_132
          · rw [if_pos c11] at hE
            refine lv_iload hx hb dX6_paid_107 (lv_at hl 0 rfl) ?_
            refine lv_goto (tgt := 132) hx hb dX6_paid_109 (by decide) ?_
            exact cr_retR C hS (Option.some.inj hE) dX6_paid_132
        · rw [if_neg c8] at hE
          refine cr_ldc C k5 dX6_paid_69 ?_
          exact cr_retR C hS (Option.some.inj hE) dX6_paid_71
      · rw [if_pos c6] at hE
        refine cr_ldc C k2 dX6_paid_38 ?_
        exact cr_retR C hS (Option.some.inj hE) dX6_paid_40

set_option maxHeartbeats 4000000 in
set_option maxRecDepth 100000 in
theorem m_X6_given (L : Launch) (D : va_G) (ct : Nat → ClassId) (a : Nat → Nat → Nat) (r : Nat → Nat → Nat → Nat) (vh : cr_V) (vl : cr_V) (vk : cr_V) (vt : cr_V) (vtl : cr_V) (vtk : cr_V) (vs : cr_V) (vx : Nat → Nat → cr_V) (vd : cr_V) (vo : cr_V) (x1 : Int32) (x2 : Int32) (x3 : Int32) (sz : Nat) (out : Int32 × cr_V) (hE : f_X6_given vh vl vk vt vtl vtk vs vx vd vo x1 x2 x3 = some out) : Met L yX6_given wsX6_given ({ frames := 3, cells := 0, slots := 0, locals := 74 } : Room) (cr_pW D ct (cr_wX ct a r vh vl vk vt vtl vtk vs vx vd vo) sz [.ref (a 0 0), .int x1, .int x2, .int x3]) (cr_QW D (cr_wX ct a r vh vl vk vt vtl vtk vs vx vd vo) sz (fun r (u : (Nat → Nat → Nat → Nat) × cr_V) => (r, u.2) = out) (fun u : (Nat → Nat → Nat → Nat) × cr_V => cr_wX ct a u.1 vh vl vk vt vtl vtk vs vx u.2 vo)) 0 0 (va_A (cr_wX ct a r vh vl vk vt vtl vtk vs vx vd vo) sz) := by
  have k0 : (Cond.fieldLink RX6 10 "CupReceipts" "house" "LCupReceipts$House;") ∈ wsX6_given := List.mem_of_getElem? (i := 1) rfl
  have k1 : (Cond.fieldLink RX6 103 "CupReceipts$House" "contracts" "LCupReceipts$Contracts;") ∈ wsX6_given := List.mem_of_getElem? (i := 2) rfl
  have k2 : (Cond.constant RX6 90 (-2000000001)) ∈ wsX6_given := List.mem_of_getElem? (i := 3) rfl
  have k3 : (Cond.fieldLink RX6 29 "CupReceipts" "delivery" "LCupReceipts$Delivery;") ∈ wsX6_given := List.mem_of_getElem? (i := 4) rfl
  have k4 : (Cond.fieldLink RX6 116 "CupReceipts$Contracts" "prices" "[I") ∈ wsX6_given := List.mem_of_getElem? (i := 5) rfl
  have k5 : (Cond.fieldLink RX6 119 "CupReceipts$House" "month" "I") ∈ wsX6_given := List.mem_of_getElem? (i := 6) rfl
  have k6 : (Cond.fieldLink RX6 146 "CupReceipts$Delivery" "places" "I") ∈ wsX6_given := List.mem_of_getElem? (i := 7) rfl
  have k7 : (Cond.fieldLink RX6 152 "CupReceipts$Delivery" "bags" "[I") ∈ wsX6_given := List.mem_of_getElem? (i := 12) rfl
  have k8 : (Cond.fieldLink RX6 81 "CupReceipts$House" "lots" "LCupReceipts$Lots;") ∈ wsX6_given := List.mem_of_getElem? (i := 9) rfl
  have k9 : (Cond.fieldLink RX6 98 "CupReceipts$Lots" "numbers" "[I") ∈ wsX6_given := List.mem_of_getElem? (i := 10) rfl
  have k10 : (Cond.fieldLink RX6 149 "CupReceipts$Delivery" "rows" "[I") ∈ wsX6_given := List.mem_of_getElem? (i := 11) rfl
  have k11 : (Cond.constant RX6 102 (-2000000004)) ∈ wsX6_given := List.mem_of_getElem? (i := 8) rfl
  have hinX0 : ∀ w ∈ wsX00, w ∈ wsX6_given := fun w h => List.mem_cons_of_mem _ (List.mem_append_left _ (List.mem_append_left _ (List.mem_append_right _ h)))
  have hinX1 : ∀ w ∈ wsX10, w ∈ wsX6_given := fun w h => List.mem_cons_of_mem _ (List.mem_append_left _ (List.mem_append_right _ h))
  have hinX3 : ∀ w ∈ wsX30, w ∈ wsX6_given := fun w h => List.mem_cons_of_mem _ (List.mem_append_left _ (List.mem_append_left _ (List.mem_append_left _ (List.mem_append_right _ h))))
  have hinX4 : ∀ w ∈ wsX40, w ∈ wsX6_given := fun w h => List.mem_cons_of_mem _ (List.mem_append_right _ h)
  have hinX6 : ∀ w ∈ wsX60, w ∈ wsX6_given := fun w h => List.mem_cons_of_mem _ (List.mem_append_left _ (List.mem_append_left _ (List.mem_append_left _ (List.mem_append_left _ (List.mem_append_right _ h)))))
  refine cr_metW (Qc := fun A => va_Qi (fun r (u : (Nat → Nat → Nat → Nat) × cr_V) => (r, u.2) = out) (fun u t => cr_at D A ((fun u : (Nat → Nat → Nat → Nat) × cr_V => cr_wX ct a u.1 vh vl vk vt vtl vtk vs vx u.2 vo) u) t) A) (by decide) rfl rfl (Nat.le_of_ble_eq_true rfl) ?_
  intro p e s m args below meth c ls A C hW hl
  obtain ⟨hx, hb, hml, hown, hts, hr, hlocks, hK, hN⟩ := id C
  have hl : lv_has ls 4 [(0, .ref (a 0 0)), (1, .int x1), (2, .int x2), (3, .int x3)] := hl
  replace hE : ((f_X0_isOpen vk x1).bind fun q1 => if q1 = 0 then (some ((-2000000001), vd)) else (if x2 < 0 then (some ((-2000000001), vd)) else ((f_X6_isWithin x3 0 1).bind fun q4 => if q4 = 0 then (some ((-2000000001), vd)) else (if cr_in x1 6 = true then (f_X1_plan vd vh vl vk (vk 1 (cr_x x1)) (vh 4 0)).bind fun q7 => if x2 < (q7 2 0) then (if x3 = 0 then (if cr_in x2 12 = true then if cr_in (q7 0 (cr_x x2)) 12 = true then some ((vl 0 (cr_x (q7 0 (cr_x x2)))), q7) else none else none) else (if cr_in x2 12 = true then some ((q7 1 (cr_x x2)), q7) else none)) else (some ((-2000000004), q7)) else none)))) = some out := hE
  refine lv_aload_n hx hb dX6_given_0 rfl (lv_at hl 0 rfl) ?_
  refine cr_get C hW.1 0 rfl rfl 0 (by decide) hinX6 k0 (v := .ref ((a 1) 0)) rfl dX6_given_1 ?_
  refine cr_get C hW.1 1 rfl rfl 1 (by decide) hinX3 k1 (v := .ref ((a 3) 0)) rfl dX6_given_4 ?_
  refine lv_iload_n hx hb dX6_given_7 rfl (lv_at hl 1 rfl) ?_
  obtain ⟨q1, hq1, hE⟩ := cr_bind hE
  refine cr_vRwq (n := 1) (As := [.int x1]) (rest := []) C hW (m_X0_isOpen L D ct (a 3) vk x1 q1 hq1) (cwV 1 hts gX6_given_X0_isOpen rfl rfl rfl (by decide +kernel) ⟨Nat.le_of_ble_eq_true rfl, Nat.le_of_ble_eq_true rfl⟩) [9, 10, 11] rfl 9 rfl rfl rfl hl.1 rfl (Nat.le_of_ble_eq_true rfl) dX6_given_8 ⟨Nat.zero_le _, Nat.zero_le _⟩ (fun H locs hW => ?_)
  refine lv_if_eq (tgt := 27) hx hb dX6_given_11 (by decide) (fun c2 => ?_) (fun c2 => ?_)
  · rw [if_pos c2] at hE
    refine cr_ldc C k2 dX6_given_27 ?_
    exact cr_retW C (w := (fun u : (Nat → Nat → Nat → Nat) × cr_V => cr_wX ct a u.1 vh vl vk vt vtl vtk vs vx u.2 vo)) (r, vd) hW (Option.some.inj hE) dX6_given_29
  · rw [if_neg c2] at hE
    refine lv_iload_n hx hb dX6_given_14 rfl (lv_at hl 2 rfl) ?_
    refine lv_if_lt (tgt := 27) hx hb dX6_given_15 (by decide) (fun c3 => ?_) (fun c3 => ?_)
    · rw [if_pos c3] at hE
      refine cr_ldc C k2 dX6_given_27 ?_
      exact cr_retW C (w := (fun u : (Nat → Nat → Nat → Nat) × cr_V => cr_wX ct a u.1 vh vl vk vt vtl vtk vs vx u.2 vo)) (r, vd) hW (Option.some.inj hE) dX6_given_29
    · rw [if_neg c3] at hE
      refine lv_iload_n hx hb dX6_given_18 rfl (lv_at hl 3 rfl) ?_
      refine lv_iconst (v := 0) hx hb dX6_given_19 (by decide) ?_
      refine lv_iconst (v := 1) hx hb dX6_given_20 (by decide) ?_
      obtain ⟨q4, hq4, hE⟩ := cr_bind hE
      refine cr_sRwq (n := 3) (As := [.int x3, .int 0, .int 1]) (rest := []) C hW (m_X6_isWithin L D ct x3 0 1 q4 hq4) (va_cwS 3 hts gX6_given_X6_isWithin rfl rfl rfl (by decide +kernel) ⟨Nat.le_of_ble_eq_true rfl, Nat.le_of_ble_eq_true rfl⟩) rfl hl.1 rfl (Nat.le_of_ble_eq_true rfl) dX6_given_21 ⟨Nat.zero_le _, Nat.zero_le _⟩ (fun H locs hW => ?_)
      refine lv_if_ne (tgt := 30) hx hb dX6_given_24 (by decide) (fun c5 => ?_) (fun c5 => ?_)
      · rw [if_neg c5] at hE
        refine lv_aload_n hx hb dX6_given_30 rfl (lv_at hl 0 rfl) ?_
        refine cr_get C hW.1 0 rfl rfl 3 (by decide) hinX6 k3 (v := .ref ((a 8) 0)) rfl dX6_given_31 ?_
        refine lv_aload_n hx hb dX6_given_34 rfl (lv_at hl 0 rfl) ?_
        refine cr_get C hW.1 0 rfl rfl 0 (by decide) hinX6 k0 (v := .ref ((a 1) 0)) rfl dX6_given_35 ?_
        refine lv_aload_n hx hb dX6_given_38 rfl (lv_at hl 0 rfl) ?_
        refine cr_get C hW.1 0 rfl rfl 0 (by decide) hinX6 k0 (v := .ref ((a 1) 0)) rfl dX6_given_39 ?_
        refine cr_get C hW.1 1 rfl rfl 1 (by decide) hinX3 k1 (v := .ref ((a 3) 0)) rfl dX6_given_42 ?_
        refine cr_get C hW.1 9 rfl rfl 1 (by decide) hinX0 k4 (v := .ref ((a 3) 2)) rfl dX6_given_45 ?_
        refine lv_iload_n hx hb dX6_given_48 rfl (lv_at hl 1 rfl) ?_
        obtain ⟨i6, hE⟩ := cr_ifn hE
        refine cr_ald C hW.1 11 (f := vk 1) (k := cr_x x1) rfl i6 (cr_xe _) dX6_given_49 ?_
        refine lv_aload_n hx hb dX6_given_50 rfl (lv_at hl 0 rfl) ?_
        refine cr_get C hW.1 0 rfl rfl 0 (by decide) hinX6 k0 (v := .ref ((a 1) 0)) rfl dX6_given_51 ?_
        refine cr_get C hW.1 1 rfl rfl 4 (by decide) hinX3 k5 (v := .int (vh 4 0)) rfl dX6_given_54 ?_
        obtain ⟨q7, hq7, hE⟩ := cr_bind hE
        refine cr_vVB (nb := 6) (n := 3) (As := [.ref ((a 1) 0), .int (vk 1 (cr_x x1)), .int (vh 4 0)]) (rest := []) C hW (m_X1_plan L D ct (a 8) (a 1) (a 2) (a 3) vd vh vl vk (vk 1 (cr_x x1)) (vh 4 0) _ q7 hq7) (cwV 3 hts gX6_given_X1_plan rfl rfl rfl (by decide +kernel) ⟨Nat.le_of_ble_eq_true rfl, Nat.le_of_ble_eq_true rfl⟩) [4, 1] [0, 2, 3, 5] [cr_wX0 ct a, cr_wH ct (a 1) (a 2) (a 3) vh vl vk, cr_wH ct (a 4) (a 5) (a 6) vt vtl vtk, cr_wR ct (a 7) vs r vx, cr_wD ct (a 8) vd, cr_wO ct (a 9) vo] (cr_wX ct a r vh vl vk vt vtl vtk vs vx q7 vo) [cr_wX0 ct a, cr_wH ct (a 1) (a 2) (a 3) vh vl vk, cr_wH ct (a 4) (a 5) (a 6) vt vtl vtk, cr_wR ct (a 7) vs r vx, cr_wD ct (a 8) q7, cr_wO ct (a 9) vo] ⟨rfl, rfl⟩ ⟨rfl, rfl⟩ rfl rfl rfl (by decide) 69 rfl rfl rfl hl.1 rfl (Nat.le_of_ble_eq_true rfl) dX6_given_57 ⟨Nat.zero_le _, Nat.zero_le _⟩ (fun H locs hW => ?_)
        refine lv_iload_n hx hb dX6_given_60 rfl (lv_at hl 2 rfl) ?_
        refine lv_aload_n hx hb dX6_given_61 rfl (lv_at hl 0 rfl) ?_
        refine cr_get C hW.1 0 rfl rfl 3 (by decide) hinX6 k3 (v := .ref ((a 8) 0)) rfl dX6_given_62 ?_
        refine cr_get C hW.1 69 rfl rfl 2 (by decide) hinX1 k6 (v := .int (q7 2 0)) rfl dX6_given_65 ?_
        refine lv_icmp_lt (tgt := 74) hx hb dX6_given_68 (by decide) (fun c8 => ?_) (fun c8 => ?_)
        · rw [if_pos c8] at hE
          refine lv_iload_n hx hb dX6_given_74 rfl (lv_at hl 3 rfl) ?_
          refine lv_if_ne (tgt := 101) hx hb dX6_given_75 (by decide) (fun c9 => ?_) (fun c9 => ?_)
          · rw [if_neg c9] at hE
            refine lv_aload_n hx hb dX6_given_101 rfl (lv_at hl 0 rfl) ?_
            refine cr_get C hW.1 0 rfl rfl 3 (by decide) hinX6 k3 (v := .ref ((a 8) 0)) rfl dX6_given_102 ?_
            refine cr_get C hW.1 69 rfl rfl 1 (by decide) hinX1 k7 (v := .ref ((a 8) 2)) rfl dX6_given_105 ?_
            refine lv_iload_n hx hb dX6_given_108 rfl (lv_at hl 2 rfl) ?_
            obtain ⟨i10, hE⟩ := cr_ifn hE
            refine cr_ald C hW.1 71 (f := q7 1) (k := cr_x x2) rfl i10 (cr_xe _) dX6_given_109 ?_
            exact cr_retW C (w := (fun u : (Nat → Nat → Nat → Nat) × cr_V => cr_wX ct a u.1 vh vl vk vt vtl vtk vs vx u.2 vo)) (r, q7) hW (Option.some.inj hE) dX6_given_110
          · rw [if_pos c9] at hE
            refine lv_aload_n hx hb dX6_given_78 rfl (lv_at hl 0 rfl) ?_
            refine cr_get C hW.1 0 rfl rfl 0 (by decide) hinX6 k0 (v := .ref ((a 1) 0)) rfl dX6_given_79 ?_
            refine cr_get C hW.1 1 rfl rfl 0 (by decide) hinX3 k8 (v := .ref ((a 2) 0)) rfl dX6_given_82 ?_
            refine cr_get C hW.1 4 rfl rfl 0 (by decide) hinX4 k9 (v := .ref ((a 2) 1)) rfl dX6_given_85 ?_
            refine lv_aload_n hx hb dX6_given_88 rfl (lv_at hl 0 rfl) ?_
            refine cr_get C hW.1 0 rfl rfl 3 (by decide) hinX6 k3 (v := .ref ((a 8) 0)) rfl dX6_given_89 ?_
            refine cr_get C hW.1 69 rfl rfl 0 (by decide) hinX1 k10 (v := .ref ((a 8) 1)) rfl dX6_given_92 ?_
            refine lv_iload_n hx hb dX6_given_95 rfl (lv_at hl 2 rfl) ?_
            obtain ⟨i11, hE⟩ := cr_ifn hE
            refine cr_ald C hW.1 70 (f := q7 0) (k := cr_x x2) rfl i11 (cr_xe _) dX6_given_96 ?_
            obtain ⟨i12, hE⟩ := cr_ifn hE
            refine cr_ald C hW.1 5 (f := vl 0) (k := cr_x (q7 0 (cr_x x2))) rfl i12 (cr_xe _) dX6_given_97 ?_
            refine lv_goto (tgt := 110) hx hb dX6_given_98 (by decide) ?_
            exact cr_retW C (w := (fun u : (Nat → Nat → Nat → Nat) × cr_V => cr_wX ct a u.1 vh vl vk vt vtl vtk vs vx u.2 vo)) (r, q7) hW (Option.some.inj hE) dX6_given_110
        · rw [if_neg c8] at hE
          refine cr_ldc C k11 dX6_given_71 ?_
          exact cr_retW C (w := (fun u : (Nat → Nat → Nat → Nat) × cr_V => cr_wX ct a u.1 vh vl vk vt vtl vtk vs vx u.2 vo)) (r, q7) hW (Option.some.inj hE) dX6_given_73
      · rw [if_pos c5] at hE
        refine cr_ldc C k2 dX6_given_27 ?_
        exact cr_retW C (w := (fun u : (Nat → Nat → Nat → Nat) × cr_V => cr_wX ct a u.1 vh vl vk vt vtl vtk vs vx u.2 vo)) (r, vd) hW (Option.some.inj hE) dX6_given_29

set_option maxHeartbeats 4000000 in
set_option maxRecDepth 100000 in
theorem m_X6_leastStepsTo (L : Launch) (D : va_G) (ct : Nat → ClassId)   (x0 : Int32) (x1 : Int32) (out : Int32) (hE : f_X6_leastStepsTo x0 x1 = some out) : Met L yX6_leastStepsTo wsX6_leastStepsTo ({ frames := 0, cells := 0, slots := 0, locals := 0 } : Room) (cr_pR D ct ([]) [.int x0, .int x1]) (cr_QR (fun r => r = out)) 0 0 cr_no := by
  refine cr_metR (by decide) rfl rfl (Nat.le_of_ble_eq_true rfl) ?_
  intro p e s m args below meth c ls C hP hS hl
  obtain ⟨hx, hb, hml, hown, hts, hr, hlocks, hK, hN⟩ := id C
  have hl : lv_has ls 2 [(0, .int x0), (1, .int x1)] := hl
  replace hE : (if x1 < x0 then (if 0 < x1 then (if x1 = 0 then none else some (((x0 + x1) - 1) / x1)) else (some 0)) else (some 1)) = some out := hE
  refine lv_iload_n hx hb dX6_leastStepsTo_0 rfl (lv_at hl 1 rfl) ?_
  refine lv_iload_n hx hb dX6_leastStepsTo_1 rfl (lv_at hl 0 rfl) ?_
  refine lv_icmp_lt (tgt := 7) hx hb dX6_leastStepsTo_2 (by decide) (fun c1 => ?_) (fun c1 => ?_)
  · rw [if_pos c1] at hE
    refine lv_iload_n hx hb dX6_leastStepsTo_7 rfl (lv_at hl 1 rfl) ?_
    refine lv_if_gt (tgt := 15) hx hb dX6_leastStepsTo_8 (by decide) (fun c2 => ?_) (fun c2 => ?_)
    · rw [if_pos c2] at hE
      refine lv_iload_n hx hb dX6_leastStepsTo_15 rfl (lv_at hl 0 rfl) ?_
      refine lv_iload_n hx hb dX6_leastStepsTo_16 rfl (lv_at hl 1 rfl) ?_
      refine lv_iadd hx hb dX6_leastStepsTo_17 ?_
      refine lv_iconst (v := 1) hx hb dX6_leastStepsTo_18 (by decide) ?_
      refine lv_isub hx hb dX6_leastStepsTo_19 ?_
      refine lv_iload_n hx hb dX6_leastStepsTo_20 rfl (lv_at hl 1 rfl) ?_
      obtain ⟨z3, hE⟩ := cr_ifz hE
      refine lv_idiv hx hb dX6_leastStepsTo_21 z3 ?_
      exact cr_retR C hS (Option.some.inj hE) dX6_leastStepsTo_22
    · rw [if_neg c2] at hE
      refine lv_iconst (v := 0) hx hb dX6_leastStepsTo_11 (by decide) ?_
      refine lv_goto (tgt := 22) hx hb dX6_leastStepsTo_12 (by decide) ?_
      exact cr_retR C hS (Option.some.inj hE) dX6_leastStepsTo_22
  · rw [if_neg c1] at hE
    refine lv_iconst (v := 1) hx hb dX6_leastStepsTo_5 (by decide) ?_
    exact cr_retR C hS (Option.some.inj hE) dX6_leastStepsTo_6

set_option maxHeartbeats 4000000 in
set_option maxRecDepth 100000 in
theorem m_X6_lift (L : Launch) (D : va_G) (ct : Nat → ClassId) (a : Nat → Nat → Nat) (r : Nat → Nat → Nat → Nat) (vh : cr_V) (vl : cr_V) (vk : cr_V) (vt : cr_V) (vtl : cr_V) (vtk : cr_V) (vs : cr_V) (vx : Nat → Nat → cr_V) (vd : cr_V) (vo : cr_V) (x1 : Int32) (x2 : Int32) (x3 : Int32) (out : Int32) (hE : f_X6_lift vh vl vk vt vtl vtk vs vx vd vo x1 x2 x3 = some out) : Met L yX6_lift wsX6_lift ({ frames := 1, cells := 0, slots := 0, locals := 23 } : Room) (cr_pR D ct (cr_wX ct a r vh vl vk vt vtl vtk vs vx vd vo) [.ref (a 0 0), .int x1, .int x2, .int x3]) (cr_QR (fun r => r = out)) 0 0 cr_no := by
  have k0 : (Cond.constant RX6 102 (-2000000004)) ∈ wsX6_lift := List.mem_of_getElem? (i := 6) rfl
  have k1 : (Cond.fieldLink RX6 10 "CupReceipts" "house" "LCupReceipts$House;") ∈ wsX6_lift := List.mem_of_getElem? (i := 1) rfl
  have k2 : (Cond.fieldLink RX6 81 "CupReceipts$House" "lots" "LCupReceipts$Lots;") ∈ wsX6_lift := List.mem_of_getElem? (i := 2) rfl
  have k3 : (Cond.constant RX6 90 (-2000000001)) ∈ wsX6_lift := List.mem_of_getElem? (i := 3) rfl
  have k4 : (Cond.fieldLink RX6 119 "CupReceipts$House" "month" "I") ∈ wsX6_lift := List.mem_of_getElem? (i := 4) rfl
  have k5 : (Cond.fieldLink RX6 178 "CupReceipts$Lots" "bags" "[I") ∈ wsX6_lift := List.mem_of_getElem? (i := 5) rfl
  have hinX3 : ∀ w ∈ wsX30, w ∈ wsX6_lift := fun w h => List.mem_cons_of_mem _ (List.mem_append_left _ (List.mem_append_right _ h))
  have hinX4 : ∀ w ∈ wsX40, w ∈ wsX6_lift := fun w h => List.mem_cons_of_mem _ (List.mem_append_right _ h)
  have hinX6 : ∀ w ∈ wsX60, w ∈ wsX6_lift := fun w h => List.mem_cons_of_mem _ (List.mem_append_left _ (List.mem_append_left _ (List.mem_append_right _ h)))
  refine cr_metR (by decide) rfl rfl (Nat.le_of_ble_eq_true rfl) ?_
  intro p e s m args below meth c ls C hP hS hl
  obtain ⟨hx, hb, hml, hown, hts, hr, hlocks, hK, hN⟩ := id C
  have hl : lv_has ls 9 [(0, .ref (a 0 0)), (1, .int x1), (2, .int x2), (3, .int x3)] := hl
  have n150 :  ∀ (vh : cr_V) (vl : cr_V) (vk : cr_V) (vt : cr_V) (vtl : cr_V) (vtk : cr_V) (vs : cr_V) (vx : Nat → Nat → cr_V) (vd : cr_V) (vo : cr_V) (hE : f_X6_lift_150  vh vl vk vt vtl vtk vs vx vd vo = some out) (H : Heap) (locs : List Loc) (ls : Array Slot) (hP : va_P D vwCl (cr_wX ct a r vh vl vk vt vtl vtk vs vx vd vo) H) (hS : va_S cr_no s.heap H locs) (hl : lv_has ls 9 []), W p L e ({ frames := 1, cells := 0, slots := 0, locals := 23 } : Room) s m args below meth c H locs 0 0 (MQ below (cr_QR (fun r => r = out)) args s 0 0 cr_no) (F0 m 150 ls []) := by
    intro  vh vl vk vt vtl vtk vs vx vd vo hE H locs ls hP hS hl
    replace hE : (some (-2000000004)) = some out := hE
    refine cr_ldc C k0 dX6_lift_150 ?_
    refine lv_goto (tgt := 157) hx hb dX6_lift_152 (by decide) ?_
    exact cr_retR C hS (Option.some.inj hE) dX6_lift_157
  replace hE : ((f_X4_rowOf vl x1).bind fun q1 => (f_X4_rowOf vl x2).bind fun q2 => if q1 < 0 then (some (-2000000001)) else (if q2 < 0 then (some (-2000000001)) else (if q1 = q2 then (some (-2000000001)) else ((f_X6_isWithin x3 60 100).bind fun q6 => if q6 = 0 then (some (-2000000001)) else ((f_X4_cupAt vl q1 (vh 4 0)).bind fun q8 => if cr_in q1 12 = true then (f_X4_cupAt vl q2 (vh 4 0)).bind fun q10 => (f_X6_leastStepsTo ((x3 - q8) * (vl 1 (cr_x q1))) (q10 - x3)).bind fun q11 => if q11 < 1 then (f_X6_lift_150 vh vl vk vt vtl vtk vs vx vd vo) else (if cr_in q2 12 = true then if q11 ≤ (vl 1 (cr_x q2)) then (some q11) else (f_X6_lift_150 vh vl vk vt vtl vtk vs vx vd vo) else none) else none))))) = some out := hE
  refine lv_aload_n hx hb dX6_lift_0 rfl (lv_at hl 0 rfl) ?_
  refine cr_get C hP 0 rfl rfl 0 (by decide) hinX6 k1 (v := .ref ((a 1) 0)) rfl dX6_lift_1 ?_
  refine cr_get C hP 1 rfl rfl 0 (by decide) hinX3 k2 (v := .ref ((a 2) 0)) rfl dX6_lift_4 ?_
  refine lv_iload_n hx hb dX6_lift_7 rfl (lv_at hl 1 rfl) ?_
  obtain ⟨q1, hq1, hE⟩ := cr_bind hE
  refine cr_vRq (n := 1) (As := [.int x1]) (rest := []) C hP hS (m_X4_rowOf L D ct (a 2) vl x1 q1 hq1) (cwV 1 hts gX6_lift_X4_rowOf rfl rfl rfl (by decide +kernel) ⟨Nat.le_of_ble_eq_true rfl, Nat.le_of_ble_eq_true rfl⟩) [4, 5, 6, 7, 8] rfl 4 rfl rfl rfl hl.1 rfl (Nat.le_of_ble_eq_true rfl) dX6_lift_8 ⟨Nat.zero_le _, Nat.zero_le _⟩ (fun H locs hP hS => ?_)
  refine lv_istore (lv' := [(4, .int q1), (0, .ref (a 0 0)), (1, .int x1), (2, .int x2), (3, .int x3)]) hx hb dX6_lift_11 hl (by decide) rfl (fun ls hl => ?_)
  refine lv_aload_n hx hb dX6_lift_13 rfl (lv_at hl 1 rfl) ?_
  refine cr_get C hP 0 rfl rfl 0 (by decide) hinX6 k1 (v := .ref ((a 1) 0)) rfl dX6_lift_14 ?_
  refine cr_get C hP 1 rfl rfl 0 (by decide) hinX3 k2 (v := .ref ((a 2) 0)) rfl dX6_lift_17 ?_
  refine lv_iload_n hx hb dX6_lift_20 rfl (lv_at hl 3 rfl) ?_
  obtain ⟨q2, hq2, hE⟩ := cr_bind hE
  refine cr_vRq (n := 1) (As := [.int x2]) (rest := []) C hP hS (m_X4_rowOf L D ct (a 2) vl x2 q2 hq2) (cwV 1 hts gX6_lift_X4_rowOf rfl rfl rfl (by decide +kernel) ⟨Nat.le_of_ble_eq_true rfl, Nat.le_of_ble_eq_true rfl⟩) [4, 5, 6, 7, 8] rfl 4 rfl rfl rfl hl.1 rfl (Nat.le_of_ble_eq_true rfl) dX6_lift_21 ⟨Nat.zero_le _, Nat.zero_le _⟩ (fun H locs hP hS => ?_)
  refine lv_istore (lv' := [(5, .int q2), (4, .int q1), (0, .ref (a 0 0)), (1, .int x1), (2, .int x2), (3, .int x3)]) hx hb dX6_lift_24 hl (by decide) rfl (fun ls hl => ?_)
  refine lv_iload hx hb dX6_lift_26 (lv_at hl 1 rfl) ?_
  refine lv_if_lt (tgt := 54) hx hb dX6_lift_28 (by decide) (fun c3 => ?_) (fun c3 => ?_)
  · rw [if_pos c3] at hE
    refine cr_ldc C k3 dX6_lift_54 ?_
    exact cr_retR C hS (Option.some.inj hE) dX6_lift_56
  · rw [if_neg c3] at hE
    refine lv_iload hx hb dX6_lift_31 (lv_at hl 0 rfl) ?_
    refine lv_if_lt (tgt := 54) hx hb dX6_lift_33 (by decide) (fun c4 => ?_) (fun c4 => ?_)
    · rw [if_pos c4] at hE
      refine cr_ldc C k3 dX6_lift_54 ?_
      exact cr_retR C hS (Option.some.inj hE) dX6_lift_56
    · rw [if_neg c4] at hE
      refine lv_iload hx hb dX6_lift_36 (lv_at hl 1 rfl) ?_
      refine lv_iload hx hb dX6_lift_38 (lv_at hl 0 rfl) ?_
      refine lv_icmp_eq (tgt := 54) hx hb dX6_lift_40 (by decide) (fun c5 => ?_) (fun c5 => ?_)
      · rw [if_pos c5] at hE
        refine cr_ldc C k3 dX6_lift_54 ?_
        exact cr_retR C hS (Option.some.inj hE) dX6_lift_56
      · rw [if_neg c5] at hE
        refine lv_iload_n hx hb dX6_lift_43 rfl (lv_at hl 5 rfl) ?_
        refine lv_bipush (v := 60) hx hb dX6_lift_44 (by decide) ?_
        refine lv_bipush (v := 100) hx hb dX6_lift_46 (by decide) ?_
        obtain ⟨q6, hq6, hE⟩ := cr_bind hE
        refine cr_sRq (n := 3) (As := [.int x3, .int 60, .int 100]) (rest := []) C hP hS (m_X6_isWithin L D ct x3 60 100 q6 hq6) (va_cwS 3 hts gX6_lift_X6_isWithin rfl rfl rfl (by decide +kernel) ⟨Nat.le_of_ble_eq_true rfl, Nat.le_of_ble_eq_true rfl⟩) rfl hl.1 rfl (Nat.le_of_ble_eq_true rfl) dX6_lift_48 ⟨Nat.zero_le _, Nat.zero_le _⟩ (fun H locs hP hS => ?_)
        refine lv_if_ne (tgt := 57) hx hb dX6_lift_51 (by decide) (fun c7 => ?_) (fun c7 => ?_)
        · rw [if_neg c7] at hE
          refine lv_iload_n hx hb dX6_lift_57 rfl (lv_at hl 5 rfl) ?_
          refine lv_aload_n hx hb dX6_lift_58 rfl (lv_at hl 2 rfl) ?_
          refine cr_get C hP 0 rfl rfl 0 (by decide) hinX6 k1 (v := .ref ((a 1) 0)) rfl dX6_lift_59 ?_
          refine cr_get C hP 1 rfl rfl 0 (by decide) hinX3 k2 (v := .ref ((a 2) 0)) rfl dX6_lift_62 ?_
          refine lv_iload hx hb dX6_lift_65 (lv_at hl 1 rfl) ?_
          refine lv_aload_n hx hb dX6_lift_67 rfl (lv_at hl 2 rfl) ?_
          refine cr_get C hP 0 rfl rfl 0 (by decide) hinX6 k1 (v := .ref ((a 1) 0)) rfl dX6_lift_68 ?_
          refine cr_get C hP 1 rfl rfl 4 (by decide) hinX3 k4 (v := .int (vh 4 0)) rfl dX6_lift_71 ?_
          obtain ⟨q8, hq8, hE⟩ := cr_bind hE
          refine cr_vRq (n := 2) (As := [.int q1, .int (vh 4 0)]) (rest := [.int x3]) C hP hS (m_X4_cupAt L D ct (a 2) vl q1 (vh 4 0) q8 hq8) (cwV 2 hts gX6_lift_X4_cupAt rfl rfl rfl (by decide +kernel) ⟨Nat.le_of_ble_eq_true rfl, Nat.le_of_ble_eq_true rfl⟩) [4, 5, 6, 7, 8] rfl 4 rfl rfl rfl hl.1 rfl (Nat.le_of_ble_eq_true rfl) dX6_lift_74 ⟨Nat.zero_le _, Nat.zero_le _⟩ (fun H locs hP hS => ?_)
          refine lv_isub hx hb dX6_lift_77 ?_
          refine lv_aload_n hx hb dX6_lift_78 rfl (lv_at hl 2 rfl) ?_
          refine cr_get C hP 0 rfl rfl 0 (by decide) hinX6 k1 (v := .ref ((a 1) 0)) rfl dX6_lift_79 ?_
          refine cr_get C hP 1 rfl rfl 0 (by decide) hinX3 k2 (v := .ref ((a 2) 0)) rfl dX6_lift_82 ?_
          refine cr_get C hP 4 rfl rfl 1 (by decide) hinX4 k5 (v := .ref ((a 2) 2)) rfl dX6_lift_85 ?_
          refine lv_iload hx hb dX6_lift_88 (lv_at hl 1 rfl) ?_
          obtain ⟨i9, hE⟩ := cr_ifn hE
          refine cr_ald C hP 6 (f := vl 1) (k := cr_x q1) rfl i9 (cr_xe _) dX6_lift_90 ?_
          refine lv_imul hx hb dX6_lift_91 ?_
          refine lv_istore (lv' := [(6, .int ((x3 - q8) * (vl 1 (cr_x q1)))), (5, .int q2), (4, .int q1), (0, .ref (a 0 0)), (1, .int x1), (2, .int x2), (3, .int x3)]) hx hb dX6_lift_92 hl (by decide) rfl (fun ls hl => ?_)
          refine lv_aload_n hx hb dX6_lift_94 rfl (lv_at hl 3 rfl) ?_
          refine cr_get C hP 0 rfl rfl 0 (by decide) hinX6 k1 (v := .ref ((a 1) 0)) rfl dX6_lift_95 ?_
          refine cr_get C hP 1 rfl rfl 0 (by decide) hinX3 k2 (v := .ref ((a 2) 0)) rfl dX6_lift_98 ?_
          refine lv_iload hx hb dX6_lift_101 (lv_at hl 1 rfl) ?_
          refine lv_aload_n hx hb dX6_lift_103 rfl (lv_at hl 3 rfl) ?_
          refine cr_get C hP 0 rfl rfl 0 (by decide) hinX6 k1 (v := .ref ((a 1) 0)) rfl dX6_lift_104 ?_
          refine cr_get C hP 1 rfl rfl 4 (by decide) hinX3 k4 (v := .int (vh 4 0)) rfl dX6_lift_107 ?_
          obtain ⟨q10, hq10, hE⟩ := cr_bind hE
          refine cr_vRq (n := 2) (As := [.int q2, .int (vh 4 0)]) (rest := []) C hP hS (m_X4_cupAt L D ct (a 2) vl q2 (vh 4 0) q10 hq10) (cwV 2 hts gX6_lift_X4_cupAt rfl rfl rfl (by decide +kernel) ⟨Nat.le_of_ble_eq_true rfl, Nat.le_of_ble_eq_true rfl⟩) [4, 5, 6, 7, 8] rfl 4 rfl rfl rfl hl.1 rfl (Nat.le_of_ble_eq_true rfl) dX6_lift_110 ⟨Nat.zero_le _, Nat.zero_le _⟩ (fun H locs hP hS => ?_)
          refine lv_iload_n hx hb dX6_lift_113 rfl (lv_at hl 6 rfl) ?_
          refine lv_isub hx hb dX6_lift_114 ?_
          refine lv_istore (lv' := [(7, .int (q10 - x3)), (6, .int ((x3 - q8) * (vl 1 (cr_x q1)))), (5, .int q2), (4, .int q1), (0, .ref (a 0 0)), (1, .int x1), (2, .int x2), (3, .int x3)]) hx hb dX6_lift_115 hl (by decide) rfl (fun ls hl => ?_)
          refine lv_iload hx hb dX6_lift_117 (lv_at hl 1 rfl) ?_
          refine lv_iload hx hb dX6_lift_119 (lv_at hl 0 rfl) ?_
          obtain ⟨q11, hq11, hE⟩ := cr_bind hE
          refine cr_sRq (n := 2) (As := [.int ((x3 - q8) * (vl 1 (cr_x q1))), .int (q10 - x3)]) (rest := []) C hP hS (m_X6_leastStepsTo L D ct ((x3 - q8) * (vl 1 (cr_x q1))) (q10 - x3) q11 hq11) (va_cwS 2 hts gX6_lift_X6_leastStepsTo rfl rfl rfl (by decide +kernel) ⟨Nat.le_of_ble_eq_true rfl, Nat.le_of_ble_eq_true rfl⟩) rfl hl.1 rfl (Nat.le_of_ble_eq_true rfl) dX6_lift_121 ⟨Nat.zero_le _, Nat.zero_le _⟩ (fun H locs hP hS => ?_)
          refine lv_istore (lv' := [(8, .int q11), (7, .int (q10 - x3)), (6, .int ((x3 - q8) * (vl 1 (cr_x q1)))), (5, .int q2), (4, .int q1), (0, .ref (a 0 0)), (1, .int x1), (2, .int x2), (3, .int x3)]) hx hb dX6_lift_124 hl (by decide) rfl (fun ls hl => ?_)
          refine lv_iload hx hb dX6_lift_126 (lv_at hl 0 rfl) ?_
          refine lv_iconst (v := 1) hx hb dX6_lift_128 (by decide) ?_
          refine lv_icmp_lt (tgt := 150) hx hb dX6_lift_129 (by decide) (fun c12 => ?_) (fun c12 => ?_)
          · rw [if_pos c12] at hE
            exact n150 vh vl vk vt vtl vtk vs vx vd vo hE _ _ _ hP hS (lv_sub hl [] rfl)
          · rw [if_neg c12] at hE
            refine lv_iload hx hb dX6_lift_132 (lv_at hl 0 rfl) ?_
            refine lv_aload_n hx hb dX6_lift_134 rfl (lv_at hl 5 rfl) ?_
            refine cr_get C hP 0 rfl rfl 0 (by decide) hinX6 k1 (v := .ref ((a 1) 0)) rfl dX6_lift_135 ?_
            refine cr_get C hP 1 rfl rfl 0 (by decide) hinX3 k2 (v := .ref ((a 2) 0)) rfl dX6_lift_138 ?_
            refine cr_get C hP 4 rfl rfl 1 (by decide) hinX4 k5 (v := .ref ((a 2) 2)) rfl dX6_lift_141 ?_
            refine lv_iload hx hb dX6_lift_144 (lv_at hl 3 rfl) ?_
            obtain ⟨i13, hE⟩ := cr_ifn hE
            refine cr_ald C hP 6 (f := vl 1) (k := cr_x q2) rfl i13 (cr_xe _) dX6_lift_146 ?_
            refine lv_icmp_le (tgt := 155) hx hb dX6_lift_147 (by decide) (fun c14 => ?_) (fun c14 => ?_)
            · rw [if_pos c14] at hE
              refine lv_iload hx hb dX6_lift_155 (lv_at hl 0 rfl) ?_
              exact cr_retR C hS (Option.some.inj hE) dX6_lift_157
            · rw [if_neg c14] at hE
              exact n150 vh vl vk vt vtl vtk vs vx vd vo hE _ _ _ hP hS (lv_sub hl [] rfl)
        · rw [if_pos c7] at hE
          refine cr_ldc C k3 dX6_lift_54 ?_
          exact cr_retR C hS (Option.some.inj hE) dX6_lift_56

set_option maxHeartbeats 4000000 in
set_option maxRecDepth 100000 in
theorem m_X6_bestMonth (L : Launch) (D : va_G) (ct : Nat → ClassId) (a : Nat → Nat → Nat) (r : Nat → Nat → Nat → Nat) (vh : cr_V) (vl : cr_V) (vk : cr_V) (vt : cr_V) (vtl : cr_V) (vtk : cr_V) (vs : cr_V) (vx : Nat → Nat → cr_V) (vd : cr_V) (vo : cr_V) (x1 : Int32) (x2 : Int32) (sz : Nat) (out : Int32 × cr_V) (hE : f_X6_bestMonth vh vl vk vt vtl vtk vs vx vd vo x1 x2 = some out) : Met L yX6_bestMonth wsX6_bestMonth ({ frames := 3, cells := 0, slots := 0, locals := 74 } : Room) (cr_pW D ct (cr_wX ct a r vh vl vk vt vtl vtk vs vx vd vo) sz [.ref (a 0 0), .int x1, .int x2]) (cr_QW D (cr_wX ct a r vh vl vk vt vtl vtk vs vx vd vo) sz (fun r (u : (Nat → Nat → Nat → Nat) × cr_V) => (r, u.2) = out) (fun u : (Nat → Nat → Nat → Nat) × cr_V => cr_wX ct a u.1 vh vl vk vt vtl vtk vs vx u.2 vo)) 0 0 (va_A (cr_wX ct a r vh vl vk vt vtl vtk vs vx vd vo) sz) := by
  have k0 : (Cond.fieldLink RX6 29 "CupReceipts" "delivery" "LCupReceipts$Delivery;") ∈ wsX6_bestMonth := List.mem_of_getElem? (i := 5) rfl
  have k1 : (Cond.fieldLink RX6 162 "CupReceipts$Delivery" "gain" "I") ∈ wsX6_bestMonth := List.mem_of_getElem? (i := 7) rfl
  have k2 : (Cond.constant RX6 102 (-2000000004)) ∈ wsX6_bestMonth := List.mem_of_getElem? (i := 2) rfl
  have k3 : (Cond.constant RX6 165 (1000000)) ∈ wsX6_bestMonth := List.mem_of_getElem? (i := 8) rfl
  have k4 : (Cond.fieldLink RX6 10 "CupReceipts" "house" "LCupReceipts$House;") ∈ wsX6_bestMonth := List.mem_of_getElem? (i := 3) rfl
  have k5 : (Cond.fieldLink RX6 119 "CupReceipts$House" "month" "I") ∈ wsX6_bestMonth := List.mem_of_getElem? (i := 4) rfl
  have k6 : (Cond.fieldLink RX6 155 "CupReceipts$Delivery" "missing" "I") ∈ wsX6_bestMonth := List.mem_of_getElem? (i := 6) rfl
  have k7 : (Cond.constant RX6 90 (-2000000001)) ∈ wsX6_bestMonth := List.mem_of_getElem? (i := 1) rfl
  have hinX1 : ∀ w ∈ wsX10, w ∈ wsX6_bestMonth := fun w h => List.mem_cons_of_mem _ (List.mem_append_left _ (List.mem_append_right _ h))
  have hinX3 : ∀ w ∈ wsX30, w ∈ wsX6_bestMonth := fun w h => List.mem_cons_of_mem _ (List.mem_append_left _ (List.mem_append_left _ (List.mem_append_right _ h)))
  have hinX6 : ∀ w ∈ wsX60, w ∈ wsX6_bestMonth := fun w h => List.mem_cons_of_mem _ (List.mem_append_left _ (List.mem_append_left _ (List.mem_append_left _ (List.mem_append_right _ h))))
  refine cr_metW (Qc := fun A => va_Qi (fun r (u : (Nat → Nat → Nat → Nat) × cr_V) => (r, u.2) = out) (fun u t => cr_at D A ((fun u : (Nat → Nat → Nat → Nat) × cr_V => cr_wX ct a u.1 vh vl vk vt vtl vtk vs vx u.2 vo) u) t) A) (by decide) rfl rfl (Nat.le_of_ble_eq_true rfl) ?_
  intro p e s m args below meth c ls A C hW hl
  obtain ⟨hx, hb, hml, hown, hts, hr, hlocks, hK, hN⟩ := id C
  have hl : lv_has ls 6 [(0, .ref (a 0 0)), (1, .int x1), (2, .int x2)] := hl
  have n121 : ∀ (k32_ : cr_V → cr_V → cr_V → cr_V → cr_V → cr_V → cr_V → (Nat → Nat → cr_V) → cr_V → cr_V → Int32 → Int32 → Int32 → Int32 → Int32 → Option (Int32 × cr_V)) (ih32_ : ∀ (vh : cr_V) (vl : cr_V) (vk : cr_V) (vt : cr_V) (vtl : cr_V) (vtk : cr_V) (vs : cr_V) (vx : Nat → Nat → cr_V) (vd : cr_V) (vo : cr_V) (x1 : Int32) (x2 : Int32) (x3 : Int32) (x4 : Int32) (x5 : Int32) (hE : k32_ vh vl vk vt vtl vtk vs vx vd vo x1 x2 x3 x4 x5 = some out) (r : Nat → Nat → Nat → Nat) (H : Heap) (locs : List Loc) (ls : Array Slot) (hW : cr_wd D A s (cr_wX ct a r vh vl vk vt vtl vtk vs vx vd vo) H locs) (hl : lv_has ls 6 [(0, .ref (a 0 0)), (1, .int x1), (2, .int x2), (3, .int x3), (4, .int x4), (5, .int x5)]), W p L e ({ frames := 3, cells := 0, slots := 0, locals := 74 } : Room) s m args below meth c H locs 0 0 (MQ below (va_Qi (fun r (u : (Nat → Nat → Nat → Nat) × cr_V) => (r, u.2) = out) (fun u t => cr_at D A ((fun u : (Nat → Nat → Nat → Nat) × cr_V => cr_wX ct a u.1 vh vl vk vt vtl vtk vs vx u.2 vo) u) t) A) args s 0 0 A) (F0 m 32 ls [])), ∀ (vh : cr_V) (vl : cr_V) (vk : cr_V) (vt : cr_V) (vtl : cr_V) (vtk : cr_V) (vs : cr_V) (vx : Nat → Nat → cr_V) (vd : cr_V) (vo : cr_V) (x1 : Int32) (x2 : Int32) (x3 : Int32) (x4 : Int32) (x5 : Int32) (hE : f_X6_bestMonth_121 k32_ vh vl vk vt vtl vtk vs vx vd vo x1 x2 x3 x4 x5 = some out) (r : Nat → Nat → Nat → Nat) (H : Heap) (locs : List Loc) (ls : Array Slot) (hW : cr_wd D A s (cr_wX ct a r vh vl vk vt vtl vtk vs vx vd vo) H locs) (hl : lv_has ls 6 [(0, .ref (a 0 0)), (1, .int x1), (2, .int x2), (3, .int x3), (4, .int x4), (5, .int x5)]), W p L e ({ frames := 3, cells := 0, slots := 0, locals := 74 } : Room) s m args below meth c H locs 0 0 (MQ below (va_Qi (fun r (u : (Nat → Nat → Nat → Nat) × cr_V) => (r, u.2) = out) (fun u t => cr_at D A ((fun u : (Nat → Nat → Nat → Nat) × cr_V => cr_wX ct a u.1 vh vl vk vt vtl vtk vs vx u.2 vo) u) t) A) args s 0 0 A) (F0 m 121 ls []) := by
    intro k32_ ih32_ vh vl vk vt vtl vtk vs vx vd vo x1 x2 x3 x4 x5 hE r H locs ls hW hl
    replace hE : (k32_ vh vl vk vt vtl vtk vs vx vd vo x1 x2 x3 x4 (x5 + 1)) = some out := hE
    refine lv_iinc (v := x5 + 1) (lv' := [(5, .int (x5 + 1)), (0, .ref (a 0 0)), (1, .int x1), (2, .int x2), (3, .int x3), (4, .int x4)]) hx hb dX6_bestMonth_121 hl (k := 5) rfl (by first | rfl | decide) (by decide) rfl (fun ls hl => ?_)
    refine lv_goto (tgt := 32) hx hb dX6_bestMonth_124 (by decide) ?_
    exact ih32_ vh vl vk vt vtl vtk vs vx vd vo x1 x2 x3 x4 (x5 + 1) hE _ _ _ _ hW (lv_sub hl [1, 2, 3, 4, 5, 0] rfl)
  have n109 : ∀ (k32_ : cr_V → cr_V → cr_V → cr_V → cr_V → cr_V → cr_V → (Nat → Nat → cr_V) → cr_V → cr_V → Int32 → Int32 → Int32 → Int32 → Int32 → Option (Int32 × cr_V)) (ih32_ : ∀ (vh : cr_V) (vl : cr_V) (vk : cr_V) (vt : cr_V) (vtl : cr_V) (vtk : cr_V) (vs : cr_V) (vx : Nat → Nat → cr_V) (vd : cr_V) (vo : cr_V) (x1 : Int32) (x2 : Int32) (x3 : Int32) (x4 : Int32) (x5 : Int32) (hE : k32_ vh vl vk vt vtl vtk vs vx vd vo x1 x2 x3 x4 x5 = some out) (r : Nat → Nat → Nat → Nat) (H : Heap) (locs : List Loc) (ls : Array Slot) (hW : cr_wd D A s (cr_wX ct a r vh vl vk vt vtl vtk vs vx vd vo) H locs) (hl : lv_has ls 6 [(0, .ref (a 0 0)), (1, .int x1), (2, .int x2), (3, .int x3), (4, .int x4), (5, .int x5)]), W p L e ({ frames := 3, cells := 0, slots := 0, locals := 74 } : Room) s m args below meth c H locs 0 0 (MQ below (va_Qi (fun r (u : (Nat → Nat → Nat → Nat) × cr_V) => (r, u.2) = out) (fun u t => cr_at D A ((fun u : (Nat → Nat → Nat → Nat) × cr_V => cr_wX ct a u.1 vh vl vk vt vtl vtk vs vx u.2 vo) u) t) A) args s 0 0 A) (F0 m 32 ls [])), ∀ (vh : cr_V) (vl : cr_V) (vk : cr_V) (vt : cr_V) (vtl : cr_V) (vtk : cr_V) (vs : cr_V) (vx : Nat → Nat → cr_V) (vd : cr_V) (vo : cr_V) (x1 : Int32) (x2 : Int32) (x5 : Int32) (hE : f_X6_bestMonth_109 k32_ vh vl vk vt vtl vtk vs vx vd vo x1 x2 x5 = some out) (r : Nat → Nat → Nat → Nat) (H : Heap) (locs : List Loc) (ls : Array Slot) (hW : cr_wd D A s (cr_wX ct a r vh vl vk vt vtl vtk vs vx vd vo) H locs) (hl : lv_has ls 6 [(0, .ref (a 0 0)), (1, .int x1), (2, .int x2), (5, .int x5)]), W p L e ({ frames := 3, cells := 0, slots := 0, locals := 74 } : Room) s m args below meth c H locs 0 0 (MQ below (va_Qi (fun r (u : (Nat → Nat → Nat → Nat) × cr_V) => (r, u.2) = out) (fun u t => cr_at D A ((fun u : (Nat → Nat → Nat → Nat) × cr_V => cr_wX ct a u.1 vh vl vk vt vtl vtk vs vx u.2 vo) u) t) A) args s 0 0 A) (F0 m 109 ls []) := by
    intro k32_ ih32_ vh vl vk vt vtl vtk vs vx vd vo x1 x2 x5 hE r H locs ls hW hl
    replace hE : (f_X6_bestMonth_121 k32_ vh vl vk vt vtl vtk vs vx vd vo x1 x2 x5 (vd 5 0) x5) = some out := hE
    refine lv_iload hx hb dX6_bestMonth_109 (lv_at hl 3 rfl) ?_
    refine lv_istore_n (lv' := [(3, .int x5), (0, .ref (a 0 0)), (1, .int x1), (2, .int x2), (5, .int x5)]) hx hb dX6_bestMonth_111 rfl hl (by decide) rfl (fun ls hl => ?_)
    refine lv_aload_n hx hb dX6_bestMonth_112 rfl (lv_at hl 1 rfl) ?_
    refine cr_get C hW.1 0 rfl rfl 3 (by decide) hinX6 k0 (v := .ref ((a 8) 0)) rfl dX6_bestMonth_113 ?_
    refine cr_get C hW.1 69 rfl rfl 5 (by decide) hinX1 k1 (v := .int (vd 5 0)) rfl dX6_bestMonth_116 ?_
    refine lv_istore (lv' := [(4, .int (vd 5 0)), (3, .int x5), (0, .ref (a 0 0)), (1, .int x1), (2, .int x2), (5, .int x5)]) hx hb dX6_bestMonth_119 hl (by decide) rfl (fun ls hl => ?_)
    exact n121 k32_ ih32_ vh vl vk vt vtl vtk vs vx vd vo x1 x2 x5 (vd 5 0) x5 hE _ _ _ _ hW (lv_sub hl [2, 3, 4, 1, 0, 5] rfl)
  have n137 :  ∀ (vh : cr_V) (vl : cr_V) (vk : cr_V) (vt : cr_V) (vtl : cr_V) (vtk : cr_V) (vs : cr_V) (vx : Nat → Nat → cr_V) (vd : cr_V) (vo : cr_V) (x3 : Int32) (hE : f_X6_bestMonth_137  vh vl vk vt vtl vtk vs vx vd vo x3 = some out) (r : Nat → Nat → Nat → Nat) (H : Heap) (locs : List Loc) (ls : Array Slot) (hW : cr_wd D A s (cr_wX ct a r vh vl vk vt vtl vtk vs vx vd vo) H locs) (hl : lv_has ls 6 [(3, .int x3)]), W p L e ({ frames := 3, cells := 0, slots := 0, locals := 74 } : Room) s m args below meth c H locs 0 0 (MQ below (va_Qi (fun r (u : (Nat → Nat → Nat → Nat) × cr_V) => (r, u.2) = out) (fun u t => cr_at D A ((fun u : (Nat → Nat → Nat → Nat) × cr_V => cr_wX ct a u.1 vh vl vk vt vtl vtk vs vx u.2 vo) u) t) A) args s 0 0 A) (F0 m 137 ls []) := by
    intro  vh vl vk vt vtl vtk vs vx vd vo x3 hE r H locs ls hW hl
    replace hE : (some (x3, vd)) = some out := hE
    refine lv_iload_n hx hb dX6_bestMonth_137 rfl (lv_at hl 0 rfl) ?_
    refine lv_goto (tgt := 146) hx hb dX6_bestMonth_138 (by decide) ?_
    exact cr_retW C (w := (fun u : (Nat → Nat → Nat → Nat) × cr_V => cr_wX ct a u.1 vh vl vk vt vtl vtk vs vx u.2 vo)) (r, vd) hW (Option.some.inj hE) dX6_bestMonth_146
  have n32 :  ∀ (n : Nat), ∀ (vh : cr_V) (vl : cr_V) (vk : cr_V) (vt : cr_V) (vtl : cr_V) (vtk : cr_V) (vs : cr_V) (vx : Nat → Nat → cr_V) (vd : cr_V) (vo : cr_V) (x1 : Int32) (x2 : Int32) (x3 : Int32) (x4 : Int32) (x5 : Int32) (hE : f_X6_bestMonth_32  n vh vl vk vt vtl vtk vs vx vd vo x1 x2 x3 x4 x5 = some out) (r : Nat → Nat → Nat → Nat) (H : Heap) (locs : List Loc) (ls : Array Slot) (hW : cr_wd D A s (cr_wX ct a r vh vl vk vt vtl vtk vs vx vd vo) H locs) (hl : lv_has ls 6 [(0, .ref (a 0 0)), (1, .int x1), (2, .int x2), (3, .int x3), (4, .int x4), (5, .int x5)]), W p L e ({ frames := 3, cells := 0, slots := 0, locals := 74 } : Room) s m args below meth c H locs 0 0 (MQ below (va_Qi (fun r (u : (Nat → Nat → Nat → Nat) × cr_V) => (r, u.2) = out) (fun u t => cr_at D A ((fun u : (Nat → Nat → Nat → Nat) × cr_V => cr_wX ct a u.1 vh vl vk vt vtl vtk vs vx u.2 vo) u) t) A) args s 0 0 A) (F0 m 32 ls []) := by
    intro  n
    induction n with
    | zero =>
      intro vh vl vk vt vtl vtk vs vx vd vo x1 x2 x3 x4 x5 hE
      cases hE
    | succ n ih =>
      intro vh vl vk vt vtl vtk vs vx vd vo x1 x2 x3 x4 x5 hE r H locs ls hW hl
      replace hE : (if 24 ≤ x5 then (if x2 = 0 then (f_X6_bestMonth_137 vh vl vk vt vtl vtk vs vx vd vo x3) else (if x3 = (-2000000004) then (f_X6_bestMonth_137 vh vl vk vt vtl vtk vs vx vd vo x3) else (some ((x4 + 1000000), vd)))) else ((f_X3_isDeliveryMonth vh vl vk ((vh 4 0) + x5)).bind fun q4 => if q4 = 0 then (f_X6_bestMonth_121 (f_X6_bestMonth_32 n) vh vl vk vt vtl vtk vs vx vd vo x1 x2 x3 x4 x5) else ((f_X1_plan vd vh vl vk x1 ((vh 4 0) + x5)).bind fun q6 => if (q6 3 0) = 0 then (if x3 = (-2000000004) then (f_X6_bestMonth_109 (f_X6_bestMonth_32 n) vh vl vk vt vtl vtk vs vx q6 vo x1 x2 x5) else (if (q6 5 0) ≤ x4 then (f_X6_bestMonth_121 (f_X6_bestMonth_32 n) vh vl vk vt vtl vtk vs vx q6 vo x1 x2 x3 x4 x5) else (f_X6_bestMonth_109 (f_X6_bestMonth_32 n) vh vl vk vt vtl vtk vs vx q6 vo x1 x2 x5))) else (f_X6_bestMonth_121 (f_X6_bestMonth_32 n) vh vl vk vt vtl vtk vs vx q6 vo x1 x2 x3 x4 x5)))) = some out := hE
      refine lv_iload hx hb dX6_bestMonth_32 (lv_at hl 5 rfl) ?_
      refine lv_bipush (v := 24) hx hb dX6_bestMonth_34 (by decide) ?_
      refine lv_icmp_ge (tgt := 127) hx hb dX6_bestMonth_36 (by decide) (fun c1 => ?_) (fun c1 => ?_)
      · rw [if_pos c1] at hE
        refine lv_iload_n hx hb dX6_bestMonth_127 rfl (lv_at hl 2 rfl) ?_
        refine lv_if_eq (tgt := 137) hx hb dX6_bestMonth_128 (by decide) (fun c2 => ?_) (fun c2 => ?_)
        · rw [if_pos c2] at hE
          exact n137 vh vl vk vt vtl vtk vs vx vd vo x3 hE _ _ _ _ hW (lv_sub hl [3] rfl)
        · rw [if_neg c2] at hE
          refine lv_iload_n hx hb dX6_bestMonth_131 rfl (lv_at hl 3 rfl) ?_
          refine cr_ldc C k2 dX6_bestMonth_132 ?_
          refine lv_icmp_ne (tgt := 141) hx hb dX6_bestMonth_134 (by decide) (fun c3 => ?_) (fun c3 => ?_)
          · rw [if_neg c3] at hE
            refine lv_iload hx hb dX6_bestMonth_141 (lv_at hl 4 rfl) ?_
            refine cr_ldc C k3 dX6_bestMonth_143 ?_
            refine lv_iadd hx hb dX6_bestMonth_145 ?_
            exact cr_retW C (w := (fun u : (Nat → Nat → Nat → Nat) × cr_V => cr_wX ct a u.1 vh vl vk vt vtl vtk vs vx u.2 vo)) (r, vd) hW (Option.some.inj hE) dX6_bestMonth_146
          · rw [if_pos c3] at hE
            exact n137 vh vl vk vt vtl vtk vs vx vd vo x3 hE _ _ _ _ hW (lv_sub hl [3] rfl)
      · rw [if_neg c1] at hE
        refine lv_aload_n hx hb dX6_bestMonth_39 rfl (lv_at hl 0 rfl) ?_
        refine cr_get C hW.1 0 rfl rfl 0 (by decide) hinX6 k4 (v := .ref ((a 1) 0)) rfl dX6_bestMonth_40 ?_
        refine lv_aload_n hx hb dX6_bestMonth_43 rfl (lv_at hl 0 rfl) ?_
        refine cr_get C hW.1 0 rfl rfl 0 (by decide) hinX6 k4 (v := .ref ((a 1) 0)) rfl dX6_bestMonth_44 ?_
        refine cr_get C hW.1 1 rfl rfl 4 (by decide) hinX3 k5 (v := .int (vh 4 0)) rfl dX6_bestMonth_47 ?_
        refine lv_iload hx hb dX6_bestMonth_50 (lv_at hl 5 rfl) ?_
        refine lv_iadd hx hb dX6_bestMonth_52 ?_
        obtain ⟨q4, hq4, hE⟩ := cr_bind hE
        refine cr_vRwq (n := 1) (As := [.int ((vh 4 0) + x5)]) (rest := []) C hW (m_X3_isDeliveryMonth L D ct (a 1) (a 2) (a 3) vh vl vk ((vh 4 0) + x5) q4 hq4) (cwV 1 hts gX6_bestMonth_X3_isDeliveryMonth rfl rfl rfl (by decide +kernel) ⟨Nat.le_of_ble_eq_true rfl, Nat.le_of_ble_eq_true rfl⟩) [1, 2, 3, 4, 5, 6, 7, 8, 9, 10, 11] rfl 1 rfl rfl rfl hl.1 rfl (Nat.le_of_ble_eq_true rfl) dX6_bestMonth_53 ⟨Nat.zero_le _, Nat.zero_le _⟩ (fun H locs hW => ?_)
        refine lv_if_eq (tgt := 121) hx hb dX6_bestMonth_56 (by decide) (fun c5 => ?_) (fun c5 => ?_)
        · rw [if_pos c5] at hE
          exact n121 (f_X6_bestMonth_32 n) ih vh vl vk vt vtl vtk vs vx vd vo x1 x2 x3 x4 x5 hE _ _ _ _ hW (lv_sub hl [0, 1, 2, 3, 4, 5] rfl)
        · rw [if_neg c5] at hE
          refine lv_aload_n hx hb dX6_bestMonth_59 rfl (lv_at hl 0 rfl) ?_
          refine cr_get C hW.1 0 rfl rfl 3 (by decide) hinX6 k0 (v := .ref ((a 8) 0)) rfl dX6_bestMonth_60 ?_
          refine lv_aload_n hx hb dX6_bestMonth_63 rfl (lv_at hl 0 rfl) ?_
          refine cr_get C hW.1 0 rfl rfl 0 (by decide) hinX6 k4 (v := .ref ((a 1) 0)) rfl dX6_bestMonth_64 ?_
          refine lv_iload_n hx hb dX6_bestMonth_67 rfl (lv_at hl 1 rfl) ?_
          refine lv_aload_n hx hb dX6_bestMonth_68 rfl (lv_at hl 0 rfl) ?_
          refine cr_get C hW.1 0 rfl rfl 0 (by decide) hinX6 k4 (v := .ref ((a 1) 0)) rfl dX6_bestMonth_69 ?_
          refine cr_get C hW.1 1 rfl rfl 4 (by decide) hinX3 k5 (v := .int (vh 4 0)) rfl dX6_bestMonth_72 ?_
          refine lv_iload hx hb dX6_bestMonth_75 (lv_at hl 5 rfl) ?_
          refine lv_iadd hx hb dX6_bestMonth_77 ?_
          obtain ⟨q6, hq6, hE⟩ := cr_bind hE
          refine cr_vVB (nb := 6) (n := 3) (As := [.ref ((a 1) 0), .int x1, .int ((vh 4 0) + x5)]) (rest := []) C hW (m_X1_plan L D ct (a 8) (a 1) (a 2) (a 3) vd vh vl vk x1 ((vh 4 0) + x5) _ q6 hq6) (cwV 3 hts gX6_bestMonth_X1_plan rfl rfl rfl (by decide +kernel) ⟨Nat.le_of_ble_eq_true rfl, Nat.le_of_ble_eq_true rfl⟩) [4, 1] [0, 2, 3, 5] [cr_wX0 ct a, cr_wH ct (a 1) (a 2) (a 3) vh vl vk, cr_wH ct (a 4) (a 5) (a 6) vt vtl vtk, cr_wR ct (a 7) vs r vx, cr_wD ct (a 8) vd, cr_wO ct (a 9) vo] (cr_wX ct a r vh vl vk vt vtl vtk vs vx q6 vo) [cr_wX0 ct a, cr_wH ct (a 1) (a 2) (a 3) vh vl vk, cr_wH ct (a 4) (a 5) (a 6) vt vtl vtk, cr_wR ct (a 7) vs r vx, cr_wD ct (a 8) q6, cr_wO ct (a 9) vo] ⟨rfl, rfl⟩ ⟨rfl, rfl⟩ rfl rfl rfl (by decide) 69 rfl rfl rfl hl.1 rfl (Nat.le_of_ble_eq_true rfl) dX6_bestMonth_78 ⟨Nat.zero_le _, Nat.zero_le _⟩ (fun H locs hW => ?_)
          refine lv_aload_n hx hb dX6_bestMonth_81 rfl (lv_at hl 0 rfl) ?_
          refine cr_get C hW.1 0 rfl rfl 3 (by decide) hinX6 k0 (v := .ref ((a 8) 0)) rfl dX6_bestMonth_82 ?_
          refine cr_get C hW.1 69 rfl rfl 3 (by decide) hinX1 k6 (v := .int (q6 3 0)) rfl dX6_bestMonth_85 ?_
          refine lv_if_ne (tgt := 121) hx hb dX6_bestMonth_88 (by decide) (fun c7 => ?_) (fun c7 => ?_)
          · rw [if_neg c7] at hE
            exact n121 (f_X6_bestMonth_32 n) ih vh vl vk vt vtl vtk vs vx q6 vo x1 x2 x3 x4 x5 hE _ _ _ _ hW (lv_sub hl [0, 1, 2, 3, 4, 5] rfl)
          · rw [if_pos c7] at hE
            refine lv_iload_n hx hb dX6_bestMonth_91 rfl (lv_at hl 3 rfl) ?_
            refine cr_ldc C k2 dX6_bestMonth_92 ?_
            refine lv_icmp_eq (tgt := 109) hx hb dX6_bestMonth_94 (by decide) (fun c8 => ?_) (fun c8 => ?_)
            · rw [if_pos c8] at hE
              exact n109 (f_X6_bestMonth_32 n) ih vh vl vk vt vtl vtk vs vx q6 vo x1 x2 x5 hE _ _ _ _ hW (lv_sub hl [0, 1, 2, 5] rfl)
            · rw [if_neg c8] at hE
              refine lv_aload_n hx hb dX6_bestMonth_97 rfl (lv_at hl 0 rfl) ?_
              refine cr_get C hW.1 0 rfl rfl 3 (by decide) hinX6 k0 (v := .ref ((a 8) 0)) rfl dX6_bestMonth_98 ?_
              refine cr_get C hW.1 69 rfl rfl 5 (by decide) hinX1 k1 (v := .int (q6 5 0)) rfl dX6_bestMonth_101 ?_
              refine lv_iload hx hb dX6_bestMonth_104 (lv_at hl 4 rfl) ?_
              refine lv_icmp_le (tgt := 121) hx hb dX6_bestMonth_106 (by decide) (fun c9 => ?_) (fun c9 => ?_)
              · rw [if_pos c9] at hE
                exact n121 (f_X6_bestMonth_32 n) ih vh vl vk vt vtl vtk vs vx q6 vo x1 x2 x3 x4 x5 hE _ _ _ _ hW (lv_sub hl [0, 1, 2, 3, 4, 5] rfl)
              · rw [if_neg c9] at hE
                exact n109 (f_X6_bestMonth_32 n) ih vh vl vk vt vtl vtk vs vx q6 vo x1 x2 x5 hE _ _ _ _ hW (lv_sub hl [0, 1, 2, 5] rfl)
  replace hE : ((f_X6_isWithin x1 1 999).bind fun q10 => if q10 = 0 then (some ((-2000000001), vd)) else ((f_X6_isWithin x2 0 1).bind fun q12 => if q12 = 0 then (some ((-2000000001), vd)) else (f_X6_bestMonth_32 10100 vh vl vk vt vtl vtk vs vx vd vo x1 x2 (-2000000004) 0 0))) = some out := hE
  refine lv_iload_n hx hb dX6_bestMonth_0 rfl (lv_at hl 1 rfl) ?_
  refine lv_iconst (v := 1) hx hb dX6_bestMonth_1 (by decide) ?_
  refine lv_sipush (v := 999) hx hb dX6_bestMonth_2 (by decide) ?_
  obtain ⟨q10, hq10, hE⟩ := cr_bind hE
  refine cr_sRwq (n := 3) (As := [.int x1, .int 1, .int 999]) (rest := []) C hW (m_X6_isWithin L D ct x1 1 999 q10 hq10) (va_cwS 3 hts gX6_bestMonth_X6_isWithin rfl rfl rfl (by decide +kernel) ⟨Nat.le_of_ble_eq_true rfl, Nat.le_of_ble_eq_true rfl⟩) rfl hl.1 rfl (Nat.le_of_ble_eq_true rfl) dX6_bestMonth_5 ⟨Nat.zero_le _, Nat.zero_le _⟩ (fun H locs hW => ?_)
  refine lv_if_eq (tgt := 20) hx hb dX6_bestMonth_8 (by decide) (fun c11 => ?_) (fun c11 => ?_)
  · rw [if_pos c11] at hE
    refine cr_ldc C k7 dX6_bestMonth_20 ?_
    exact cr_retW C (w := (fun u : (Nat → Nat → Nat → Nat) × cr_V => cr_wX ct a u.1 vh vl vk vt vtl vtk vs vx u.2 vo)) (r, vd) hW (Option.some.inj hE) dX6_bestMonth_22
  · rw [if_neg c11] at hE
    refine lv_iload_n hx hb dX6_bestMonth_11 rfl (lv_at hl 2 rfl) ?_
    refine lv_iconst (v := 0) hx hb dX6_bestMonth_12 (by decide) ?_
    refine lv_iconst (v := 1) hx hb dX6_bestMonth_13 (by decide) ?_
    obtain ⟨q12, hq12, hE⟩ := cr_bind hE
    refine cr_sRwq (n := 3) (As := [.int x2, .int 0, .int 1]) (rest := []) C hW (m_X6_isWithin L D ct x2 0 1 q12 hq12) (va_cwS 3 hts gX6_bestMonth_X6_isWithin rfl rfl rfl (by decide +kernel) ⟨Nat.le_of_ble_eq_true rfl, Nat.le_of_ble_eq_true rfl⟩) rfl hl.1 rfl (Nat.le_of_ble_eq_true rfl) dX6_bestMonth_14 ⟨Nat.zero_le _, Nat.zero_le _⟩ (fun H locs hW => ?_)
    refine lv_if_ne (tgt := 23) hx hb dX6_bestMonth_17 (by decide) (fun c13 => ?_) (fun c13 => ?_)
    · rw [if_neg c13] at hE
      refine cr_ldc C k2 dX6_bestMonth_23 ?_
      refine lv_istore_n (lv' := [(3, .int (-2000000004)), (0, .ref (a 0 0)), (1, .int x1), (2, .int x2)]) hx hb dX6_bestMonth_25 rfl hl (by decide) rfl (fun ls hl => ?_)
      refine lv_iconst (v := 0) hx hb dX6_bestMonth_26 (by decide) ?_
      refine lv_istore (lv' := [(4, .int 0), (3, .int (-2000000004)), (0, .ref (a 0 0)), (1, .int x1), (2, .int x2)]) hx hb dX6_bestMonth_27 hl (by decide) rfl (fun ls hl => ?_)
      refine lv_iconst (v := 0) hx hb dX6_bestMonth_29 (by decide) ?_
      refine lv_istore (lv' := [(5, .int 0), (4, .int 0), (3, .int (-2000000004)), (0, .ref (a 0 0)), (1, .int x1), (2, .int x2)]) hx hb dX6_bestMonth_30 hl (by decide) rfl (fun ls hl => ?_)
      exact n32 10100 vh vl vk vt vtl vtk vs vx vd vo x1 x2 (-2000000004) 0 0 hE _ _ _ _ hW (lv_sub hl [3, 4, 5, 2, 1, 0] rfl)
    · rw [if_pos c13] at hE
      refine cr_ldc C k7 dX6_bestMonth_20 ?_
      exact cr_retW C (w := (fun u : (Nat → Nat → Nat → Nat) × cr_V => cr_wX ct a u.1 vh vl vk vt vtl vtk vs vx u.2 vo)) (r, vd) hW (Option.some.inj hE) dX6_bestMonth_22

set_option maxHeartbeats 4000000 in
set_option maxRecDepth 100000 in
theorem m_X6_count (L : Launch) (D : va_G) (ct : Nat → ClassId) (a : Nat → Nat → Nat) (r : Nat → Nat → Nat → Nat) (vh : cr_V) (vl : cr_V) (vk : cr_V) (vt : cr_V) (vtl : cr_V) (vtk : cr_V) (vs : cr_V) (vx : Nat → Nat → cr_V) (vd : cr_V) (vo : cr_V) (x1 : Int32) (out : Int32) (hE : f_X6_count vh vl vk vt vtl vtk vs vx vd vo x1 = some out) : Met L yX6_count wsX6_count ({ frames := 3, cells := 0, slots := 0, locals := 67 } : Room) (cr_pR D ct (cr_wX ct a r vh vl vk vt vtl vtk vs vx vd vo) [.ref (a 0 0), .int x1]) (cr_QR (fun r => r = out)) 0 0 cr_no := by
  have k0 : (Cond.fieldLink RX6 22 "CupReceipts" "history" "LCupReceipts$History;") ∈ wsX6_count := List.mem_of_getElem? (i := 3) rfl
  have k1 : (Cond.fieldLink RX6 185 "CupReceipts$History" "states" "I") ∈ wsX6_count := List.mem_of_getElem? (i := 4) rfl
  have k2 : (Cond.fieldLink RX6 36 "CupReceipts" "orders" "LCupReceipts$Orders;") ∈ wsX6_count := List.mem_of_getElem? (i := 5) rfl
  have k3 : (Cond.fieldLink RX6 188 "CupReceipts$Orders" "length" "I") ∈ wsX6_count := List.mem_of_getElem? (i := 6) rfl
  have k4 : (Cond.fieldLink RX6 10 "CupReceipts" "house" "LCupReceipts$House;") ∈ wsX6_count := List.mem_of_getElem? (i := 1) rfl
  have k5 : (Cond.fieldLink RX6 172 "CupReceipts$House" "settings" "[I") ∈ wsX6_count := List.mem_of_getElem? (i := 2) rfl
  have hinX2 : ∀ w ∈ wsX20, w ∈ wsX6_count := fun w h => List.mem_cons_of_mem _ (List.mem_append_left _ (List.mem_append_left _ (List.mem_append_left _ (List.mem_append_right _ h))))
  have hinX3 : ∀ w ∈ wsX30, w ∈ wsX6_count := fun w h => List.mem_cons_of_mem _ (List.mem_append_left _ (List.mem_append_left _ (List.mem_append_left _ (List.mem_append_left _ (List.mem_append_right _ h)))))
  have hinX5 : ∀ w ∈ wsX50, w ∈ wsX6_count := fun w h => List.mem_cons_of_mem _ (List.mem_append_left _ (List.mem_append_left _ (List.mem_append_right _ h)))
  have hinX6 : ∀ w ∈ wsX60, w ∈ wsX6_count := fun w h => List.mem_cons_of_mem _ (List.mem_append_left _ (List.mem_append_left _ (List.mem_append_left _ (List.mem_append_left _ (List.mem_append_left _ (List.mem_append_right _ h))))))
  refine cr_metR (by decide) rfl rfl (Nat.le_of_ble_eq_true rfl) ?_
  intro p e s m args below meth c ls C hP hS hl
  obtain ⟨hx, hb, hml, hown, hts, hr, hlocks, hK, hN⟩ := id C
  have hl : lv_has ls 2 [(0, .ref (a 0 0)), (1, .int x1)] := hl
  replace hE : ((f_X6_isWithin x1 20 24).bind fun q1 => if q1 = 0 then (if x1 = 10 then (some (vs 1 0)) else (if x1 = 11 then (some (vo 1 0)) else ((f_X3_tellCount vh vl vk x1).bind fun q5 => some q5))) else (if cr_in (x1 - 20) 5 = true then some (vh 3 (cr_x (x1 - 20))) else none)) = some out := hE
  refine lv_iload_n hx hb dX6_count_0 rfl (lv_at hl 1 rfl) ?_
  refine lv_bipush (v := 20) hx hb dX6_count_1 (by decide) ?_
  refine lv_bipush (v := 24) hx hb dX6_count_3 (by decide) ?_
  obtain ⟨q1, hq1, hE⟩ := cr_bind hE
  refine cr_sRq (n := 3) (As := [.int x1, .int 20, .int 24]) (rest := []) C hP hS (m_X6_isWithin L D ct x1 20 24 q1 hq1) (va_cwS 3 hts gX6_count_X6_isWithin rfl rfl rfl (by decide +kernel) ⟨Nat.le_of_ble_eq_true rfl, Nat.le_of_ble_eq_true rfl⟩) rfl hl.1 rfl (Nat.le_of_ble_eq_true rfl) dX6_count_5 ⟨Nat.zero_le _, Nat.zero_le _⟩ (fun H locs hP hS => ?_)
  refine lv_if_eq (tgt := 24) hx hb dX6_count_8 (by decide) (fun c2 => ?_) (fun c2 => ?_)
  · rw [if_pos c2] at hE
    refine lv_iload_n hx hb dX6_count_24 rfl (lv_at hl 1 rfl) ?_
    by_cases c3 : x1 = 10
    · rw [if_pos c3] at hE
      refine lv_lookup (tgt := 52) (off := 27) hx hb dX6_count_25 (by decide) (by rw [c3]; rfl) (by decide) ?_
      refine lv_aload_n hx hb dX6_count_52 rfl (lv_at hl 0 rfl) ?_
      refine cr_get C hP 0 rfl rfl 2 (by decide) hinX6 k0 (v := .ref ((a 7) 0)) rfl dX6_count_53 ?_
      refine cr_get C hP 23 rfl rfl 1 (by decide) hinX2 k1 (v := .int (vs 1 0)) rfl dX6_count_56 ?_
      exact cr_retR C hS (Option.some.inj hE) dX6_count_59
    · rw [if_neg c3] at hE
      by_cases c4 : x1 = 11
      · rw [if_pos c4] at hE
        refine lv_lookup (tgt := 60) (off := 35) hx hb dX6_count_25 (by decide) (by rw [c4]; rfl) (by decide) ?_
        refine lv_aload_n hx hb dX6_count_60 rfl (lv_at hl 0 rfl) ?_
        refine cr_get C hP 0 rfl rfl 4 (by decide) hinX6 k2 (v := .ref ((a 9) 0)) rfl dX6_count_61 ?_
        refine cr_get C hP 76 rfl rfl 1 (by decide) hinX5 k3 (v := .int (vo 1 0)) rfl dX6_count_64 ?_
        exact cr_retR C hS (Option.some.inj hE) dX6_count_67
      · rw [if_neg c4] at hE
        refine lv_lookup (tgt := 68) (off := 43) hx hb dX6_count_25 (by decide) (by have e0 := cr_ne (n := 10) (by decide) c3; have e1 := cr_ne (n := 11) (by decide) c4; simp [Op.lookupswitch.offset, Ne.symm, *]) (by decide) ?_
        refine lv_aload_n hx hb dX6_count_68 rfl (lv_at hl 0 rfl) ?_
        refine cr_get C hP 0 rfl rfl 0 (by decide) hinX6 k4 (v := .ref ((a 1) 0)) rfl dX6_count_69 ?_
        refine lv_iload_n hx hb dX6_count_72 rfl (lv_at hl 1 rfl) ?_
        obtain ⟨q5, hq5, hE⟩ := cr_bind hE
        refine cr_vRq (n := 1) (As := [.int x1]) (rest := []) C hP hS (m_X3_tellCount L D ct (a 1) (a 2) (a 3) vh vl vk x1 q5 hq5) (cwV 1 hts gX6_count_X3_tellCount rfl rfl rfl (by decide +kernel) ⟨Nat.le_of_ble_eq_true rfl, Nat.le_of_ble_eq_true rfl⟩) [1, 2, 3, 4, 5, 6, 7, 8, 9, 10, 11] rfl 1 rfl rfl rfl hl.1 rfl (Nat.le_of_ble_eq_true rfl) dX6_count_73 ⟨Nat.zero_le _, Nat.zero_le _⟩ (fun H locs hP hS => ?_)
        exact cr_retR C hS (Option.some.inj hE) dX6_count_76
  · rw [if_neg c2] at hE
    refine lv_aload_n hx hb dX6_count_11 rfl (lv_at hl 0 rfl) ?_
    refine cr_get C hP 0 rfl rfl 0 (by decide) hinX6 k4 (v := .ref ((a 1) 0)) rfl dX6_count_12 ?_
    refine cr_get C hP 1 rfl rfl 3 (by decide) hinX3 k5 (v := .ref ((a 1) 4)) rfl dX6_count_15 ?_
    refine lv_iload_n hx hb dX6_count_18 rfl (lv_at hl 1 rfl) ?_
    refine lv_bipush (v := 20) hx hb dX6_count_19 (by decide) ?_
    refine lv_isub hx hb dX6_count_21 ?_
    obtain ⟨i6, hE⟩ := cr_ifn hE
    refine cr_ald C hP 3 (f := vh 3) (k := cr_x (x1 - 20)) rfl i6 (cr_xe _) dX6_count_22 ?_
    exact cr_retR C hS (Option.some.inj hE) dX6_count_23

set_option maxHeartbeats 4000000 in
set_option maxRecDepth 100000 in
theorem m_X6_undo (L : Launch) (D : va_G) (ct : Nat → ClassId) (a : Nat → Nat → Nat) (r : Nat → Nat → Nat → Nat) (vh : cr_V) (vl : cr_V) (vk : cr_V) (vt : cr_V) (vtl : cr_V) (vtk : cr_V) (vs : cr_V) (vx : Nat → Nat → cr_V) (vd : cr_V) (vo : cr_V)  (sz : Nat) (out : Int32 × cr_V × cr_V × cr_V × cr_V) (hE : f_X6_undo vh vl vk vt vtl vtk vs vx vd vo = some out) : Met L yX6_undo wsX6_undo ({ frames := 3, cells := 0, slots := 0, locals := 65 } : Room) (cr_pW D ct (cr_wX ct a r vh vl vk vt vtl vtk vs vx vd vo) sz [.ref (a 0 0)]) (cr_QW D (cr_wX ct a r vh vl vk vt vtl vtk vs vx vd vo) sz (fun r (u : (Nat → Nat → Nat → Nat) × cr_V × cr_V × cr_V × cr_V) => (r, u.2) = out) (fun u : (Nat → Nat → Nat → Nat) × cr_V × cr_V × cr_V × cr_V => cr_wX ct a u.1 u.2.1 u.2.2.1 u.2.2.2.1 vt vtl vtk u.2.2.2.2 vx vd vo)) 0 0 (va_A (cr_wX ct a r vh vl vk vt vtl vtk vs vx vd vo) sz) := by
  have k0 : (Cond.fieldLink RX6 22 "CupReceipts" "history" "LCupReceipts$History;") ∈ wsX6_undo := List.mem_of_getElem? (i := 1) rfl
  have k1 : (Cond.fieldLink RX6 185 "CupReceipts$History" "states" "I") ∈ wsX6_undo := List.mem_of_getElem? (i := 2) rfl
  have k2 : (Cond.fieldLink RX6 10 "CupReceipts" "house" "LCupReceipts$House;") ∈ wsX6_undo := List.mem_of_getElem? (i := 4) rfl
  have k3 : (Cond.constant RX6 158 (-2000000002)) ∈ wsX6_undo := List.mem_of_getElem? (i := 3) rfl
  have hinX2 : ∀ w ∈ wsX20, w ∈ wsX6_undo := fun w h => List.mem_cons_of_mem _ (List.mem_append_left _ (List.mem_append_left _ (List.mem_append_left _ (List.mem_append_right _ h))))
  have hinX6 : ∀ w ∈ wsX60, w ∈ wsX6_undo := fun w h => List.mem_cons_of_mem _ (List.mem_append_left _ (List.mem_append_left _ (List.mem_append_left _ (List.mem_append_left _ (List.mem_append_right _ h)))))
  refine cr_metW (Qc := fun A => va_Qi (fun r (u : (Nat → Nat → Nat → Nat) × cr_V × cr_V × cr_V × cr_V) => (r, u.2) = out) (fun u t => cr_at D A ((fun u : (Nat → Nat → Nat → Nat) × cr_V × cr_V × cr_V × cr_V => cr_wX ct a u.1 u.2.1 u.2.2.1 u.2.2.2.1 vt vtl vtk u.2.2.2.2 vx vd vo) u) t) A) (by decide) rfl rfl (Nat.le_of_ble_eq_true rfl) ?_
  intro p e s m args below meth c ls A C hW hl
  obtain ⟨hx, hb, hml, hown, hts, hr, hlocks, hK, hN⟩ := id C
  have hl : lv_has ls 1 [(0, .ref (a 0 0))] := hl
  replace hE : (if (vs 1 0) = 0 then (some ((-2000000002), vh, vl, vk, vs)) else ((f_X2_restoreLatest vs vx vh vl vk).bind fun q2 => some ((q2.1 1 0), q2.2.1, q2.2.2.1, q2.2.2.2, q2.1))) = some out := hE
  refine lv_aload_n hx hb dX6_undo_0 rfl (lv_at hl 0 rfl) ?_
  refine cr_get C hW.1 0 rfl rfl 2 (by decide) hinX6 k0 (v := .ref ((a 7) 0)) rfl dX6_undo_1 ?_
  refine cr_get C hW.1 23 rfl rfl 1 (by decide) hinX2 k1 (v := .int (vs 1 0)) rfl dX6_undo_4 ?_
  refine lv_if_ne (tgt := 13) hx hb dX6_undo_7 (by decide) (fun c1 => ?_) (fun c1 => ?_)
  · rw [if_neg c1] at hE
    refine lv_aload_n hx hb dX6_undo_13 rfl (lv_at hl 0 rfl) ?_
    refine cr_get C hW.1 0 rfl rfl 2 (by decide) hinX6 k0 (v := .ref ((a 7) 0)) rfl dX6_undo_14 ?_
    refine lv_aload_n hx hb dX6_undo_17 rfl (lv_at hl 0 rfl) ?_
    refine cr_get C hW.1 0 rfl rfl 0 (by decide) hinX6 k2 (v := .ref ((a 1) 0)) rfl dX6_undo_18 ?_
    obtain ⟨q2, hq2, hE⟩ := cr_bind hE
    refine cr_vVBr (nb := 6) (n := 1) (As := [.ref ((a 1) 0)]) (rest := []) C hW (m_X2_restoreLatest L D ct (a 7) (a 1) (a 2) (a 3) r vs vx vh vl vk _ q2 hq2) (cwV 1 hts gX6_undo_X2_restoreLatest rfl rfl rfl (by decide +kernel) ⟨Nat.le_of_ble_eq_true rfl, Nat.le_of_ble_eq_true rfl⟩) [3, 1] [0, 2, 4, 5] [cr_wX0 ct a, cr_wH ct (a 1) (a 2) (a 3) vh vl vk, cr_wH ct (a 4) (a 5) (a 6) vt vtl vtk, cr_wR ct (a 7) vs r vx, cr_wD ct (a 8) vd, cr_wO ct (a 9) vo] (fun r => cr_wX ct a r q2.2.1 q2.2.2.1 q2.2.2.2 vt vtl vtk q2.1 vx vd vo) (fun r => [cr_wX0 ct a, cr_wH ct (a 1) (a 2) (a 3) q2.2.1 q2.2.2.1 q2.2.2.2, cr_wH ct (a 4) (a 5) (a 6) vt vtl vtk, cr_wR ct (a 7) q2.1 r vx, cr_wD ct (a 8) vd, cr_wO ct (a 9) vo]) ⟨rfl, rfl⟩ (fun _ => ⟨rfl, rfl⟩) rfl (fun _ => rfl) (fun _ => rfl) (by decide) 23 rfl rfl rfl hl.1 rfl (Nat.le_of_ble_eq_true rfl) dX6_undo_21 ⟨Nat.zero_le _, Nat.zero_le _⟩ (fun r H locs hW => ?_)
    refine lv_aload_n hx hb dX6_undo_24 rfl (lv_at hl 0 rfl) ?_
    refine cr_get C hW.1 0 rfl rfl 2 (by decide) hinX6 k0 (v := .ref ((a 7) 0)) rfl dX6_undo_25 ?_
    refine cr_get C hW.1 23 rfl rfl 1 (by decide) hinX2 k1 (v := .int (q2.1 1 0)) rfl dX6_undo_28 ?_
    exact cr_retW C (w := (fun u : (Nat → Nat → Nat → Nat) × cr_V × cr_V × cr_V × cr_V => cr_wX ct a u.1 u.2.1 u.2.2.1 u.2.2.2.1 vt vtl vtk u.2.2.2.2 vx vd vo)) (r, q2.2.1, q2.2.2.1, q2.2.2.2, q2.1) hW (Option.some.inj hE) dX6_undo_31
  · rw [if_pos c1] at hE
    refine cr_ldc C k3 dX6_undo_10 ?_
    exact cr_retW C (w := (fun u : (Nat → Nat → Nat → Nat) × cr_V × cr_V × cr_V × cr_V => cr_wX ct a u.1 u.2.1 u.2.2.1 u.2.2.2.1 vt vtl vtk u.2.2.2.2 vx vd vo)) (r, vh, vl, vk, vs) hW (Option.some.inj hE) dX6_undo_12

set_option maxHeartbeats 4000000 in
set_option maxRecDepth 100000 in
theorem m_X6_type (L : Launch) (D : va_G) (ct : Nat → ClassId) (a : Nat → Nat → Nat) (r : Nat → Nat → Nat → Nat) (vh : cr_V) (vl : cr_V) (vk : cr_V) (vt : cr_V) (vtl : cr_V) (vtk : cr_V) (vs : cr_V) (vx : Nat → Nat → cr_V) (vd : cr_V) (vo : cr_V) (x1 : Int32) (sz : Nat) (out : Int32 × cr_V) (hE : f_X6_type vh vl vk vt vtl vtk vs vx vd vo x1 = some out) : Met L yX6_type wsX6_type ({ frames := 1, cells := 0, slots := 0, locals := 22 } : Room) (cr_pW D ct (cr_wX ct a r vh vl vk vt vtl vtk vs vx vd vo) sz [.ref (a 0 0), .int x1]) (cr_QW D (cr_wX ct a r vh vl vk vt vtl vtk vs vx vd vo) sz (fun r (u : (Nat → Nat → Nat → Nat) × cr_V) => (r, u.2) = out) (fun u : (Nat → Nat → Nat → Nat) × cr_V => cr_wX ct a u.1 vh vl vk vt vtl vtk vs vx vd u.2)) 0 0 (va_A (cr_wX ct a r vh vl vk vt vtl vtk vs vx vd vo) sz) := by
  have k0 : (Cond.constant RX6 90 (-2000000001)) ∈ wsX6_type := List.mem_of_getElem? (i := 2) rfl
  have k1 : (Cond.fieldLink RX6 36 "CupReceipts" "orders" "LCupReceipts$Orders;") ∈ wsX6_type := List.mem_of_getElem? (i := 1) rfl
  have hinX6 : ∀ w ∈ wsX60, w ∈ wsX6_type := fun w h => List.mem_cons_of_mem _ (List.mem_append_left _ (List.mem_append_right _ h))
  refine cr_metW (Qc := fun A => va_Qi (fun r (u : (Nat → Nat → Nat → Nat) × cr_V) => (r, u.2) = out) (fun u t => cr_at D A ((fun u : (Nat → Nat → Nat → Nat) × cr_V => cr_wX ct a u.1 vh vl vk vt vtl vtk vs vx vd u.2) u) t) A) (by decide) rfl rfl (Nat.le_of_ble_eq_true rfl) ?_
  intro p e s m args below meth c ls A C hW hl
  obtain ⟨hx, hb, hml, hown, hts, hr, hlocks, hK, hN⟩ := id C
  have hl : lv_has ls 2 [(0, .ref (a 0 0)), (1, .int x1)] := hl
  replace hE : ((f_X6_isWithin x1 32 126).bind fun q1 => if q1 = 0 then (some ((-2000000001), vo)) else ((f_X5_append vo ((x1.toUInt32 % 65536).toInt32)).bind fun q3 => some (q3.1, q3.2))) = some out := hE
  refine lv_iload_n hx hb dX6_type_0 rfl (lv_at hl 1 rfl) ?_
  refine lv_bipush (v := 32) hx hb dX6_type_1 (by decide) ?_
  refine lv_bipush (v := 126) hx hb dX6_type_3 (by decide) ?_
  obtain ⟨q1, hq1, hE⟩ := cr_bind hE
  refine cr_sRwq (n := 3) (As := [.int x1, .int 32, .int 126]) (rest := []) C hW (m_X6_isWithin L D ct x1 32 126 q1 hq1) (va_cwS 3 hts gX6_type_X6_isWithin rfl rfl rfl (by decide +kernel) ⟨Nat.le_of_ble_eq_true rfl, Nat.le_of_ble_eq_true rfl⟩) rfl hl.1 rfl (Nat.le_of_ble_eq_true rfl) dX6_type_5 ⟨Nat.zero_le _, Nat.zero_le _⟩ (fun H locs hW => ?_)
  refine lv_if_eq (tgt := 23) hx hb dX6_type_8 (by decide) (fun c2 => ?_) (fun c2 => ?_)
  · rw [if_pos c2] at hE
    refine cr_ldc C k0 dX6_type_23 ?_
    exact cr_retW C (w := (fun u : (Nat → Nat → Nat → Nat) × cr_V => cr_wX ct a u.1 vh vl vk vt vtl vtk vs vx vd u.2)) (r, vo) hW (Option.some.inj hE) dX6_type_25
  · rw [if_neg c2] at hE
    refine lv_aload_n hx hb dX6_type_11 rfl (lv_at hl 0 rfl) ?_
    refine cr_get C hW.1 0 rfl rfl 4 (by decide) hinX6 k1 (v := .ref ((a 9) 0)) rfl dX6_type_12 ?_
    refine lv_iload_n hx hb dX6_type_15 rfl (lv_at hl 1 rfl) ?_
    refine lv_i2c hx hb dX6_type_16 rfl ?_
    obtain ⟨q3, hq3, hE⟩ := cr_bind hE
    refine cr_vWB (nb := 6) (n := 1) (As := [.int ((x1.toUInt32 % 65536).toInt32)]) (rest := []) C hW (m_X5_append L D ct (a 9) vo ((x1.toUInt32 % 65536).toInt32) _ q3 hq3) (cwV 1 hts gX6_type_X5_append rfl rfl rfl (by decide +kernel) ⟨Nat.le_of_ble_eq_true rfl, Nat.le_of_ble_eq_true rfl⟩) [5] [0, 1, 2, 3, 4] [cr_wX0 ct a, cr_wH ct (a 1) (a 2) (a 3) vh vl vk, cr_wH ct (a 4) (a 5) (a 6) vt vtl vtk, cr_wR ct (a 7) vs r vx, cr_wD ct (a 8) vd, cr_wO ct (a 9) vo] (cr_wX ct a r vh vl vk vt vtl vtk vs vx vd q3.2) [cr_wX0 ct a, cr_wH ct (a 1) (a 2) (a 3) vh vl vk, cr_wH ct (a 4) (a 5) (a 6) vt vtl vtk, cr_wR ct (a 7) vs r vx, cr_wD ct (a 8) vd, cr_wO ct (a 9) q3.2] ⟨rfl, rfl⟩ ⟨rfl, rfl⟩ rfl rfl rfl (by decide) 76 rfl rfl rfl hl.1 rfl (Nat.le_of_ble_eq_true rfl) dX6_type_17 ⟨Nat.zero_le _, Nat.zero_le _⟩ (fun H locs hW => ?_)
    refine lv_goto (tgt := 25) hx hb dX6_type_20 (by decide) ?_
    exact cr_retW C (w := (fun u : (Nat → Nat → Nat → Nat) × cr_V => cr_wX ct a u.1 vh vl vk vt vtl vtk vs vx vd u.2)) (r, q3.2) hW (Option.some.inj hE) dX6_type_25

set_option maxHeartbeats 4000000 in
set_option maxRecDepth 100000 in
theorem m_X6_clearText (L : Launch) (D : va_G) (ct : Nat → ClassId) (a : Nat → Nat → Nat) (r : Nat → Nat → Nat → Nat) (vh : cr_V) (vl : cr_V) (vk : cr_V) (vt : cr_V) (vtl : cr_V) (vtk : cr_V) (vs : cr_V) (vx : Nat → Nat → cr_V) (vd : cr_V) (vo : cr_V)  (sz : Nat) (out : Int32 × cr_V) (hE : f_X6_clearText vh vl vk vt vtl vtk vs vx vd vo = some out) : Met L yX6_clearText wsX6_clearText ({ frames := 0, cells := 0, slots := 0, locals := 0 } : Room) (cr_pW D ct (cr_wX ct a r vh vl vk vt vtl vtk vs vx vd vo) sz [.ref (a 0 0)]) (cr_QW D (cr_wX ct a r vh vl vk vt vtl vtk vs vx vd vo) sz (fun r (u : (Nat → Nat → Nat → Nat) × cr_V) => (r, u.2) = out) (fun u : (Nat → Nat → Nat → Nat) × cr_V => cr_wX ct a u.1 vh vl vk vt vtl vtk vs vx vd u.2)) 0 0 (va_A (cr_wX ct a r vh vl vk vt vtl vtk vs vx vd vo) sz) := by
  have k0 : (Cond.fieldLink RX6 36 "CupReceipts" "orders" "LCupReceipts$Orders;") ∈ wsX6_clearText := List.mem_of_getElem? (i := 1) rfl
  have k1 : (Cond.fieldLink RX6 188 "CupReceipts$Orders" "length" "I") ∈ wsX6_clearText := List.mem_of_getElem? (i := 2) rfl
  have hinX5 : ∀ w ∈ wsX50, w ∈ wsX6_clearText := fun w h => List.mem_cons_of_mem _ (List.mem_append_right _ h)
  have hinX6 : ∀ w ∈ wsX60, w ∈ wsX6_clearText := fun w h => List.mem_cons_of_mem _ (List.mem_append_left _ (List.mem_append_right _ h))
  refine cr_metW (Qc := fun A => va_Qi (fun r (u : (Nat → Nat → Nat → Nat) × cr_V) => (r, u.2) = out) (fun u t => cr_at D A ((fun u : (Nat → Nat → Nat → Nat) × cr_V => cr_wX ct a u.1 vh vl vk vt vtl vtk vs vx vd u.2) u) t) A) (by decide) rfl rfl (Nat.le_of_ble_eq_true rfl) ?_
  intro p e s m args below meth c ls A C hW hl
  obtain ⟨hx, hb, hml, hown, hts, hr, hlocks, hK, hN⟩ := id C
  have hl : lv_has ls 2 [(0, .ref (a 0 0))] := hl
  replace hE : (some ((vo 1 0), (cr_i vo 1 0))) = some out := hE
  refine lv_aload_n hx hb dX6_clearText_0 rfl (lv_at hl 0 rfl) ?_
  refine cr_get C hW.1 0 rfl rfl 4 (by decide) hinX6 k0 (v := .ref ((a 9) 0)) rfl dX6_clearText_1 ?_
  refine cr_get C hW.1 76 rfl rfl 1 (by decide) hinX5 k1 (v := .int (vo 1 0)) rfl dX6_clearText_4 ?_
  refine lv_istore_n (lv' := [(1, .int (vo 1 0)), (0, .ref (a 0 0))]) hx hb dX6_clearText_7 rfl hl (by decide) rfl (fun ls hl => ?_)
  refine lv_aload_n hx hb dX6_clearText_8 rfl (lv_at hl 1 rfl) ?_
  refine cr_get C hW.1 0 rfl rfl 4 (by decide) hinX6 k0 (v := .ref ((a 9) 0)) rfl dX6_clearText_9 ?_
  refine lv_iconst (v := 0) hx hb dX6_clearText_12 (by decide) ?_
  refine cr_put C hW 76 rfl rfl tyX5 tyX5_ok nmX5 1 (by decide) hinX5 k1 rfl rfl rfl rfl (Nat.le_of_ble_eq_true rfl) (w' := cr_wX ct a r vh vl vk vt vtl vtk vs vx vd (cr_i vo 1 0)) rfl dX6_clearText_13 (fun H locs hW => ?_)
  refine lv_iload_n hx hb dX6_clearText_16 rfl (lv_at hl 0 rfl) ?_
  exact cr_retW C (w := (fun u : (Nat → Nat → Nat → Nat) × cr_V => cr_wX ct a u.1 vh vl vk vt vtl vtk vs vx vd u.2)) (r, (cr_i vo 1 0)) hW (Option.some.inj hE) dX6_clearText_17

set_option maxHeartbeats 4000000 in
set_option maxRecDepth 100000 in
theorem m_X6_fault (L : Launch) (D : va_G) (ct : Nat → ClassId) (a : Nat → Nat → Nat) (r : Nat → Nat → Nat → Nat) (vh : cr_V) (vl : cr_V) (vk : cr_V) (vt : cr_V) (vtl : cr_V) (vtk : cr_V) (vs : cr_V) (vx : Nat → Nat → cr_V) (vd : cr_V) (vo : cr_V) (x1 : Int32) (sz : Nat) (out : Int32 × cr_V × cr_V × cr_V × cr_V × cr_V) (hE : f_X6_fault vh vl vk vt vtl vtk vs vx vd vo x1 = some out) : Met L yX6_fault wsX6_fault ({ frames := 6, cells := 0, slots := 0, locals := 142 } : Room) (cr_pW D ct (cr_wX ct a r vh vl vk vt vtl vtk vs vx vd vo) sz [.ref (a 0 0), .int x1]) (cr_QW D (cr_wX ct a r vh vl vk vt vtl vtk vs vx vd vo) sz (fun r (u : (Nat → Nat → Nat → Nat) × cr_V × cr_V × cr_V × cr_V × cr_V) => (r, u.2) = out) (fun u : (Nat → Nat → Nat → Nat) × cr_V × cr_V × cr_V × cr_V × cr_V => cr_wX ct a u.1 vh vl vk u.2.1 u.2.2.1 u.2.2.2.1 vs vx u.2.2.2.2.1 u.2.2.2.2.2)) 0 0 (va_A (cr_wX ct a r vh vl vk vt vtl vtk vs vx vd vo) sz) := by
  have k0 : (Cond.fieldLink RX6 16 "CupReceipts" "trial" "LCupReceipts$House;") ∈ wsX6_fault := List.mem_of_getElem? (i := 2) rfl
  have k1 : (Cond.fieldLink RX6 10 "CupReceipts" "house" "LCupReceipts$House;") ∈ wsX6_fault := List.mem_of_getElem? (i := 3) rfl
  have k2 : (Cond.fieldLink RX6 36 "CupReceipts" "orders" "LCupReceipts$Orders;") ∈ wsX6_fault := List.mem_of_getElem? (i := 4) rfl
  have k3 : (Cond.fieldLink RX6 29 "CupReceipts" "delivery" "LCupReceipts$Delivery;") ∈ wsX6_fault := List.mem_of_getElem? (i := 5) rfl
  have k4 : (Cond.fieldLink RX6 205 "CupReceipts$Orders" "reason" "I") ∈ wsX6_fault := List.mem_of_getElem? (i := 6) rfl
  have k5 : (Cond.fieldLink RX6 208 "CupReceipts$Orders" "start" "I") ∈ wsX6_fault := List.mem_of_getElem? (i := 8) rfl
  have k6 : (Cond.fieldLink RX6 211 "CupReceipts$Orders" "cause" "I") ∈ wsX6_fault := List.mem_of_getElem? (i := 9) rfl
  have k7 : (Cond.constant RX6 102 (-2000000004)) ∈ wsX6_fault := List.mem_of_getElem? (i := 7) rfl
  have k8 : (Cond.constant RX6 90 (-2000000001)) ∈ wsX6_fault := List.mem_of_getElem? (i := 1) rfl
  have hinX5 : ∀ w ∈ wsX50, w ∈ wsX6_fault := fun w h => List.mem_cons_of_mem _ (List.mem_append_left _ (List.mem_append_left _ (List.mem_append_left _ (List.mem_append_left _ (List.mem_append_right _ h)))))
  have hinX6 : ∀ w ∈ wsX60, w ∈ wsX6_fault := fun w h => List.mem_cons_of_mem _ (List.mem_append_left _ (List.mem_append_left _ (List.mem_append_left _ (List.mem_append_left _ (List.mem_append_left _ (List.mem_append_right _ h))))))
  refine cr_metW (Qc := fun A => va_Qi (fun r (u : (Nat → Nat → Nat → Nat) × cr_V × cr_V × cr_V × cr_V × cr_V) => (r, u.2) = out) (fun u t => cr_at D A ((fun u : (Nat → Nat → Nat → Nat) × cr_V × cr_V × cr_V × cr_V × cr_V => cr_wX ct a u.1 vh vl vk u.2.1 u.2.2.1 u.2.2.2.1 vs vx u.2.2.2.2.1 u.2.2.2.2.2) u) t) A) (by decide) rfl rfl (Nat.le_of_ble_eq_true rfl) ?_
  intro p e s m args below meth c ls A C hW hl
  obtain ⟨hx, hb, hml, hown, hts, hr, hlocks, hK, hN⟩ := id C
  have hl : lv_has ls 2 [(0, .ref (a 0 0)), (1, .int x1)] := hl
  replace hE : ((f_X6_isWithin x1 0 2).bind fun q1 => if q1 = 0 then (some ((-2000000001), vt, vtl, vtk, vd, vo)) else ((f_X3_copyFrom vt vtl vtk vh vl vk).bind fun q3 => (f_X5_runOn vo q3.1 q3.2.1 q3.2.2 vd).bind fun q4 => if (q4.1 3 0) = 0 then (some ((-2000000004), q4.2.1, q4.2.2.1, q4.2.2.2.1, q4.2.2.2.2, q4.1)) else (if x1 = 0 then (some ((q4.1 2 0), q4.2.1, q4.2.2.1, q4.2.2.2.1, q4.2.2.2.2, q4.1)) else (if x1 = 1 then (some ((q4.1 3 0), q4.2.1, q4.2.2.1, q4.2.2.2.1, q4.2.2.2.2, q4.1)) else (some ((q4.1 4 0), q4.2.1, q4.2.2.1, q4.2.2.2.1, q4.2.2.2.2, q4.1)))))) = some out := hE
  refine lv_iload_n hx hb dX6_fault_0 rfl (lv_at hl 1 rfl) ?_
  refine lv_iconst (v := 0) hx hb dX6_fault_1 (by decide) ?_
  refine lv_iconst (v := 2) hx hb dX6_fault_2 (by decide) ?_
  obtain ⟨q1, hq1, hE⟩ := cr_bind hE
  refine cr_sRwq (n := 3) (As := [.int x1, .int 0, .int 2]) (rest := []) C hW (m_X6_isWithin L D ct x1 0 2 q1 hq1) (va_cwS 3 hts gX6_fault_X6_isWithin rfl rfl rfl (by decide +kernel) ⟨Nat.le_of_ble_eq_true rfl, Nat.le_of_ble_eq_true rfl⟩) rfl hl.1 rfl (Nat.le_of_ble_eq_true rfl) dX6_fault_3 ⟨Nat.zero_le _, Nat.zero_le _⟩ (fun H locs hW => ?_)
  refine lv_if_ne (tgt := 12) hx hb dX6_fault_6 (by decide) (fun c2 => ?_) (fun c2 => ?_)
  · rw [if_neg c2] at hE
    refine lv_aload_n hx hb dX6_fault_12 rfl (lv_at hl 0 rfl) ?_
    refine cr_get C hW.1 0 rfl rfl 1 (by decide) hinX6 k0 (v := .ref ((a 4) 0)) rfl dX6_fault_13 ?_
    refine lv_aload_n hx hb dX6_fault_16 rfl (lv_at hl 0 rfl) ?_
    refine cr_get C hW.1 0 rfl rfl 0 (by decide) hinX6 k1 (v := .ref ((a 1) 0)) rfl dX6_fault_17 ?_
    obtain ⟨q3, hq3, hE⟩ := cr_bind hE
    refine cr_vVB (nb := 6) (n := 1) (As := [.ref ((a 1) 0)]) (rest := []) C hW (m_X3_copyFrom L D ct (a 4) (a 5) (a 6) (a 1) (a 2) (a 3) vt vtl vtk vh vl vk _ q3 hq3) (cwV 1 hts gX6_fault_X3_copyFrom rfl rfl rfl (by decide +kernel) ⟨Nat.le_of_ble_eq_true rfl, Nat.le_of_ble_eq_true rfl⟩) [2, 1] [0, 3, 4, 5] [cr_wX0 ct a, cr_wH ct (a 1) (a 2) (a 3) vh vl vk, cr_wH ct (a 4) (a 5) (a 6) vt vtl vtk, cr_wR ct (a 7) vs r vx, cr_wD ct (a 8) vd, cr_wO ct (a 9) vo] (cr_wX ct a r vh vl vk q3.1 q3.2.1 q3.2.2 vs vx vd vo) [cr_wX0 ct a, cr_wH ct (a 1) (a 2) (a 3) vh vl vk, cr_wH ct (a 4) (a 5) (a 6) q3.1 q3.2.1 q3.2.2, cr_wR ct (a 7) vs r vx, cr_wD ct (a 8) vd, cr_wO ct (a 9) vo] ⟨rfl, rfl⟩ ⟨rfl, rfl⟩ rfl rfl rfl (by decide) 12 rfl rfl rfl hl.1 rfl (Nat.le_of_ble_eq_true rfl) dX6_fault_20 ⟨Nat.zero_le _, Nat.zero_le _⟩ (fun H locs hW => ?_)
    refine lv_aload_n hx hb dX6_fault_23 rfl (lv_at hl 0 rfl) ?_
    refine cr_get C hW.1 0 rfl rfl 4 (by decide) hinX6 k2 (v := .ref ((a 9) 0)) rfl dX6_fault_24 ?_
    refine lv_aload_n hx hb dX6_fault_27 rfl (lv_at hl 0 rfl) ?_
    refine cr_get C hW.1 0 rfl rfl 1 (by decide) hinX6 k0 (v := .ref ((a 4) 0)) rfl dX6_fault_28 ?_
    refine lv_aload_n hx hb dX6_fault_31 rfl (lv_at hl 0 rfl) ?_
    refine cr_get C hW.1 0 rfl rfl 3 (by decide) hinX6 k3 (v := .ref ((a 8) 0)) rfl dX6_fault_32 ?_
    obtain ⟨q4, hq4, hE⟩ := cr_bind hE
    refine cr_vVB (nb := 6) (n := 2) (As := [.ref ((a 4) 0), .ref ((a 8) 0)]) (rest := []) C hW (m_X5_runOn L D ct (a 9) (a 4) (a 5) (a 6) (a 8) vo q3.1 q3.2.1 q3.2.2 vd _ q4 hq4) (cwV 2 hts gX6_fault_X5_runOn rfl rfl rfl (by decide +kernel) ⟨Nat.le_of_ble_eq_true rfl, Nat.le_of_ble_eq_true rfl⟩) [5, 2, 4] [0, 1, 3] [cr_wX0 ct a, cr_wH ct (a 1) (a 2) (a 3) vh vl vk, cr_wH ct (a 4) (a 5) (a 6) q3.1 q3.2.1 q3.2.2, cr_wR ct (a 7) vs r vx, cr_wD ct (a 8) vd, cr_wO ct (a 9) vo] (cr_wX ct a r vh vl vk q4.2.1 q4.2.2.1 q4.2.2.2.1 vs vx q4.2.2.2.2 q4.1) [cr_wX0 ct a, cr_wH ct (a 1) (a 2) (a 3) vh vl vk, cr_wH ct (a 4) (a 5) (a 6) q4.2.1 q4.2.2.1 q4.2.2.2.1, cr_wR ct (a 7) vs r vx, cr_wD ct (a 8) q4.2.2.2.2, cr_wO ct (a 9) q4.1] ⟨rfl, rfl⟩ ⟨rfl, rfl⟩ rfl rfl rfl (by decide) 76 rfl rfl rfl hl.1 rfl (Nat.le_of_ble_eq_true rfl) dX6_fault_35 ⟨Nat.zero_le _, Nat.zero_le _⟩ (fun H locs hW => ?_)
    refine lv_aload_n hx hb dX6_fault_38 rfl (lv_at hl 0 rfl) ?_
    refine cr_get C hW.1 0 rfl rfl 4 (by decide) hinX6 k2 (v := .ref ((a 9) 0)) rfl dX6_fault_39 ?_
    refine cr_get C hW.1 76 rfl rfl 3 (by decide) hinX5 k4 (v := .int (q4.1 3 0)) rfl dX6_fault_42 ?_
    refine lv_if_ne (tgt := 51) hx hb dX6_fault_45 (by decide) (fun c5 => ?_) (fun c5 => ?_)
    · rw [if_neg c5] at hE
      refine lv_iload_n hx hb dX6_fault_51 rfl (lv_at hl 1 rfl) ?_
      by_cases c6 : x1 = 0
      · rw [if_pos c6] at hE
        refine lv_lookup (tgt := 80) (off := 28) hx hb dX6_fault_52 (by decide) (by rw [c6]; rfl) (by decide) ?_
        refine lv_aload_n hx hb dX6_fault_80 rfl (lv_at hl 0 rfl) ?_
        refine cr_get C hW.1 0 rfl rfl 4 (by decide) hinX6 k2 (v := .ref ((a 9) 0)) rfl dX6_fault_81 ?_
        refine cr_get C hW.1 76 rfl rfl 2 (by decide) hinX5 k5 (v := .int (q4.1 2 0)) rfl dX6_fault_84 ?_
        exact cr_retW C (w := (fun u : (Nat → Nat → Nat → Nat) × cr_V × cr_V × cr_V × cr_V × cr_V => cr_wX ct a u.1 vh vl vk u.2.1 u.2.2.1 u.2.2.2.1 vs vx u.2.2.2.2.1 u.2.2.2.2.2)) (r, q4.2.1, q4.2.2.1, q4.2.2.2.1, q4.2.2.2.2, q4.1) hW (Option.some.inj hE) dX6_fault_87
      · rw [if_neg c6] at hE
        by_cases c7 : x1 = 1
        · rw [if_pos c7] at hE
          refine lv_lookup (tgt := 88) (off := 36) hx hb dX6_fault_52 (by decide) (by rw [c7]; rfl) (by decide) ?_
          refine lv_aload_n hx hb dX6_fault_88 rfl (lv_at hl 0 rfl) ?_
          refine cr_get C hW.1 0 rfl rfl 4 (by decide) hinX6 k2 (v := .ref ((a 9) 0)) rfl dX6_fault_89 ?_
          refine cr_get C hW.1 76 rfl rfl 3 (by decide) hinX5 k4 (v := .int (q4.1 3 0)) rfl dX6_fault_92 ?_
          exact cr_retW C (w := (fun u : (Nat → Nat → Nat → Nat) × cr_V × cr_V × cr_V × cr_V × cr_V => cr_wX ct a u.1 vh vl vk u.2.1 u.2.2.1 u.2.2.2.1 vs vx u.2.2.2.2.1 u.2.2.2.2.2)) (r, q4.2.1, q4.2.2.1, q4.2.2.2.1, q4.2.2.2.2, q4.1) hW (Option.some.inj hE) dX6_fault_95
        · rw [if_neg c7] at hE
          refine lv_lookup (tgt := 96) (off := 44) hx hb dX6_fault_52 (by decide) (by have e0 := cr_ne (n := 0) (by decide) c6; have e1 := cr_ne (n := 1) (by decide) c7; simp [Op.lookupswitch.offset, Ne.symm, *]) (by decide) ?_
          refine lv_aload_n hx hb dX6_fault_96 rfl (lv_at hl 0 rfl) ?_
          refine cr_get C hW.1 0 rfl rfl 4 (by decide) hinX6 k2 (v := .ref ((a 9) 0)) rfl dX6_fault_97 ?_
          refine cr_get C hW.1 76 rfl rfl 4 (by decide) hinX5 k6 (v := .int (q4.1 4 0)) rfl dX6_fault_100 ?_
          exact cr_retW C (w := (fun u : (Nat → Nat → Nat → Nat) × cr_V × cr_V × cr_V × cr_V × cr_V => cr_wX ct a u.1 vh vl vk u.2.1 u.2.2.1 u.2.2.2.1 vs vx u.2.2.2.2.1 u.2.2.2.2.2)) (r, q4.2.1, q4.2.2.1, q4.2.2.2.1, q4.2.2.2.2, q4.1) hW (Option.some.inj hE) dX6_fault_103
    · rw [if_pos c5] at hE
      refine cr_ldc C k7 dX6_fault_48 ?_
      exact cr_retW C (w := (fun u : (Nat → Nat → Nat → Nat) × cr_V × cr_V × cr_V × cr_V × cr_V => cr_wX ct a u.1 vh vl vk u.2.1 u.2.2.1 u.2.2.2.1 vs vx u.2.2.2.2.1 u.2.2.2.2.2)) (r, q4.2.1, q4.2.2.1, q4.2.2.2.1, q4.2.2.2.2, q4.1) hW (Option.some.inj hE) dX6_fault_50
  · rw [if_pos c2] at hE
    refine cr_ldc C k8 dX6_fault_9 ?_
    exact cr_retW C (w := (fun u : (Nat → Nat → Nat → Nat) × cr_V × cr_V × cr_V × cr_V × cr_V => cr_wX ct a u.1 vh vl vk u.2.1 u.2.2.1 u.2.2.2.1 vs vx u.2.2.2.2.1 u.2.2.2.2.2)) (r, vt, vtl, vtk, vd, vo) hW (Option.some.inj hE) dX6_fault_11

set_option maxHeartbeats 4000000 in
set_option maxRecDepth 100000 in
theorem m_X6_play (L : Launch) (D : va_G) (ct : Nat → ClassId) (a : Nat → Nat → Nat) (r : Nat → Nat → Nat → Nat) (vh : cr_V) (vl : cr_V) (vk : cr_V) (vt : cr_V) (vtl : cr_V) (vtk : cr_V) (vs : cr_V) (vx : Nat → Nat → cr_V) (vd : cr_V) (vo : cr_V)  (sz : Nat) (out : Int32 × cr_V × cr_V × cr_V × cr_V × cr_V × cr_V × cr_V × (Nat → Nat → cr_V) × cr_V × cr_V) (hE : f_X6_play vh vl vk vt vtl vtk vs vx vd vo = some out) : Met L yX6_play wsX6_play ({ frames := 6, cells := 0, slots := 0, locals := 142 } : Room) (cr_pW D ct (cr_wX ct a r vh vl vk vt vtl vtk vs vx vd vo) sz [.ref (a 0 0)]) (cr_QW D (cr_wX ct a r vh vl vk vt vtl vtk vs vx vd vo) sz (fun r (u : (Nat → Nat → Nat → Nat) × cr_V × cr_V × cr_V × cr_V × cr_V × cr_V × cr_V × (Nat → Nat → cr_V) × cr_V × cr_V) => (r, u.2) = out) (fun u : (Nat → Nat → Nat → Nat) × cr_V × cr_V × cr_V × cr_V × cr_V × cr_V × cr_V × (Nat → Nat → cr_V) × cr_V × cr_V => cr_wX ct a u.1 u.2.1 u.2.2.1 u.2.2.2.1 u.2.2.2.2.1 u.2.2.2.2.2.1 u.2.2.2.2.2.2.1 u.2.2.2.2.2.2.2.1 u.2.2.2.2.2.2.2.2.1 u.2.2.2.2.2.2.2.2.2.1 u.2.2.2.2.2.2.2.2.2.2)) 0 0 (va_A (cr_wX ct a r vh vl vk vt vtl vtk vs vx vd vo) sz) := by
  have k0 : (Cond.fieldLink RX6 16 "CupReceipts" "trial" "LCupReceipts$House;") ∈ wsX6_play := List.mem_of_getElem? (i := 1) rfl
  have k1 : (Cond.fieldLink RX6 10 "CupReceipts" "house" "LCupReceipts$House;") ∈ wsX6_play := List.mem_of_getElem? (i := 2) rfl
  have k2 : (Cond.fieldLink RX6 36 "CupReceipts" "orders" "LCupReceipts$Orders;") ∈ wsX6_play := List.mem_of_getElem? (i := 3) rfl
  have k3 : (Cond.fieldLink RX6 29 "CupReceipts" "delivery" "LCupReceipts$Delivery;") ∈ wsX6_play := List.mem_of_getElem? (i := 4) rfl
  have k4 : (Cond.fieldLink RX6 205 "CupReceipts$Orders" "reason" "I") ∈ wsX6_play := List.mem_of_getElem? (i := 5) rfl
  have k5 : (Cond.constant RX6 158 (-2000000002)) ∈ wsX6_play := List.mem_of_getElem? (i := 7) rfl
  have k6 : (Cond.fieldLink RX6 214 "CupReceipts$Orders" "done" "I") ∈ wsX6_play := List.mem_of_getElem? (i := 6) rfl
  have hinX5 : ∀ w ∈ wsX50, w ∈ wsX6_play := fun w h => List.mem_cons_of_mem _ (List.mem_append_left _ (List.mem_append_left _ (List.mem_append_left _ (List.mem_append_left _ (List.mem_append_left _ (List.mem_append_right _ h))))))
  have hinX6 : ∀ w ∈ wsX60, w ∈ wsX6_play := fun w h => List.mem_cons_of_mem _ (List.mem_append_left _ (List.mem_append_left _ (List.mem_append_left _ (List.mem_append_left _ (List.mem_append_left _ (List.mem_append_left _ (List.mem_append_right _ h)))))))
  refine cr_metW (Qc := fun A => va_Qi (fun r (u : (Nat → Nat → Nat → Nat) × cr_V × cr_V × cr_V × cr_V × cr_V × cr_V × cr_V × (Nat → Nat → cr_V) × cr_V × cr_V) => (r, u.2) = out) (fun u t => cr_at D A ((fun u : (Nat → Nat → Nat → Nat) × cr_V × cr_V × cr_V × cr_V × cr_V × cr_V × cr_V × (Nat → Nat → cr_V) × cr_V × cr_V => cr_wX ct a u.1 u.2.1 u.2.2.1 u.2.2.2.1 u.2.2.2.2.1 u.2.2.2.2.2.1 u.2.2.2.2.2.2.1 u.2.2.2.2.2.2.2.1 u.2.2.2.2.2.2.2.2.1 u.2.2.2.2.2.2.2.2.2.1 u.2.2.2.2.2.2.2.2.2.2) u) t) A) (by decide) rfl rfl (Nat.le_of_ble_eq_true rfl) ?_
  intro p e s m args below meth c ls A C hW hl
  obtain ⟨hx, hb, hml, hown, hts, hr, hlocks, hK, hN⟩ := id C
  have hl : lv_has ls 1 [(0, .ref (a 0 0))] := hl
  have n49 :  ∀ (vh : cr_V) (vl : cr_V) (vk : cr_V) (vt : cr_V) (vtl : cr_V) (vtk : cr_V) (vs : cr_V) (vx : Nat → Nat → cr_V) (vd : cr_V) (vo : cr_V) (s0 : Int32) (hE : f_X6_play_49  vh vl vk vt vtl vtk vs vx vd vo s0 = some out) (r : Nat → Nat → Nat → Nat) (H : Heap) (locs : List Loc) (ls : Array Slot) (hW : cr_wd D A s (cr_wX ct a r vh vl vk vt vtl vtk vs vx vd vo) H locs) (hl : lv_has ls 1 []), W p L e ({ frames := 6, cells := 0, slots := 0, locals := 142 } : Room) s m args below meth c H locs 0 0 (MQ below (va_Qi (fun r (u : (Nat → Nat → Nat → Nat) × cr_V × cr_V × cr_V × cr_V × cr_V × cr_V × cr_V × (Nat → Nat → cr_V) × cr_V × cr_V) => (r, u.2) = out) (fun u t => cr_at D A ((fun u : (Nat → Nat → Nat → Nat) × cr_V × cr_V × cr_V × cr_V × cr_V × cr_V × cr_V × (Nat → Nat → cr_V) × cr_V × cr_V => cr_wX ct a u.1 u.2.1 u.2.2.1 u.2.2.2.1 u.2.2.2.2.1 u.2.2.2.2.2.1 u.2.2.2.2.2.2.1 u.2.2.2.2.2.2.2.1 u.2.2.2.2.2.2.2.2.1 u.2.2.2.2.2.2.2.2.2.1 u.2.2.2.2.2.2.2.2.2.2) u) t) A) args s 0 0 A) (F0 m 49 ls [.int s0, .ref (a 0 0)]) := by
    intro  vh vl vk vt vtl vtk vs vx vd vo s0 hE r H locs ls hW hl
    replace hE : ((f_X6_accept vh vl vk vt vtl vtk vs vx vd vo s0).bind fun q1 => some (q1.1, q1.2.1, q1.2.2.1, q1.2.2.2.1, vt, vtl, vtk, q1.2.2.2.2.1, q1.2.2.2.2.2, vd, vo)) = some out := hE
    obtain ⟨q1, hq1, hE⟩ := cr_bind hE
    refine cr_vWBr (nb := 6) (n := 1) (As := [.int s0]) (rest := []) C hW (m_X6_accept L D ct a r vh vl vk vt vtl vtk vs vx vd vo s0 _ q1 hq1) (cwV 1 hts gX6_play_X6_accept rfl rfl rfl (by decide +kernel) ⟨Nat.le_of_ble_eq_true rfl, Nat.le_of_ble_eq_true rfl⟩) [0, 1, 2, 3, 4, 5] [] [cr_wX0 ct a, cr_wH ct (a 1) (a 2) (a 3) vh vl vk, cr_wH ct (a 4) (a 5) (a 6) vt vtl vtk, cr_wR ct (a 7) vs r vx, cr_wD ct (a 8) vd, cr_wO ct (a 9) vo] (fun r => cr_wX ct a r q1.2.1 q1.2.2.1 q1.2.2.2.1 vt vtl vtk q1.2.2.2.2.1 q1.2.2.2.2.2 vd vo) (fun r => [cr_wX0 ct a, cr_wH ct (a 1) (a 2) (a 3) q1.2.1 q1.2.2.1 q1.2.2.2.1, cr_wH ct (a 4) (a 5) (a 6) vt vtl vtk, cr_wR ct (a 7) q1.2.2.2.2.1 r q1.2.2.2.2.2, cr_wD ct (a 8) vd, cr_wO ct (a 9) vo]) ⟨rfl, rfl⟩ (fun _ => ⟨rfl, rfl⟩) rfl (fun _ => rfl) (fun _ => rfl) (by decide) 0 rfl rfl rfl hl.1 rfl (Nat.le_of_ble_eq_true rfl) dX6_play_49 ⟨Nat.zero_le _, Nat.zero_le _⟩ (fun r H locs hW => ?_)
    exact cr_retW C (w := (fun u : (Nat → Nat → Nat → Nat) × cr_V × cr_V × cr_V × cr_V × cr_V × cr_V × cr_V × (Nat → Nat → cr_V) × cr_V × cr_V => cr_wX ct a u.1 u.2.1 u.2.2.1 u.2.2.2.1 u.2.2.2.2.1 u.2.2.2.2.2.1 u.2.2.2.2.2.2.1 u.2.2.2.2.2.2.2.1 u.2.2.2.2.2.2.2.2.1 u.2.2.2.2.2.2.2.2.2.1 u.2.2.2.2.2.2.2.2.2.2)) (r, q1.2.1, q1.2.2.1, q1.2.2.2.1, vt, vtl, vtk, q1.2.2.2.2.1, q1.2.2.2.2.2, vd, vo) hW (Option.some.inj hE) dX6_play_52
  replace hE : ((f_X3_copyFrom vt vtl vtk vh vl vk).bind fun q2 => (f_X5_runOn vo q2.1 q2.2.1 q2.2.2 vd).bind fun q3 => if (q3.1 3 0) = 0 then (f_X6_play_49 vh vl vk q3.2.1 q3.2.2.1 q3.2.2.2.1 vs vx q3.2.2.2.2 q3.1 (q3.1 5 0)) else (f_X6_play_49 vh vl vk q3.2.1 q3.2.2.1 q3.2.2.2.1 vs vx q3.2.2.2.2 q3.1 (-2000000002))) = some out := hE
  refine lv_aload_n hx hb dX6_play_0 rfl (lv_at hl 0 rfl) ?_
  refine cr_get C hW.1 0 rfl rfl 1 (by decide) hinX6 k0 (v := .ref ((a 4) 0)) rfl dX6_play_1 ?_
  refine lv_aload_n hx hb dX6_play_4 rfl (lv_at hl 0 rfl) ?_
  refine cr_get C hW.1 0 rfl rfl 0 (by decide) hinX6 k1 (v := .ref ((a 1) 0)) rfl dX6_play_5 ?_
  obtain ⟨q2, hq2, hE⟩ := cr_bind hE
  refine cr_vVB (nb := 6) (n := 1) (As := [.ref ((a 1) 0)]) (rest := []) C hW (m_X3_copyFrom L D ct (a 4) (a 5) (a 6) (a 1) (a 2) (a 3) vt vtl vtk vh vl vk _ q2 hq2) (cwV 1 hts gX6_play_X3_copyFrom rfl rfl rfl (by decide +kernel) ⟨Nat.le_of_ble_eq_true rfl, Nat.le_of_ble_eq_true rfl⟩) [2, 1] [0, 3, 4, 5] [cr_wX0 ct a, cr_wH ct (a 1) (a 2) (a 3) vh vl vk, cr_wH ct (a 4) (a 5) (a 6) vt vtl vtk, cr_wR ct (a 7) vs r vx, cr_wD ct (a 8) vd, cr_wO ct (a 9) vo] (cr_wX ct a r vh vl vk q2.1 q2.2.1 q2.2.2 vs vx vd vo) [cr_wX0 ct a, cr_wH ct (a 1) (a 2) (a 3) vh vl vk, cr_wH ct (a 4) (a 5) (a 6) q2.1 q2.2.1 q2.2.2, cr_wR ct (a 7) vs r vx, cr_wD ct (a 8) vd, cr_wO ct (a 9) vo] ⟨rfl, rfl⟩ ⟨rfl, rfl⟩ rfl rfl rfl (by decide) 12 rfl rfl rfl hl.1 rfl (Nat.le_of_ble_eq_true rfl) dX6_play_8 ⟨Nat.zero_le _, Nat.zero_le _⟩ (fun H locs hW => ?_)
  refine lv_aload_n hx hb dX6_play_11 rfl (lv_at hl 0 rfl) ?_
  refine cr_get C hW.1 0 rfl rfl 4 (by decide) hinX6 k2 (v := .ref ((a 9) 0)) rfl dX6_play_12 ?_
  refine lv_aload_n hx hb dX6_play_15 rfl (lv_at hl 0 rfl) ?_
  refine cr_get C hW.1 0 rfl rfl 1 (by decide) hinX6 k0 (v := .ref ((a 4) 0)) rfl dX6_play_16 ?_
  refine lv_aload_n hx hb dX6_play_19 rfl (lv_at hl 0 rfl) ?_
  refine cr_get C hW.1 0 rfl rfl 3 (by decide) hinX6 k3 (v := .ref ((a 8) 0)) rfl dX6_play_20 ?_
  obtain ⟨q3, hq3, hE⟩ := cr_bind hE
  refine cr_vVB (nb := 6) (n := 2) (As := [.ref ((a 4) 0), .ref ((a 8) 0)]) (rest := []) C hW (m_X5_runOn L D ct (a 9) (a 4) (a 5) (a 6) (a 8) vo q2.1 q2.2.1 q2.2.2 vd _ q3 hq3) (cwV 2 hts gX6_play_X5_runOn rfl rfl rfl (by decide +kernel) ⟨Nat.le_of_ble_eq_true rfl, Nat.le_of_ble_eq_true rfl⟩) [5, 2, 4] [0, 1, 3] [cr_wX0 ct a, cr_wH ct (a 1) (a 2) (a 3) vh vl vk, cr_wH ct (a 4) (a 5) (a 6) q2.1 q2.2.1 q2.2.2, cr_wR ct (a 7) vs r vx, cr_wD ct (a 8) vd, cr_wO ct (a 9) vo] (cr_wX ct a r vh vl vk q3.2.1 q3.2.2.1 q3.2.2.2.1 vs vx q3.2.2.2.2 q3.1) [cr_wX0 ct a, cr_wH ct (a 1) (a 2) (a 3) vh vl vk, cr_wH ct (a 4) (a 5) (a 6) q3.2.1 q3.2.2.1 q3.2.2.2.1, cr_wR ct (a 7) vs r vx, cr_wD ct (a 8) q3.2.2.2.2, cr_wO ct (a 9) q3.1] ⟨rfl, rfl⟩ ⟨rfl, rfl⟩ rfl rfl rfl (by decide) 76 rfl rfl rfl hl.1 rfl (Nat.le_of_ble_eq_true rfl) dX6_play_23 ⟨Nat.zero_le _, Nat.zero_le _⟩ (fun H locs hW => ?_)
  refine lv_aload_n hx hb dX6_play_26 rfl (lv_at hl 0 rfl) ?_
  refine lv_aload_n hx hb dX6_play_27 rfl (lv_at hl 0 rfl) ?_
  refine cr_get C hW.1 0 rfl rfl 4 (by decide) hinX6 k2 (v := .ref ((a 9) 0)) rfl dX6_play_28 ?_
  refine cr_get C hW.1 76 rfl rfl 3 (by decide) hinX5 k4 (v := .int (q3.1 3 0)) rfl dX6_play_31 ?_
  refine lv_if_ne (tgt := 47) hx hb dX6_play_34 (by decide) (fun c4 => ?_) (fun c4 => ?_)
  · rw [if_neg c4] at hE
    refine cr_ldc C k5 dX6_play_47 ?_
    exact n49 vh vl vk q3.2.1 q3.2.2.1 q3.2.2.2.1 vs vx q3.2.2.2.2 q3.1 (-2000000002) hE _ _ _ _ hW (lv_sub hl [] rfl)
  · rw [if_pos c4] at hE
    refine lv_aload_n hx hb dX6_play_37 rfl (lv_at hl 0 rfl) ?_
    refine cr_get C hW.1 0 rfl rfl 4 (by decide) hinX6 k2 (v := .ref ((a 9) 0)) rfl dX6_play_38 ?_
    refine cr_get C hW.1 76 rfl rfl 5 (by decide) hinX5 k6 (v := .int (q3.1 5 0)) rfl dX6_play_41 ?_
    refine lv_goto (tgt := 49) hx hb dX6_play_44 (by decide) ?_
    exact n49 vh vl vk q3.2.1 q3.2.2.1 q3.2.2.2.1 vs vx q3.2.2.2.2 q3.1 (q3.1 5 0) hE _ _ _ _ hW (lv_sub hl [] rfl)
