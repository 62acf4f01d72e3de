set_option maxHeartbeats 4000000 in
set_option maxRecDepth 100000 in
theorem m_Jxf58ca_isNaN_12338 (L : Launch) (D : va_G) (ct : Nat → ClassId)   (x0 : UInt32) (out : Int32) (hE : f_Jxf58ca_isNaN_12338 x0 = some out) : Met L yJxf58ca_isNaN_12338 wsJxf58ca_isNaN_12338 ({ frames := 0, cells := 0, slots := 0, locals := 0 } : Room) (cr_pR D ct ([]) [.float x0]) (cr_QR (fun r => r = out)) 0 0 cr_no := by
  refine cr_metRF (by decide +kernel) rfl rfl (Nat.le_of_ble_eq_true rfl) ?_
  intro p e s m args below meth c ls C hP hS hl
  obtain ⟨hx, hb, hml, hown, hts, hr, hlocks, hK, hN⟩ := id C
  have hl : lv_has ls 1 [(0, .float x0)] := hl
  replace hE : (if (Op.cmpValue (FP.fcmp x0 x0) .l) = 0 then (some 0) else (some 1)) = some out := hE
  refine lv_fload_n hx hb dJxf58ca_isNaN_12338_0 rfl (lv_at hl 0 rfl) ?_
  refine lv_fload_n hx hb dJxf58ca_isNaN_12338_1 rfl (lv_at hl 0 rfl) ?_
  refine lv_fcmp hx hb dJxf58ca_isNaN_12338_2 ?_
  refine lv_if_eq (tgt := 10) hx hb dJxf58ca_isNaN_12338_3 (by decide) (fun c1 => ?_) (fun c1 => ?_)
  · rw [if_pos c1] at hE
    refine lv_iconst (v := 0) hx hb dJxf58ca_isNaN_12338_10 (by decide) ?_
    exact cr_retRz C hS rfl (Option.some.inj hE) dJxf58ca_isNaN_12338_11
  · rw [if_neg c1] at hE
    refine lv_iconst (v := 1) hx hb dJxf58ca_isNaN_12338_6 (by decide) ?_
    refine lv_goto (tgt := 11) hx hb dJxf58ca_isNaN_12338_7 (by decide) ?_
    exact cr_retRz C hS rfl (Option.some.inj hE) dJxf58ca_isNaN_12338_11

set_option maxHeartbeats 4000000 in
set_option maxRecDepth 100000 in
theorem m_Jxf58ca_floatToIntBits_5c35a (L : Launch) (D : va_G) (ct : Nat → ClassId)   (x0 : UInt32) (out : Int32) (hE : f_Jxf58ca_floatToIntBits_5c35a x0 = some out) : Met L yJxf58ca_floatToIntBits_5c35a wsJxf58ca_floatToIntBits_5c35a ({ frames := 1, cells := 0, slots := 0, locals := 23 } : Room) (cr_pR D ct ([]) [.float x0]) (cr_QR (fun r => r = out)) 0 0 cr_no := by
  have k0 : (Cond.constant RJxf58ca 77 (2143289344)) ∈ wsJxf58ca_floatToIntBits_5c35a := List.mem_of_getElem? (i := 5) rfl
  have k1 : (Cond.methodLink RJxf58ca 74 ⟨"java/lang/Float", "floatToRawIntBits", "(F)I"⟩) ∈ wsJxf58ca_floatToIntBits_5c35a := List.mem_of_getElem? (i := 1) rfl
  have k2 : (Cond.native ⟨"java/lang/Float", "floatToRawIntBits", "(F)I"⟩) ∈ wsJxf58ca_floatToIntBits_5c35a := List.mem_of_getElem? (i := 2) rfl
  have k3 : (Cond.static ⟨"java/lang/Float", "floatToRawIntBits", "(F)I"⟩) ∈ wsJxf58ca_floatToIntBits_5c35a := List.mem_of_getElem? (i := 3) rfl
  have k4 : (Cond.initialized "java/lang/Float") ∈ wsJxf58ca_floatToIntBits_5c35a := List.mem_of_getElem? (i := 4) rfl
  refine cr_metRF (by decide +kernel) rfl rfl (Nat.le_of_ble_eq_true rfl) ?_
  intro p e s m args below meth c ls C hP hS hl
  obtain ⟨hx, hb, hml, hown, hts, hr, hlocks, hK, hN⟩ := id C
  have hl : lv_has ls 1 [(0, .float x0)] := hl
  replace hE : ((f_Jxf58ca_isNaN_12338 x0).bind fun q1 => if q1 = 0 then (some ((x0).toInt32)) else (some 2143289344)) = some out := hE
  refine lv_fload_n hx hb dJxf58ca_floatToIntBits_5c35a_0 rfl (lv_at hl 0 rfl) ?_
  obtain ⟨q1, hq1, hE⟩ := cr_bind hE
  refine cr_sRq (n := 1) (As := [.float x0]) (rest := []) C hP hS (m_Jxf58ca_isNaN_12338 L D ct x0 q1 hq1) (va_cwS 1 hts gJxf58ca_floatToIntBits_5c35a_Jxf58ca_isNaN_12338 rfl rfl rfl (by decide +kernel) ⟨Nat.le_of_ble_eq_true rfl, Nat.le_of_ble_eq_true rfl⟩) rfl hl.1 rfl (Nat.le_of_ble_eq_true rfl) dJxf58ca_floatToIntBits_5c35a_1 ⟨Nat.zero_le _, Nat.zero_le _⟩ (fun H locs hP hS => ?_)
  refine lv_if_ne (tgt := 12) hx hb dJxf58ca_floatToIntBits_5c35a_4 (by decide) (fun c2 => ?_) (fun c2 => ?_)
  · rw [if_neg c2] at hE
    refine cr_ldc C k0 dJxf58ca_floatToIntBits_5c35a_12 ?_
    exact cr_retR C hS (Option.some.inj hE) dJxf58ca_floatToIntBits_5c35a_14
  · rw [if_pos c2] at hE
    refine lv_fload_n hx hb dJxf58ca_floatToIntBits_5c35a_7 rfl (lv_at hl 0 rfl) ?_
    refine vn_f2i hx hb (hml.trans hl.1.symm) hown (hts _ k1) (hts _ k2) (hts _ k3) (hts _ k4) (Nat.le_of_ble_eq_true rfl) (Nat.le_of_ble_eq_true rfl) dJxf58ca_floatToIntBits_5c35a_8 ?_
    exact cr_retR C hS (Option.some.inj hE) dJxf58ca_floatToIntBits_5c35a_11

set_option maxHeartbeats 4000000 in
set_option maxRecDepth 100000 in
theorem m_X6_bitsOfMeanCup (L : Launch) (D : va_G) (ct : Nat → ClassId)   (x0 : Int32) (x1 : Int32) (out : Int32) (hE : f_X6_bitsOfMeanCup x0 x1 = some out) : Met L yX6_bitsOfMeanCup wsX6_bitsOfMeanCup ({ frames := 0, cells := 0, slots := 0, locals := 0 } : Room) (cr_pR D ct ([]) [.int x0, .int x1]) (cr_QR (fun r => r = out)) 0 0 cr_no := by
  have k0 : (Cond.constantFloat RX6 223 (1207959552)) ∈ wsX6_bitsOfMeanCup := List.mem_of_getElem? (i := 2) rfl
  have k1 : (Cond.constant RX6 224 (1115684864)) ∈ wsX6_bitsOfMeanCup := List.mem_of_getElem? (i := 3) rfl
  have k2 : (Cond.constant RX6 225 (8388608)) ∈ wsX6_bitsOfMeanCup := List.mem_of_getElem? (i := 4) rfl
  have k3 : (Cond.constant RX6 158 (-2000000002)) ∈ wsX6_bitsOfMeanCup := List.mem_of_getElem? (i := 1) rfl
  refine cr_metR (by decide) rfl rfl (Nat.le_of_ble_eq_true rfl) ?_
  intro p e s m args below meth c ls C hP hS hl
  obtain ⟨hx, hb, hml, hown, hts, hr, hlocks, hK, hN⟩ := id C
  have hl : lv_has ls 4 [(0, .int x0), (1, .int x1)] := hl
  replace hE : (if 1 ≤ x1 then (if cr_num (FP.fdiv (FP.i2f x0) (FP.i2f x1)) = true then if cr_num (FP.fmul (FP.fdiv (FP.i2f x0) (FP.i2f x1)) 1207959552) = true then some ((1115684864 + (FP.f2i (FP.fmul (FP.fdiv (FP.i2f x0) (FP.i2f x1)) 1207959552))) - 8388608) else none else none) else (some (-2000000002))) = some out := hE
  refine lv_iload_n hx hb dX6_bitsOfMeanCup_0 rfl (lv_at hl 1 rfl) ?_
  refine lv_iconst (v := 1) hx hb dX6_bitsOfMeanCup_1 (by decide) ?_
  refine lv_icmp_ge (tgt := 8) hx hb dX6_bitsOfMeanCup_2 (by decide) (fun c1 => ?_) (fun c1 => ?_)
  · rw [if_pos c1] at hE
    refine lv_iload_n hx hb dX6_bitsOfMeanCup_8 rfl (lv_at hl 0 rfl) ?_
    refine lv_i2f hx hb dX6_bitsOfMeanCup_9 ?_
    refine lv_iload_n hx hb dX6_bitsOfMeanCup_10 rfl (lv_at hl 1 rfl) ?_
    refine lv_i2f hx hb dX6_bitsOfMeanCup_11 ?_
    obtain ⟨z2, hE⟩ := cr_ifn hE
    refine lv_fdiv hx hb dX6_bitsOfMeanCup_12 (cr_numN z2) ?_
    refine lv_fstore_n (lv' := [(2, .float (FP.fdiv (FP.i2f x0) (FP.i2f x1))), (0, .int x0), (1, .int x1)]) hx hb dX6_bitsOfMeanCup_13 rfl hl (by decide) rfl (fun ls hl => ?_)
    refine lv_fload_n hx hb dX6_bitsOfMeanCup_14 rfl (lv_at hl 0 rfl) ?_
    refine lv_ldcf hx hb hown (hts _ k0) dX6_bitsOfMeanCup_15 ?_
    obtain ⟨z3, hE⟩ := cr_ifn hE
    refine lv_fmul hx hb dX6_bitsOfMeanCup_17 (cr_numN z3) ?_
    refine lv_f2i hx hb dX6_bitsOfMeanCup_18 ?_
    refine lv_istore_n (lv' := [(3, .int (FP.f2i (FP.fmul (FP.fdiv (FP.i2f x0) (FP.i2f x1)) 1207959552))), (2, .float (FP.fdiv (FP.i2f x0) (FP.i2f x1))), (0, .int x0), (1, .int x1)]) hx hb dX6_bitsOfMeanCup_19 rfl hl (by decide) rfl (fun ls hl => ?_)
    refine cr_ldc C k1 dX6_bitsOfMeanCup_20 ?_
    refine lv_iload_n hx hb dX6_bitsOfMeanCup_22 rfl (lv_at hl 0 rfl) ?_
    refine lv_iadd hx hb dX6_bitsOfMeanCup_23 ?_
    refine cr_ldc C k2 dX6_bitsOfMeanCup_24 ?_
    refine lv_isub hx hb dX6_bitsOfMeanCup_26 ?_
    exact cr_retR C hS (Option.some.inj hE) dX6_bitsOfMeanCup_27
  · rw [if_neg c1] at hE
    refine cr_ldc C k3 dX6_bitsOfMeanCup_5 ?_
    exact cr_retR C hS (Option.some.inj hE) dX6_bitsOfMeanCup_7

set_option maxHeartbeats 4000000 in
set_option maxRecDepth 100000 in
theorem m_X6_would (L : Launch) (D : va_G) (ct : Nat → ClassId) (a : Nat → Nat → Nat) (r : Nat → Nat → Nat → Nat) (vh : cr_V) (vl : cr_V) (vk : cr_V) (vt : cr_V) (vtl : cr_V) (vtk : cr_V) (vs : cr_V) (vx : Nat → Nat → cr_V) (vd : cr_V) (vo : cr_V) (x1 : Int32) (x2 : Int32) (sz : Nat) (out : Int32 × cr_V) (hE : f_X6_would vh vl vk vt vtl vtk vs vx vd vo x1 x2 = some out) : Met L yX6_would wsX6_would ({ frames := 3, cells := 0, slots := 0, locals := 74 } : Room) (cr_pW D ct (cr_wX ct a r vh vl vk vt vtl vtk vs vx vd vo) sz [.ref (a 0 0), .int x1, .int x2]) (cr_QW D (cr_wX ct a r vh vl vk vt vtl vtk vs vx vd vo) sz (fun r (u : (Nat → Nat → Nat → Nat) × cr_V) => (r, u.2) = out) (fun u : (Nat → Nat → Nat → Nat) × cr_V => cr_wX ct a u.1 vh vl vk vt vtl vtk vs vx u.2 vo)) 0 0 (va_A (cr_wX ct a r vh vl vk vt vtl vtk vs vx vd vo) sz) := by
  have k0 : (Cond.fieldLink RX6 10 "CupReceipts" "house" "LCupReceipts$House;") ∈ wsX6_would := List.mem_of_getElem? (i := 1) rfl
  have k1 : (Cond.fieldLink RX6 103 "CupReceipts$House" "contracts" "LCupReceipts$Contracts;") ∈ wsX6_would := List.mem_of_getElem? (i := 2) rfl
  have k2 : (Cond.constant RX6 90 (-2000000001)) ∈ wsX6_would := List.mem_of_getElem? (i := 3) rfl
  have k3 : (Cond.fieldLink RX6 29 "CupReceipts" "delivery" "LCupReceipts$Delivery;") ∈ wsX6_would := List.mem_of_getElem? (i := 4) rfl
  have k4 : (Cond.fieldLink RX6 116 "CupReceipts$Contracts" "prices" "[I") ∈ wsX6_would := List.mem_of_getElem? (i := 5) rfl
  have k5 : (Cond.fieldLink RX6 119 "CupReceipts$House" "month" "I") ∈ wsX6_would := List.mem_of_getElem? (i := 6) rfl
  have k6 : (Cond.fieldLink RX6 155 "CupReceipts$Delivery" "missing" "I") ∈ wsX6_would := List.mem_of_getElem? (i := 7) rfl
  have k7 : (Cond.fieldLink RX6 159 "CupReceipts$Delivery" "pay" "I") ∈ wsX6_would := List.mem_of_getElem? (i := 9) rfl
  have k8 : (Cond.fieldLink RX6 162 "CupReceipts$Delivery" "gain" "I") ∈ wsX6_would := List.mem_of_getElem? (i := 10) rfl
  have k9 : (Cond.constant RX6 165 (1000000)) ∈ wsX6_would := List.mem_of_getElem? (i := 11) rfl
  have k10 : (Cond.fieldLink RX6 166 "CupReceipts$Delivery" "usedUp" "I") ∈ wsX6_would := List.mem_of_getElem? (i := 12) rfl
  have k11 : (Cond.fieldLink RX6 169 "CupReceipts$Delivery" "sumOfCups" "I") ∈ wsX6_would := List.mem_of_getElem? (i := 13) rfl
  have k12 : (Cond.fieldLink RX6 172 "CupReceipts$House" "settings" "[I") ∈ wsX6_would := List.mem_of_getElem? (i := 14) rfl
  have k13 : (Cond.constant RX6 158 (-2000000002)) ∈ wsX6_would := List.mem_of_getElem? (i := 8) rfl
  have hinX0 : ∀ w ∈ wsX00, w ∈ wsX6_would := fun w h => List.mem_cons_of_mem _ (List.mem_append_left _ (List.mem_append_left _ (List.mem_append_right _ h)))
  have hinX1 : ∀ w ∈ wsX10, w ∈ wsX6_would := fun w h => List.mem_cons_of_mem _ (List.mem_append_left _ (List.mem_append_right _ h))
  have hinX3 : ∀ w ∈ wsX30, w ∈ wsX6_would := fun w h => List.mem_cons_of_mem _ (List.mem_append_left _ (List.mem_append_left _ (List.mem_append_left _ (List.mem_append_right _ h))))
  have hinX6 : ∀ w ∈ wsX60, w ∈ wsX6_would := fun w h => List.mem_cons_of_mem _ (List.mem_append_left _ (List.mem_append_left _ (List.mem_append_left _ (List.mem_append_left _ (List.mem_append_right _ h)))))
  refine cr_metW (Qc := fun A => va_Qi (fun r (u : (Nat → Nat → Nat → Nat) × cr_V) => (r, u.2) = out) (fun u t => cr_at D A ((fun u : (Nat → Nat → Nat → Nat) × cr_V => cr_wX ct a u.1 vh vl vk vt vtl vtk vs vx u.2 vo) u) t) A) (by decide) rfl rfl (Nat.le_of_ble_eq_true rfl) ?_
  intro p e s m args below meth c ls A C hW hl
  obtain ⟨hx, hb, hml, hown, hts, hr, hlocks, hK, hN⟩ := id C
  have hl : lv_has ls 3 [(0, .ref (a 0 0)), (1, .int x1), (2, .int x2)] := hl
  replace hE : ((f_X0_isOpen vk x1).bind fun q1 => if q1 = 0 then (some ((-2000000001), vd)) else ((f_X6_isWithin x2 0 3).bind fun q3 => if q3 = 0 then (some ((-2000000001), vd)) else (if cr_in x1 6 = true then (f_X1_plan vd vh vl vk (vk 1 (cr_x x1)) (vh 4 0)).bind fun q6 => if (q6 3 0) ≤ 0 then (if x2 = 0 then (some ((q6 4 0), q6)) else (if x2 = 1 then (some (((q6 5 0) + 1000000), q6)) else (if x2 = 2 then (some ((q6 7 0), q6)) else ((f_X6_bitsOfMeanCup (q6 6 0) (vh 3 0)).bind fun q11 => some (q11, q6))))) else (some ((-2000000002), q6)) else none))) = some out := hE
  refine lv_aload_n hx hb dX6_would_0 rfl (lv_at hl 0 rfl) ?_
  refine cr_get C hW.1 0 rfl rfl 0 (by decide) hinX6 k0 (v := .ref ((a 1) 0)) rfl dX6_would_1 ?_
  refine cr_get C hW.1 1 rfl rfl 1 (by decide) hinX3 k1 (v := .ref ((a 3) 0)) rfl dX6_would_4 ?_
  refine lv_iload_n hx hb dX6_would_7 rfl (lv_at hl 1 rfl) ?_
  obtain ⟨q1, hq1, hE⟩ := cr_bind hE
  refine cr_vRwq (n := 1) (As := [.int x1]) (rest := []) C hW (m_X0_isOpen L D ct (a 3) vk x1 q1 hq1) (cwV 1 hts gX6_would_X0_isOpen rfl rfl rfl (by decide +kernel) ⟨Nat.le_of_ble_eq_true rfl, Nat.le_of_ble_eq_true rfl⟩) [9, 10, 11] rfl 9 rfl rfl rfl hl.1 rfl (Nat.le_of_ble_eq_true rfl) dX6_would_8 ⟨Nat.zero_le _, Nat.zero_le _⟩ (fun H locs hW => ?_)
  refine lv_if_eq (tgt := 23) hx hb dX6_would_11 (by decide) (fun c2 => ?_) (fun c2 => ?_)
  · rw [if_pos c2] at hE
    refine cr_ldc C k2 dX6_would_23 ?_
    exact cr_retW C (w := (fun u : (Nat → Nat → Nat → Nat) × cr_V => cr_wX ct a u.1 vh vl vk vt vtl vtk vs vx u.2 vo)) (r, vd) hW (Option.some.inj hE) dX6_would_25
  · rw [if_neg c2] at hE
    refine lv_iload_n hx hb dX6_would_14 rfl (lv_at hl 2 rfl) ?_
    refine lv_iconst (v := 0) hx hb dX6_would_15 (by decide) ?_
    refine lv_iconst (v := 3) hx hb dX6_would_16 (by decide) ?_
    obtain ⟨q3, hq3, hE⟩ := cr_bind hE
    refine cr_sRwq (n := 3) (As := [.int x2, .int 0, .int 3]) (rest := []) C hW (m_X6_isWithin L D ct x2 0 3 q3 hq3) (va_cwS 3 hts gX6_would_X6_isWithin rfl rfl rfl (by decide +kernel) ⟨Nat.le_of_ble_eq_true rfl, Nat.le_of_ble_eq_true rfl⟩) rfl hl.1 rfl (Nat.le_of_ble_eq_true rfl) dX6_would_17 ⟨Nat.zero_le _, Nat.zero_le _⟩ (fun H locs hW => ?_)
    refine lv_if_ne (tgt := 26) hx hb dX6_would_20 (by decide) (fun c4 => ?_) (fun c4 => ?_)
    · rw [if_neg c4] at hE
      refine lv_aload_n hx hb dX6_would_26 rfl (lv_at hl 0 rfl) ?_
      refine cr_get C hW.1 0 rfl rfl 3 (by decide) hinX6 k3 (v := .ref ((a 8) 0)) rfl dX6_would_27 ?_
      refine lv_aload_n hx hb dX6_would_30 rfl (lv_at hl 0 rfl) ?_
      refine cr_get C hW.1 0 rfl rfl 0 (by decide) hinX6 k0 (v := .ref ((a 1) 0)) rfl dX6_would_31 ?_
      refine lv_aload_n hx hb dX6_would_34 rfl (lv_at hl 0 rfl) ?_
      refine cr_get C hW.1 0 rfl rfl 0 (by decide) hinX6 k0 (v := .ref ((a 1) 0)) rfl dX6_would_35 ?_
      refine cr_get C hW.1 1 rfl rfl 1 (by decide) hinX3 k1 (v := .ref ((a 3) 0)) rfl dX6_would_38 ?_
      refine cr_get C hW.1 9 rfl rfl 1 (by decide) hinX0 k4 (v := .ref ((a 3) 2)) rfl dX6_would_41 ?_
      refine lv_iload_n hx hb dX6_would_44 rfl (lv_at hl 1 rfl) ?_
      obtain ⟨i5, hE⟩ := cr_ifn hE
      refine cr_ald C hW.1 11 (f := vk 1) (k := cr_x x1) rfl i5 (cr_xe _) dX6_would_45 ?_
      refine lv_aload_n hx hb dX6_would_46 rfl (lv_at hl 0 rfl) ?_
      refine cr_get C hW.1 0 rfl rfl 0 (by decide) hinX6 k0 (v := .ref ((a 1) 0)) rfl dX6_would_47 ?_
      refine cr_get C hW.1 1 rfl rfl 4 (by decide) hinX3 k5 (v := .int (vh 4 0)) rfl dX6_would_50 ?_
      obtain ⟨q6, hq6, hE⟩ := cr_bind hE
      refine cr_vVB (nb := 6) (n := 3) (As := [.ref ((a 1) 0), .int (vk 1 (cr_x x1)), .int (vh 4 0)]) (rest := []) C hW (m_X1_plan L D ct (a 8) (a 1) (a 2) (a 3) vd vh vl vk (vk 1 (cr_x x1)) (vh 4 0) _ q6 hq6) (cwV 3 hts gX6_would_X1_plan rfl rfl rfl (by decide +kernel) ⟨Nat.le_of_ble_eq_true rfl, Nat.le_of_ble_eq_true rfl⟩) [4, 1] [0, 2, 3, 5] [cr_wX0 ct a, cr_wH ct (a 1) (a 2) (a 3) vh vl vk, cr_wH ct (a 4) (a 5) (a 6) vt vtl vtk, cr_wR ct (a 7) vs r vx, cr_wD ct (a 8) vd, cr_wO ct (a 9) vo] (cr_wX ct a r vh vl vk vt vtl vtk vs vx q6 vo) [cr_wX0 ct a, cr_wH ct (a 1) (a 2) (a 3) vh vl vk, cr_wH ct (a 4) (a 5) (a 6) vt vtl vtk, cr_wR ct (a 7) vs r vx, cr_wD ct (a 8) q6, cr_wO ct (a 9) vo] ⟨rfl, rfl⟩ ⟨rfl, rfl⟩ rfl rfl rfl (by decide) 69 rfl rfl rfl hl.1 rfl (Nat.le_of_ble_eq_true rfl) dX6_would_53 ⟨Nat.zero_le _, Nat.zero_le _⟩ (fun H locs hW => ?_)
      refine lv_aload_n hx hb dX6_would_56 rfl (lv_at hl 0 rfl) ?_
      refine cr_get C hW.1 0 rfl rfl 3 (by decide) hinX6 k3 (v := .ref ((a 8) 0)) rfl dX6_would_57 ?_
      refine cr_get C hW.1 69 rfl rfl 3 (by decide) hinX1 k6 (v := .int (q6 3 0)) rfl dX6_would_60 ?_
      refine lv_if_le (tgt := 69) hx hb dX6_would_63 (by decide) (fun c7 => ?_) (fun c7 => ?_)
      · rw [if_pos c7] at hE
        refine lv_iload_n hx hb dX6_would_69 rfl (lv_at hl 2 rfl) ?_
        by_cases c8 : x2 = 0
        · rw [if_pos c8] at hE
          refine lv_tableIn (tgt := 96) (off := 26) hx hb dX6_would_70 (by rw [c8]; decide) (by rw [c8]; decide) (by rw [c8]; rfl) (by decide) ?_
          refine lv_aload_n hx hb dX6_would_96 rfl (lv_at hl 0 rfl) ?_
          refine cr_get C hW.1 0 rfl rfl 3 (by decide) hinX6 k3 (v := .ref ((a 8) 0)) rfl dX6_would_97 ?_
          refine cr_get C hW.1 69 rfl rfl 4 (by decide) hinX1 k7 (v := .int (q6 4 0)) rfl dX6_would_100 ?_
          exact cr_retW C (w := (fun u : (Nat → Nat → Nat → Nat) × cr_V => cr_wX ct a u.1 vh vl vk vt vtl vtk vs vx u.2 vo)) (r, q6) hW (Option.some.inj hE) dX6_would_103
        · rw [if_neg c8] at hE
          by_cases c9 : x2 = 1
          · rw [if_pos c9] at hE
            refine lv_tableIn (tgt := 104) (off := 34) hx hb dX6_would_70 (by rw [c9]; decide) (by rw [c9]; decide) (by rw [c9]; rfl) (by decide) ?_
            refine lv_aload_n hx hb dX6_would_104 rfl (lv_at hl 0 rfl) ?_
            refine cr_get C hW.1 0 rfl rfl 3 (by decide) hinX6 k3 (v := .ref ((a 8) 0)) rfl dX6_would_105 ?_
            refine cr_get C hW.1 69 rfl rfl 5 (by decide) hinX1 k8 (v := .int (q6 5 0)) rfl dX6_would_108 ?_
            refine cr_ldc C k9 dX6_would_111 ?_
            refine lv_iadd hx hb dX6_would_113 ?_
            exact cr_retW C (w := (fun u : (Nat → Nat → Nat → Nat) × cr_V => cr_wX ct a u.1 vh vl vk vt vtl vtk vs vx u.2 vo)) (r, q6) hW (Option.some.inj hE) dX6_would_114
          · rw [if_neg c9] at hE
            by_cases c10 : x2 = 2
            · rw [if_pos c10] at hE
              refine lv_tableIn (tgt := 115) (off := 45) hx hb dX6_would_70 (by rw [c10]; decide) (by rw [c10]; decide) (by rw [c10]; rfl) (by decide) ?_
              refine lv_aload_n hx hb dX6_would_115 rfl (lv_at hl 0 rfl) ?_
              refine cr_get C hW.1 0 rfl rfl 3 (by decide) hinX6 k3 (v := .ref ((a 8) 0)) rfl dX6_would_116 ?_
              refine cr_get C hW.1 69 rfl rfl 7 (by decide) hinX1 k10 (v := .int (q6 7 0)) rfl dX6_would_119 ?_
              exact cr_retW C (w := (fun u : (Nat → Nat → Nat → Nat) × cr_V => cr_wX ct a u.1 vh vl vk vt vtl vtk vs vx u.2 vo)) (r, q6) hW (Option.some.inj hE) dX6_would_122
            · rw [if_neg c10] at hE
              refine lv_tableOut (tgt := 123) hx hb dX6_would_70 (by have e0 := cr_ne (n := 0) (by decide) c8; have e1 := cr_ne (n := 1) (by decide) c9; have e2 := cr_ne (n := 2) (by decide) c10; omega) (by decide) ?_
              refine lv_aload_n hx hb dX6_would_123 rfl (lv_at hl 0 rfl) ?_
              refine cr_get C hW.1 0 rfl rfl 3 (by decide) hinX6 k3 (v := .ref ((a 8) 0)) rfl dX6_would_124 ?_
              refine cr_get C hW.1 69 rfl rfl 6 (by decide) hinX1 k11 (v := .int (q6 6 0)) rfl dX6_would_127 ?_
              refine lv_aload_n hx hb dX6_would_130 rfl (lv_at hl 0 rfl) ?_
              refine cr_get C hW.1 0 rfl rfl 0 (by decide) hinX6 k0 (v := .ref ((a 1) 0)) rfl dX6_would_131 ?_
              refine cr_get C hW.1 1 rfl rfl 3 (by decide) hinX3 k12 (v := .ref ((a 1) 4)) rfl dX6_would_134 ?_
              refine lv_iconst (v := 0) hx hb dX6_would_137 (by decide) ?_
              refine cr_ald C hW.1 3 (f := vh 3) (k := 0) rfl (by decide) (by decide) dX6_would_138 ?_
              obtain ⟨q11, hq11, hE⟩ := cr_bind hE
              refine cr_sRwq (n := 2) (As := [.int (q6 6 0), .int (vh 3 0)]) (rest := []) C hW (m_X6_bitsOfMeanCup L D ct (q6 6 0) (vh 3 0) q11 hq11) (va_cwS 2 hts gX6_would_X6_bitsOfMeanCup rfl rfl rfl (by decide +kernel) ⟨Nat.le_of_ble_eq_true rfl, Nat.le_of_ble_eq_true rfl⟩) rfl hl.1 rfl (Nat.le_of_ble_eq_true rfl) dX6_would_139 ⟨Nat.zero_le _, Nat.zero_le _⟩ (fun H locs hW => ?_)
              exact cr_retW C (w := (fun u : (Nat → Nat → Nat → Nat) × cr_V => cr_wX ct a u.1 vh vl vk vt vtl vtk vs vx u.2 vo)) (r, q6) hW (Option.some.inj hE) dX6_would_142
      · rw [if_neg c7] at hE
        refine cr_ldc C k13 dX6_would_66 ?_
        exact cr_retW C (w := (fun u : (Nat → Nat → Nat → Nat) × cr_V => cr_wX ct a u.1 vh vl vk vt vtl vtk vs vx u.2 vo)) (r, q6) hW (Option.some.inj hE) dX6_would_68
    · rw [if_pos c4] at hE
      refine cr_ldc C k2 dX6_would_23 ?_
      exact cr_retW C (w := (fun u : (Nat → Nat → Nat → Nat) × cr_V => cr_wX ct a u.1 vh vl vk vt vtl vtk vs vx u.2 vo)) (r, vd) hW (Option.some.inj hE) dX6_would_25

set_option maxHeartbeats 4000000 in
set_option maxRecDepth 100000 in
theorem m_X7_would (L : Launch) (D : va_G) (ct : Nat → ClassId) (az : Nat → Nat) (vz : cr_V) (x1 : Int32) (x2 : Int32) (sz : Nat) (out : Int32 × cr_V) (hE : f_X7_would vz x1 x2 = some out) : Met L yX7_would wsX7_would ({ frames := 5, cells := 0, slots := 0, locals := 119 } : Room) (cr_pW D ct (cr_wM ct az vz) sz [.ref (az 0), .int x1, .int x2]) (cr_QW D (cr_wM ct az vz) sz (fun r (u : cr_V) => (r, u) = out) (fun u : cr_V => cr_wM ct az u)) 0 0 (va_A (cr_wM ct az vz) sz) := by
  have k0 : (Cond.constant RX7 125 (1000000)) ∈ wsX7_would := List.mem_of_getElem? (i := 5) rfl
  have k1 : (Cond.fieldLink RX7 25 "CupReceiptsModel" "bagsOf" "[I") ∈ wsX7_would := List.mem_of_getElem? (i := 7) rfl
  have k2 : (Cond.fieldLink RX7 22 "CupReceiptsModel" "lots" "[I") ∈ wsX7_would := List.mem_of_getElem? (i := 8) rfl
  have k3 : (Cond.fieldLink RX7 102 "CupReceiptsModel" "places" "I") ∈ wsX7_would := List.mem_of_getElem? (i := 6) rfl
  have k4 : (Cond.fieldLink RX7 7 "CupReceiptsModel" "s" "[I") ∈ wsX7_would := List.mem_of_getElem? (i := 2) rfl
  have k5 : (Cond.constant RX7 65 (-2000000001)) ∈ wsX7_would := List.mem_of_getElem? (i := 1) rfl
  have k6 : (Cond.fieldLink RX7 105 "CupReceiptsModel" "wanting" "I") ∈ wsX7_would := List.mem_of_getElem? (i := 3) rfl
  have k7 : (Cond.constant RX7 77 (-2000000002)) ∈ wsX7_would := List.mem_of_getElem? (i := 4) rfl
  have hinX7 : ∀ w ∈ wsX70, w ∈ wsX7_would := fun w h => List.mem_cons_of_mem _ (List.mem_append_right _ h)
  refine cr_metW (Qc := fun A => va_Qi (fun r (u : cr_V) => (r, u) = out) (fun u t => cr_at D A ((fun u : cr_V => cr_wM ct az u) u) t) A) (by decide) rfl rfl (Nat.le_of_ble_eq_true rfl) ?_
  intro p e s m args below meth c ls A C hW hl
  obtain ⟨hx, hb, hml, hown, hts, hr, hlocks, hK, hN⟩ := id C
  have hl : lv_has ls 7 [(0, .ref (az 0)), (1, .int x1), (2, .int x2)] := hl
  have n84 :  ∀ (vz : cr_V) (s0 : Int32) (s1 : Int32) (hE : f_X7_would_84  vz s0 s1 = some out) (H : Heap) (locs : List Loc) (ls : Array Slot) (hW : cr_wd D A s (cr_wM ct az vz) H locs) (hl : lv_has ls 7 []), W p L e ({ frames := 5, cells := 0, slots := 0, locals := 119 } : Room) s m args below meth c H locs 0 0 (MQ below (va_Qi (fun r (u : cr_V) => (r, u) = out) (fun u t => cr_at D A ((fun u : cr_V => cr_wM ct az u) u) t) A) args s 0 0 A) (F0 m 84 ls [.int s0, .int s1]) := by
    intro  vz s0 s1 hE H locs ls hW hl
    replace hE : (some ((s1 + s0), vz)) = some out := hE
    refine lv_iadd hx hb dX7_would_84 ?_
    exact cr_retW C (w := (fun u : cr_V => cr_wM ct az u)) vz hW (Option.some.inj hE) dX7_would_85
  have n70 :  ∀ (vz : cr_V) (x2 : Int32) (s0 : Int32) (s1 : Int32) (s2 : Int32) (hE : f_X7_would_70  vz x2 s0 s1 s2 = some out) (H : Heap) (locs : List Loc) (ls : Array Slot) (hW : cr_wd D A s (cr_wM ct az vz) H locs) (hl : lv_has ls 7 [(2, .int x2)]), W p L e ({ frames := 5, cells := 0, slots := 0, locals := 119 } : Room) s m args below meth c H locs 0 0 (MQ below (va_Qi (fun r (u : cr_V) => (r, u) = out) (fun u t => cr_at D A ((fun u : cr_V => cr_wM ct az u) u) t) A) args s 0 0 A) (F0 m 70 ls [.int s0, .int s1, .int s2, .ref (az 0)]) := by
    intro  vz x2 s0 s1 s2 hE H locs ls hW hl
    replace hE : ((f_X7_paidAll vz s2 s1 s0).bind fun q1 => if x2 = 1 then (f_X7_would_84 vz 1000000 q1) else (f_X7_would_84 vz 0 q1)) = some out := hE
    obtain ⟨q1, hq1, hE⟩ := cr_bind hE
    refine cr_vRwq (n := 3) (As := [.int s2, .int s1, .int s0]) (rest := []) C hW (m_X7_paidAll L D ct az vz s2 s1 s0 q1 hq1) (cwV 3 hts gX7_would_X7_paidAll rfl rfl rfl (by decide +kernel) ⟨Nat.le_of_ble_eq_true rfl, Nat.le_of_ble_eq_true rfl⟩) [0, 1, 2, 3, 4, 5, 6, 7] rfl 0 rfl rfl rfl hl.1 rfl (Nat.le_of_ble_eq_true rfl) dX7_would_70 ⟨Nat.zero_le _, Nat.zero_le _⟩ (fun H locs hW => ?_)
    refine lv_iload_n hx hb dX7_would_73 rfl (lv_at hl 0 rfl) ?_
    refine lv_iconst (v := 1) hx hb dX7_would_74 (by decide) ?_
    refine lv_icmp_ne (tgt := 83) hx hb dX7_would_75 (by decide) (fun c2 => ?_) (fun c2 => ?_)
    · rw [if_neg c2] at hE
      refine lv_iconst (v := 0) hx hb dX7_would_83 (by decide) ?_
      exact n84 vz 0 q1 hE _ _ _ hW (lv_sub hl [] rfl)
    · rw [if_pos c2] at hE
      refine cr_ldc C k0 dX7_would_78 ?_
      refine lv_goto (tgt := 84) hx hb dX7_would_80 (by decide) ?_
      exact n84 vz 1000000 q1 hE _ _ _ hW (lv_sub hl [] rfl)
  have n133 : ∀ (k95_ : cr_V → Int32 → Int32 → Int32 → Int32 → Option (Int32 × cr_V)) (ih95_ : ∀ (vz : cr_V) (x2 : Int32) (x4 : Int32) (x5 : Int32) (x6 : Int32) (hE : k95_ vz x2 x4 x5 x6 = some out) (H : Heap) (locs : List Loc) (ls : Array Slot) (hW : cr_wd D A s (cr_wM ct az vz) H locs) (hl : lv_has ls 7 [(0, .ref (az 0)), (2, .int x2), (4, .int x4), (5, .int x5), (6, .int x6)]), W p L e ({ frames := 5, cells := 0, slots := 0, locals := 119 } : Room) s m args below meth c H locs 0 0 (MQ below (va_Qi (fun r (u : cr_V) => (r, u) = out) (fun u t => cr_at D A ((fun u : cr_V => cr_wM ct az u) u) t) A) args s 0 0 A) (F0 m 95 ls [])), ∀ (vz : cr_V) (x2 : Int32) (x5 : Int32) (x6 : Int32) (s0 : Int32) (s1 : Int32) (hE : f_X7_would_133 k95_ vz x2 x5 x6 s0 s1 = some out) (H : Heap) (locs : List Loc) (ls : Array Slot) (hW : cr_wd D A s (cr_wM ct az vz) H locs) (hl : lv_has ls 7 [(0, .ref (az 0)), (2, .int x2), (5, .int x5), (6, .int x6)]), W p L e ({ frames := 5, cells := 0, slots := 0, locals := 119 } : Room) s m args below meth c H locs 0 0 (MQ below (va_Qi (fun r (u : cr_V) => (r, u) = out) (fun u t => cr_at D A ((fun u : cr_V => cr_wM ct az u) u) t) A) args s 0 0 A) (F0 m 133 ls [.int s0, .int s1]) := by
    intro k95_ ih95_ vz x2 x5 x6 s0 s1 hE H locs ls hW hl
    replace hE : (if cr_in x6 12 = true then (f_X7_cupOf vz (vz 7 (cr_x x6))).bind fun q4 => k95_ vz x2 (s1 + s0) (x5 + ((vz 8 (cr_x x6)) * q4)) (x6 + 1) else none) = some out := hE
    refine lv_iadd hx hb dX7_would_133 ?_
    refine lv_istore (lv' := [(4, .int (s1 + s0)), (0, .ref (az 0)), (2, .int x2), (5, .int x5), (6, .int x6)]) hx hb dX7_would_134 hl (by decide) rfl (fun ls hl => ?_)
    refine lv_iload hx hb dX7_would_136 (lv_at hl 3 rfl) ?_
    refine lv_aload_n hx hb dX7_would_138 rfl (lv_at hl 1 rfl) ?_
    refine cr_get C hW.1 0 rfl rfl 8 (by decide) hinX7 k1 (v := .ref (az 9)) rfl dX7_would_139 ?_
    refine lv_iload hx hb dX7_would_142 (lv_at hl 4 rfl) ?_
    obtain ⟨i3, hE⟩ := cr_ifn hE
    refine cr_ald C hW.1 6 (f := vz 8) (k := cr_x x6) rfl i3 (cr_xe _) dX7_would_144 ?_
    refine lv_aload_n hx hb dX7_would_145 rfl (lv_at hl 1 rfl) ?_
    refine lv_aload_n hx hb dX7_would_146 rfl (lv_at hl 1 rfl) ?_
    refine cr_get C hW.1 0 rfl rfl 7 (by decide) hinX7 k2 (v := .ref (az 8)) rfl dX7_would_147 ?_
    refine lv_iload hx hb dX7_would_150 (lv_at hl 4 rfl) ?_
    refine cr_ald C hW.1 5 (f := vz 7) (k := cr_x x6) rfl i3 (cr_xe _) dX7_would_152 ?_
    obtain ⟨q4, hq4, hE⟩ := cr_bind hE
    refine cr_vRwq (n := 1) (As := [.int (vz 7 (cr_x x6))]) (rest := [.int (vz 8 (cr_x x6)), .int x5]) C hW (m_X7_cupOf L D ct az vz (vz 7 (cr_x x6)) q4 hq4) (cwV 1 hts gX7_would_X7_cupOf rfl rfl rfl (by decide +kernel) ⟨Nat.le_of_ble_eq_true rfl, Nat.le_of_ble_eq_true rfl⟩) [0, 1, 2, 3, 4, 5, 6, 7] rfl 0 rfl rfl rfl hl.1 rfl (Nat.le_of_ble_eq_true rfl) dX7_would_153 ⟨Nat.zero_le _, Nat.zero_le _⟩ (fun H locs hW => ?_)
    refine lv_imul hx hb dX7_would_156 ?_
    refine lv_iadd hx hb dX7_would_157 ?_
    refine lv_istore (lv' := [(5, .int (x5 + ((vz 8 (cr_x x6)) * q4))), (4, .int (s1 + s0)), (0, .ref (az 0)), (2, .int x2), (6, .int x6)]) hx hb dX7_would_158 hl (by decide) rfl (fun ls hl => ?_)
    refine lv_iinc (v := x6 + 1) (lv' := [(6, .int (x6 + 1)), (5, .int (x5 + ((vz 8 (cr_x x6)) * q4))), (4, .int (s1 + s0)), (0, .ref (az 0)), (2, .int x2)]) hx hb dX7_would_160 hl (k := 4) rfl (by first | rfl | decide) (by decide) rfl (fun ls hl => ?_)
    refine lv_goto (tgt := 95) hx hb dX7_would_163 (by decide) ?_
    exact ih95_ vz x2 (s1 + s0) (x5 + ((vz 8 (cr_x x6)) * q4)) (x6 + 1) hE _ _ _ hW (lv_sub hl [3, 4, 2, 1, 0] rfl)
  have n95 :  ∀ (n : Nat), ∀ (vz : cr_V) (x2 : Int32) (x4 : Int32) (x5 : Int32) (x6 : Int32) (hE : f_X7_would_95  n vz x2 x4 x5 x6 = some out) (H : Heap) (locs : List Loc) (ls : Array Slot) (hW : cr_wd D A s (cr_wM ct az vz) H locs) (hl : lv_has ls 7 [(0, .ref (az 0)), (2, .int x2), (4, .int x4), (5, .int x5), (6, .int x6)]), W p L e ({ frames := 5, cells := 0, slots := 0, locals := 119 } : Room) s m args below meth c H locs 0 0 (MQ below (va_Qi (fun r (u : cr_V) => (r, u) = out) (fun u t => cr_at D A ((fun u : cr_V => cr_wM ct az u) u) t) A) args s 0 0 A) (F0 m 95 ls []) := by
    intro  n
    induction n with
    | zero =>
      intro vz x2 x4 x5 x6 hE
      cases hE
    | succ n ih =>
      intro vz x2 x4 x5 x6 hE H locs ls hW hl
      replace hE : (if (vz 9 0) ≤ x6 then (if cr_num (FP.fdiv (FP.i2f x5) (FP.i2f (vz 0 8))) = true then if x2 = 2 then (some (x4, vz)) else ((f_Jxf58ca_floatToIntBits_5c35a (FP.fdiv (FP.i2f x5) (FP.i2f (vz 0 8)))).bind fun q8 => some (q8, vz)) else none) else (if cr_in x6 12 = true then (f_X7_of vz (vz 7 (cr_x x6)) 1).bind fun q10 => if (vz 8 (cr_x x6)) = q10 then (f_X7_would_133 (f_X7_would_95 n) vz x2 x5 x6 1 x4) else (f_X7_would_133 (f_X7_would_95 n) vz x2 x5 x6 0 x4) else none)) = some out := hE
      refine lv_iload hx hb dX7_would_95 (lv_at hl 4 rfl) ?_
      refine lv_aload_n hx hb dX7_would_97 rfl (lv_at hl 0 rfl) ?_
      refine cr_get C hW.1 0 rfl rfl 9 (by decide) hinX7 k3 (v := .int (vz 9 0)) rfl dX7_would_98 ?_
      refine lv_icmp_ge (tgt := 166) hx hb dX7_would_101 (by decide) (fun c5 => ?_) (fun c5 => ?_)
      · rw [if_pos c5] at hE
        refine lv_iload hx hb dX7_would_166 (lv_at hl 3 rfl) ?_
        refine lv_i2f hx hb dX7_would_168 ?_
        refine lv_aload_n hx hb dX7_would_169 rfl (lv_at hl 0 rfl) ?_
        refine cr_get C hW.1 0 rfl rfl 0 (by decide) hinX7 k4 (v := .ref (az 1)) rfl dX7_would_170 ?_
        refine lv_bipush (v := 8) hx hb dX7_would_173 (by decide) ?_
        refine cr_ald C hW.1 1 (f := vz 0) (k := 8) rfl (by decide) (by decide) dX7_would_175 ?_
        refine lv_i2f hx hb dX7_would_176 ?_
        obtain ⟨z6, hE⟩ := cr_ifn hE
        refine lv_fdiv hx hb dX7_would_177 (cr_numN z6) ?_
        refine lv_fstore (lv' := [(6, .float (FP.fdiv (FP.i2f x5) (FP.i2f (vz 0 8)))), (0, .ref (az 0)), (2, .int x2), (4, .int x4), (5, .int x5)]) hx hb dX7_would_178 hl (by decide) rfl (fun ls hl => ?_)
        refine lv_iload_n hx hb dX7_would_180 rfl (lv_at hl 2 rfl) ?_
        refine lv_iconst (v := 2) hx hb dX7_would_181 (by decide) ?_
        refine lv_icmp_ne (tgt := 190) hx hb dX7_would_182 (by decide) (fun c7 => ?_) (fun c7 => ?_)
        · rw [if_neg c7] at hE
          refine lv_fload hx hb dX7_would_190 (lv_at hl 0 rfl) ?_
          obtain ⟨q8, hq8, hE⟩ := cr_bind hE
          refine cr_sRwq (n := 1) (As := [.float (FP.fdiv (FP.i2f x5) (FP.i2f (vz 0 8)))]) (rest := []) C hW (m_Jxf58ca_floatToIntBits_5c35a L D ct (FP.fdiv (FP.i2f x5) (FP.i2f (vz 0 8))) q8 hq8) (va_cwS 1 hts gX7_would_Jxf58ca_floatToIntBits_5c35a rfl rfl rfl (by decide +kernel) ⟨Nat.le_of_ble_eq_true rfl, Nat.le_of_ble_eq_true rfl⟩) rfl hl.1 rfl (Nat.le_of_ble_eq_true rfl) dX7_would_192 ⟨Nat.zero_le _, Nat.zero_le _⟩ (fun H locs hW => ?_)
          exact cr_retW C (w := (fun u : cr_V => cr_wM ct az u)) vz hW (Option.some.inj hE) dX7_would_195
        · rw [if_pos c7] at hE
          refine lv_iload hx hb dX7_would_185 (lv_at hl 3 rfl) ?_
          refine lv_goto (tgt := 195) hx hb dX7_would_187 (by decide) ?_
          exact cr_retW C (w := (fun u : cr_V => cr_wM ct az u)) vz hW (Option.some.inj hE) dX7_would_195
      · rw [if_neg c5] at hE
        refine lv_iload hx hb dX7_would_104 (lv_at hl 2 rfl) ?_
        refine lv_aload_n hx hb dX7_would_106 rfl (lv_at hl 0 rfl) ?_
        refine cr_get C hW.1 0 rfl rfl 8 (by decide) hinX7 k1 (v := .ref (az 9)) rfl dX7_would_107 ?_
        refine lv_iload hx hb dX7_would_110 (lv_at hl 4 rfl) ?_
        obtain ⟨i9, hE⟩ := cr_ifn hE
        refine cr_ald C hW.1 6 (f := vz 8) (k := cr_x x6) rfl i9 (cr_xe _) dX7_would_112 ?_
        refine lv_aload_n hx hb dX7_would_113 rfl (lv_at hl 0 rfl) ?_
        refine lv_aload_n hx hb dX7_would_114 rfl (lv_at hl 0 rfl) ?_
        refine cr_get C hW.1 0 rfl rfl 7 (by decide) hinX7 k2 (v := .ref (az 8)) rfl dX7_would_115 ?_
        refine lv_iload hx hb dX7_would_118 (lv_at hl 4 rfl) ?_
        refine cr_ald C hW.1 5 (f := vz 7) (k := cr_x x6) rfl i9 (cr_xe _) dX7_would_120 ?_
        refine lv_iconst (v := 1) hx hb dX7_would_121 (by decide) ?_
        obtain ⟨q10, hq10, hE⟩ := cr_bind hE
        refine cr_vRwq (n := 2) (As := [.int (vz 7 (cr_x x6)), .int 1]) (rest := [.int (vz 8 (cr_x x6)), .int x4]) C hW (m_X7_of L D ct az vz (vz 7 (cr_x x6)) 1 q10 hq10) (cwV 2 hts gX7_would_X7_of rfl rfl rfl (by decide +kernel) ⟨Nat.le_of_ble_eq_true rfl, Nat.le_of_ble_eq_true rfl⟩) [0, 1, 2, 3, 4, 5, 6, 7] rfl 0 rfl rfl rfl hl.1 rfl (Nat.le_of_ble_eq_true rfl) dX7_would_122 ⟨Nat.zero_le _, Nat.zero_le _⟩ (fun H locs hW => ?_)
        refine lv_icmp_ne (tgt := 132) hx hb dX7_would_125 (by decide) (fun c11 => ?_) (fun c11 => ?_)
        · rw [if_neg c11] at hE
          refine lv_iconst (v := 0) hx hb dX7_would_132 (by decide) ?_
          exact n133 (f_X7_would_95 n) ih vz x2 x5 x6 0 x4 hE _ _ _ hW (lv_sub hl [0, 1, 3, 4] rfl)
        · rw [if_pos c11] at hE
          refine lv_iconst (v := 1) hx hb dX7_would_128 (by decide) ?_
          refine lv_goto (tgt := 133) hx hb dX7_would_129 (by decide) ?_
          exact n133 (f_X7_would_95 n) ih vz x2 x5 x6 1 x4 hE _ _ _ hW (lv_sub hl [0, 1, 3, 4] rfl)
  replace hE : ((f_X7_isContract vz x1).bind fun q12 => if q12 = 0 then (some ((-2000000001), vz)) else ((f_X7_in x2 0 3).bind fun q14 => if q14 = 0 then (some ((-2000000001), vz)) else ((f_X7_priceOf vz x1).bind fun q16 => (f_X7_gives vz q16 (vz 0 0)).bind fun q17 => if (q17 10 0) ≤ 0 then (if 2 ≤ x2 then (f_X7_would_95 10100 q17 x2 0 0 0) else (if x2 = 1 then (f_X7_would_70 q17 x2 1 (q17 0 0) q16) else (f_X7_would_70 q17 x2 0 (q17 0 0) q16))) else (some ((-2000000002), q17))))) = some out := hE
  refine lv_aload_n hx hb dX7_would_0 rfl (lv_at hl 0 rfl) ?_
  refine lv_iload_n hx hb dX7_would_1 rfl (lv_at hl 1 rfl) ?_
  obtain ⟨q12, hq12, hE⟩ := cr_bind hE
  refine cr_vRwq (n := 1) (As := [.int x1]) (rest := []) C hW (m_X7_isContract L D ct az vz x1 q12 hq12) (cwV 1 hts gX7_would_X7_isContract rfl rfl rfl (by decide +kernel) ⟨Nat.le_of_ble_eq_true rfl, Nat.le_of_ble_eq_true rfl⟩) [0, 1, 2, 3, 4, 5, 6, 7] rfl 0 rfl rfl rfl hl.1 rfl (Nat.le_of_ble_eq_true rfl) dX7_would_2 ⟨Nat.zero_le _, Nat.zero_le _⟩ (fun H locs hW => ?_)
  refine lv_if_eq (tgt := 17) hx hb dX7_would_5 (by decide) (fun c13 => ?_) (fun c13 => ?_)
  · rw [if_pos c13] at hE
    refine cr_ldc C k5 dX7_would_17 ?_
    exact cr_retW C (w := (fun u : cr_V => cr_wM ct az u)) vz hW (Option.some.inj hE) dX7_would_19
  · rw [if_neg c13] at hE
    refine lv_iload_n hx hb dX7_would_8 rfl (lv_at hl 2 rfl) ?_
    refine lv_iconst (v := 0) hx hb dX7_would_9 (by decide) ?_
    refine lv_iconst (v := 3) hx hb dX7_would_10 (by decide) ?_
    obtain ⟨q14, hq14, hE⟩ := cr_bind hE
    refine cr_sRwq (n := 3) (As := [.int x2, .int 0, .int 3]) (rest := []) C hW (m_X7_in L D ct x2 0 3 q14 hq14) (va_cwS 3 hts gX7_would_X7_in rfl rfl rfl (by decide +kernel) ⟨Nat.le_of_ble_eq_true rfl, Nat.le_of_ble_eq_true rfl⟩) rfl hl.1 rfl (Nat.le_of_ble_eq_true rfl) dX7_would_11 ⟨Nat.zero_le _, Nat.zero_le _⟩ (fun H locs hW => ?_)
    refine lv_if_ne (tgt := 20) hx hb dX7_would_14 (by decide) (fun c15 => ?_) (fun c15 => ?_)
    · rw [if_neg c15] at hE
      refine lv_aload_n hx hb dX7_would_20 rfl (lv_at hl 0 rfl) ?_
      refine lv_iload_n hx hb dX7_would_21 rfl (lv_at hl 1 rfl) ?_
      obtain ⟨q16, hq16, hE⟩ := cr_bind hE
      refine cr_vRwq (n := 1) (As := [.int x1]) (rest := []) C hW (m_X7_priceOf L D ct az vz x1 q16 hq16) (cwV 1 hts gX7_would_X7_priceOf rfl rfl rfl (by decide +kernel) ⟨Nat.le_of_ble_eq_true rfl, Nat.le_of_ble_eq_true rfl⟩) [0, 1, 2, 3, 4, 5, 6, 7] rfl 0 rfl rfl rfl hl.1 rfl (Nat.le_of_ble_eq_true rfl) dX7_would_22 ⟨Nat.zero_le _, Nat.zero_le _⟩ (fun H locs hW => ?_)
      refine lv_istore_n (lv' := [(3, .int q16), (0, .ref (az 0)), (1, .int x1), (2, .int x2)]) hx hb dX7_would_25 rfl hl (by decide) rfl (fun ls hl => ?_)
      refine lv_aload_n hx hb dX7_would_26 rfl (lv_at hl 1 rfl) ?_
      refine lv_iload_n hx hb dX7_would_27 rfl (lv_at hl 0 rfl) ?_
      refine lv_aload_n hx hb dX7_would_28 rfl (lv_at hl 1 rfl) ?_
      refine cr_get C hW.1 0 rfl rfl 0 (by decide) hinX7 k4 (v := .ref (az 1)) rfl dX7_would_29 ?_
      refine lv_iconst (v := 0) hx hb dX7_would_32 (by decide) ?_
      refine cr_ald C hW.1 1 (f := vz 0) (k := 0) rfl (by decide) (by decide) dX7_would_33 ?_
      obtain ⟨q17, hq17, hE⟩ := cr_bind hE
      refine cr_vVq (n := 2) (As := [.int q16, .int (vz 0 0)]) (rest := []) C hW (m_X7_gives L D ct az vz q16 (vz 0 0) _ q17 hq17) (cwV 2 hts gX7_would_X7_gives rfl rfl rfl (by decide +kernel) ⟨Nat.le_of_ble_eq_true rfl, Nat.le_of_ble_eq_true rfl⟩) [0, 1, 2, 3, 4, 5, 6, 7] [] [0, 1, 2, 3, 4, 5, 6, 7] (cr_wM ct az q17) rfl rfl rfl ⟨by decide +kernel, by decide +kernel, by decide +kernel, by decide +kernel⟩ 0 rfl rfl rfl hl.1 rfl (Nat.le_of_ble_eq_true rfl) dX7_would_34 ⟨Nat.zero_le _, Nat.zero_le _⟩ (fun H locs hW => ?_)
      refine lv_aload_n hx hb dX7_would_37 rfl (lv_at hl 1 rfl) ?_
      refine cr_get C hW.1 0 rfl rfl 10 (by decide) hinX7 k6 (v := .int (q17 10 0)) rfl dX7_would_38 ?_
      refine lv_if_le (tgt := 47) hx hb dX7_would_41 (by decide) (fun c18 => ?_) (fun c18 => ?_)
      · rw [if_pos c18] at hE
        refine lv_iload_n hx hb dX7_would_47 rfl (lv_at hl 3 rfl) ?_
        refine lv_iconst (v := 2) hx hb dX7_would_48 (by decide) ?_
        refine lv_icmp_ge (tgt := 86) hx hb dX7_would_49 (by decide) (fun c19 => ?_) (fun c19 => ?_)
        · rw [if_pos c19] at hE
          refine lv_iconst (v := 0) hx hb dX7_would_86 (by decide) ?_
          refine lv_istore (lv' := [(4, .int 0), (3, .int q16), (0, .ref (az 0)), (1, .int x1), (2, .int x2)]) hx hb dX7_would_87 hl (by decide) rfl (fun ls hl => ?_)
          refine lv_iconst (v := 0) hx hb dX7_would_89 (by decide) ?_
          refine lv_istore (lv' := [(5, .int 0), (4, .int 0), (3, .int q16), (0, .ref (az 0)), (1, .int x1), (2, .int x2)]) hx hb dX7_would_90 hl (by decide) rfl (fun ls hl => ?_)
          refine lv_iconst (v := 0) hx hb dX7_would_92 (by decide) ?_
          refine lv_istore (lv' := [(6, .int 0), (5, .int 0), (4, .int 0), (3, .int q16), (0, .ref (az 0)), (1, .int x1), (2, .int x2)]) hx hb dX7_would_93 hl (by decide) rfl (fun ls hl => ?_)
          exact n95 10100 q17 x2 0 0 0 hE _ _ _ hW (lv_sub hl [4, 6, 2, 1, 0] rfl)
        · rw [if_neg c19] at hE
          refine lv_aload_n hx hb dX7_would_52 rfl (lv_at hl 1 rfl) ?_
          refine lv_iload_n hx hb dX7_would_53 rfl (lv_at hl 0 rfl) ?_
          refine lv_aload_n hx hb dX7_would_54 rfl (lv_at hl 1 rfl) ?_
          refine cr_get C hW.1 0 rfl rfl 0 (by decide) hinX7 k4 (v := .ref (az 1)) rfl dX7_would_55 ?_
          refine lv_iconst (v := 0) hx hb dX7_would_58 (by decide) ?_
          refine cr_ald C hW.1 1 (f := q17 0) (k := 0) rfl (by decide) (by decide) dX7_would_59 ?_
          refine lv_iload_n hx hb dX7_would_60 rfl (lv_at hl 3 rfl) ?_
          refine lv_iconst (v := 1) hx hb dX7_would_61 (by decide) ?_
          refine lv_icmp_ne (tgt := 69) hx hb dX7_would_62 (by decide) (fun c20 => ?_) (fun c20 => ?_)
          · rw [if_neg c20] at hE
            refine lv_iconst (v := 0) hx hb dX7_would_69 (by decide) ?_
            exact n70 q17 x2 0 (q17 0 0) q16 hE _ _ _ hW (lv_sub hl [3] rfl)
          · rw [if_pos c20] at hE
            refine lv_iconst (v := 1) hx hb dX7_would_65 (by decide) ?_
            refine lv_goto (tgt := 70) hx hb dX7_would_66 (by decide) ?_
            exact n70 q17 x2 1 (q17 0 0) q16 hE _ _ _ hW (lv_sub hl [3] rfl)
      · rw [if_neg c18] at hE
        refine cr_ldc C k7 dX7_would_44 ?_
        exact cr_retW C (w := (fun u : cr_V => cr_wM ct az u)) q17 hW (Option.some.inj hE) dX7_would_46
    · rw [if_pos c15] at hE
      refine cr_ldc C k5 dX7_would_17 ?_
      exact cr_retW C (w := (fun u : cr_V => cr_wM ct az u)) vz hW (Option.some.inj hE) dX7_would_19
