set_option maxHeartbeats 4000000 in
set_option maxRecDepth 100000 in
theorem m_X3_changeSetting (L : Launch) (D : va_G) (ct : Nat → ClassId) (ah : Nat → Nat) (al : Nat → Nat) (ak : Nat → Nat) (vh : cr_V) (vl : cr_V) (vk : cr_V) (x1 : Int32) (x2 : Int32) (sz : Nat) (out : Int32 × cr_V) (hE : f_X3_changeSetting vh vl vk x1 x2 = some out) : Met L yX3_changeSetting wsX3_changeSetting ({ frames := 1, cells := 0, slots := 0, locals := 22 } : Room) (cr_pS D ct (cr_wH ct ah al ak vh vl vk) sz [.ref (ah 0), .int x1, .int x2]) (cr_QW D (cr_wH ct ah al ak vh vl vk) sz (fun r (u : cr_V) => (r, u) = out) (fun u : cr_V => cr_wH ct ah al ak u vl vk)) 0 0 (va_A (cr_wH ct ah al ak vh vl vk) sz) := by
  have k0 : (Cond.fieldLink RX3 40 "CupReceipts$House" "settings" "[I") ∈ wsX3_changeSetting := List.mem_of_getElem? (i := 5) rfl
  have k1 : (Cond.initialized RX6) ∈ wsX3_changeSetting := List.mem_of_getElem? (i := 7) rfl
  have k2 : (Cond.static yX6_isWithin) ∈ wsX3_changeSetting := List.mem_of_getElem? (i := 6) rfl
  have k3 : (Cond.constant RX3 70 (-2000000001)) ∈ wsX3_changeSetting := List.mem_of_getElem? (i := 1) rfl
  have k4 : (Cond.fieldLink RX3 21 "CupReceipts$House" "contracts" "LCupReceipts$Contracts;") ∈ wsX3_changeSetting := List.mem_of_getElem? (i := 2) rfl
  have k5 : (Cond.fieldLink RX3 146 "CupReceipts$Contracts" "size" "I") ∈ wsX3_changeSetting := List.mem_of_getElem? (i := 3) rfl
  have k6 : (Cond.constant RX3 82 (-2000000002)) ∈ wsX3_changeSetting := List.mem_of_getElem? (i := 4) rfl
  have hinX0 : ∀ w ∈ wsX00, w ∈ wsX3_changeSetting := fun w h => List.mem_cons_of_mem _ (List.mem_append_right _ h)
  have hinX3 : ∀ w ∈ wsX30, w ∈ wsX3_changeSetting := fun w h => List.mem_cons_of_mem _ (List.mem_append_left _ (List.mem_append_right _ h))
  refine cr_metS (Qc := fun A => va_Qi (fun r (u : cr_V) => (r, u) = out) (fun u t => cr_at D A ((fun u : cr_V => cr_wH ct ah al ak u vl vk) u) t) A) (by decide) rfl rfl (Nat.le_of_ble_eq_true rfl) ?_
  intro p e s m args below meth c ls A hNF hST C hW hl
  obtain ⟨t1, t2, hZ1, hT1, hZ2, hT2⟩ := id hST
  obtain ⟨hx, hb, hml, hown, hts, hr, hlocks, hK, hN⟩ := id C
  have hl : lv_has ls 4 [(0, .ref (ah 0)), (1, .int x1), (2, .int x2)] := hl
  have n46 :  ∀ (vh : cr_V) (vl : cr_V) (vk : cr_V) (x1 : Int32) (x2 : Int32) (hE : f_X3_changeSetting_46  vh vl vk x1 x2 = some out) (H : Heap) (locs : List Loc) (ls : Array Slot) (hW : cr_wd D A s (cr_wH ct ah al ak vh vl vk) H locs) (hl : lv_has ls 4 [(0, .ref (ah 0)), (1, .int x1), (2, .int x2)]), W p L e ({ frames := 1, cells := 0, slots := 0, locals := 22 } : Room) s m args below meth c H locs 0 0 (MQ below (va_Qi (fun r (u : cr_V) => (r, u) = out) (fun u t => cr_at D A ((fun u : cr_V => cr_wH ct ah al ak u vl vk) u) t) A) args s 0 0 A) (F0 m 46 ls []) := by
    intro  vh vl vk x1 x2 hE H locs ls hW hl
    replace hE : (if cr_in x1 5 = true then some ((vh 3 (cr_x x1)), (cr_a vh 3 (cr_x x1) x2)) else none) = some out := hE
    refine lv_aload_n hx hb dX3_changeSetting_46 rfl (lv_at hl 0 rfl) ?_
    refine cr_get C hW.1 0 rfl rfl 3 (by decide) hinX3 k0 (v := .ref (ah 4)) rfl dX3_changeSetting_47 ?_
    refine lv_iload_n hx hb dX3_changeSetting_50 rfl (lv_at hl 1 rfl) ?_
    obtain ⟨i1, hE⟩ := cr_ifn hE
    refine cr_ald C hW.1 2 (f := vh 3) (k := cr_x x1) rfl i1 (cr_xe _) dX3_changeSetting_51 ?_
    refine lv_istore_n (lv' := [(3, .int (vh 3 (cr_x x1))), (0, .ref (ah 0)), (1, .int x1), (2, .int x2)]) hx hb dX3_changeSetting_52 rfl hl (by decide) rfl (fun ls hl => ?_)
    refine lv_aload_n hx hb dX3_changeSetting_53 rfl (lv_at hl 1 rfl) ?_
    refine cr_get C hW.1 0 rfl rfl 3 (by decide) hinX3 k0 (v := .ref (ah 4)) rfl dX3_changeSetting_54 ?_
    refine lv_iload_n hx hb dX3_changeSetting_57 rfl (lv_at hl 2 rfl) ?_
    refine lv_iload_n hx hb dX3_changeSetting_58 rfl (lv_at hl 3 rfl) ?_
    refine cr_ast C hW 2 rfl (k := (cr_x x1)) i1 (cr_xe _) (w' := cr_wH ct ah al ak (cr_a vh 3 (cr_x x1) x2) vl vk) rfl dX3_changeSetting_59 (fun H locs hW => ?_)
    refine lv_iload_n hx hb dX3_changeSetting_60 rfl (lv_at hl 0 rfl) ?_
    exact cr_retW C (w := (fun u : cr_V => cr_wH ct ah al ak u vl vk)) (cr_a vh 3 (cr_x x1) x2) hW (Option.some.inj hE) dX3_changeSetting_61
  replace hE : ((f_X6_isWithin x1 0 4).bind fun q2 => if q2 = 0 then (some ((-2000000001), vh)) else (if cr_in x1 5 = true then (f_X6_isWithin x2 (cr_least (cr_x x1)) (cr_most (cr_x x1))).bind fun q5 => if q5 = 0 then (some ((-2000000001), vh)) else (if x1 = 0 then (if (vk 2 0) ≤ 0 then (f_X3_changeSetting_46 vh vl vk x1 x2) else (some ((-2000000002), vh))) else (f_X3_changeSetting_46 vh vl vk x1 x2)) else none)) = some out := hE
  refine lv_iload_n hx hb dX3_changeSetting_0 rfl (lv_at hl 1 rfl) ?_
  refine lv_iconst (v := 0) hx hb dX3_changeSetting_1 (by decide) ?_
  refine lv_iconst (v := 4) hx hb dX3_changeSetting_2 (by decide) ?_
  obtain ⟨q2, hq2, hE⟩ := cr_bind hE
  refine cr_nRwq (n := 3) (As := [.int x1, .int 0, .int 4]) (rest := []) C hW (m_X6_isWithin L D ct x1 0 4 q2 hq2) ⟨va_cnB 3 hts gX3_changeSetting_X6_isWithin_n66 rfl rfl rfl hN.2.2.1 (hts _ k1) (by decide +kernel) ⟨Nat.le_of_ble_eq_true rfl, Nat.le_of_ble_eq_true rfl⟩, hts _ k2, trivial⟩ rfl hl.1 rfl (Nat.le_of_ble_eq_true rfl) dX3_changeSetting_3 ⟨Nat.zero_le _, Nat.zero_le _⟩ (fun H locs hW => ?_)
  refine lv_if_eq (tgt := 26) hx hb dX3_changeSetting_6 (by decide) (fun c3 => ?_) (fun c3 => ?_)
  · rw [if_pos c3] at hE
    refine cr_ldc C k3 dX3_changeSetting_26 ?_
    exact cr_retW C (w := (fun u : cr_V => cr_wH ct ah al ak u vl vk)) vh hW (Option.some.inj hE) dX3_changeSetting_28
  · rw [if_neg c3] at hE
    refine lv_iload_n hx hb dX3_changeSetting_9 rfl (lv_at hl 2 rfl) ?_
    refine va_getsN hx hb hZ1 hW.2.2.1 hown (va_Nw.use rfl hNF.1) (fun _ h9 => h9) dX3_changeSetting_10 ?_
    refine lv_iload_n hx hb dX3_changeSetting_13 rfl (lv_at hl 1 rfl) ?_
    obtain ⟨i4, hE⟩ := cr_ifn hE
    refine va_ti hx hb hT1 hW.2.2.1 (cr_in_of i4) (v := .int (cr_least (cr_x x1))) (congrArg (fun k => Value.int (cr_least k)) (cr_xe _)) dX3_changeSetting_14 ?_
    refine va_getsN hx hb hZ2 hW.2.2.1 hown (va_Nw.use rfl hNF.2) (fun _ h9 => h9) dX3_changeSetting_15 ?_
    refine lv_iload_n hx hb dX3_changeSetting_18 rfl (lv_at hl 1 rfl) ?_
    refine va_ti hx hb hT2 hW.2.2.1 (cr_in_of i4) (v := .int (cr_most (cr_x x1))) (congrArg (fun k => Value.int (cr_most k)) (cr_xe _)) dX3_changeSetting_19 ?_
    obtain ⟨q5, hq5, hE⟩ := cr_bind hE
    refine cr_nRwq (n := 3) (As := [.int x2, .int (cr_least (cr_x x1)), .int (cr_most (cr_x x1))]) (rest := []) C hW (m_X6_isWithin L D ct x2 (cr_least (cr_x x1)) (cr_most (cr_x x1)) q5 hq5) ⟨va_cnB 3 hts gX3_changeSetting_X6_isWithin_n66 rfl rfl rfl hN.2.2.1 (hts _ k1) (by decide +kernel) ⟨Nat.le_of_ble_eq_true rfl, Nat.le_of_ble_eq_true rfl⟩, hts _ k2, trivial⟩ rfl hl.1 rfl (Nat.le_of_ble_eq_true rfl) dX3_changeSetting_20 ⟨Nat.zero_le _, Nat.zero_le _⟩ (fun H locs hW => ?_)
    refine lv_if_ne (tgt := 29) hx hb dX3_changeSetting_23 (by decide) (fun c6 => ?_) (fun c6 => ?_)
    · rw [if_neg c6] at hE
      refine lv_iload_n hx hb dX3_changeSetting_29 rfl (lv_at hl 1 rfl) ?_
      refine lv_if_ne (tgt := 46) hx hb dX3_changeSetting_30 (by decide) (fun c7 => ?_) (fun c7 => ?_)
      · rw [if_neg c7] at hE
        exact n46 vh vl vk x1 x2 hE _ _ _ hW (lv_sub hl [0, 1, 2] rfl)
      · rw [if_pos c7] at hE
        refine lv_aload_n hx hb dX3_changeSetting_33 rfl (lv_at hl 0 rfl) ?_
        refine cr_get C hW.1 0 rfl rfl 1 (by decide) hinX3 k4 (v := .ref (ak 0)) rfl dX3_changeSetting_34 ?_
        refine cr_get C hW.1 8 rfl rfl 2 (by decide) hinX0 k5 (v := .int (vk 2 0)) rfl dX3_changeSetting_37 ?_
        refine lv_if_le (tgt := 46) hx hb dX3_changeSetting_40 (by decide) (fun c8 => ?_) (fun c8 => ?_)
        · rw [if_pos c8] at hE
          exact n46 vh vl vk x1 x2 hE _ _ _ hW (lv_sub hl [0, 1, 2] rfl)
        · rw [if_neg c8] at hE
          refine cr_ldc C k6 dX3_changeSetting_43 ?_
          exact cr_retW C (w := (fun u : cr_V => cr_wH ct ah al ak u vl vk)) vh hW (Option.some.inj hE) dX3_changeSetting_45
    · rw [if_pos c6] at hE
      refine cr_ldc C k3 dX3_changeSetting_26 ?_
      exact cr_retW C (w := (fun u : cr_V => cr_wH ct ah al ak u vl vk)) vh hW (Option.some.inj hE) dX3_changeSetting_28

set_option maxHeartbeats 4000000 in
set_option maxRecDepth 100000 in
theorem m_X6_set (L : Launch) (D : va_G) (ct : Nat → ClassId) (a : Nat → Nat → Nat) (r : Nat → Nat → Nat → Nat) (vh : cr_V) (vl : cr_V) (vk : cr_V) (vt : cr_V) (vtl : cr_V) (vtk : cr_V) (vs : cr_V) (vx : Nat → Nat → cr_V) (vd : cr_V) (vo : cr_V) (x1 : Int32) (x2 : Int32) (sz : Nat) (out : Int32 × cr_V × cr_V × cr_V × cr_V × cr_V × cr_V × cr_V × (Nat → Nat → cr_V)) (hE : f_X6_set vh vl vk vt vtl vtk vs vx vd vo x1 x2 = some out) : Met L yX6_set wsX6_set ({ frames := 4, cells := 0, slots := 0, locals := 86 } : Room) (cr_pS D ct (cr_wX ct a r vh vl vk vt vtl vtk vs vx vd vo) sz [.ref (a 0 0), .int x1, .int x2]) (cr_QW D (cr_wX ct a r vh vl vk vt vtl vtk vs vx vd vo) sz (fun r (u : (Nat → Nat → Nat → Nat) × cr_V × cr_V × cr_V × cr_V × cr_V × cr_V × cr_V × (Nat → Nat → cr_V)) => (r, u.2) = out) (fun u : (Nat → Nat → Nat → Nat) × cr_V × cr_V × cr_V × cr_V × cr_V × cr_V × cr_V × (Nat → Nat → cr_V) => cr_wX ct a u.1 u.2.1 u.2.2.1 u.2.2.2.1 u.2.2.2.2.1 u.2.2.2.2.2.1 u.2.2.2.2.2.2.1 u.2.2.2.2.2.2.2.1 u.2.2.2.2.2.2.2.2 vd vo)) 0 0 (va_A (cr_wX ct a r vh vl vk vt vtl vtk vs vx vd vo) sz) := by
  have k0 : (Cond.fieldLink RX6 16 "CupReceipts" "trial" "LCupReceipts$House;") ∈ wsX6_set := List.mem_of_getElem? (i := 1) rfl
  have k1 : (Cond.fieldLink RX6 10 "CupReceipts" "house" "LCupReceipts$House;") ∈ wsX6_set := List.mem_of_getElem? (i := 2) rfl
  have hinX6 : ∀ w ∈ wsX60, w ∈ wsX6_set := fun w h => List.mem_cons_of_mem _ (List.mem_append_left _ (List.mem_append_left _ (List.mem_append_left _ (List.mem_append_left _ (List.mem_append_right _ h)))))
  refine cr_metS (Qc := fun A => va_Qi (fun r (u : (Nat → Nat → Nat → Nat) × cr_V × cr_V × cr_V × cr_V × cr_V × cr_V × cr_V × (Nat → Nat → cr_V)) => (r, u.2) = out) (fun u t => cr_at D A ((fun u : (Nat → Nat → Nat → Nat) × cr_V × cr_V × cr_V × cr_V × cr_V × cr_V × cr_V × (Nat → Nat → cr_V) => cr_wX ct a u.1 u.2.1 u.2.2.1 u.2.2.2.1 u.2.2.2.2.1 u.2.2.2.2.2.1 u.2.2.2.2.2.2.1 u.2.2.2.2.2.2.2.1 u.2.2.2.2.2.2.2.2 vd vo) u) t) A) (by decide) rfl rfl (Nat.le_of_ble_eq_true rfl) ?_
  intro p e s m args below meth c ls A hNF hST C hW hl
  obtain ⟨t1, t2, hZ1, hT1, hZ2, hT2⟩ := id hST
  obtain ⟨hx, hb, hml, hown, hts, hr, hlocks, hK, hN⟩ := id C
  have hl : lv_has ls 3 [(0, .ref (a 0 0)), (1, .int x1), (2, .int x2)] := hl
  replace hE : ((f_X3_copyFrom vt vtl vtk vh vl vk).bind fun q1 => (f_X3_changeSetting q1.1 q1.2.1 q1.2.2 x1 x2).bind fun q2 => (f_X6_accept vh vl vk q2.2 q1.2.1 q1.2.2 vs vx vd vo q2.1).bind fun q3 => some (q3.1, q3.2.1, q3.2.2.1, q3.2.2.2.1, q2.2, q1.2.1, q1.2.2, q3.2.2.2.2.1, q3.2.2.2.2.2)) = some out := hE
  refine lv_aload_n hx hb dX6_set_0 rfl (lv_at hl 0 rfl) ?_
  refine cr_get C hW.1 0 rfl rfl 1 (by decide) hinX6 k0 (v := .ref ((a 4) 0)) rfl dX6_set_1 ?_
  refine lv_aload_n hx hb dX6_set_4 rfl (lv_at hl 0 rfl) ?_
  refine cr_get C hW.1 0 rfl rfl 0 (by decide) hinX6 k1 (v := .ref ((a 1) 0)) rfl dX6_set_5 ?_
  obtain ⟨q1, hq1, hE⟩ := cr_bind hE
  refine cr_vVB (nb := 6) (n := 1) (As := [.ref ((a 1) 0)]) (rest := []) C hW (m_X3_copyFrom L D ct (a 4) (a 5) (a 6) (a 1) (a 2) (a 3) vt vtl vtk vh vl vk _ q1 hq1) (cwV 1 hts gX6_set_X3_copyFrom rfl rfl rfl (by decide +kernel) ⟨Nat.le_of_ble_eq_true rfl, Nat.le_of_ble_eq_true rfl⟩) [2, 1] [0, 3, 4, 5] [cr_wX0 ct a, cr_wH ct (a 1) (a 2) (a 3) vh vl vk, cr_wH ct (a 4) (a 5) (a 6) vt vtl vtk, cr_wR ct (a 7) vs r vx, cr_wD ct (a 8) vd, cr_wO ct (a 9) vo] (cr_wX ct a r vh vl vk q1.1 q1.2.1 q1.2.2 vs vx vd vo) [cr_wX0 ct a, cr_wH ct (a 1) (a 2) (a 3) vh vl vk, cr_wH ct (a 4) (a 5) (a 6) q1.1 q1.2.1 q1.2.2, cr_wR ct (a 7) vs r vx, cr_wD ct (a 8) vd, cr_wO ct (a 9) vo] ⟨rfl, rfl⟩ ⟨rfl, rfl⟩ rfl rfl rfl (by decide) 12 rfl rfl rfl hl.1 rfl (Nat.le_of_ble_eq_true rfl) dX6_set_8 ⟨Nat.zero_le _, Nat.zero_le _⟩ (fun H locs hW => ?_)
  refine lv_aload_n hx hb dX6_set_11 rfl (lv_at hl 0 rfl) ?_
  refine lv_aload_n hx hb dX6_set_12 rfl (lv_at hl 0 rfl) ?_
  refine cr_get C hW.1 0 rfl rfl 1 (by decide) hinX6 k0 (v := .ref ((a 4) 0)) rfl dX6_set_13 ?_
  refine lv_iload_n hx hb dX6_set_16 rfl (lv_at hl 1 rfl) ?_
  refine lv_iload_n hx hb dX6_set_17 rfl (lv_at hl 2 rfl) ?_
  obtain ⟨q2, hq2, hE⟩ := cr_bind hE
  refine cr_vSB (nb := 6) (n := 2) (As := [.int x1, .int x2]) (rest := [.ref (a 0 0)]) hNF hST C hW (m_X3_changeSetting L D ct (a 4) (a 5) (a 6) q1.1 q1.2.1 q1.2.2 x1 x2 _ q2 hq2) (cwV 2 hts gX6_set_X3_changeSetting rfl rfl rfl (by decide +kernel) ⟨Nat.le_of_ble_eq_true rfl, Nat.le_of_ble_eq_true rfl⟩) [2] [0, 1, 3, 4, 5] [cr_wX0 ct a, cr_wH ct (a 1) (a 2) (a 3) vh vl vk, cr_wH ct (a 4) (a 5) (a 6) q1.1 q1.2.1 q1.2.2, cr_wR ct (a 7) vs r vx, cr_wD ct (a 8) vd, cr_wO ct (a 9) vo] (cr_wX ct a r vh vl vk q2.2 q1.2.1 q1.2.2 vs vx vd vo) [cr_wX0 ct a, cr_wH ct (a 1) (a 2) (a 3) vh vl vk, cr_wH ct (a 4) (a 5) (a 6) q2.2 q1.2.1 q1.2.2, cr_wR ct (a 7) vs r vx, cr_wD ct (a 8) vd, cr_wO ct (a 9) vo] ⟨rfl, rfl⟩ ⟨rfl, rfl⟩ rfl rfl rfl (by decide) 12 rfl rfl rfl hl.1 rfl (Nat.le_of_ble_eq_true rfl) dX6_set_18 ⟨Nat.zero_le _, Nat.zero_le _⟩ (fun H locs hW => ?_)
  obtain ⟨q3, hq3, hE⟩ := cr_bind hE
  refine cr_vWBr (nb := 6) (n := 1) (As := [.int q2.1]) (rest := []) C hW (m_X6_accept L D ct a r vh vl vk q2.2 q1.2.1 q1.2.2 vs vx vd vo q2.1 _ q3 hq3) (cwV 1 hts gX6_set_X6_accept rfl rfl rfl (by decide +kernel) ⟨Nat.le_of_ble_eq_true rfl, Nat.le_of_ble_eq_true rfl⟩) [0, 1, 2, 3, 4, 5] [] [cr_wX0 ct a, cr_wH ct (a 1) (a 2) (a 3) vh vl vk, cr_wH ct (a 4) (a 5) (a 6) q2.2 q1.2.1 q1.2.2, cr_wR ct (a 7) vs r vx, cr_wD ct (a 8) vd, cr_wO ct (a 9) vo] (fun r => cr_wX ct a r q3.2.1 q3.2.2.1 q3.2.2.2.1 q2.2 q1.2.1 q1.2.2 q3.2.2.2.2.1 q3.2.2.2.2.2 vd vo) (fun r => [cr_wX0 ct a, cr_wH ct (a 1) (a 2) (a 3) q3.2.1 q3.2.2.1 q3.2.2.2.1, cr_wH ct (a 4) (a 5) (a 6) q2.2 q1.2.1 q1.2.2, cr_wR ct (a 7) q3.2.2.2.2.1 r q3.2.2.2.2.2, cr_wD ct (a 8) vd, cr_wO ct (a 9) vo]) ⟨rfl, rfl⟩ (fun _ => ⟨rfl, rfl⟩) rfl (fun _ => rfl) (fun _ => rfl) (by decide) 0 rfl rfl rfl hl.1 rfl (Nat.le_of_ble_eq_true rfl) dX6_set_21 ⟨Nat.zero_le _, Nat.zero_le _⟩ (fun r H locs hW => ?_)
  exact cr_retW C (w := (fun u : (Nat → Nat → Nat → Nat) × cr_V × cr_V × cr_V × cr_V × cr_V × cr_V × cr_V × (Nat → Nat → cr_V) => cr_wX ct a u.1 u.2.1 u.2.2.1 u.2.2.2.1 u.2.2.2.2.1 u.2.2.2.2.2.1 u.2.2.2.2.2.2.1 u.2.2.2.2.2.2.2.1 u.2.2.2.2.2.2.2.2 vd vo)) (r, q3.2.1, q3.2.2.1, q3.2.2.2.1, q2.2, q1.2.1, q1.2.2, q3.2.2.2.2.1, q3.2.2.2.2.2) hW (Option.some.inj hE) dX6_set_24
