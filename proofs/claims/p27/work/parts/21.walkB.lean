set_option maxHeartbeats 4000000 in
set_option maxRecDepth 100000 in
theorem m_X3_payForBag (L : Launch) (D : va_G) (ct : Nat → ClassId) (ah : Nat → Nat) (al : Nat → Nat) (ak : Nat → Nat) (vh : cr_V) (vl : cr_V) (vk : cr_V) (x1 : Int32) (x2 : Int32) (x3 : Int32) (out : Int32) (hE : f_X3_payForBag vh vl vk x1 x2 x3 = some out) : Met L yX3_payForBag wsX3_payForBag ({ frames := 0, cells := 0, slots := 0, locals := 0 } : Room) (cr_pR D ct (cr_wH ct ah al ak vh vl vk) [.ref (ah 0), .int x1, .int x2, .int x3]) (cr_QR (fun r => r = out)) 0 0 cr_no := by
  have k0 : (Cond.fieldLink RX3 40 "CupReceipts$House" "settings" "[I") ∈ wsX3_payForBag := List.mem_of_getElem? (i := 1) rfl
  have hinX3 : ∀ w ∈ wsX30, w ∈ wsX3_payForBag := fun w h => List.mem_cons_of_mem _ (List.mem_append_right _ h)
  refine cr_metR (by decide) rfl rfl (Nat.le_of_ble_eq_true rfl) ?_
  intro p e s m args below meth c ls C hP hS hl
  obtain ⟨hx, hb, hml, hown, hts, hr, hlocks, hK, hN⟩ := id C
  have hl : lv_has ls 5 [(0, .ref (ah 0)), (1, .int x1), (2, .int x2), (3, .int x3)] := hl
  replace hE : (if 1 ≤ ((x1 + ((x2 - 80) * (vh 3 2))) - ((vh 3 3) * x3)) then (some ((x1 + ((x2 - 80) * (vh 3 2))) - ((vh 3 3) * x3))) else (some 1)) = some out := hE
  refine lv_iload_n hx hb dX3_payForBag_0 rfl (lv_at hl 1 rfl) ?_
  refine lv_iload_n hx hb dX3_payForBag_1 rfl (lv_at hl 2 rfl) ?_
  refine lv_bipush (v := 80) hx hb dX3_payForBag_2 (by decide) ?_
  refine lv_isub hx hb dX3_payForBag_4 ?_
  refine lv_aload_n hx hb dX3_payForBag_5 rfl (lv_at hl 0 rfl) ?_
  refine cr_get C hP 0 rfl rfl 3 (by decide) hinX3 k0 (v := .ref (ah 4)) rfl dX3_payForBag_6 ?_
  refine lv_iconst (v := 2) hx hb dX3_payForBag_9 (by decide) ?_
  refine cr_ald C hP 2 (f := vh 3) (k := 2) rfl (by decide) (by decide) dX3_payForBag_10 ?_
  refine lv_imul hx hb dX3_payForBag_11 ?_
  refine lv_iadd hx hb dX3_payForBag_12 ?_
  refine lv_aload_n hx hb dX3_payForBag_13 rfl (lv_at hl 0 rfl) ?_
  refine cr_get C hP 0 rfl rfl 3 (by decide) hinX3 k0 (v := .ref (ah 4)) rfl dX3_payForBag_14 ?_
  refine lv_iconst (v := 3) hx hb dX3_payForBag_17 (by decide) ?_
  refine cr_ald C hP 2 (f := vh 3) (k := 3) rfl (by decide) (by decide) dX3_payForBag_18 ?_
  refine lv_iload_n hx hb dX3_payForBag_19 rfl (lv_at hl 3 rfl) ?_
  refine lv_imul hx hb dX3_payForBag_20 ?_
  refine lv_isub hx hb dX3_payForBag_21 ?_
  refine lv_istore (lv' := [(4, .int ((x1 + ((x2 - 80) * (vh 3 2))) - ((vh 3 3) * x3))), (0, .ref (ah 0)), (1, .int x1), (2, .int x2), (3, .int x3)]) hx hb dX3_payForBag_22 hl (by decide) rfl (fun ls hl => ?_)
  refine lv_iload hx hb dX3_payForBag_24 (lv_at hl 0 rfl) ?_
  refine lv_iconst (v := 1) hx hb dX3_payForBag_26 (by decide) ?_
  refine lv_icmp_ge (tgt := 34) hx hb dX3_payForBag_27 (by decide) (fun c1 => ?_) (fun c1 => ?_)
  · rw [if_pos c1] at hE
    refine lv_iload hx hb dX3_payForBag_34 (lv_at hl 0 rfl) ?_
    exact cr_retR C hS (Option.some.inj hE) dX3_payForBag_36
  · rw [if_neg c1] at hE
    refine lv_iconst (v := 1) hx hb dX3_payForBag_30 (by decide) ?_
    refine lv_goto (tgt := 36) hx hb dX3_payForBag_31 (by decide) ?_
    exact cr_retR C hS (Option.some.inj hE) dX3_payForBag_36

set_option maxHeartbeats 4000000 in
set_option maxRecDepth 100000 in
theorem m_X6_bandOf (L : Launch) (D : va_G) (ct : Nat → ClassId)   (x0 : Int32) (out : Int32) (hE : f_X6_bandOf x0 = some out) : Met L yX6_bandOf wsX6_bandOf ({ frames := 0, cells := 0, slots := 0, locals := 0 } : Room) (cr_pR D ct ([]) [.int x0]) (cr_QR (fun r => r = out)) 0 0 cr_no := by
  refine cr_metR (by decide) rfl rfl (Nat.le_of_ble_eq_true rfl) ?_
  intro p e s m args below meth c ls C hP hS hl
  obtain ⟨hx, hb, hml, hown, hts, hr, hlocks, hK, hN⟩ := id C
  have hl : lv_has ls 1 [(0, .int x0)] := hl
  replace hE : (if 70 ≤ x0 then (if 80 ≤ x0 then (if 90 ≤ x0 then (some 3) else (some 2)) else (some 1)) else (some 0)) = some out := hE
  refine lv_iload_n hx hb dX6_bandOf_0 rfl (lv_at hl 0 rfl) ?_
  refine lv_bipush (v := 70) hx hb dX6_bandOf_1 (by decide) ?_
  refine lv_icmp_ge (tgt := 8) hx hb dX6_bandOf_3 (by decide) (fun c1 => ?_) (fun c1 => ?_)
  · rw [if_pos c1] at hE
    refine lv_iload_n hx hb dX6_bandOf_8 rfl (lv_at hl 0 rfl) ?_
    refine lv_bipush (v := 80) hx hb dX6_bandOf_9 (by decide) ?_
    refine lv_icmp_ge (tgt := 16) hx hb dX6_bandOf_11 (by decide) (fun c2 => ?_) (fun c2 => ?_)
    · rw [if_pos c2] at hE
      refine lv_iload_n hx hb dX6_bandOf_16 rfl (lv_at hl 0 rfl) ?_
      refine lv_bipush (v := 90) hx hb dX6_bandOf_17 (by decide) ?_
      refine lv_icmp_ge (tgt := 26) hx hb dX6_bandOf_19 (by decide) (fun c3 => ?_) (fun c3 => ?_)
      · rw [if_pos c3] at hE
        refine lv_iconst (v := 3) hx hb dX6_bandOf_26 (by decide) ?_
        exact cr_retR C hS (Option.some.inj hE) dX6_bandOf_27
      · rw [if_neg c3] at hE
        refine lv_iconst (v := 2) hx hb dX6_bandOf_22 (by decide) ?_
        refine lv_goto (tgt := 27) hx hb dX6_bandOf_23 (by decide) ?_
        exact cr_retR C hS (Option.some.inj hE) dX6_bandOf_27
    · rw [if_neg c2] at hE
      refine lv_iconst (v := 1) hx hb dX6_bandOf_14 (by decide) ?_
      exact cr_retR C hS (Option.some.inj hE) dX6_bandOf_15
  · rw [if_neg c1] at hE
    refine lv_iconst (v := 0) hx hb dX6_bandOf_6 (by decide) ?_
    exact cr_retR C hS (Option.some.inj hE) dX6_bandOf_7

set_option maxHeartbeats 4000000 in
set_option maxRecDepth 100000 in
theorem m_X1_rate (L : Launch) (D : va_G) (ct : Nat → ClassId) (ad : Nat → Nat) (ah : Nat → Nat) (al : Nat → Nat) (ak : Nat → Nat) (vd : cr_V) (vh : cr_V) (vl : cr_V) (vk : cr_V) (x2 : Int32) (x3 : Int32) (sz : Nat) (out : cr_V) (hE : f_X1_rate vd vh vl vk x2 x3 = some out) : Met L yX1_rate wsX1_rate ({ frames := 1, cells := 0, slots := 0, locals := 24 } : Room) (cr_pW D ct (cr_wD ct ad vd ++ cr_wH ct ah al ak vh vl vk) sz [.ref (ad 0), .ref (ah 0), .int x2, .int x3]) (cr_QV D (cr_wD ct ad vd ++ cr_wH ct ah al ak vh vl vk) sz (fun u : cr_V => u = out) (fun u : cr_V => cr_wD ct ad u ++ cr_wH ct ah al ak vh vl vk)) 0 0 (va_A (cr_wD ct ad vd ++ cr_wH ct ah al ak vh vl vk) sz) := by
  have k0 : (Cond.fieldLink RX1 22 "CupReceipts$Delivery" "cups" "[I") ∈ wsX1_rate := List.mem_of_getElem? (i := 4) rfl
  have k1 : (Cond.fieldLink RX1 25 "CupReceipts$Delivery" "pays" "[I") ∈ wsX1_rate := List.mem_of_getElem? (i := 5) rfl
  have k2 : (Cond.fieldLink RX1 59 "CupReceipts$House" "lots" "LCupReceipts$Lots;") ∈ wsX1_rate := List.mem_of_getElem? (i := 1) rfl
  have k3 : (Cond.fieldLink RX1 28 "CupReceipts$Delivery" "gains" "[I") ∈ wsX1_rate := List.mem_of_getElem? (i := 6) rfl
  have k4 : (Cond.fieldLink RX1 88 "CupReceipts$House" "worths" "[I") ∈ wsX1_rate := List.mem_of_getElem? (i := 7) rfl
  have k5 : (Cond.initialized RX6) ∈ wsX1_rate := List.mem_of_getElem? (i := 26) rfl
  have k6 : (Cond.static yX6_bandOf) ∈ wsX1_rate := List.mem_of_getElem? (i := 25) rfl
  have k7 : (Cond.fieldLink RX1 63 "CupReceipts$Lots" "size" "I") ∈ wsX1_rate := List.mem_of_getElem? (i := 2) rfl
  have k8 : (Cond.fieldLink RX1 18 "CupReceipts$Delivery" "waiting" "[Z") ∈ wsX1_rate := List.mem_of_getElem? (i := 3) rfl
  have hinX1 : ∀ w ∈ wsX10, w ∈ wsX1_rate := fun w h => List.mem_cons_of_mem _ (List.mem_append_right _ h)
  have hinX3 : ∀ w ∈ wsX30, w ∈ wsX1_rate := fun w h => List.mem_cons_of_mem _ (List.mem_append_left _ (List.mem_append_left _ (List.mem_append_right _ h)))
  have hinX4 : ∀ w ∈ wsX40, w ∈ wsX1_rate := fun w h => List.mem_cons_of_mem _ (List.mem_append_left _ (List.mem_append_right _ h))
  refine cr_metW (Qc := fun A => va_Qv (fun u : cr_V => u = out) (fun u t => cr_at D A ((fun u : cr_V => cr_wD ct ad u ++ cr_wH ct ah al ak vh vl vk) u) t) A) (by decide) rfl rfl (Nat.le_of_ble_eq_true rfl) ?_
  intro p e s m args below meth c ls A C hW hl
  obtain ⟨hx, hb, hml, hown, hts, hr, hlocks, hK, hN⟩ := id C
  have hl : lv_has ls 6 [(0, .ref (ad 0)), (1, .ref (ah 0)), (2, .int x2), (3, .int x3)] := hl
  have n45 : ∀ (k3_ : cr_V → cr_V → cr_V → cr_V → Int32 → Int32 → Int32 → Option (cr_V)) (ih3_ : ∀ (vd : cr_V) (vh : cr_V) (vl : cr_V) (vk : cr_V) (x2 : Int32) (x3 : Int32) (x4 : Int32) (hE : k3_ vd vh vl vk x2 x3 x4 = some out) (H : Heap) (locs : List Loc) (ls : Array Slot) (hW : cr_wd D A s (cr_wD ct ad vd ++ cr_wH ct ah al ak vh vl vk) H locs) (hl : lv_has ls 6 [(0, .ref (ad 0)), (1, .ref (ah 0)), (2, .int x2), (3, .int x3), (4, .int x4)]), W p L e ({ frames := 1, cells := 0, slots := 0, locals := 24 } : Room) s m args below meth c H locs 0 0 (MQ below (va_Qv (fun u : cr_V => u = out) (fun u t => cr_at D A ((fun u : cr_V => cr_wD ct ad u ++ cr_wH ct ah al ak vh vl vk) u) t) A) args s 0 0 A) (F0 m 3 ls [])), ∀ (vd : cr_V) (vh : cr_V) (vl : cr_V) (vk : cr_V) (x2 : Int32) (x3 : Int32) (x4 : Int32) (x5 : Int32) (s0 : Int32) (s1 : Int32) (hE : f_X1_rate_45 k3_ vd vh vl vk x2 x3 x4 x5 s0 s1 = some out) (H : Heap) (locs : List Loc) (ls : Array Slot) (hW : cr_wd D A s (cr_wD ct ad vd ++ cr_wH ct ah al ak vh vl vk) H locs) (hl : lv_has ls 6 [(0, .ref (ad 0)), (1, .ref (ah 0)), (2, .int x2), (3, .int x3), (4, .int x4), (5, .int x5)]), W p L e ({ frames := 1, cells := 0, slots := 0, locals := 24 } : Room) s m args below meth c H locs 0 0 (MQ below (va_Qv (fun u : cr_V => u = out) (fun u t => cr_at D A ((fun u : cr_V => cr_wD ct ad u ++ cr_wH ct ah al ak vh vl vk) u) t) A) args s 0 0 A) (F0 m 45 ls [.int s0, .int s1, .ref (ad 9)]) := by
    intro k3_ ih3_ vd vh vl vk x2 x3 x4 x5 s0 s1 hE H locs ls hW hl
    replace hE : (if cr_in s1 12 = true then if cr_in x4 12 = true then (f_X4_monthsTooOld vl x4 x3).bind fun q3 => (f_X3_payForBag vh vl vk x2 x5 q3).bind fun q4 => (f_X6_bandOf x5).bind fun q5 => if cr_in q5 4 = true then k3_ (cr_a (cr_a (cr_a (cr_a vd 8 (cr_x s1) (vp_nar .boolean s0)) 9 (cr_x x4) x5) 10 (cr_x x4) q4) 11 (cr_x x4) (((cr_a vd 10 (cr_x x4) q4) 10 (cr_x x4)) - (vh 2 (cr_x q5)))) vh vl vk x2 x3 (x4 + 1) else none else none else none) = some out := hE
    obtain ⟨i1, hE⟩ := cr_ifn hE
    refine cr_zast C hW 3 rfl (k := (cr_x s1)) i1 (cr_xe _) (w' := cr_wD ct ad (cr_a vd 8 (cr_x s1) (vp_nar .boolean s0)) ++ cr_wH ct ah al ak vh vl vk) rfl dX1_rate_45 (fun H locs hW => ?_)
    refine lv_aload_n hx hb dX1_rate_46 rfl (lv_at hl 0 rfl) ?_
    refine cr_get C hW.1 0 rfl rfl 9 (by decide) hinX1 k0 (v := .ref (ad 10)) rfl dX1_rate_47 ?_
    refine lv_iload hx hb dX1_rate_50 (lv_at hl 4 rfl) ?_
    refine lv_iload hx hb dX1_rate_52 (lv_at hl 5 rfl) ?_
    obtain ⟨i2, hE⟩ := cr_ifn hE
    refine cr_ast C hW 4 rfl (k := (cr_x x4)) i2 (cr_xe _) (w' := cr_wD ct ad (cr_a (cr_a vd 8 (cr_x s1) (vp_nar .boolean s0)) 9 (cr_x x4) x5) ++ cr_wH ct ah al ak vh vl vk) rfl dX1_rate_54 (fun H locs hW => ?_)
    refine lv_aload_n hx hb dX1_rate_55 rfl (lv_at hl 0 rfl) ?_
    refine cr_get C hW.1 0 rfl rfl 10 (by decide) hinX1 k1 (v := .ref (ad 11)) rfl dX1_rate_56 ?_
    refine lv_iload hx hb dX1_rate_59 (lv_at hl 4 rfl) ?_
    refine lv_aload_n hx hb dX1_rate_61 rfl (lv_at hl 1 rfl) ?_
    refine lv_iload_n hx hb dX1_rate_62 rfl (lv_at hl 2 rfl) ?_
    refine lv_iload hx hb dX1_rate_63 (lv_at hl 5 rfl) ?_
    refine lv_aload_n hx hb dX1_rate_65 rfl (lv_at hl 1 rfl) ?_
    refine cr_get C hW.1 7 rfl rfl 0 (by decide) hinX3 k2 (v := .ref (al 0)) rfl dX1_rate_66 ?_
    refine lv_iload hx hb dX1_rate_69 (lv_at hl 4 rfl) ?_
    refine lv_iload_n hx hb dX1_rate_71 rfl (lv_at hl 3 rfl) ?_
    obtain ⟨q3, hq3, hE⟩ := cr_bind hE
    refine cr_vRwq (n := 2) (As := [.int x4, .int x3]) (rest := [.int x5, .int x2, .ref (ah 0), .int x4, .ref (ad 11)]) C hW (m_X4_monthsTooOld L D ct al vl x4 x3 q3 hq3) (cwV 2 hts gX1_rate_X4_monthsTooOld rfl rfl rfl (by decide +kernel) ⟨Nat.le_of_ble_eq_true rfl, Nat.le_of_ble_eq_true rfl⟩) [10, 11, 12, 13, 14] rfl 10 rfl rfl rfl hl.1 rfl (Nat.le_of_ble_eq_true rfl) dX1_rate_72 ⟨Nat.zero_le _, Nat.zero_le _⟩ (fun H locs hW => ?_)
    obtain ⟨q4, hq4, hE⟩ := cr_bind hE
    refine cr_vRwq (n := 3) (As := [.int x2, .int x5, .int q3]) (rest := [.int x4, .ref (ad 11)]) C hW (m_X3_payForBag L D ct ah al ak vh vl vk x2 x5 q3 q4 hq4) (cwV 3 hts gX1_rate_X3_payForBag rfl rfl rfl (by decide +kernel) ⟨Nat.le_of_ble_eq_true rfl, Nat.le_of_ble_eq_true rfl⟩) [7, 8, 9, 10, 11, 12, 13, 14, 15, 16, 17] rfl 7 rfl rfl rfl hl.1 rfl (Nat.le_of_ble_eq_true rfl) dX1_rate_75 ⟨Nat.zero_le _, Nat.zero_le _⟩ (fun H locs hW => ?_)
    refine cr_ast C hW 5 rfl (k := (cr_x x4)) i2 (cr_xe _) (w' := cr_wD ct ad (cr_a (cr_a (cr_a vd 8 (cr_x s1) (vp_nar .boolean s0)) 9 (cr_x x4) x5) 10 (cr_x x4) q4) ++ cr_wH ct ah al ak vh vl vk) rfl dX1_rate_78 (fun H locs hW => ?_)
    refine lv_aload_n hx hb dX1_rate_79 rfl (lv_at hl 0 rfl) ?_
    refine cr_get C hW.1 0 rfl rfl 11 (by decide) hinX1 k3 (v := .ref (ad 12)) rfl dX1_rate_80 ?_
    refine lv_iload hx hb dX1_rate_83 (lv_at hl 4 rfl) ?_
    refine lv_aload_n hx hb dX1_rate_85 rfl (lv_at hl 0 rfl) ?_
    refine cr_get C hW.1 0 rfl rfl 10 (by decide) hinX1 k1 (v := .ref (ad 11)) rfl dX1_rate_86 ?_
    refine lv_iload hx hb dX1_rate_89 (lv_at hl 4 rfl) ?_
    refine cr_ald C hW.1 5 (f := (cr_a vd 10 (cr_x x4) q4) 10) (k := cr_x x4) rfl i2 (cr_xe _) dX1_rate_91 ?_
    refine lv_aload_n hx hb dX1_rate_92 rfl (lv_at hl 1 rfl) ?_
    refine cr_get C hW.1 7 rfl rfl 2 (by decide) hinX3 k4 (v := .ref (ah 3)) rfl dX1_rate_93 ?_
    refine lv_iload hx hb dX1_rate_96 (lv_at hl 5 rfl) ?_
    obtain ⟨q5, hq5, hE⟩ := cr_bind hE
    refine cr_nRwq (n := 1) (As := [.int x5]) (rest := [.ref (ah 3), .int ((cr_a vd 10 (cr_x x4) q4) 10 (cr_x x4)), .int x4, .ref (ad 12)]) C hW (m_X6_bandOf L D ct x5 q5 hq5) ⟨va_cnB 1 hts gX1_rate_X6_bandOf_n91 rfl rfl rfl hN.1 (hts _ k5) (by decide +kernel) ⟨Nat.le_of_ble_eq_true rfl, Nat.le_of_ble_eq_true rfl⟩, hts _ k6, trivial⟩ rfl hl.1 rfl (Nat.le_of_ble_eq_true rfl) dX1_rate_98 ⟨Nat.zero_le _, Nat.zero_le _⟩ (fun H locs hW => ?_)
    obtain ⟨i6, hE⟩ := cr_ifn hE
    refine cr_ald C hW.1 8 (f := vh 2) (k := cr_x q5) rfl i6 (cr_xe _) dX1_rate_101 ?_
    refine lv_isub hx hb dX1_rate_102 ?_
    refine cr_ast C hW 6 rfl (k := (cr_x x4)) i2 (cr_xe _) (w' := cr_wD ct ad (cr_a (cr_a (cr_a (cr_a vd 8 (cr_x s1) (vp_nar .boolean s0)) 9 (cr_x x4) x5) 10 (cr_x x4) q4) 11 (cr_x x4) (((cr_a vd 10 (cr_x x4) q4) 10 (cr_x x4)) - (vh 2 (cr_x q5)))) ++ cr_wH ct ah al ak vh vl vk) rfl dX1_rate_103 (fun H locs hW => ?_)
    refine lv_iinc (v := x4 + 1) (lv' := [(4, .int (x4 + 1)), (0, .ref (ad 0)), (1, .ref (ah 0)), (2, .int x2), (3, .int x3), (5, .int x5)]) hx hb dX1_rate_104 hl (k := 4) rfl (by first | rfl | decide) (by decide) rfl (fun ls hl => ?_)
    refine lv_goto (tgt := 3) hx hb dX1_rate_107 (by decide) ?_
    exact ih3_ (cr_a (cr_a (cr_a (cr_a vd 8 (cr_x s1) (vp_nar .boolean s0)) 9 (cr_x x4) x5) 10 (cr_x x4) q4) 11 (cr_x x4) (((cr_a vd 10 (cr_x x4) q4) 10 (cr_x x4)) - (vh 2 (cr_x q5)))) vh vl vk x2 x3 (x4 + 1) hE _ _ _ hW (lv_sub hl [1, 2, 3, 4, 0] rfl)
  have n3 :  ∀ (n : Nat), ∀ (vd : cr_V) (vh : cr_V) (vl : cr_V) (vk : cr_V) (x2 : Int32) (x3 : Int32) (x4 : Int32) (hE : f_X1_rate_3  n vd vh vl vk x2 x3 x4 = some out) (H : Heap) (locs : List Loc) (ls : Array Slot) (hW : cr_wd D A s (cr_wD ct ad vd ++ cr_wH ct ah al ak vh vl vk) H locs) (hl : lv_has ls 6 [(0, .ref (ad 0)), (1, .ref (ah 0)), (2, .int x2), (3, .int x3), (4, .int x4)]), W p L e ({ frames := 1, cells := 0, slots := 0, locals := 24 } : Room) s m args below meth c H locs 0 0 (MQ below (va_Qv (fun u : cr_V => u = out) (fun u t => cr_at D A ((fun u : cr_V => cr_wD ct ad u ++ cr_wH ct ah al ak vh vl vk) u) t) A) args s 0 0 A) (F0 m 3 ls []) := by
    intro  n
    induction n with
    | zero =>
      intro vd vh vl vk x2 x3 x4 hE
      cases hE
    | succ n ih =>
      intro vd vh vl vk x2 x3 x4 hE H locs ls hW hl
      replace hE : (if (vl 4 0) ≤ x4 then (some vd) else ((f_X4_cupAt vl x4 x3).bind fun q8 => if q8 < 70 then (f_X1_rate_45 (f_X1_rate_3 n) vd vh vl vk x2 x3 x4 q8 0 x4) else (f_X1_rate_45 (f_X1_rate_3 n) vd vh vl vk x2 x3 x4 q8 1 x4))) = some out := hE
      refine lv_iload hx hb dX1_rate_3 (lv_at hl 4 rfl) ?_
      refine lv_aload_n hx hb dX1_rate_5 rfl (lv_at hl 1 rfl) ?_
      refine cr_get C hW.1 7 rfl rfl 0 (by decide) hinX3 k2 (v := .ref (al 0)) rfl dX1_rate_6 ?_
      refine cr_get C hW.1 10 rfl rfl 4 (by decide) hinX4 k7 (v := .int (vl 4 0)) rfl dX1_rate_9 ?_
      refine lv_icmp_ge (tgt := 110) hx hb dX1_rate_12 (by decide) (fun c7 => ?_) (fun c7 => ?_)
      · rw [if_pos c7] at hE
        exact cr_retV C (w := (fun u : cr_V => cr_wD ct ad u ++ cr_wH ct ah al ak vh vl vk)) vd hW (Option.some.inj hE) dX1_rate_110
      · rw [if_neg c7] at hE
        refine lv_aload_n hx hb dX1_rate_15 rfl (lv_at hl 1 rfl) ?_
        refine cr_get C hW.1 7 rfl rfl 0 (by decide) hinX3 k2 (v := .ref (al 0)) rfl dX1_rate_16 ?_
        refine lv_iload hx hb dX1_rate_19 (lv_at hl 4 rfl) ?_
        refine lv_iload_n hx hb dX1_rate_21 rfl (lv_at hl 3 rfl) ?_
        obtain ⟨q8, hq8, hE⟩ := cr_bind hE
        refine cr_vRwq (n := 2) (As := [.int x4, .int x3]) (rest := []) C hW (m_X4_cupAt L D ct al vl x4 x3 q8 hq8) (cwV 2 hts gX1_rate_X4_cupAt rfl rfl rfl (by decide +kernel) ⟨Nat.le_of_ble_eq_true rfl, Nat.le_of_ble_eq_true rfl⟩) [10, 11, 12, 13, 14] rfl 10 rfl rfl rfl hl.1 rfl (Nat.le_of_ble_eq_true rfl) dX1_rate_22 ⟨Nat.zero_le _, Nat.zero_le _⟩ (fun H locs hW => ?_)
        refine lv_istore (lv' := [(5, .int q8), (0, .ref (ad 0)), (1, .ref (ah 0)), (2, .int x2), (3, .int x3), (4, .int x4)]) hx hb dX1_rate_25 hl (by decide) rfl (fun ls hl => ?_)
        refine lv_aload_n hx hb dX1_rate_27 rfl (lv_at hl 1 rfl) ?_
        refine cr_get C hW.1 0 rfl rfl 8 (by decide) hinX1 k8 (v := .ref (ad 9)) rfl dX1_rate_28 ?_
        refine lv_iload hx hb dX1_rate_31 (lv_at hl 5 rfl) ?_
        refine lv_iload hx hb dX1_rate_33 (lv_at hl 0 rfl) ?_
        refine lv_bipush (v := 70) hx hb dX1_rate_35 (by decide) ?_
        refine lv_icmp_lt (tgt := 44) hx hb dX1_rate_37 (by decide) (fun c9 => ?_) (fun c9 => ?_)
        · rw [if_pos c9] at hE
          refine lv_iconst (v := 0) hx hb dX1_rate_44 (by decide) ?_
          exact n45 (f_X1_rate_3 n) ih vd vh vl vk x2 x3 x4 q8 0 x4 hE _ _ _ hW (lv_sub hl [1, 2, 3, 4, 5, 0] rfl)
        · rw [if_neg c9] at hE
          refine lv_iconst (v := 1) hx hb dX1_rate_40 (by decide) ?_
          refine lv_goto (tgt := 45) hx hb dX1_rate_41 (by decide) ?_
          exact n45 (f_X1_rate_3 n) ih vd vh vl vk x2 x3 x4 q8 1 x4 hE _ _ _ hW (lv_sub hl [1, 2, 3, 4, 5, 0] rfl)
  replace hE : (f_X1_rate_3 10100 vd vh vl vk x2 x3 0) = some out := hE
  refine lv_iconst (v := 0) hx hb dX1_rate_0 (by decide) ?_
  refine lv_istore (lv' := [(4, .int 0), (0, .ref (ad 0)), (1, .ref (ah 0)), (2, .int x2), (3, .int x3)]) hx hb dX1_rate_1 hl (by decide) rfl (fun ls hl => ?_)
  exact n3 10100 vd vh vl vk x2 x3 0 hE _ _ _ hW (lv_sub hl [1, 2, 3, 4, 0] rfl)

set_option maxHeartbeats 4000000 in
set_option maxRecDepth 100000 in
theorem m_X1_rowOfGreatestGain (L : Launch) (D : va_G) (ct : Nat → ClassId) (ad : Nat → Nat) (vd : cr_V) (x1 : Int32) (out : Int32) (hE : f_X1_rowOfGreatestGain vd x1 = some out) : Met L yX1_rowOfGreatestGain wsX1_rowOfGreatestGain ({ frames := 0, cells := 0, slots := 0, locals := 0 } : Room) (cr_pR D ct (cr_wD ct ad vd) [.ref (ad 0), .int x1]) (cr_QR (fun r => r = out)) 0 0 cr_no := by
  have k0 : (Cond.fieldLink RX1 18 "CupReceipts$Delivery" "waiting" "[Z") ∈ wsX1_rowOfGreatestGain := List.mem_of_getElem? (i := 1) rfl
  have k1 : (Cond.fieldLink RX1 28 "CupReceipts$Delivery" "gains" "[I") ∈ wsX1_rowOfGreatestGain := List.mem_of_getElem? (i := 2) rfl
  have hinX1 : ∀ w ∈ wsX10, w ∈ wsX1_rowOfGreatestGain := fun w h => List.mem_cons_of_mem _ (List.mem_append_right _ h)
  refine cr_metR (by decide) rfl rfl (Nat.le_of_ble_eq_true rfl) ?_
  intro p e s m args below meth c ls C hP hS hl
  obtain ⟨hx, hb, hml, hown, hts, hr, hlocks, hK, hN⟩ := id C
  have hl : lv_has ls 4 [(0, .ref (ad 0)), (1, .int x1)] := hl
  have n39 : ∀ (k4_ : cr_V → Int32 → Int32 → Int32 → Option (Int32)) (ih4_ : ∀ (vd : cr_V) (x1 : Int32) (x2 : Int32) (x3 : Int32) (hE : k4_ vd x1 x2 x3 = some out) (H : Heap) (locs : List Loc) (ls : Array Slot) (hP : va_P D vwCl (cr_wD ct ad vd) H) (hS : va_S cr_no s.heap H locs) (hl : lv_has ls 4 [(0, .ref (ad 0)), (1, .int x1), (2, .int x2), (3, .int x3)]), W p L e ({ frames := 0, cells := 0, slots := 0, locals := 0 } : Room) s m args below meth c H locs 0 0 (MQ below (cr_QR (fun r => r = out)) args s 0 0 cr_no) (F0 m 4 ls [])), ∀ (vd : cr_V) (x1 : Int32) (x2 : Int32) (x3 : Int32) (hE : f_X1_rowOfGreatestGain_39 k4_ vd x1 x2 x3 = some out) (H : Heap) (locs : List Loc) (ls : Array Slot) (hP : va_P D vwCl (cr_wD ct ad vd) H) (hS : va_S cr_no s.heap H locs) (hl : lv_has ls 4 [(0, .ref (ad 0)), (1, .int x1), (2, .int x2), (3, .int x3)]), W p L e ({ frames := 0, cells := 0, slots := 0, locals := 0 } : Room) s m args below meth c H locs 0 0 (MQ below (cr_QR (fun r => r = out)) args s 0 0 cr_no) (F0 m 39 ls []) := by
    intro k4_ ih4_ vd x1 x2 x3 hE H locs ls hP hS hl
    replace hE : (k4_ vd x1 x2 (x3 + 1)) = some out := hE
    refine lv_iinc (v := x3 + 1) (lv' := [(3, .int (x3 + 1)), (0, .ref (ad 0)), (1, .int x1), (2, .int x2)]) hx hb dX1_rowOfGreatestGain_39 hl (k := 3) rfl (by first | rfl | decide) (by decide) rfl (fun ls hl => ?_)
    refine lv_goto (tgt := 4) hx hb dX1_rowOfGreatestGain_42 (by decide) ?_
    exact ih4_ vd x1 x2 (x3 + 1) hE _ _ _ hP hS (lv_sub hl [1, 2, 3, 0] rfl)
  have n37 : ∀ (k4_ : cr_V → Int32 → Int32 → Int32 → Option (Int32)) (ih4_ : ∀ (vd : cr_V) (x1 : Int32) (x2 : Int32) (x3 : Int32) (hE : k4_ vd x1 x2 x3 = some out) (H : Heap) (locs : List Loc) (ls : Array Slot) (hP : va_P D vwCl (cr_wD ct ad vd) H) (hS : va_S cr_no s.heap H locs) (hl : lv_has ls 4 [(0, .ref (ad 0)), (1, .int x1), (2, .int x2), (3, .int x3)]), W p L e ({ frames := 0, cells := 0, slots := 0, locals := 0 } : Room) s m args below meth c H locs 0 0 (MQ below (cr_QR (fun r => r = out)) args s 0 0 cr_no) (F0 m 4 ls [])), ∀ (vd : cr_V) (x1 : Int32) (x3 : Int32) (hE : f_X1_rowOfGreatestGain_37 k4_ vd x1 x3 = some out) (H : Heap) (locs : List Loc) (ls : Array Slot) (hP : va_P D vwCl (cr_wD ct ad vd) H) (hS : va_S cr_no s.heap H locs) (hl : lv_has ls 4 [(0, .ref (ad 0)), (1, .int x1), (3, .int x3)]), W p L e ({ frames := 0, cells := 0, slots := 0, locals := 0 } : Room) s m args below meth c H locs 0 0 (MQ below (cr_QR (fun r => r = out)) args s 0 0 cr_no) (F0 m 37 ls []) := by
    intro k4_ ih4_ vd x1 x3 hE H locs ls hP hS hl
    replace hE : (f_X1_rowOfGreatestGain_39 k4_ vd x1 x3 x3) = some out := hE
    refine lv_iload_n hx hb dX1_rowOfGreatestGain_37 rfl (lv_at hl 2 rfl) ?_
    refine lv_istore_n (lv' := [(2, .int x3), (0, .ref (ad 0)), (1, .int x1), (3, .int x3)]) hx hb dX1_rowOfGreatestGain_38 rfl hl (by decide) rfl (fun ls hl => ?_)
    exact n39 k4_ ih4_ vd x1 x3 x3 hE _ _ _ hP hS (lv_sub hl [1, 2, 0, 3] rfl)
  have n4 :  ∀ (n : Nat), ∀ (vd : cr_V) (x1 : Int32) (x2 : Int32) (x3 : Int32) (hE : f_X1_rowOfGreatestGain_4  n vd x1 x2 x3 = some out) (H : Heap) (locs : List Loc) (ls : Array Slot) (hP : va_P D vwCl (cr_wD ct ad vd) H) (hS : va_S cr_no s.heap H locs) (hl : lv_has ls 4 [(0, .ref (ad 0)), (1, .int x1), (2, .int x2), (3, .int x3)]), W p L e ({ frames := 0, cells := 0, slots := 0, locals := 0 } : Room) s m args below meth c H locs 0 0 (MQ below (cr_QR (fun r => r = out)) args s 0 0 cr_no) (F0 m 4 ls []) := by
    intro  n
    induction n with
    | zero =>
      intro vd x1 x2 x3 hE
      cases hE
    | succ n ih =>
      intro vd x1 x2 x3 hE H locs ls hP hS hl
      replace hE : (if x1 ≤ x3 then (some x2) else (if cr_in x3 12 = true then if (vd 8 (cr_x x3)) = 0 then (f_X1_rowOfGreatestGain_39 (f_X1_rowOfGreatestGain_4 n) vd x1 x2 x3) else (if x2 < 0 then (f_X1_rowOfGreatestGain_37 (f_X1_rowOfGreatestGain_4 n) vd x1 x3) else (if cr_in x2 12 = true then if (vd 11 (cr_x x3)) ≤ (vd 11 (cr_x x2)) then (f_X1_rowOfGreatestGain_39 (f_X1_rowOfGreatestGain_4 n) vd x1 x2 x3) else (f_X1_rowOfGreatestGain_37 (f_X1_rowOfGreatestGain_4 n) vd x1 x3) else none)) else none)) = some out := hE
      refine lv_iload_n hx hb dX1_rowOfGreatestGain_4 rfl (lv_at hl 3 rfl) ?_
      refine lv_iload_n hx hb dX1_rowOfGreatestGain_5 rfl (lv_at hl 1 rfl) ?_
      refine lv_icmp_ge (tgt := 45) hx hb dX1_rowOfGreatestGain_6 (by decide) (fun c1 => ?_) (fun c1 => ?_)
      · rw [if_pos c1] at hE
        refine lv_iload_n hx hb dX1_rowOfGreatestGain_45 rfl (lv_at hl 2 rfl) ?_
        exact cr_retR C hS (Option.some.inj hE) dX1_rowOfGreatestGain_46
      · rw [if_neg c1] at hE
        refine lv_aload_n hx hb dX1_rowOfGreatestGain_9 rfl (lv_at hl 0 rfl) ?_
        refine cr_get C hP 0 rfl rfl 8 (by decide) hinX1 k0 (v := .ref (ad 9)) rfl dX1_rowOfGreatestGain_10 ?_
        refine lv_iload_n hx hb dX1_rowOfGreatestGain_13 rfl (lv_at hl 3 rfl) ?_
        obtain ⟨i2, hE⟩ := cr_ifn hE
        refine cr_zald C hP 3 (f := vd 8) (k := cr_x x3) rfl i2 (cr_xe _) dX1_rowOfGreatestGain_14 ?_
        refine lv_if_eq (tgt := 39) hx hb dX1_rowOfGreatestGain_15 (by decide) (fun c3 => ?_) (fun c3 => ?_)
        · rw [if_pos c3] at hE
          exact n39 (f_X1_rowOfGreatestGain_4 n) ih vd x1 x2 x3 hE _ _ _ hP hS (lv_sub hl [0, 1, 2, 3] rfl)
        · rw [if_neg c3] at hE
          refine lv_iload_n hx hb dX1_rowOfGreatestGain_18 rfl (lv_at hl 2 rfl) ?_
          refine lv_if_lt (tgt := 37) hx hb dX1_rowOfGreatestGain_19 (by decide) (fun c4 => ?_) (fun c4 => ?_)
          · rw [if_pos c4] at hE
            exact n37 (f_X1_rowOfGreatestGain_4 n) ih vd x1 x3 hE _ _ _ hP hS (lv_sub hl [0, 1, 3] rfl)
          · rw [if_neg c4] at hE
            refine lv_aload_n hx hb dX1_rowOfGreatestGain_22 rfl (lv_at hl 0 rfl) ?_
            refine cr_get C hP 0 rfl rfl 11 (by decide) hinX1 k1 (v := .ref (ad 12)) rfl dX1_rowOfGreatestGain_23 ?_
            refine lv_iload_n hx hb dX1_rowOfGreatestGain_26 rfl (lv_at hl 3 rfl) ?_
            refine cr_ald C hP 6 (f := vd 11) (k := cr_x x3) rfl i2 (cr_xe _) dX1_rowOfGreatestGain_27 ?_
            refine lv_aload_n hx hb dX1_rowOfGreatestGain_28 rfl (lv_at hl 0 rfl) ?_
            refine cr_get C hP 0 rfl rfl 11 (by decide) hinX1 k1 (v := .ref (ad 12)) rfl dX1_rowOfGreatestGain_29 ?_
            refine lv_iload_n hx hb dX1_rowOfGreatestGain_32 rfl (lv_at hl 2 rfl) ?_
            obtain ⟨i5, hE⟩ := cr_ifn hE
            refine cr_ald C hP 6 (f := vd 11) (k := cr_x x2) rfl i5 (cr_xe _) dX1_rowOfGreatestGain_33 ?_
            refine lv_icmp_le (tgt := 39) hx hb dX1_rowOfGreatestGain_34 (by decide) (fun c6 => ?_) (fun c6 => ?_)
            · rw [if_pos c6] at hE
              exact n39 (f_X1_rowOfGreatestGain_4 n) ih vd x1 x2 x3 hE _ _ _ hP hS (lv_sub hl [0, 1, 2, 3] rfl)
            · rw [if_neg c6] at hE
              exact n37 (f_X1_rowOfGreatestGain_4 n) ih vd x1 x3 hE _ _ _ hP hS (lv_sub hl [0, 1, 3] rfl)
  replace hE : (f_X1_rowOfGreatestGain_4 10100 vd x1 (-1) 0) = some out := hE
  refine lv_iconst (v := (-1)) hx hb dX1_rowOfGreatestGain_0 (by decide) ?_
  refine lv_istore_n (lv' := [(2, .int (-1)), (0, .ref (ad 0)), (1, .int x1)]) hx hb dX1_rowOfGreatestGain_1 rfl hl (by decide) rfl (fun ls hl => ?_)
  refine lv_iconst (v := 0) hx hb dX1_rowOfGreatestGain_2 (by decide) ?_
  refine lv_istore_n (lv' := [(3, .int 0), (2, .int (-1)), (0, .ref (ad 0)), (1, .int x1)]) hx hb dX1_rowOfGreatestGain_3 rfl hl (by decide) rfl (fun ls hl => ?_)
  exact n4 10100 vd x1 (-1) 0 hE _ _ _ hP hS (lv_sub hl [2, 3, 1, 0] rfl)

set_option maxHeartbeats 4000000 in
set_option maxRecDepth 100000 in
theorem m_X1_take (L : Launch) (D : va_G) (ct : Nat → ClassId) (ad : Nat → Nat) (vd : cr_V) (x1 : Int32) (x2 : Int32) (sz : Nat) (out : cr_V) (hE : f_X1_take vd x1 x2 = some out) : Met L yX1_take wsX1_take ({ frames := 1, cells := 0, slots := 0, locals := 21 } : Room) (cr_pW D ct (cr_wD ct ad vd) sz [.ref (ad 0), .int x1, .int x2]) (cr_QV D (cr_wD ct ad vd) sz (fun u : cr_V => u = out) (fun u : cr_V => cr_wD ct ad u)) 0 0 (va_A (cr_wD ct ad vd) sz) := by
  have k0 : (Cond.fieldLink RX1 18 "CupReceipts$Delivery" "waiting" "[Z") ∈ wsX1_take := List.mem_of_getElem? (i := 16) rfl
  have k1 : (Cond.fieldLink RX1 35 "CupReceipts$Delivery" "places" "I") ∈ wsX1_take := List.mem_of_getElem? (i := 1) rfl
  have k2 : (Cond.fieldLink RX1 44 "CupReceipts$Delivery" "missing" "I") ∈ wsX1_take := List.mem_of_getElem? (i := 2) rfl
  have k3 : (Cond.methodLink RX1 94 Lib.Math.min.name) ∈ wsX1_take := List.mem_of_getElem? (i := 3) rfl
  have k4 : (Cond.static Lib.Math.min.name) ∈ wsX1_take := List.mem_of_getElem? (i := 4) rfl
  have k5 : (Cond.initialized "java/lang/Math") ∈ wsX1_take := List.mem_of_getElem? (i := 5) rfl
  have k6 : (Cond.code Lib.Math.min.name Lib.Math.min.code 2 (some .int)) ∈ wsX1_take := List.mem_of_getElem? (i := 6) rfl
  have k7 : (Cond.fieldLink RX1 9 "CupReceipts$Delivery" "rows" "[I") ∈ wsX1_take := List.mem_of_getElem? (i := 7) rfl
  have k8 : (Cond.fieldLink RX1 15 "CupReceipts$Delivery" "bags" "[I") ∈ wsX1_take := List.mem_of_getElem? (i := 8) rfl
  have k9 : (Cond.fieldLink RX1 47 "CupReceipts$Delivery" "pay" "I") ∈ wsX1_take := List.mem_of_getElem? (i := 9) rfl
  have k10 : (Cond.fieldLink RX1 25 "CupReceipts$Delivery" "pays" "[I") ∈ wsX1_take := List.mem_of_getElem? (i := 10) rfl
  have k11 : (Cond.fieldLink RX1 50 "CupReceipts$Delivery" "gain" "I") ∈ wsX1_take := List.mem_of_getElem? (i := 11) rfl
  have k12 : (Cond.fieldLink RX1 28 "CupReceipts$Delivery" "gains" "[I") ∈ wsX1_take := List.mem_of_getElem? (i := 12) rfl
  have k13 : (Cond.fieldLink RX1 53 "CupReceipts$Delivery" "sumOfCups" "I") ∈ wsX1_take := List.mem_of_getElem? (i := 13) rfl
  have k14 : (Cond.fieldLink RX1 22 "CupReceipts$Delivery" "cups" "[I") ∈ wsX1_take := List.mem_of_getElem? (i := 14) rfl
  have k15 : (Cond.fieldLink RX1 56 "CupReceipts$Delivery" "usedUp" "I") ∈ wsX1_take := List.mem_of_getElem? (i := 15) rfl
  have hinX1 : ∀ w ∈ wsX10, w ∈ wsX1_take := fun w h => List.mem_cons_of_mem _ (List.mem_append_right _ h)
  refine cr_metW (Qc := fun A => va_Qv (fun u : cr_V => u = out) (fun u t => cr_at D A ((fun u : cr_V => cr_wD ct ad u) u) t) A) (by decide) rfl rfl (Nat.le_of_ble_eq_true rfl) ?_
  intro p e s m args below meth c ls A C hW hl
  obtain ⟨hx, hb, hml, hown, hts, hr, hlocks, hK, hN⟩ := id C
  have hl : lv_has ls 4 [(0, .ref (ad 0)), (1, .int x1), (2, .int x2)] := hl
  have n125 :  ∀ (vd : cr_V) (x1 : Int32) (hE : f_X1_take_125  vd x1 = some out) (H : Heap) (locs : List Loc) (ls : Array Slot) (hW : cr_wd D A s (cr_wD ct ad vd) H locs) (hl : lv_has ls 4 [(0, .ref (ad 0)), (1, .int x1)]), W p L e ({ frames := 1, cells := 0, slots := 0, locals := 21 } : Room) s m args below meth c H locs 0 0 (MQ below (va_Qv (fun u : cr_V => u = out) (fun u t => cr_at D A ((fun u : cr_V => cr_wD ct ad u) u) t) A) args s 0 0 A) (F0 m 125 ls []) := by
    intro  vd x1 hE H locs ls hW hl
    replace hE : (if cr_in x1 12 = true then some (cr_a vd 8 (cr_x x1) (vp_nar .boolean 0)) else none) = some out := hE
    refine lv_aload_n hx hb dX1_take_125 rfl (lv_at hl 0 rfl) ?_
    refine cr_get C hW.1 0 rfl rfl 8 (by decide) hinX1 k0 (v := .ref (ad 9)) rfl dX1_take_126 ?_
    refine lv_iload_n hx hb dX1_take_129 rfl (lv_at hl 1 rfl) ?_
    refine lv_iconst (v := 0) hx hb dX1_take_130 (by decide) ?_
    obtain ⟨i1, hE⟩ := cr_ifn hE
    refine cr_zast C hW 3 rfl (k := (cr_x x1)) i1 (cr_xe _) (w' := cr_wD ct ad (cr_a vd 8 (cr_x x1) (vp_nar .boolean 0))) rfl dX1_take_131 (fun H locs hW => ?_)
    exact cr_retV C (w := (fun u : cr_V => cr_wD ct ad u)) (cr_a vd 8 (cr_x x1) (vp_nar .boolean 0)) hW (Option.some.inj hE) dX1_take_132
  replace hE : (if (vd 2 0) < 12 then (if cr_in (vd 2 0) 12 = true then if cr_in x1 12 = true then if (if x2 < (vd 3 0) then x2 else (vd 3 0)) = x2 then (f_X1_take_125 (cr_i (cr_i (cr_i (cr_i (cr_i (cr_i (cr_a (cr_a vd 0 (cr_x (vd 2 0)) x1) 1 (cr_x (vd 2 0)) (if x2 < (vd 3 0) then x2 else (vd 3 0))) 2 ((vd 2 0) + 1)) 3 ((vd 3 0) - (if x2 < (vd 3 0) then x2 else (vd 3 0)))) 4 ((vd 4 0) + ((if x2 < (vd 3 0) then x2 else (vd 3 0)) * (vd 10 (cr_x x1))))) 5 ((vd 5 0) + ((if x2 < (vd 3 0) then x2 else (vd 3 0)) * (vd 11 (cr_x x1))))) 6 ((vd 6 0) + ((if x2 < (vd 3 0) then x2 else (vd 3 0)) * (vd 9 (cr_x x1))))) 7 ((vd 7 0) + 1)) x1) else (f_X1_take_125 (cr_i (cr_i (cr_i (cr_i (cr_i (cr_a (cr_a vd 0 (cr_x (vd 2 0)) x1) 1 (cr_x (vd 2 0)) (if x2 < (vd 3 0) then x2 else (vd 3 0))) 2 ((vd 2 0) + 1)) 3 ((vd 3 0) - (if x2 < (vd 3 0) then x2 else (vd 3 0)))) 4 ((vd 4 0) + ((if x2 < (vd 3 0) then x2 else (vd 3 0)) * (vd 10 (cr_x x1))))) 5 ((vd 5 0) + ((if x2 < (vd 3 0) then x2 else (vd 3 0)) * (vd 11 (cr_x x1))))) 6 ((vd 6 0) + ((if x2 < (vd 3 0) then x2 else (vd 3 0)) * (vd 9 (cr_x x1))))) x1) else none else none) else (some vd)) = some out := hE
  refine lv_aload_n hx hb dX1_take_0 rfl (lv_at hl 0 rfl) ?_
  refine cr_get C hW.1 0 rfl rfl 2 (by decide) hinX1 k1 (v := .int (vd 2 0)) rfl dX1_take_1 ?_
  refine lv_bipush (v := 12) hx hb dX1_take_4 (by decide) ?_
  refine lv_icmp_lt (tgt := 10) hx hb dX1_take_6 (by decide) (fun c2 => ?_) (fun c2 => ?_)
  · rw [if_pos c2] at hE
    refine lv_aload_n hx hb dX1_take_10 rfl (lv_at hl 0 rfl) ?_
    refine cr_get C hW.1 0 rfl rfl 3 (by decide) hinX1 k2 (v := .int (vd 3 0)) rfl dX1_take_11 ?_
    refine lv_iload_n hx hb dX1_take_14 rfl (lv_at hl 2 rfl) ?_
    refine va_mmin hx hb (hml.trans hl.1.symm) hown (hts _ k3) (hts _ k4) (hts _ k5) (hts _ k6) (Nat.le_of_ble_eq_true rfl) (Nat.le_of_ble_eq_true rfl) (Nat.zero_le _) (Nat.zero_le _) dX1_take_15 ?_
    refine lv_istore_n (lv' := [(3, .int (if x2 < (vd 3 0) then x2 else (vd 3 0))), (0, .ref (ad 0)), (1, .int x1), (2, .int x2)]) hx hb dX1_take_18 rfl hl (by decide) rfl (fun ls hl => ?_)
    refine lv_aload_n hx hb dX1_take_19 rfl (lv_at hl 1 rfl) ?_
    refine cr_get C hW.1 0 rfl rfl 0 (by decide) hinX1 k7 (v := .ref (ad 1)) rfl dX1_take_20 ?_
    refine lv_aload_n hx hb dX1_take_23 rfl (lv_at hl 1 rfl) ?_
    refine cr_get C hW.1 0 rfl rfl 2 (by decide) hinX1 k1 (v := .int (vd 2 0)) rfl dX1_take_24 ?_
    refine lv_iload_n hx hb dX1_take_27 rfl (lv_at hl 2 rfl) ?_
    obtain ⟨i3, hE⟩ := cr_ifn hE
    refine cr_ast C hW 1 rfl (k := (cr_x (vd 2 0))) i3 (cr_xe _) (w' := cr_wD ct ad (cr_a vd 0 (cr_x (vd 2 0)) x1)) rfl dX1_take_28 (fun H locs hW => ?_)
    refine lv_aload_n hx hb dX1_take_29 rfl (lv_at hl 1 rfl) ?_
    refine cr_get C hW.1 0 rfl rfl 1 (by decide) hinX1 k8 (v := .ref (ad 2)) rfl dX1_take_30 ?_
    refine lv_aload_n hx hb dX1_take_33 rfl (lv_at hl 1 rfl) ?_
    refine cr_get C hW.1 0 rfl rfl 2 (by decide) hinX1 k1 (v := .int (vd 2 0)) rfl dX1_take_34 ?_
    refine lv_iload_n hx hb dX1_take_37 rfl (lv_at hl 0 rfl) ?_
    refine cr_ast C hW 2 rfl (k := (cr_x (vd 2 0))) i3 (cr_xe _) (w' := cr_wD ct ad (cr_a (cr_a vd 0 (cr_x (vd 2 0)) x1) 1 (cr_x (vd 2 0)) (if x2 < (vd 3 0) then x2 else (vd 3 0)))) rfl dX1_take_38 (fun H locs hW => ?_)
    refine lv_aload_n hx hb dX1_take_39 rfl (lv_at hl 1 rfl) ?_
    refine lv_dup hx hb dX1_take_40 rfl ?_
    refine cr_get C hW.1 0 rfl rfl 2 (by decide) hinX1 k1 (v := .int (vd 2 0)) rfl dX1_take_41 ?_
    refine lv_iconst (v := 1) hx hb dX1_take_44 (by decide) ?_
    refine lv_iadd hx hb dX1_take_45 ?_
    refine cr_put C hW 0 rfl rfl tyX1 tyX1_ok nmX1 2 (by decide) hinX1 k1 rfl rfl rfl rfl (Nat.le_of_ble_eq_true rfl) (w' := cr_wD ct ad (cr_i (cr_a (cr_a vd 0 (cr_x (vd 2 0)) x1) 1 (cr_x (vd 2 0)) (if x2 < (vd 3 0) then x2 else (vd 3 0))) 2 ((vd 2 0) + 1))) rfl dX1_take_46 (fun H locs hW => ?_)
    refine lv_aload_n hx hb dX1_take_49 rfl (lv_at hl 1 rfl) ?_
    refine lv_dup hx hb dX1_take_50 rfl ?_
    refine cr_get C hW.1 0 rfl rfl 3 (by decide) hinX1 k2 (v := .int (vd 3 0)) rfl dX1_take_51 ?_
    refine lv_iload_n hx hb dX1_take_54 rfl (lv_at hl 0 rfl) ?_
    refine lv_isub hx hb dX1_take_55 ?_
    refine cr_put C hW 0 rfl rfl tyX1 tyX1_ok nmX1 3 (by decide) hinX1 k2 rfl rfl rfl rfl (Nat.le_of_ble_eq_true rfl) (w' := cr_wD ct ad (cr_i (cr_i (cr_a (cr_a vd 0 (cr_x (vd 2 0)) x1) 1 (cr_x (vd 2 0)) (if x2 < (vd 3 0) then x2 else (vd 3 0))) 2 ((vd 2 0) + 1)) 3 ((vd 3 0) - (if x2 < (vd 3 0) then x2 else (vd 3 0))))) rfl dX1_take_56 (fun H locs hW => ?_)
    refine lv_aload_n hx hb dX1_take_59 rfl (lv_at hl 1 rfl) ?_
    refine lv_dup hx hb dX1_take_60 rfl ?_
    refine cr_get C hW.1 0 rfl rfl 4 (by decide) hinX1 k9 (v := .int (vd 4 0)) rfl dX1_take_61 ?_
    refine lv_iload_n hx hb dX1_take_64 rfl (lv_at hl 0 rfl) ?_
    refine lv_aload_n hx hb dX1_take_65 rfl (lv_at hl 1 rfl) ?_
    refine cr_get C hW.1 0 rfl rfl 10 (by decide) hinX1 k10 (v := .ref (ad 11)) rfl dX1_take_66 ?_
    refine lv_iload_n hx hb dX1_take_69 rfl (lv_at hl 2 rfl) ?_
    obtain ⟨i4, hE⟩ := cr_ifn hE
    refine cr_ald C hW.1 5 (f := vd 10) (k := cr_x x1) rfl i4 (cr_xe _) dX1_take_70 ?_
    refine lv_imul hx hb dX1_take_71 ?_
    refine lv_iadd hx hb dX1_take_72 ?_
    refine cr_put C hW 0 rfl rfl tyX1 tyX1_ok nmX1 4 (by decide) hinX1 k9 rfl rfl rfl rfl (Nat.le_of_ble_eq_true rfl) (w' := cr_wD ct ad (cr_i (cr_i (cr_i (cr_a (cr_a vd 0 (cr_x (vd 2 0)) x1) 1 (cr_x (vd 2 0)) (if x2 < (vd 3 0) then x2 else (vd 3 0))) 2 ((vd 2 0) + 1)) 3 ((vd 3 0) - (if x2 < (vd 3 0) then x2 else (vd 3 0)))) 4 ((vd 4 0) + ((if x2 < (vd 3 0) then x2 else (vd 3 0)) * (vd 10 (cr_x x1)))))) rfl dX1_take_73 (fun H locs hW => ?_)
    refine lv_aload_n hx hb dX1_take_76 rfl (lv_at hl 1 rfl) ?_
    refine lv_dup hx hb dX1_take_77 rfl ?_
    refine cr_get C hW.1 0 rfl rfl 5 (by decide) hinX1 k11 (v := .int (vd 5 0)) rfl dX1_take_78 ?_
    refine lv_iload_n hx hb dX1_take_81 rfl (lv_at hl 0 rfl) ?_
    refine lv_aload_n hx hb dX1_take_82 rfl (lv_at hl 1 rfl) ?_
    refine cr_get C hW.1 0 rfl rfl 11 (by decide) hinX1 k12 (v := .ref (ad 12)) rfl dX1_take_83 ?_
    refine lv_iload_n hx hb dX1_take_86 rfl (lv_at hl 2 rfl) ?_
    refine cr_ald C hW.1 6 (f := vd 11) (k := cr_x x1) rfl i4 (cr_xe _) dX1_take_87 ?_
    refine lv_imul hx hb dX1_take_88 ?_
    refine lv_iadd hx hb dX1_take_89 ?_
    refine cr_put C hW 0 rfl rfl tyX1 tyX1_ok nmX1 5 (by decide) hinX1 k11 rfl rfl rfl rfl (Nat.le_of_ble_eq_true rfl) (w' := cr_wD ct ad (cr_i (cr_i (cr_i (cr_i (cr_a (cr_a vd 0 (cr_x (vd 2 0)) x1) 1 (cr_x (vd 2 0)) (if x2 < (vd 3 0) then x2 else (vd 3 0))) 2 ((vd 2 0) + 1)) 3 ((vd 3 0) - (if x2 < (vd 3 0) then x2 else (vd 3 0)))) 4 ((vd 4 0) + ((if x2 < (vd 3 0) then x2 else (vd 3 0)) * (vd 10 (cr_x x1))))) 5 ((vd 5 0) + ((if x2 < (vd 3 0) then x2 else (vd 3 0)) * (vd 11 (cr_x x1)))))) rfl dX1_take_90 (fun H locs hW => ?_)
    refine lv_aload_n hx hb dX1_take_93 rfl (lv_at hl 1 rfl) ?_
    refine lv_dup hx hb dX1_take_94 rfl ?_
    refine cr_get C hW.1 0 rfl rfl 6 (by decide) hinX1 k13 (v := .int (vd 6 0)) rfl dX1_take_95 ?_
    refine lv_iload_n hx hb dX1_take_98 rfl (lv_at hl 0 rfl) ?_
    refine lv_aload_n hx hb dX1_take_99 rfl (lv_at hl 1 rfl) ?_
    refine cr_get C hW.1 0 rfl rfl 9 (by decide) hinX1 k14 (v := .ref (ad 10)) rfl dX1_take_100 ?_
    refine lv_iload_n hx hb dX1_take_103 rfl (lv_at hl 2 rfl) ?_
    refine cr_ald C hW.1 4 (f := vd 9) (k := cr_x x1) rfl i4 (cr_xe _) dX1_take_104 ?_
    refine lv_imul hx hb dX1_take_105 ?_
    refine lv_iadd hx hb dX1_take_106 ?_
    refine cr_put C hW 0 rfl rfl tyX1 tyX1_ok nmX1 6 (by decide) hinX1 k13 rfl rfl rfl rfl (Nat.le_of_ble_eq_true rfl) (w' := cr_wD ct ad (cr_i (cr_i (cr_i (cr_i (cr_i (cr_a (cr_a vd 0 (cr_x (vd 2 0)) x1) 1 (cr_x (vd 2 0)) (if x2 < (vd 3 0) then x2 else (vd 3 0))) 2 ((vd 2 0) + 1)) 3 ((vd 3 0) - (if x2 < (vd 3 0) then x2 else (vd 3 0)))) 4 ((vd 4 0) + ((if x2 < (vd 3 0) then x2 else (vd 3 0)) * (vd 10 (cr_x x1))))) 5 ((vd 5 0) + ((if x2 < (vd 3 0) then x2 else (vd 3 0)) * (vd 11 (cr_x x1))))) 6 ((vd 6 0) + ((if x2 < (vd 3 0) then x2 else (vd 3 0)) * (vd 9 (cr_x x1)))))) rfl dX1_take_107 (fun H locs hW => ?_)
    refine lv_iload_n hx hb dX1_take_110 rfl (lv_at hl 0 rfl) ?_
    refine lv_iload_n hx hb dX1_take_111 rfl (lv_at hl 3 rfl) ?_
    refine lv_icmp_ne (tgt := 125) hx hb dX1_take_112 (by decide) (fun c5 => ?_) (fun c5 => ?_)
    · rw [if_neg c5] at hE
      exact n125 (cr_i (cr_i (cr_i (cr_i (cr_i (cr_a (cr_a vd 0 (cr_x (vd 2 0)) x1) 1 (cr_x (vd 2 0)) (if x2 < (vd 3 0) then x2 else (vd 3 0))) 2 ((vd 2 0) + 1)) 3 ((vd 3 0) - (if x2 < (vd 3 0) then x2 else (vd 3 0)))) 4 ((vd 4 0) + ((if x2 < (vd 3 0) then x2 else (vd 3 0)) * (vd 10 (cr_x x1))))) 5 ((vd 5 0) + ((if x2 < (vd 3 0) then x2 else (vd 3 0)) * (vd 11 (cr_x x1))))) 6 ((vd 6 0) + ((if x2 < (vd 3 0) then x2 else (vd 3 0)) * (vd 9 (cr_x x1))))) x1 hE _ _ _ hW (lv_sub hl [1, 2] rfl)
    · rw [if_pos c5] at hE
      refine lv_aload_n hx hb dX1_take_115 rfl (lv_at hl 1 rfl) ?_
      refine lv_dup hx hb dX1_take_116 rfl ?_
      refine cr_get C hW.1 0 rfl rfl 7 (by decide) hinX1 k15 (v := .int (vd 7 0)) rfl dX1_take_117 ?_
      refine lv_iconst (v := 1) hx hb dX1_take_120 (by decide) ?_
      refine lv_iadd hx hb dX1_take_121 ?_
      refine cr_put C hW 0 rfl rfl tyX1 tyX1_ok nmX1 7 (by decide) hinX1 k15 rfl rfl rfl rfl (Nat.le_of_ble_eq_true rfl) (w' := cr_wD ct ad (cr_i (cr_i (cr_i (cr_i (cr_i (cr_i (cr_a (cr_a vd 0 (cr_x (vd 2 0)) x1) 1 (cr_x (vd 2 0)) (if x2 < (vd 3 0) then x2 else (vd 3 0))) 2 ((vd 2 0) + 1)) 3 ((vd 3 0) - (if x2 < (vd 3 0) then x2 else (vd 3 0)))) 4 ((vd 4 0) + ((if x2 < (vd 3 0) then x2 else (vd 3 0)) * (vd 10 (cr_x x1))))) 5 ((vd 5 0) + ((if x2 < (vd 3 0) then x2 else (vd 3 0)) * (vd 11 (cr_x x1))))) 6 ((vd 6 0) + ((if x2 < (vd 3 0) then x2 else (vd 3 0)) * (vd 9 (cr_x x1))))) 7 ((vd 7 0) + 1))) rfl dX1_take_122 (fun H locs hW => ?_)
      exact n125 (cr_i (cr_i (cr_i (cr_i (cr_i (cr_i (cr_a (cr_a vd 0 (cr_x (vd 2 0)) x1) 1 (cr_x (vd 2 0)) (if x2 < (vd 3 0) then x2 else (vd 3 0))) 2 ((vd 2 0) + 1)) 3 ((vd 3 0) - (if x2 < (vd 3 0) then x2 else (vd 3 0)))) 4 ((vd 4 0) + ((if x2 < (vd 3 0) then x2 else (vd 3 0)) * (vd 10 (cr_x x1))))) 5 ((vd 5 0) + ((if x2 < (vd 3 0) then x2 else (vd 3 0)) * (vd 11 (cr_x x1))))) 6 ((vd 6 0) + ((if x2 < (vd 3 0) then x2 else (vd 3 0)) * (vd 9 (cr_x x1))))) 7 ((vd 7 0) + 1)) x1 hE _ _ _ hW (lv_sub hl [1, 2] rfl)
  · rw [if_neg c2] at hE
    exact cr_retV C (w := (fun u : cr_V => cr_wD ct ad u)) vd hW (Option.some.inj hE) dX1_take_9

set_option maxHeartbeats 4000000 in
set_option maxRecDepth 100000 in
theorem m_X1_plan (L : Launch) (D : va_G) (ct : Nat → ClassId) (ad : Nat → Nat) (ah : Nat → Nat) (al : Nat → Nat) (ak : Nat → Nat) (vd : cr_V) (vh : cr_V) (vl : cr_V) (vk : cr_V) (x2 : Int32) (x3 : Int32) (sz : Nat) (out : cr_V) (hE : f_X1_plan vd vh vl vk x2 x3 = some out) : Met L yX1_plan wsX1_plan ({ frames := 2, cells := 0, slots := 0, locals := 49 } : Room) (cr_pW D ct (cr_wD ct ad vd ++ cr_wH ct ah al ak vh vl vk) sz [.ref (ad 0), .ref (ah 0), .int x2, .int x3]) (cr_QV D (cr_wD ct ad vd ++ cr_wH ct ah al ak vh vl vk) sz (fun u : cr_V => u = out) (fun u : cr_V => cr_wD ct ad u ++ cr_wH ct ah al ak vh vl vk)) 0 0 (va_A (cr_wD ct ad vd ++ cr_wH ct ah al ak vh vl vk) sz) := by
  have k0 : (Cond.fieldLink RX1 44 "CupReceipts$Delivery" "missing" "I") ∈ wsX1_plan := List.mem_of_getElem? (i := 3) rfl
  have k1 : (Cond.fieldLink RX1 59 "CupReceipts$House" "lots" "LCupReceipts$Lots;") ∈ wsX1_plan := List.mem_of_getElem? (i := 8) rfl
  have k2 : (Cond.fieldLink RX1 63 "CupReceipts$Lots" "size" "I") ∈ wsX1_plan := List.mem_of_getElem? (i := 9) rfl
  have k3 : (Cond.fieldLink RX1 72 "CupReceipts$Lots" "bags" "[I") ∈ wsX1_plan := List.mem_of_getElem? (i := 10) rfl
  have k4 : (Cond.fieldLink RX1 35 "CupReceipts$Delivery" "places" "I") ∈ wsX1_plan := List.mem_of_getElem? (i := 1) rfl
  have k5 : (Cond.fieldLink RX1 39 "CupReceipts$House" "settings" "[I") ∈ wsX1_plan := List.mem_of_getElem? (i := 2) rfl
  have k6 : (Cond.fieldLink RX1 47 "CupReceipts$Delivery" "pay" "I") ∈ wsX1_plan := List.mem_of_getElem? (i := 4) rfl
  have k7 : (Cond.fieldLink RX1 50 "CupReceipts$Delivery" "gain" "I") ∈ wsX1_plan := List.mem_of_getElem? (i := 5) rfl
  have k8 : (Cond.fieldLink RX1 53 "CupReceipts$Delivery" "sumOfCups" "I") ∈ wsX1_plan := List.mem_of_getElem? (i := 6) rfl
  have k9 : (Cond.fieldLink RX1 56 "CupReceipts$Delivery" "usedUp" "I") ∈ wsX1_plan := List.mem_of_getElem? (i := 7) rfl
  have hinX1 : ∀ w ∈ wsX10, w ∈ wsX1_plan := fun w h => List.mem_cons_of_mem _ (List.mem_append_left _ (List.mem_append_left _ (List.mem_append_right _ h)))
  have hinX3 : ∀ w ∈ wsX30, w ∈ wsX1_plan := fun w h => List.mem_cons_of_mem _ (List.mem_append_left _ (List.mem_append_right _ h))
  have hinX4 : ∀ w ∈ wsX40, w ∈ wsX1_plan := fun w h => List.mem_cons_of_mem _ (List.mem_append_right _ h)
  refine cr_metW (Qc := fun A => va_Qv (fun u : cr_V => u = out) (fun u t => cr_at D A ((fun u : cr_V => cr_wD ct ad u ++ cr_wH ct ah al ak vh vl vk) u) t) A) (by decide) rfl rfl (Nat.le_of_ble_eq_true rfl) ?_
  intro p e s m args below meth c ls A C hW hl
  obtain ⟨hx, hb, hml, hown, hts, hr, hlocks, hK, hN⟩ := id C
  have hl : lv_has ls 6 [(0, .ref (ad 0)), (1, .ref (ah 0)), (2, .int x2), (3, .int x3)] := hl
  have n93 : ∀ (k45_ : cr_V → cr_V → cr_V → cr_V → Int32 → Option (cr_V)) (ih45_ : ∀ (vd : cr_V) (vh : cr_V) (vl : cr_V) (vk : cr_V) (x4 : Int32) (hE : k45_ vd vh vl vk x4 = some out) (H : Heap) (locs : List Loc) (ls : Array Slot) (hW : cr_wd D A s (cr_wD ct ad vd ++ cr_wH ct ah al ak vh vl vk) H locs) (hl : lv_has ls 6 [(0, .ref (ad 0)), (1, .ref (ah 0)), (4, .int x4)]), W p L e ({ frames := 2, cells := 0, slots := 0, locals := 49 } : Room) s m args below meth c H locs 0 0 (MQ below (va_Qv (fun u : cr_V => u = out) (fun u t => cr_at D A ((fun u : cr_V => cr_wD ct ad u ++ cr_wH ct ah al ak vh vl vk) u) t) A) args s 0 0 A) (F0 m 45 ls [])), ∀ (vd : cr_V) (vh : cr_V) (vl : cr_V) (vk : cr_V) (x4 : Int32) (hE : f_X1_plan_93 k45_ vd vh vl vk x4 = some out) (H : Heap) (locs : List Loc) (ls : Array Slot) (hW : cr_wd D A s (cr_wD ct ad vd ++ cr_wH ct ah al ak vh vl vk) H locs) (hl : lv_has ls 6 [(0, .ref (ad 0)), (1, .ref (ah 0)), (4, .int x4)]), W p L e ({ frames := 2, cells := 0, slots := 0, locals := 49 } : Room) s m args below meth c H locs 0 0 (MQ below (va_Qv (fun u : cr_V => u = out) (fun u t => cr_at D A ((fun u : cr_V => cr_wD ct ad u ++ cr_wH ct ah al ak vh vl vk) u) t) A) args s 0 0 A) (F0 m 93 ls []) := by
    intro k45_ ih45_ vd vh vl vk x4 hE H locs ls hW hl
    replace hE : (k45_ vd vh vl vk (x4 + 1)) = some out := hE
    refine lv_iinc (v := x4 + 1) (lv' := [(4, .int (x4 + 1)), (0, .ref (ad 0)), (1, .ref (ah 0))]) hx hb dX1_plan_93 hl (k := 2) rfl (by first | rfl | decide) (by decide) rfl (fun ls hl => ?_)
    refine lv_goto (tgt := 45) hx hb dX1_plan_96 (by decide) ?_
    exact ih45_ vd vh vl vk (x4 + 1) hE _ _ _ hW (lv_sub hl [1, 2, 0] rfl)
  have n45 :  ∀ (n : Nat), ∀ (vd : cr_V) (vh : cr_V) (vl : cr_V) (vk : cr_V) (x4 : Int32) (hE : f_X1_plan_45  n vd vh vl vk x4 = some out) (H : Heap) (locs : List Loc) (ls : Array Slot) (hW : cr_wd D A s (cr_wD ct ad vd ++ cr_wH ct ah al ak vh vl vk) H locs) (hl : lv_has ls 6 [(0, .ref (ad 0)), (1, .ref (ah 0)), (4, .int x4)]), W p L e ({ frames := 2, cells := 0, slots := 0, locals := 49 } : Room) s m args below meth c H locs 0 0 (MQ below (va_Qv (fun u : cr_V => u = out) (fun u t => cr_at D A ((fun u : cr_V => cr_wD ct ad u ++ cr_wH ct ah al ak vh vl vk) u) t) A) args s 0 0 A) (F0 m 45 ls []) := by
    intro  n
    induction n with
    | zero =>
      intro vd vh vl vk x4 hE
      cases hE
    | succ n ih =>
      intro vd vh vl vk x4 hE H locs ls hW hl
      replace hE : (if 12 ≤ x4 then (some vd) else (if (vd 3 0) ≤ 0 then (some vd) else ((f_X1_rowOfGreatestGain vd (vl 4 0)).bind fun q3 => if q3 < 0 then (f_X1_plan_93 (f_X1_plan_45 n) vd vh vl vk x4) else (if cr_in q3 12 = true then (f_X1_take vd q3 (vl 1 (cr_x q3))).bind fun q6 => f_X1_plan_93 (f_X1_plan_45 n) q6 vh vl vk x4 else none)))) = some out := hE
      refine lv_iload hx hb dX1_plan_45 (lv_at hl 2 rfl) ?_
      refine lv_bipush (v := 12) hx hb dX1_plan_47 (by decide) ?_
      refine lv_icmp_ge (tgt := 99) hx hb dX1_plan_49 (by decide) (fun c1 => ?_) (fun c1 => ?_)
      · rw [if_pos c1] at hE
        exact cr_retV C (w := (fun u : cr_V => cr_wD ct ad u ++ cr_wH ct ah al ak vh vl vk)) vd hW (Option.some.inj hE) dX1_plan_99
      · rw [if_neg c1] at hE
        refine lv_aload_n hx hb dX1_plan_52 rfl (lv_at hl 0 rfl) ?_
        refine cr_get C hW.1 0 rfl rfl 3 (by decide) hinX1 k0 (v := .int (vd 3 0)) rfl dX1_plan_53 ?_
        refine lv_if_le (tgt := 99) hx hb dX1_plan_56 (by decide) (fun c2 => ?_) (fun c2 => ?_)
        · rw [if_pos c2] at hE
          exact cr_retV C (w := (fun u : cr_V => cr_wD ct ad u ++ cr_wH ct ah al ak vh vl vk)) vd hW (Option.some.inj hE) dX1_plan_99
        · rw [if_neg c2] at hE
          refine lv_aload_n hx hb dX1_plan_59 rfl (lv_at hl 0 rfl) ?_
          refine lv_aload_n hx hb dX1_plan_60 rfl (lv_at hl 1 rfl) ?_
          refine cr_get C hW.1 7 rfl rfl 0 (by decide) hinX3 k1 (v := .ref (al 0)) rfl dX1_plan_61 ?_
          refine cr_get C hW.1 10 rfl rfl 4 (by decide) hinX4 k2 (v := .int (vl 4 0)) rfl dX1_plan_64 ?_
          obtain ⟨q3, hq3, hE⟩ := cr_bind hE
          refine cr_vRwq (n := 1) (As := [.int (vl 4 0)]) (rest := []) C hW (m_X1_rowOfGreatestGain L D ct ad vd (vl 4 0) q3 hq3) (cwV 1 hts gX1_plan_X1_rowOfGreatestGain rfl rfl rfl (by decide +kernel) ⟨Nat.le_of_ble_eq_true rfl, Nat.le_of_ble_eq_true rfl⟩) [0, 1, 2, 3, 4, 5, 6] rfl 0 rfl rfl rfl hl.1 rfl (Nat.le_of_ble_eq_true rfl) dX1_plan_67 ⟨Nat.zero_le _, Nat.zero_le _⟩ (fun H locs hW => ?_)
          refine lv_istore (lv' := [(5, .int q3), (0, .ref (ad 0)), (1, .ref (ah 0)), (4, .int x4)]) hx hb dX1_plan_70 hl (by decide) rfl (fun ls hl => ?_)
          refine lv_iload hx hb dX1_plan_72 (lv_at hl 0 rfl) ?_
          refine lv_if_lt (tgt := 93) hx hb dX1_plan_74 (by decide) (fun c4 => ?_) (fun c4 => ?_)
          · rw [if_pos c4] at hE
            exact n93 (f_X1_plan_45 n) ih vd vh vl vk x4 hE _ _ _ hW (lv_sub hl [1, 2, 3] rfl)
          · rw [if_neg c4] at hE
            refine lv_aload_n hx hb dX1_plan_77 rfl (lv_at hl 1 rfl) ?_
            refine lv_iload hx hb dX1_plan_78 (lv_at hl 0 rfl) ?_
            refine lv_aload_n hx hb dX1_plan_80 rfl (lv_at hl 2 rfl) ?_
            refine cr_get C hW.1 7 rfl rfl 0 (by decide) hinX3 k1 (v := .ref (al 0)) rfl dX1_plan_81 ?_
            refine cr_get C hW.1 10 rfl rfl 1 (by decide) hinX4 k3 (v := .ref (al 2)) rfl dX1_plan_84 ?_
            refine lv_iload hx hb dX1_plan_87 (lv_at hl 0 rfl) ?_
            obtain ⟨i5, hE⟩ := cr_ifn hE
            refine cr_ald C hW.1 12 (f := vl 1) (k := cr_x q3) rfl i5 (cr_xe _) dX1_plan_89 ?_
            obtain ⟨q6, hq6, hE⟩ := cr_bind hE
            refine cr_vVq (n := 2) (As := [.int q3, .int (vl 1 (cr_x q3))]) (rest := []) C hW (m_X1_take L D ct ad vd q3 (vl 1 (cr_x q3)) _ q6 hq6) (cwV 2 hts gX1_plan_X1_take rfl rfl rfl (by decide +kernel) ⟨Nat.le_of_ble_eq_true rfl, Nat.le_of_ble_eq_true rfl⟩) [0, 1, 2, 3, 4, 5, 6] [7, 8, 9, 10, 11, 12, 13, 14, 15, 16, 17] [11, 12, 13, 14, 15, 16, 17, 0, 1, 2, 3, 4, 5, 6, 7, 8, 9, 10] (cr_wD ct ad q6 ++ cr_wH ct ah al ak vh vl vk) rfl rfl rfl ⟨by decide +kernel, by decide +kernel, by decide +kernel, by decide +kernel⟩ 0 rfl rfl rfl hl.1 rfl (Nat.le_of_ble_eq_true rfl) dX1_plan_90 ⟨Nat.zero_le _, Nat.zero_le _⟩ (fun H locs hW => ?_)
            exact n93 (f_X1_plan_45 n) ih q6 vh vl vk x4 hE _ _ _ hW (lv_sub hl [1, 2, 3] rfl)
  replace hE : ((f_X1_rate vd vh vl vk x2 x3).bind fun q7 => f_X1_plan_45 10100 (cr_i (cr_i (cr_i (cr_i (cr_i (cr_i q7 2 0) 3 (vh 3 0)) 4 0) 5 0) 6 0) 7 0) vh vl vk 0) = some out := hE
  refine lv_aload_n hx hb dX1_plan_0 rfl (lv_at hl 0 rfl) ?_
  refine lv_aload_n hx hb dX1_plan_1 rfl (lv_at hl 1 rfl) ?_
  refine lv_iload_n hx hb dX1_plan_2 rfl (lv_at hl 2 rfl) ?_
  refine lv_iload_n hx hb dX1_plan_3 rfl (lv_at hl 3 rfl) ?_
  obtain ⟨q7, hq7, hE⟩ := cr_bind hE
  refine cr_vVq (n := 3) (As := [.ref (ah 0), .int x2, .int x3]) (rest := []) C hW (m_X1_rate L D ct ad ah al ak vd vh vl vk x2 x3 _ q7 hq7) (cwV 3 hts gX1_plan_X1_rate rfl rfl rfl (by decide +kernel) ⟨Nat.le_of_ble_eq_true rfl, Nat.le_of_ble_eq_true rfl⟩) [0, 1, 2, 3, 4, 5, 6, 7, 8, 9, 10, 11, 12, 13, 14, 15, 16, 17] [] [0, 1, 2, 3, 4, 5, 6, 7, 8, 9, 10, 11, 12, 13, 14, 15, 16, 17] (cr_wD ct ad q7 ++ cr_wH ct ah al ak vh vl vk) rfl rfl rfl ⟨by decide +kernel, by decide +kernel, by decide +kernel, by decide +kernel⟩ 0 rfl rfl rfl hl.1 rfl (Nat.le_of_ble_eq_true rfl) dX1_plan_4 ⟨Nat.zero_le _, Nat.zero_le _⟩ (fun H locs hW => ?_)
  refine lv_aload_n hx hb dX1_plan_7 rfl (lv_at hl 0 rfl) ?_
  refine lv_iconst (v := 0) hx hb dX1_plan_8 (by decide) ?_
  refine cr_put C hW 0 rfl rfl tyX1 tyX1_ok nmX1 2 (by decide) hinX1 k4 rfl rfl rfl rfl (Nat.le_of_ble_eq_true rfl) (w' := cr_wD ct ad (cr_i q7 2 0) ++ cr_wH ct ah al ak vh vl vk) rfl dX1_plan_9 (fun H locs hW => ?_)
  refine lv_aload_n hx hb dX1_plan_12 rfl (lv_at hl 0 rfl) ?_
  refine lv_aload_n hx hb dX1_plan_13 rfl (lv_at hl 1 rfl) ?_
  refine cr_get C hW.1 7 rfl rfl 3 (by decide) hinX3 k5 (v := .ref (ah 4)) rfl dX1_plan_14 ?_
  refine lv_iconst (v := 0) hx hb dX1_plan_17 (by decide) ?_
  refine cr_ald C hW.1 9 (f := vh 3) (k := 0) rfl (by decide) (by decide) dX1_plan_18 ?_
  refine cr_put C hW 0 rfl rfl tyX1 tyX1_ok nmX1 3 (by decide) hinX1 k0 rfl rfl rfl rfl (Nat.le_of_ble_eq_true rfl) (w' := cr_wD ct ad (cr_i (cr_i q7 2 0) 3 (vh 3 0)) ++ cr_wH ct ah al ak vh vl vk) rfl dX1_plan_19 (fun H locs hW => ?_)
  refine lv_aload_n hx hb dX1_plan_22 rfl (lv_at hl 0 rfl) ?_
  refine lv_iconst (v := 0) hx hb dX1_plan_23 (by decide) ?_
  refine cr_put C hW 0 rfl rfl tyX1 tyX1_ok nmX1 4 (by decide) hinX1 k6 rfl rfl rfl rfl (Nat.le_of_ble_eq_true rfl) (w' := cr_wD ct ad (cr_i (cr_i (cr_i q7 2 0) 3 (vh 3 0)) 4 0) ++ cr_wH ct ah al ak vh vl vk) rfl dX1_plan_24 (fun H locs hW => ?_)
  refine lv_aload_n hx hb dX1_plan_27 rfl (lv_at hl 0 rfl) ?_
  refine lv_iconst (v := 0) hx hb dX1_plan_28 (by decide) ?_
  refine cr_put C hW 0 rfl rfl tyX1 tyX1_ok nmX1 5 (by decide) hinX1 k7 rfl rfl rfl rfl (Nat.le_of_ble_eq_true rfl) (w' := cr_wD ct ad (cr_i (cr_i (cr_i (cr_i q7 2 0) 3 (vh 3 0)) 4 0) 5 0) ++ cr_wH ct ah al ak vh vl vk) rfl dX1_plan_29 (fun H locs hW => ?_)
  refine lv_aload_n hx hb dX1_plan_32 rfl (lv_at hl 0 rfl) ?_
  refine lv_iconst (v := 0) hx hb dX1_plan_33 (by decide) ?_
  refine cr_put C hW 0 rfl rfl tyX1 tyX1_ok nmX1 6 (by decide) hinX1 k8 rfl rfl rfl rfl (Nat.le_of_ble_eq_true rfl) (w' := cr_wD ct ad (cr_i (cr_i (cr_i (cr_i (cr_i q7 2 0) 3 (vh 3 0)) 4 0) 5 0) 6 0) ++ cr_wH ct ah al ak vh vl vk) rfl dX1_plan_34 (fun H locs hW => ?_)
  refine lv_aload_n hx hb dX1_plan_37 rfl (lv_at hl 0 rfl) ?_
  refine lv_iconst (v := 0) hx hb dX1_plan_38 (by decide) ?_
  refine cr_put C hW 0 rfl rfl tyX1 tyX1_ok nmX1 7 (by decide) hinX1 k9 rfl rfl rfl rfl (Nat.le_of_ble_eq_true rfl) (w' := cr_wD ct ad (cr_i (cr_i (cr_i (cr_i (cr_i (cr_i q7 2 0) 3 (vh 3 0)) 4 0) 5 0) 6 0) 7 0) ++ cr_wH ct ah al ak vh vl vk) rfl dX1_plan_39 (fun H locs hW => ?_)
  refine lv_iconst (v := 0) hx hb dX1_plan_42 (by decide) ?_
  refine lv_istore (lv' := [(4, .int 0), (0, .ref (ad 0)), (1, .ref (ah 0)), (2, .int x2), (3, .int x3)]) hx hb dX1_plan_43 hl (by decide) rfl (fun ls hl => ?_)
  exact n45 10100 (cr_i (cr_i (cr_i (cr_i (cr_i (cr_i q7 2 0) 3 (vh 3 0)) 4 0) 5 0) 6 0) 7 0) vh vl vk 0 hE _ _ _ hW (lv_sub hl [1, 2, 0] rfl)

set_option maxHeartbeats 4000000 in
set_option maxRecDepth 100000 in
theorem m_X3_copyFrom (L : Launch) (D : va_G) (ct : Nat → ClassId) (ah : Nat → Nat) (al : Nat → Nat) (ak : Nat → Nat) (ah2 : Nat → Nat) (al2 : Nat → Nat) (ak2 : Nat → Nat) (vh : cr_V) (vl : cr_V) (vk : cr_V) (vh2 : cr_V) (vl2 : cr_V) (vk2 : cr_V)  (sz : Nat) (out : cr_V × cr_V × cr_V) (hE : f_X3_copyFrom vh vl vk vh2 vl2 vk2 = some out) : Met L yX3_copyFrom wsX3_copyFrom ({ frames := 1, cells := 0, slots := 0, locals := 22 } : Room) (cr_pW D ct (cr_wH ct ah al ak vh vl vk ++ cr_wH ct ah2 al2 ak2 vh2 vl2 vk2) sz [.ref (ah 0), .ref (ah2 0)]) (cr_QV D (cr_wH ct ah al ak vh vl vk ++ cr_wH ct ah2 al2 ak2 vh2 vl2 vk2) sz (fun u : cr_V × cr_V × cr_V => u = out) (fun u : cr_V × cr_V × cr_V => cr_wH ct ah al ak u.1 u.2.1 u.2.2 ++ cr_wH ct ah2 al2 ak2 vh2 vl2 vk2)) 0 0 (va_A (cr_wH ct ah al ak vh vl vk ++ cr_wH ct ah2 al2 ak2 vh2 vl2 vk2) sz) := by
  have k0 : (Cond.fieldLink RX3 50 "CupReceipts$House" "month" "I") ∈ wsX3_copyFrom := List.mem_of_getElem? (i := 5) rfl
  have k1 : (Cond.fieldLink RX3 54 "CupReceipts$House" "account" "I") ∈ wsX3_copyFrom := List.mem_of_getElem? (i := 6) rfl
  have k2 : (Cond.fieldLink RX3 57 "CupReceipts$House" "contractsMet" "I") ∈ wsX3_copyFrom := List.mem_of_getElem? (i := 7) rfl
  have k3 : (Cond.fieldLink RX3 60 "CupReceipts$House" "contractsFailed" "I") ∈ wsX3_copyFrom := List.mem_of_getElem? (i := 8) rfl
  have k4 : (Cond.fieldLink RX3 63 "CupReceipts$House" "bagsGiven" "I") ∈ wsX3_copyFrom := List.mem_of_getElem? (i := 9) rfl
  have k5 : (Cond.fieldLink RX3 40 "CupReceipts$House" "settings" "[I") ∈ wsX3_copyFrom := List.mem_of_getElem? (i := 4) rfl
  have k6 : (Cond.fieldLink RX3 34 "CupReceipts$House" "worths" "[I") ∈ wsX3_copyFrom := List.mem_of_getElem? (i := 3) rfl
  have k7 : (Cond.fieldLink RX3 12 "CupReceipts$House" "lots" "LCupReceipts$Lots;") ∈ wsX3_copyFrom := List.mem_of_getElem? (i := 1) rfl
  have k8 : (Cond.fieldLink RX3 21 "CupReceipts$House" "contracts" "LCupReceipts$Contracts;") ∈ wsX3_copyFrom := List.mem_of_getElem? (i := 2) rfl
  have hinX3 : ∀ w ∈ wsX30, w ∈ wsX3_copyFrom := fun w h => List.mem_cons_of_mem _ (List.mem_append_left _ (List.mem_append_left _ (List.mem_append_right _ h)))
  refine cr_metW (Qc := fun A => va_Qv (fun u : cr_V × cr_V × cr_V => u = out) (fun u t => cr_at D A ((fun u : cr_V × cr_V × cr_V => cr_wH ct ah al ak u.1 u.2.1 u.2.2 ++ cr_wH ct ah2 al2 ak2 vh2 vl2 vk2) u) t) A) (by decide) rfl rfl (Nat.le_of_ble_eq_true rfl) ?_
  intro p e s m args below meth c ls A C hW hl
  obtain ⟨hx, hb, hml, hown, hts, hr, hlocks, hK, hN⟩ := id C
  have hl : lv_has ls 3 [(0, .ref (ah 0)), (1, .ref (ah2 0))] := hl
  have n49 :  ∀ (n : Nat), ∀ (vh : cr_V) (vl : cr_V) (vk : cr_V) (vh2 : cr_V) (vl2 : cr_V) (vk2 : cr_V) (x2 : Int32) (hE : f_X3_copyFrom_49  n vh vl vk vh2 vl2 vk2 x2 = some out) (H : Heap) (locs : List Loc) (ls : Array Slot) (hW : cr_wd D A s (cr_wH ct ah al ak vh vl vk ++ cr_wH ct ah2 al2 ak2 vh2 vl2 vk2) H locs) (hl : lv_has ls 3 [(0, .ref (ah 0)), (1, .ref (ah2 0)), (2, .int x2)]), W p L e ({ frames := 1, cells := 0, slots := 0, locals := 22 } : Room) s m args below meth c H locs 0 0 (MQ below (va_Qv (fun u : cr_V × cr_V × cr_V => u = out) (fun u t => cr_at D A ((fun u : cr_V × cr_V × cr_V => cr_wH ct ah al ak u.1 u.2.1 u.2.2 ++ cr_wH ct ah2 al2 ak2 vh2 vl2 vk2) u) t) A) args s 0 0 A) (F0 m 49 ls []) := by
    intro  n
    induction n with
    | zero =>
      intro vh vl vk vh2 vl2 vk2 x2 hE
      cases hE
    | succ n ih =>
      intro vh vl vk vh2 vl2 vk2 x2 hE H locs ls hW hl
      replace hE : (if 5 ≤ x2 then (some (cr_i (cr_i (cr_i (cr_i (cr_i vh 4 (vh2 4 0)) 5 (vh2 5 0)) 6 (vh2 6 0)) 7 (vh2 7 0)) 8 (vh2 8 0), vl, vk)) else (if cr_in x2 5 = true then f_X3_copyFrom_49 n (cr_a vh 3 (cr_x x2) (vh2 3 (cr_x x2))) vl vk vh2 vl2 vk2 (x2 + 1) else none)) = some out := hE
      refine lv_iload_n hx hb dX3_copyFrom_49 rfl (lv_at hl 2 rfl) ?_
      refine lv_iconst (v := 5) hx hb dX3_copyFrom_50 (by decide) ?_
      refine lv_icmp_ge (tgt := 72) hx hb dX3_copyFrom_51 (by decide) (fun c1 => ?_) (fun c1 => ?_)
      · rw [if_pos c1] at hE
        refine lv_aload_n hx hb dX3_copyFrom_72 rfl (lv_at hl 0 rfl) ?_
        refine lv_aload_n hx hb dX3_copyFrom_73 rfl (lv_at hl 1 rfl) ?_
        refine cr_get C hW.1 11 rfl rfl 4 (by decide) hinX3 k0 (v := .int (vh2 4 0)) rfl dX3_copyFrom_74 ?_
        refine cr_put C hW 0 rfl rfl tyX3 tyX3_ok nmX3 4 (by decide) hinX3 k0 rfl rfl rfl rfl (Nat.le_of_ble_eq_true rfl) (w' := cr_wH ct ah al ak (cr_i vh 4 (vh2 4 0)) vl vk ++ cr_wH ct ah2 al2 ak2 vh2 vl2 vk2) rfl dX3_copyFrom_77 (fun H locs hW => ?_)
        refine lv_aload_n hx hb dX3_copyFrom_80 rfl (lv_at hl 0 rfl) ?_
        refine lv_aload_n hx hb dX3_copyFrom_81 rfl (lv_at hl 1 rfl) ?_
        refine cr_get C hW.1 11 rfl rfl 5 (by decide) hinX3 k1 (v := .int (vh2 5 0)) rfl dX3_copyFrom_82 ?_
        refine cr_put C hW 0 rfl rfl tyX3 tyX3_ok nmX3 5 (by decide) hinX3 k1 rfl rfl rfl rfl (Nat.le_of_ble_eq_true rfl) (w' := cr_wH ct ah al ak (cr_i (cr_i vh 4 (vh2 4 0)) 5 (vh2 5 0)) vl vk ++ cr_wH ct ah2 al2 ak2 vh2 vl2 vk2) rfl dX3_copyFrom_85 (fun H locs hW => ?_)
        refine lv_aload_n hx hb dX3_copyFrom_88 rfl (lv_at hl 0 rfl) ?_
        refine lv_aload_n hx hb dX3_copyFrom_89 rfl (lv_at hl 1 rfl) ?_
        refine cr_get C hW.1 11 rfl rfl 6 (by decide) hinX3 k2 (v := .int (vh2 6 0)) rfl dX3_copyFrom_90 ?_
        refine cr_put C hW 0 rfl rfl tyX3 tyX3_ok nmX3 6 (by decide) hinX3 k2 rfl rfl rfl rfl (Nat.le_of_ble_eq_true rfl) (w' := cr_wH ct ah al ak (cr_i (cr_i (cr_i vh 4 (vh2 4 0)) 5 (vh2 5 0)) 6 (vh2 6 0)) vl vk ++ cr_wH ct ah2 al2 ak2 vh2 vl2 vk2) rfl dX3_copyFrom_93 (fun H locs hW => ?_)
        refine lv_aload_n hx hb dX3_copyFrom_96 rfl (lv_at hl 0 rfl) ?_
        refine lv_aload_n hx hb dX3_copyFrom_97 rfl (lv_at hl 1 rfl) ?_
        refine cr_get C hW.1 11 rfl rfl 7 (by decide) hinX3 k3 (v := .int (vh2 7 0)) rfl dX3_copyFrom_98 ?_
        refine cr_put C hW 0 rfl rfl tyX3 tyX3_ok nmX3 7 (by decide) hinX3 k3 rfl rfl rfl rfl (Nat.le_of_ble_eq_true rfl) (w' := cr_wH ct ah al ak (cr_i (cr_i (cr_i (cr_i vh 4 (vh2 4 0)) 5 (vh2 5 0)) 6 (vh2 6 0)) 7 (vh2 7 0)) vl vk ++ cr_wH ct ah2 al2 ak2 vh2 vl2 vk2) rfl dX3_copyFrom_101 (fun H locs hW => ?_)
        refine lv_aload_n hx hb dX3_copyFrom_104 rfl (lv_at hl 0 rfl) ?_
        refine lv_aload_n hx hb dX3_copyFrom_105 rfl (lv_at hl 1 rfl) ?_
        refine cr_get C hW.1 11 rfl rfl 8 (by decide) hinX3 k4 (v := .int (vh2 8 0)) rfl dX3_copyFrom_106 ?_
        refine cr_put C hW 0 rfl rfl tyX3 tyX3_ok nmX3 8 (by decide) hinX3 k4 rfl rfl rfl rfl (Nat.le_of_ble_eq_true rfl) (w' := cr_wH ct ah al ak (cr_i (cr_i (cr_i (cr_i (cr_i vh 4 (vh2 4 0)) 5 (vh2 5 0)) 6 (vh2 6 0)) 7 (vh2 7 0)) 8 (vh2 8 0)) vl vk ++ cr_wH ct ah2 al2 ak2 vh2 vl2 vk2) rfl dX3_copyFrom_109 (fun H locs hW => ?_)
        exact cr_retV C (w := (fun u : cr_V × cr_V × cr_V => cr_wH ct ah al ak u.1 u.2.1 u.2.2 ++ cr_wH ct ah2 al2 ak2 vh2 vl2 vk2)) (cr_i (cr_i (cr_i (cr_i (cr_i vh 4 (vh2 4 0)) 5 (vh2 5 0)) 6 (vh2 6 0)) 7 (vh2 7 0)) 8 (vh2 8 0), vl, vk) hW (Option.some.inj hE) dX3_copyFrom_112
      · rw [if_neg c1] at hE
        refine lv_aload_n hx hb dX3_copyFrom_54 rfl (lv_at hl 0 rfl) ?_
        refine cr_get C hW.1 0 rfl rfl 3 (by decide) hinX3 k5 (v := .ref (ah 4)) rfl dX3_copyFrom_55 ?_
        refine lv_iload_n hx hb dX3_copyFrom_58 rfl (lv_at hl 2 rfl) ?_
        refine lv_aload_n hx hb dX3_copyFrom_59 rfl (lv_at hl 1 rfl) ?_
        refine cr_get C hW.1 11 rfl rfl 3 (by decide) hinX3 k5 (v := .ref (ah2 4)) rfl dX3_copyFrom_60 ?_
        refine lv_iload_n hx hb dX3_copyFrom_63 rfl (lv_at hl 2 rfl) ?_
        obtain ⟨i2, hE⟩ := cr_ifn hE
        refine cr_ald C hW.1 13 (f := vh2 3) (k := cr_x x2) rfl i2 (cr_xe _) dX3_copyFrom_64 ?_
        refine cr_ast C hW 2 rfl (k := (cr_x x2)) i2 (cr_xe _) (w' := cr_wH ct ah al ak (cr_a vh 3 (cr_x x2) (vh2 3 (cr_x x2))) vl vk ++ cr_wH ct ah2 al2 ak2 vh2 vl2 vk2) rfl dX3_copyFrom_65 (fun H locs hW => ?_)
        refine lv_iinc (v := x2 + 1) (lv' := [(2, .int (x2 + 1)), (0, .ref (ah 0)), (1, .ref (ah2 0))]) hx hb dX3_copyFrom_66 hl (k := 2) rfl (by first | rfl | decide) (by decide) rfl (fun ls hl => ?_)
        refine lv_goto (tgt := 49) hx hb dX3_copyFrom_69 (by decide) ?_
        exact ih (cr_a vh 3 (cr_x x2) (vh2 3 (cr_x x2))) vl vk vh2 vl2 vk2 (x2 + 1) hE _ _ _ hW (lv_sub hl [1, 2, 0] rfl)
  have n24 :  ∀ (n : Nat), ∀ (vh : cr_V) (vl : cr_V) (vk : cr_V) (vh2 : cr_V) (vl2 : cr_V) (vk2 : cr_V) (x2 : Int32) (hE : f_X3_copyFrom_24  n vh vl vk vh2 vl2 vk2 x2 = some out) (H : Heap) (locs : List Loc) (ls : Array Slot) (hW : cr_wd D A s (cr_wH ct ah al ak vh vl vk ++ cr_wH ct ah2 al2 ak2 vh2 vl2 vk2) H locs) (hl : lv_has ls 3 [(0, .ref (ah 0)), (1, .ref (ah2 0)), (2, .int x2)]), W p L e ({ frames := 1, cells := 0, slots := 0, locals := 22 } : Room) s m args below meth c H locs 0 0 (MQ below (va_Qv (fun u : cr_V × cr_V × cr_V => u = out) (fun u t => cr_at D A ((fun u : cr_V × cr_V × cr_V => cr_wH ct ah al ak u.1 u.2.1 u.2.2 ++ cr_wH ct ah2 al2 ak2 vh2 vl2 vk2) u) t) A) args s 0 0 A) (F0 m 24 ls []) := by
    intro  n
    induction n with
    | zero =>
      intro vh vl vk vh2 vl2 vk2 x2 hE
      cases hE
    | succ n ih =>
      intro vh vl vk vh2 vl2 vk2 x2 hE H locs ls hW hl
      replace hE : (if 4 ≤ x2 then (f_X3_copyFrom_49 10100 vh vl vk vh2 vl2 vk2 0) else (if cr_in x2 4 = true then f_X3_copyFrom_24 n (cr_a vh 2 (cr_x x2) (vh2 2 (cr_x x2))) vl vk vh2 vl2 vk2 (x2 + 1) else none)) = some out := hE
      refine lv_iload_n hx hb dX3_copyFrom_24 rfl (lv_at hl 2 rfl) ?_
      refine lv_iconst (v := 4) hx hb dX3_copyFrom_25 (by decide) ?_
      refine lv_icmp_ge (tgt := 47) hx hb dX3_copyFrom_26 (by decide) (fun c3 => ?_) (fun c3 => ?_)
      · rw [if_pos c3] at hE
        refine lv_iconst (v := 0) hx hb dX3_copyFrom_47 (by decide) ?_
        refine lv_istore_n (lv' := [(2, .int 0), (0, .ref (ah 0)), (1, .ref (ah2 0))]) hx hb dX3_copyFrom_48 rfl hl (by decide) rfl (fun ls hl => ?_)
        exact n49 10100 vh vl vk vh2 vl2 vk2 0 hE _ _ _ hW (lv_sub hl [1, 2, 0] rfl)
      · rw [if_neg c3] at hE
        refine lv_aload_n hx hb dX3_copyFrom_29 rfl (lv_at hl 0 rfl) ?_
        refine cr_get C hW.1 0 rfl rfl 2 (by decide) hinX3 k6 (v := .ref (ah 3)) rfl dX3_copyFrom_30 ?_
        refine lv_iload_n hx hb dX3_copyFrom_33 rfl (lv_at hl 2 rfl) ?_
        refine lv_aload_n hx hb dX3_copyFrom_34 rfl (lv_at hl 1 rfl) ?_
        refine cr_get C hW.1 11 rfl rfl 2 (by decide) hinX3 k6 (v := .ref (ah2 3)) rfl dX3_copyFrom_35 ?_
        refine lv_iload_n hx hb dX3_copyFrom_38 rfl (lv_at hl 2 rfl) ?_
        obtain ⟨i4, hE⟩ := cr_ifn hE
        refine cr_ald C hW.1 12 (f := vh2 2) (k := cr_x x2) rfl i4 (cr_xe _) dX3_copyFrom_39 ?_
        refine cr_ast C hW 1 rfl (k := (cr_x x2)) i4 (cr_xe _) (w' := cr_wH ct ah al ak (cr_a vh 2 (cr_x x2) (vh2 2 (cr_x x2))) vl vk ++ cr_wH ct ah2 al2 ak2 vh2 vl2 vk2) rfl dX3_copyFrom_40 (fun H locs hW => ?_)
        refine lv_iinc (v := x2 + 1) (lv' := [(2, .int (x2 + 1)), (0, .ref (ah 0)), (1, .ref (ah2 0))]) hx hb dX3_copyFrom_41 hl (k := 2) rfl (by first | rfl | decide) (by decide) rfl (fun ls hl => ?_)
        refine lv_goto (tgt := 24) hx hb dX3_copyFrom_44 (by decide) ?_
        exact ih (cr_a vh 2 (cr_x x2) (vh2 2 (cr_x x2))) vl vk vh2 vl2 vk2 (x2 + 1) hE _ _ _ hW (lv_sub hl [1, 2, 0] rfl)
  replace hE : ((f_X4_copyFrom vl vl2).bind fun q5 => (f_X0_copyFrom vk vk2).bind fun q6 => f_X3_copyFrom_24 10100 vh q5 q6 vh2 vl2 vk2 0) = some out := hE
  refine lv_aload_n hx hb dX3_copyFrom_0 rfl (lv_at hl 0 rfl) ?_
  refine cr_get C hW.1 0 rfl rfl 0 (by decide) hinX3 k7 (v := .ref (al 0)) rfl dX3_copyFrom_1 ?_
  refine lv_aload_n hx hb dX3_copyFrom_4 rfl (lv_at hl 1 rfl) ?_
  refine cr_get C hW.1 11 rfl rfl 0 (by decide) hinX3 k7 (v := .ref (al2 0)) rfl dX3_copyFrom_5 ?_
  obtain ⟨q5, hq5, hE⟩ := cr_bind hE
  refine cr_vVq (n := 1) (As := [.ref (al2 0)]) (rest := []) C hW (m_X4_copyFrom L D ct al al2 vl vl2 _ q5 hq5) (cwV 1 hts gX3_copyFrom_X4_copyFrom rfl rfl rfl (by decide +kernel) ⟨Nat.le_of_ble_eq_true rfl, Nat.le_of_ble_eq_true rfl⟩) [3, 4, 5, 6, 7, 14, 15, 16, 17, 18] [0, 1, 2, 8, 9, 10, 11, 12, 13, 19, 20, 21] [0, 1, 2, 12, 13, 14, 15, 16, 3, 4, 5, 6, 7, 8, 17, 18, 19, 20, 21, 9, 10, 11] (cr_wH ct ah al ak vh q5 vk ++ cr_wH ct ah2 al2 ak2 vh2 vl2 vk2) rfl rfl rfl ⟨by decide +kernel, by decide +kernel, by decide +kernel, by decide +kernel⟩ 3 rfl rfl rfl hl.1 rfl (Nat.le_of_ble_eq_true rfl) dX3_copyFrom_8 ⟨Nat.zero_le _, Nat.zero_le _⟩ (fun H locs hW => ?_)
  refine lv_aload_n hx hb dX3_copyFrom_11 rfl (lv_at hl 0 rfl) ?_
  refine cr_get C hW.1 0 rfl rfl 1 (by decide) hinX3 k8 (v := .ref (ak 0)) rfl dX3_copyFrom_12 ?_
  refine lv_aload_n hx hb dX3_copyFrom_15 rfl (lv_at hl 1 rfl) ?_
  refine cr_get C hW.1 11 rfl rfl 1 (by decide) hinX3 k8 (v := .ref (ak2 0)) rfl dX3_copyFrom_16 ?_
  obtain ⟨q6, hq6, hE⟩ := cr_bind hE
  refine cr_vVq (n := 1) (As := [.ref (ak2 0)]) (rest := []) C hW (m_X0_copyFrom L D ct ak ak2 vk vk2 _ q6 hq6) (cwV 1 hts gX3_copyFrom_X0_copyFrom rfl rfl rfl (by decide +kernel) ⟨Nat.le_of_ble_eq_true rfl, Nat.le_of_ble_eq_true rfl⟩) [8, 9, 10, 19, 20, 21] [0, 1, 2, 3, 4, 5, 6, 7, 11, 12, 13, 14, 15, 16, 17, 18] [0, 1, 2, 3, 4, 5, 6, 7, 16, 17, 18, 8, 9, 10, 11, 12, 13, 14, 15, 19, 20, 21] (cr_wH ct ah al ak vh q5 q6 ++ cr_wH ct ah2 al2 ak2 vh2 vl2 vk2) rfl rfl rfl ⟨by decide +kernel, by decide +kernel, by decide +kernel, by decide +kernel⟩ 8 rfl rfl rfl hl.1 rfl (Nat.le_of_ble_eq_true rfl) dX3_copyFrom_19 ⟨Nat.zero_le _, Nat.zero_le _⟩ (fun H locs hW => ?_)
  refine lv_iconst (v := 0) hx hb dX3_copyFrom_22 (by decide) ?_
  refine lv_istore_n (lv' := [(2, .int 0), (0, .ref (ah 0)), (1, .ref (ah2 0))]) hx hb dX3_copyFrom_23 rfl hl (by decide) rfl (fun ls hl => ?_)
  exact n24 10100 vh q5 q6 vh2 vl2 vk2 0 hE _ _ _ hW (lv_sub hl [1, 2, 0] rfl)

set_option maxHeartbeats 4000000 in
set_option maxRecDepth 100000 in
theorem m_X6_isWithin (L : Launch) (D : va_G) (ct : Nat → ClassId)   (x0 : Int32) (x1 : Int32) (x2 : Int32) (out : Int32) (hE : f_X6_isWithin x0 x1 x2 = some out) : Met L yX6_isWithin wsX6_isWithin ({ frames := 0, cells := 0, slots := 0, locals := 0 } : Room) (cr_pR D ct ([]) [.int x0, .int x1, .int x2]) (cr_QR (fun r => r = out)) 0 0 cr_no := by
  refine cr_metR (by decide) rfl rfl (Nat.le_of_ble_eq_true rfl) ?_
  intro p e s m args below meth c ls C hP hS hl
  obtain ⟨hx, hb, hml, hown, hts, hr, hlocks, hK, hN⟩ := id C
  have hl : lv_has ls 3 [(0, .int x0), (1, .int x1), (2, .int x2)] := hl
  replace hE : (if x0 < x1 then (some 0) else (if x2 < x0 then (some 0) else (some 1))) = some out := hE
  refine lv_iload_n hx hb dX6_isWithin_0 rfl (lv_at hl 0 rfl) ?_
  refine lv_iload_n hx hb dX6_isWithin_1 rfl (lv_at hl 1 rfl) ?_
  refine lv_icmp_lt (tgt := 14) hx hb dX6_isWithin_2 (by decide) (fun c1 => ?_) (fun c1 => ?_)
  · rw [if_pos c1] at hE
    refine lv_iconst (v := 0) hx hb dX6_isWithin_14 (by decide) ?_
    exact cr_retRz C hS rfl (Option.some.inj hE) dX6_isWithin_15
  · rw [if_neg c1] at hE
    refine lv_iload_n hx hb dX6_isWithin_5 rfl (lv_at hl 0 rfl) ?_
    refine lv_iload_n hx hb dX6_isWithin_6 rfl (lv_at hl 2 rfl) ?_
    refine lv_icmp_gt (tgt := 14) hx hb dX6_isWithin_7 (by decide) (fun c2 => ?_) (fun c2 => ?_)
    · rw [if_pos c2] at hE
      refine lv_iconst (v := 0) hx hb dX6_isWithin_14 (by decide) ?_
      exact cr_retRz C hS rfl (Option.some.inj hE) dX6_isWithin_15
    · rw [if_neg c2] at hE
      refine lv_iconst (v := 1) hx hb dX6_isWithin_10 (by decide) ?_
      refine lv_goto (tgt := 15) hx hb dX6_isWithin_11 (by decide) ?_
      exact cr_retRz C hS rfl (Option.some.inj hE) dX6_isWithin_15

set_option maxHeartbeats 4000000 in
set_option maxRecDepth 100000 in
theorem m_X3_bringLot (L : Launch) (D : va_G) (ct : Nat → ClassId) (ah : Nat → Nat) (al : Nat → Nat) (ak : Nat → Nat) (vh : cr_V) (vl : cr_V) (vk : cr_V) (x1 : Int32) (x2 : Int32) (sz : Nat) (out : Int32 × cr_V) (hE : f_X3_bringLot vh vl vk x1 x2 = some out) : Met L yX3_bringLot wsX3_bringLot ({ frames := 2, cells := 0, slots := 0, locals := 43 } : Room) (cr_pW D ct (cr_wH ct ah al ak vh vl vk) sz [.ref (ah 0), .int x1, .int x2]) (cr_QW D (cr_wH ct ah al ak vh vl vk) sz (fun r (u : cr_V) => (r, u) = out) (fun u : cr_V => cr_wH ct ah al ak vh u vk)) 0 0 (va_A (cr_wH ct ah al ak vh vl vk) sz) := by
  have k0 : (Cond.initialized RX6) ∈ wsX3_bringLot := List.mem_of_getElem? (i := 5) rfl
  have k1 : (Cond.static yX6_isWithin) ∈ wsX3_bringLot := List.mem_of_getElem? (i := 4) rfl
  have k2 : (Cond.constant RX3 70 (-2000000001)) ∈ wsX3_bringLot := List.mem_of_getElem? (i := 1) rfl
  have k3 : (Cond.fieldLink RX3 12 "CupReceipts$House" "lots" "LCupReceipts$Lots;") ∈ wsX3_bringLot := List.mem_of_getElem? (i := 2) rfl
  have k4 : (Cond.fieldLink RX3 50 "CupReceipts$House" "month" "I") ∈ wsX3_bringLot := List.mem_of_getElem? (i := 3) rfl
  have hinX3 : ∀ w ∈ wsX30, w ∈ wsX3_bringLot := fun w h => List.mem_cons_of_mem _ (List.mem_append_left _ (List.mem_append_right _ h))
  refine cr_metW (Qc := fun A => va_Qi (fun r (u : cr_V) => (r, u) = out) (fun u t => cr_at D A ((fun u : cr_V => cr_wH ct ah al ak vh u vk) u) t) A) (by decide) rfl rfl (Nat.le_of_ble_eq_true rfl) ?_
  intro p e s m args below meth c ls A C hW hl
  obtain ⟨hx, hb, hml, hown, hts, hr, hlocks, hK, hN⟩ := id C
  have hl : lv_has ls 3 [(0, .ref (ah 0)), (1, .int x1), (2, .int x2)] := hl
  replace hE : ((f_X6_isWithin x1 1 999).bind fun q1 => if q1 = 0 then (some ((-2000000001), vl)) else ((f_X6_isWithin x2 60 100).bind fun q3 => if q3 = 0 then (some ((-2000000001), vl)) else ((f_X4_add vl x1 x2 (vh 4 0)).bind fun q5 => some (q5.1, q5.2)))) = some out := hE
  refine lv_iload_n hx hb dX3_bringLot_0 rfl (lv_at hl 1 rfl) ?_
  refine lv_iconst (v := 1) hx hb dX3_bringLot_1 (by decide) ?_
  refine lv_sipush (v := 999) hx hb dX3_bringLot_2 (by decide) ?_
  obtain ⟨q1, hq1, hE⟩ := cr_bind hE
  refine cr_nRwq (n := 3) (As := [.int x1, .int 1, .int 999]) (rest := []) C hW (m_X6_isWithin L D ct x1 1 999 q1 hq1) ⟨va_cnB 3 hts gX3_bringLot_X6_isWithin_n66 rfl rfl rfl hN.2.2.1 (hts _ k0) (by decide +kernel) ⟨Nat.le_of_ble_eq_true rfl, Nat.le_of_ble_eq_true rfl⟩, hts _ k1, trivial⟩ rfl hl.1 rfl (Nat.le_of_ble_eq_true rfl) dX3_bringLot_5 ⟨Nat.zero_le _, Nat.zero_le _⟩ (fun H locs hW => ?_)
  refine lv_if_eq (tgt := 22) hx hb dX3_bringLot_8 (by decide) (fun c2 => ?_) (fun c2 => ?_)
  · rw [if_pos c2] at hE
    refine cr_ldc C k2 dX3_bringLot_22 ?_
    exact cr_retW C (w := (fun u : cr_V => cr_wH ct ah al ak vh u vk)) vl hW (Option.some.inj hE) dX3_bringLot_24
  · rw [if_neg c2] at hE
    refine lv_iload_n hx hb dX3_bringLot_11 rfl (lv_at hl 2 rfl) ?_
    refine lv_bipush (v := 60) hx hb dX3_bringLot_12 (by decide) ?_
    refine lv_bipush (v := 100) hx hb dX3_bringLot_14 (by decide) ?_
    obtain ⟨q3, hq3, hE⟩ := cr_bind hE
    refine cr_nRwq (n := 3) (As := [.int x2, .int 60, .int 100]) (rest := []) C hW (m_X6_isWithin L D ct x2 60 100 q3 hq3) ⟨va_cnB 3 hts gX3_bringLot_X6_isWithin_n66 rfl rfl rfl hN.2.2.1 (hts _ k0) (by decide +kernel) ⟨Nat.le_of_ble_eq_true rfl, Nat.le_of_ble_eq_true rfl⟩, hts _ k1, trivial⟩ rfl hl.1 rfl (Nat.le_of_ble_eq_true rfl) dX3_bringLot_16 ⟨Nat.zero_le _, Nat.zero_le _⟩ (fun H locs hW => ?_)
    refine lv_if_ne (tgt := 25) hx hb dX3_bringLot_19 (by decide) (fun c4 => ?_) (fun c4 => ?_)
    · rw [if_neg c4] at hE
      refine lv_aload_n hx hb dX3_bringLot_25 rfl (lv_at hl 0 rfl) ?_
      refine cr_get C hW.1 0 rfl rfl 0 (by decide) hinX3 k3 (v := .ref (al 0)) rfl dX3_bringLot_26 ?_
      refine lv_iload_n hx hb dX3_bringLot_29 rfl (lv_at hl 1 rfl) ?_
      refine lv_iload_n hx hb dX3_bringLot_30 rfl (lv_at hl 2 rfl) ?_
      refine lv_aload_n hx hb dX3_bringLot_31 rfl (lv_at hl 0 rfl) ?_
      refine cr_get C hW.1 0 rfl rfl 4 (by decide) hinX3 k4 (v := .int (vh 4 0)) rfl dX3_bringLot_32 ?_
      obtain ⟨q5, hq5, hE⟩ := cr_bind hE
      refine cr_vWq (n := 3) (As := [.int x1, .int x2, .int (vh 4 0)]) (rest := []) C hW (m_X4_add L D ct al vl x1 x2 (vh 4 0) _ q5 hq5) (cwV 3 hts gX3_bringLot_X4_add rfl rfl rfl (by decide +kernel) ⟨Nat.le_of_ble_eq_true rfl, Nat.le_of_ble_eq_true rfl⟩) [3, 4, 5, 6, 7] [0, 1, 2, 8, 9, 10] [0, 1, 2, 6, 7, 8, 9, 10, 3, 4, 5] (cr_wH ct ah al ak vh q5.2 vk) rfl rfl rfl ⟨by decide +kernel, by decide +kernel, by decide +kernel, by decide +kernel⟩ 3 rfl rfl rfl hl.1 rfl (Nat.le_of_ble_eq_true rfl) dX3_bringLot_35 ⟨Nat.zero_le _, Nat.zero_le _⟩ (fun H locs hW => ?_)
      exact cr_retW C (w := (fun u : cr_V => cr_wH ct ah al ak vh u vk)) q5.2 hW (Option.some.inj hE) dX3_bringLot_38
    · rw [if_pos c4] at hE
      refine cr_ldc C k2 dX3_bringLot_22 ?_
      exact cr_retW C (w := (fun u : cr_V => cr_wH ct ah al ak vh u vk)) vl hW (Option.some.inj hE) dX3_bringLot_24

set_option maxHeartbeats 4000000 in
set_option maxRecDepth 100000 in
theorem m_X3_partLot (L : Launch) (D : va_G) (ct : Nat → ClassId) (ah : Nat → Nat) (al : Nat → Nat) (ak : Nat → Nat) (vh : cr_V) (vl : cr_V) (vk : cr_V) (x1 : Int32) (x2 : Int32) (sz : Nat) (out : Int32 × cr_V) (hE : f_X3_partLot vh vl vk x1 x2 = some out) : Met L yX3_partLot wsX3_partLot ({ frames := 2, cells := 0, slots := 0, locals := 43 } : Room) (cr_pW D ct (cr_wH ct ah al ak vh vl vk) sz [.ref (ah 0), .int x1, .int x2]) (cr_QW D (cr_wH ct ah al ak vh vl vk) sz (fun r (u : cr_V) => (r, u) = out) (fun u : cr_V => cr_wH ct ah al ak vh u vk)) 0 0 (va_A (cr_wH ct ah al ak vh vl vk) sz) := by
  have k0 : (Cond.fieldLink RX3 12 "CupReceipts$House" "lots" "LCupReceipts$Lots;") ∈ wsX3_partLot := List.mem_of_getElem? (i := 1) rfl
  have k1 : (Cond.constant RX3 70 (-2000000001)) ∈ wsX3_partLot := List.mem_of_getElem? (i := 2) rfl
  have k2 : (Cond.fieldLink RX3 79 "CupReceipts$Lots" "bags" "[I") ∈ wsX3_partLot := List.mem_of_getElem? (i := 3) rfl
  have k3 : (Cond.fieldLink RX3 88 "CupReceipts$Lots" "cups" "[I") ∈ wsX3_partLot := List.mem_of_getElem? (i := 6) rfl
  have k4 : (Cond.fieldLink RX3 91 "CupReceipts$Lots" "months" "[I") ∈ wsX3_partLot := List.mem_of_getElem? (i := 7) rfl
  have k5 : (Cond.constant RX3 87 (-2000000003)) ∈ wsX3_partLot := List.mem_of_getElem? (i := 5) rfl
  have k6 : (Cond.constant RX3 82 (-2000000002)) ∈ wsX3_partLot := List.mem_of_getElem? (i := 4) rfl
  have hinX3 : ∀ w ∈ wsX30, w ∈ wsX3_partLot := fun w h => List.mem_cons_of_mem _ (List.mem_append_left _ (List.mem_append_right _ h))
  have hinX4 : ∀ w ∈ wsX40, w ∈ wsX3_partLot := fun w h => List.mem_cons_of_mem _ (List.mem_append_right _ h)
  refine cr_metW (Qc := fun A => va_Qi (fun r (u : cr_V) => (r, u) = out) (fun u t => cr_at D A ((fun u : cr_V => cr_wH ct ah al ak vh u vk) u) t) A) (by decide) rfl rfl (Nat.le_of_ble_eq_true rfl) ?_
  intro p e s m args below meth c ls A C hW hl
  obtain ⟨hx, hb, hml, hown, hts, hr, hlocks, hK, hN⟩ := id C
  have hl : lv_has ls 4 [(0, .ref (ah 0)), (1, .int x1), (2, .int x2)] := hl
  replace hE : ((f_X4_rowOf vl x1).bind fun q1 => if q1 < 0 then (some ((-2000000001), vl)) else (if 1 ≤ x2 then (if cr_in q1 12 = true then if x2 < (vl 1 (cr_x q1)) then ((f_X4_isFull vl).bind fun q6 => if q6 = 0 then ((f_X4_add (cr_a vl 1 (cr_x q1) ((vl 1 (cr_x q1)) - x2)) x2 (vl 2 (cr_x q1)) (vl 3 (cr_x q1))).bind fun q8 => some (q8.1, q8.2)) else (some ((-2000000003), vl))) else (some ((-2000000002), vl)) else none) else (some ((-2000000001), vl)))) = some out := hE
  refine lv_aload_n hx hb dX3_partLot_0 rfl (lv_at hl 0 rfl) ?_
  refine cr_get C hW.1 0 rfl rfl 0 (by decide) hinX3 k0 (v := .ref (al 0)) rfl dX3_partLot_1 ?_
  refine lv_iload_n hx hb dX3_partLot_4 rfl (lv_at hl 1 rfl) ?_
  obtain ⟨q1, hq1, hE⟩ := cr_bind hE
  refine cr_vRwq (n := 1) (As := [.int x1]) (rest := []) C hW (m_X4_rowOf L D ct al vl x1 q1 hq1) (cwV 1 hts gX3_partLot_X4_rowOf rfl rfl rfl (by decide +kernel) ⟨Nat.le_of_ble_eq_true rfl, Nat.le_of_ble_eq_true rfl⟩) [3, 4, 5, 6, 7] rfl 3 rfl rfl rfl hl.1 rfl (Nat.le_of_ble_eq_true rfl) dX3_partLot_5 ⟨Nat.zero_le _, Nat.zero_le _⟩ (fun H locs hW => ?_)
  refine lv_istore_n (lv' := [(3, .int q1), (0, .ref (ah 0)), (1, .int x1), (2, .int x2)]) hx hb dX3_partLot_8 rfl hl (by decide) rfl (fun ls hl => ?_)
  refine lv_iload_n hx hb dX3_partLot_9 rfl (lv_at hl 0 rfl) ?_
  refine lv_if_lt (tgt := 18) hx hb dX3_partLot_10 (by decide) (fun c2 => ?_) (fun c2 => ?_)
  · rw [if_pos c2] at hE
    refine cr_ldc C k1 dX3_partLot_18 ?_
    exact cr_retW C (w := (fun u : cr_V => cr_wH ct ah al ak vh u vk)) vl hW (Option.some.inj hE) dX3_partLot_20
  · rw [if_neg c2] at hE
    refine lv_iload_n hx hb dX3_partLot_13 rfl (lv_at hl 3 rfl) ?_
    refine lv_iconst (v := 1) hx hb dX3_partLot_14 (by decide) ?_
    refine lv_icmp_ge (tgt := 21) hx hb dX3_partLot_15 (by decide) (fun c3 => ?_) (fun c3 => ?_)
    · rw [if_pos c3] at hE
      refine lv_aload_n hx hb dX3_partLot_21 rfl (lv_at hl 1 rfl) ?_
      refine cr_get C hW.1 0 rfl rfl 0 (by decide) hinX3 k0 (v := .ref (al 0)) rfl dX3_partLot_22 ?_
      refine cr_get C hW.1 3 rfl rfl 1 (by decide) hinX4 k2 (v := .ref (al 2)) rfl dX3_partLot_25 ?_
      refine lv_iload_n hx hb dX3_partLot_28 rfl (lv_at hl 0 rfl) ?_
      obtain ⟨i4, hE⟩ := cr_ifn hE
      refine cr_ald C hW.1 5 (f := vl 1) (k := cr_x q1) rfl i4 (cr_xe _) dX3_partLot_29 ?_
      refine lv_iload_n hx hb dX3_partLot_30 rfl (lv_at hl 3 rfl) ?_
      refine lv_icmp_gt (tgt := 37) hx hb dX3_partLot_31 (by decide) (fun c5 => ?_) (fun c5 => ?_)
      · rw [if_pos c5] at hE
        refine lv_aload_n hx hb dX3_partLot_37 rfl (lv_at hl 1 rfl) ?_
        refine cr_get C hW.1 0 rfl rfl 0 (by decide) hinX3 k0 (v := .ref (al 0)) rfl dX3_partLot_38 ?_
        obtain ⟨q6, hq6, hE⟩ := cr_bind hE
        refine cr_vRwq (n := 0) (As := []) (rest := []) C hW (m_X4_isFull L D ct al vl q6 hq6) (cwV 0 hts gX3_partLot_X4_isFull rfl rfl rfl (by decide +kernel) ⟨Nat.le_of_ble_eq_true rfl, Nat.le_of_ble_eq_true rfl⟩) [3, 4, 5, 6, 7] rfl 3 rfl rfl rfl hl.1 rfl (Nat.le_of_ble_eq_true rfl) dX3_partLot_41 ⟨Nat.zero_le _, Nat.zero_le _⟩ (fun H locs hW => ?_)
        refine lv_if_eq (tgt := 50) hx hb dX3_partLot_44 (by decide) (fun c7 => ?_) (fun c7 => ?_)
        · rw [if_pos c7] at hE
          refine lv_aload_n hx hb dX3_partLot_50 rfl (lv_at hl 1 rfl) ?_
          refine cr_get C hW.1 0 rfl rfl 0 (by decide) hinX3 k0 (v := .ref (al 0)) rfl dX3_partLot_51 ?_
          refine cr_get C hW.1 3 rfl rfl 1 (by decide) hinX4 k2 (v := .ref (al 2)) rfl dX3_partLot_54 ?_
          refine lv_iload_n hx hb dX3_partLot_57 rfl (lv_at hl 0 rfl) ?_
          refine lv_dup2_11 hx hb dX3_partLot_58 rfl rfl ?_
          refine cr_ald C hW.1 5 (f := vl 1) (k := cr_x q1) rfl i4 (cr_xe _) dX3_partLot_59 ?_
          refine lv_iload_n hx hb dX3_partLot_60 rfl (lv_at hl 3 rfl) ?_
          refine lv_isub hx hb dX3_partLot_61 ?_
          refine cr_ast C hW 5 rfl (k := (cr_x q1)) i4 (cr_xe _) (w' := cr_wH ct ah al ak vh (cr_a vl 1 (cr_x q1) ((vl 1 (cr_x q1)) - x2)) vk) rfl dX3_partLot_62 (fun H locs hW => ?_)
          refine lv_aload_n hx hb dX3_partLot_63 rfl (lv_at hl 1 rfl) ?_
          refine cr_get C hW.1 0 rfl rfl 0 (by decide) hinX3 k0 (v := .ref (al 0)) rfl dX3_partLot_64 ?_
          refine lv_iload_n hx hb dX3_partLot_67 rfl (lv_at hl 3 rfl) ?_
          refine lv_aload_n hx hb dX3_partLot_68 rfl (lv_at hl 1 rfl) ?_
          refine cr_get C hW.1 0 rfl rfl 0 (by decide) hinX3 k0 (v := .ref (al 0)) rfl dX3_partLot_69 ?_
          refine cr_get C hW.1 3 rfl rfl 2 (by decide) hinX4 k3 (v := .ref (al 3)) rfl dX3_partLot_72 ?_
          refine lv_iload_n hx hb dX3_partLot_75 rfl (lv_at hl 0 rfl) ?_
          refine cr_ald C hW.1 6 (f := vl 2) (k := cr_x q1) rfl i4 (cr_xe _) dX3_partLot_76 ?_
          refine lv_aload_n hx hb dX3_partLot_77 rfl (lv_at hl 1 rfl) ?_
          refine cr_get C hW.1 0 rfl rfl 0 (by decide) hinX3 k0 (v := .ref (al 0)) rfl dX3_partLot_78 ?_
          refine cr_get C hW.1 3 rfl rfl 3 (by decide) hinX4 k4 (v := .ref (al 4)) rfl dX3_partLot_81 ?_
          refine lv_iload_n hx hb dX3_partLot_84 rfl (lv_at hl 0 rfl) ?_
          refine cr_ald C hW.1 7 (f := vl 3) (k := cr_x q1) rfl i4 (cr_xe _) dX3_partLot_85 ?_
          obtain ⟨q8, hq8, hE⟩ := cr_bind hE
          refine cr_vWq (n := 3) (As := [.int x2, .int (vl 2 (cr_x q1)), .int (vl 3 (cr_x q1))]) (rest := []) C hW (m_X4_add L D ct al (cr_a vl 1 (cr_x q1) ((vl 1 (cr_x q1)) - x2)) x2 (vl 2 (cr_x q1)) (vl 3 (cr_x q1)) _ q8 hq8) (cwV 3 hts gX3_partLot_X4_add rfl rfl rfl (by decide +kernel) ⟨Nat.le_of_ble_eq_true rfl, Nat.le_of_ble_eq_true rfl⟩) [3, 4, 5, 6, 7] [0, 1, 2, 8, 9, 10] [0, 1, 2, 6, 7, 8, 9, 10, 3, 4, 5] (cr_wH ct ah al ak vh q8.2 vk) rfl rfl rfl ⟨by decide +kernel, by decide +kernel, by decide +kernel, by decide +kernel⟩ 3 rfl rfl rfl hl.1 rfl (Nat.le_of_ble_eq_true rfl) dX3_partLot_86 ⟨Nat.zero_le _, Nat.zero_le _⟩ (fun H locs hW => ?_)
          exact cr_retW C (w := (fun u : cr_V => cr_wH ct ah al ak vh u vk)) q8.2 hW (Option.some.inj hE) dX3_partLot_89
        · rw [if_neg c7] at hE
          refine cr_ldc C k5 dX3_partLot_47 ?_
          exact cr_retW C (w := (fun u : cr_V => cr_wH ct ah al ak vh u vk)) vl hW (Option.some.inj hE) dX3_partLot_49
      · rw [if_neg c5] at hE
        refine cr_ldc C k6 dX3_partLot_34 ?_
        exact cr_retW C (w := (fun u : cr_V => cr_wH ct ah al ak vh u vk)) vl hW (Option.some.inj hE) dX3_partLot_36
    · rw [if_neg c3] at hE
      refine cr_ldc C k1 dX3_partLot_18 ?_
      exact cr_retW C (w := (fun u : cr_V => cr_wH ct ah al ak vh u vk)) vl hW (Option.some.inj hE) dX3_partLot_20

set_option maxHeartbeats 4000000 in
set_option maxRecDepth 100000 in
theorem m_X3_blendLots (L : Launch) (D : va_G) (ct : Nat → ClassId) (ah : Nat → Nat) (al : Nat → Nat) (ak : Nat → Nat) (vh : cr_V) (vl : cr_V) (vk : cr_V) (x1 : Int32) (x2 : Int32) (x3 : Int32) (x4 : Int32) (sz : Nat) (out : Int32 × cr_V) (hE : f_X3_blendLots vh vl vk x1 x2 x3 x4 = some out) : Met L yX3_blendLots wsX3_blendLots ({ frames := 2, cells := 0, slots := 0, locals := 43 } : Room) (cr_pW D ct (cr_wH ct ah al ak vh vl vk) sz [.ref (ah 0), .int x1, .int x2, .int x3, .int x4]) (cr_QW D (cr_wH ct ah al ak vh vl vk) sz (fun r (u : cr_V) => (r, u) = out) (fun u : cr_V => cr_wH ct ah al ak vh u vk)) 0 0 (va_A (cr_wH ct ah al ak vh vl vk) sz) := by
  have k0 : (Cond.fieldLink RX3 12 "CupReceipts$House" "lots" "LCupReceipts$Lots;") ∈ wsX3_blendLots := List.mem_of_getElem? (i := 1) rfl
  have k1 : (Cond.fieldLink RX3 50 "CupReceipts$House" "month" "I") ∈ wsX3_blendLots := List.mem_of_getElem? (i := 6) rfl
  have k2 : (Cond.fieldLink RX3 79 "CupReceipts$Lots" "bags" "[I") ∈ wsX3_blendLots := List.mem_of_getElem? (i := 3) rfl
  have k3 : (Cond.constant RX3 87 (-2000000003)) ∈ wsX3_blendLots := List.mem_of_getElem? (i := 5) rfl
  have k4 : (Cond.constant RX3 70 (-2000000001)) ∈ wsX3_blendLots := List.mem_of_getElem? (i := 2) rfl
  have k5 : (Cond.constant RX3 82 (-2000000002)) ∈ wsX3_blendLots := List.mem_of_getElem? (i := 4) rfl
  have hinX3 : ∀ w ∈ wsX30, w ∈ wsX3_blendLots := fun w h => List.mem_cons_of_mem _ (List.mem_append_left _ (List.mem_append_right _ h))
  have hinX4 : ∀ w ∈ wsX40, w ∈ wsX3_blendLots := fun w h => List.mem_cons_of_mem _ (List.mem_append_right _ h)
  refine cr_metW (Qc := fun A => va_Qi (fun r (u : cr_V) => (r, u) = out) (fun u t => cr_at D A ((fun u : cr_V => cr_wH ct ah al ak vh u vk) u) t) A) (by decide) rfl rfl (Nat.le_of_ble_eq_true rfl) ?_
  intro p e s m args below meth c ls A C hW hl
  obtain ⟨hx, hb, hml, hown, hts, hr, hlocks, hK, hN⟩ := id C
  have hl : lv_has ls 11 [(0, .ref (ah 0)), (1, .int x1), (2, .int x2), (3, .int x3), (4, .int x4)] := hl
  have n163 :  ∀ (vh : cr_V) (vl : cr_V) (vk : cr_V) (x2 : Int32) (x4 : Int32) (x5 : Int32) (x6 : Int32) (x7 : Int32) (hE : f_X3_blendLots_163  vh vl vk x2 x4 x5 x6 x7 = some out) (H : Heap) (locs : List Loc) (ls : Array Slot) (hW : cr_wd D A s (cr_wH ct ah al ak vh vl vk) H locs) (hl : lv_has ls 11 [(0, .ref (ah 0)), (2, .int x2), (4, .int x4), (5, .int x5), (6, .int x6), (7, .int x7)]), W p L e ({ frames := 2, cells := 0, slots := 0, locals := 43 } : Room) s m args below meth c H locs 0 0 (MQ below (va_Qi (fun r (u : cr_V) => (r, u) = out) (fun u t => cr_at D A ((fun u : cr_V => cr_wH ct ah al ak vh u vk) u) t) A) args s 0 0 A) (F0 m 163 ls []) := by
    intro  vh vl vk x2 x4 x5 x6 x7 hE H locs ls hW hl
    replace hE : ((f_X4_cupAt vl x5 (vh 4 0)).bind fun q1 => (f_X4_cupAt vl x6 (vh 4 0)).bind fun q2 => if cr_in x5 12 = true then if cr_in x6 12 = true then (f_X4_dropEmpty (cr_a (cr_a vl 1 (cr_x x5) ((vl 1 (cr_x x5)) - x2)) 1 (cr_x x6) (((cr_a vl 1 (cr_x x5) ((vl 1 (cr_x x5)) - x2)) 1 (cr_x x6)) - x4))).bind fun q5 => if x7 = 0 then none else (f_X4_add q5 x7 (((x2 * q1) + (x4 * q2)) / x7) (vh 4 0)).bind fun q7 => some (q7.1, q7.2) else none else none) = some out := hE
    refine lv_iload_n hx hb dX3_blendLots_163 rfl (lv_at hl 1 rfl) ?_
    refine lv_aload_n hx hb dX3_blendLots_164 rfl (lv_at hl 0 rfl) ?_
    refine cr_get C hW.1 0 rfl rfl 0 (by decide) hinX3 k0 (v := .ref (al 0)) rfl dX3_blendLots_165 ?_
    refine lv_iload hx hb dX3_blendLots_168 (lv_at hl 3 rfl) ?_
    refine lv_aload_n hx hb dX3_blendLots_170 rfl (lv_at hl 0 rfl) ?_
    refine cr_get C hW.1 0 rfl rfl 4 (by decide) hinX3 k1 (v := .int (vh 4 0)) rfl dX3_blendLots_171 ?_
    obtain ⟨q1, hq1, hE⟩ := cr_bind hE
    refine cr_vRwq (n := 2) (As := [.int x5, .int (vh 4 0)]) (rest := [.int x2]) C hW (m_X4_cupAt L D ct al vl x5 (vh 4 0) q1 hq1) (cwV 2 hts gX3_blendLots_X4_cupAt rfl rfl rfl (by decide +kernel) ⟨Nat.le_of_ble_eq_true rfl, Nat.le_of_ble_eq_true rfl⟩) [3, 4, 5, 6, 7] rfl 3 rfl rfl rfl hl.1 rfl (Nat.le_of_ble_eq_true rfl) dX3_blendLots_174 ⟨Nat.zero_le _, Nat.zero_le _⟩ (fun H locs hW => ?_)
    refine lv_imul hx hb dX3_blendLots_177 ?_
    refine lv_iload hx hb dX3_blendLots_178 (lv_at hl 2 rfl) ?_
    refine lv_aload_n hx hb dX3_blendLots_180 rfl (lv_at hl 0 rfl) ?_
    refine cr_get C hW.1 0 rfl rfl 0 (by decide) hinX3 k0 (v := .ref (al 0)) rfl dX3_blendLots_181 ?_
    refine lv_iload hx hb dX3_blendLots_184 (lv_at hl 4 rfl) ?_
    refine lv_aload_n hx hb dX3_blendLots_186 rfl (lv_at hl 0 rfl) ?_
    refine cr_get C hW.1 0 rfl rfl 4 (by decide) hinX3 k1 (v := .int (vh 4 0)) rfl dX3_blendLots_187 ?_
    obtain ⟨q2, hq2, hE⟩ := cr_bind hE
    refine cr_vRwq (n := 2) (As := [.int x6, .int (vh 4 0)]) (rest := [.int x4, .int (x2 * q1)]) C hW (m_X4_cupAt L D ct al vl x6 (vh 4 0) q2 hq2) (cwV 2 hts gX3_blendLots_X4_cupAt rfl rfl rfl (by decide +kernel) ⟨Nat.le_of_ble_eq_true rfl, Nat.le_of_ble_eq_true rfl⟩) [3, 4, 5, 6, 7] rfl 3 rfl rfl rfl hl.1 rfl (Nat.le_of_ble_eq_true rfl) dX3_blendLots_190 ⟨Nat.zero_le _, Nat.zero_le _⟩ (fun H locs hW => ?_)
    refine lv_imul hx hb dX3_blendLots_193 ?_
    refine lv_iadd hx hb dX3_blendLots_194 ?_
    refine lv_istore (lv' := [(10, .int ((x2 * q1) + (x4 * q2))), (0, .ref (ah 0)), (2, .int x2), (4, .int x4), (5, .int x5), (6, .int x6), (7, .int x7)]) hx hb dX3_blendLots_195 hl (by decide) rfl (fun ls hl => ?_)
    refine lv_aload_n hx hb dX3_blendLots_197 rfl (lv_at hl 1 rfl) ?_
    refine cr_get C hW.1 0 rfl rfl 0 (by decide) hinX3 k0 (v := .ref (al 0)) rfl dX3_blendLots_198 ?_
    refine cr_get C hW.1 3 rfl rfl 1 (by decide) hinX4 k2 (v := .ref (al 2)) rfl dX3_blendLots_201 ?_
    refine lv_iload hx hb dX3_blendLots_204 (lv_at hl 4 rfl) ?_
    refine lv_dup2_11 hx hb dX3_blendLots_206 rfl rfl ?_
    obtain ⟨i3, hE⟩ := cr_ifn hE
    refine cr_ald C hW.1 5 (f := vl 1) (k := cr_x x5) rfl i3 (cr_xe _) dX3_blendLots_207 ?_
    refine lv_iload_n hx hb dX3_blendLots_208 rfl (lv_at hl 2 rfl) ?_
    refine lv_isub hx hb dX3_blendLots_209 ?_
    refine cr_ast C hW 5 rfl (k := (cr_x x5)) i3 (cr_xe _) (w' := cr_wH ct ah al ak vh (cr_a vl 1 (cr_x x5) ((vl 1 (cr_x x5)) - x2)) vk) rfl dX3_blendLots_210 (fun H locs hW => ?_)
    refine lv_aload_n hx hb dX3_blendLots_211 rfl (lv_at hl 1 rfl) ?_
    refine cr_get C hW.1 0 rfl rfl 0 (by decide) hinX3 k0 (v := .ref (al 0)) rfl dX3_blendLots_212 ?_
    refine cr_get C hW.1 3 rfl rfl 1 (by decide) hinX4 k2 (v := .ref (al 2)) rfl dX3_blendLots_215 ?_
    refine lv_iload hx hb dX3_blendLots_218 (lv_at hl 5 rfl) ?_
    refine lv_dup2_11 hx hb dX3_blendLots_220 rfl rfl ?_
    obtain ⟨i4, hE⟩ := cr_ifn hE
    refine cr_ald C hW.1 5 (f := (cr_a vl 1 (cr_x x5) ((vl 1 (cr_x x5)) - x2)) 1) (k := cr_x x6) rfl i4 (cr_xe _) dX3_blendLots_221 ?_
    refine lv_iload hx hb dX3_blendLots_222 (lv_at hl 3 rfl) ?_
    refine lv_isub hx hb dX3_blendLots_224 ?_
    refine cr_ast C hW 5 rfl (k := (cr_x x6)) i4 (cr_xe _) (w' := cr_wH ct ah al ak vh (cr_a (cr_a vl 1 (cr_x x5) ((vl 1 (cr_x x5)) - x2)) 1 (cr_x x6) (((cr_a vl 1 (cr_x x5) ((vl 1 (cr_x x5)) - x2)) 1 (cr_x x6)) - x4)) vk) rfl dX3_blendLots_225 (fun H locs hW => ?_)
    refine lv_aload_n hx hb dX3_blendLots_226 rfl (lv_at hl 1 rfl) ?_
    refine cr_get C hW.1 0 rfl rfl 0 (by decide) hinX3 k0 (v := .ref (al 0)) rfl dX3_blendLots_227 ?_
    obtain ⟨q5, hq5, hE⟩ := cr_bind hE
    refine cr_vVq (n := 0) (As := []) (rest := []) C hW (m_X4_dropEmpty L D ct al (cr_a (cr_a vl 1 (cr_x x5) ((vl 1 (cr_x x5)) - x2)) 1 (cr_x x6) (((cr_a vl 1 (cr_x x5) ((vl 1 (cr_x x5)) - x2)) 1 (cr_x x6)) - x4)) _ q5 hq5) (cwV 0 hts gX3_blendLots_X4_dropEmpty rfl rfl rfl (by decide +kernel) ⟨Nat.le_of_ble_eq_true rfl, Nat.le_of_ble_eq_true rfl⟩) [3, 4, 5, 6, 7] [0, 1, 2, 8, 9, 10] [0, 1, 2, 6, 7, 8, 9, 10, 3, 4, 5] (cr_wH ct ah al ak vh q5 vk) rfl rfl rfl ⟨by decide +kernel, by decide +kernel, by decide +kernel, by decide +kernel⟩ 3 rfl rfl rfl hl.1 rfl (Nat.le_of_ble_eq_true rfl) dX3_blendLots_230 ⟨Nat.zero_le _, Nat.zero_le _⟩ (fun H locs hW => ?_)
    refine lv_aload_n hx hb dX3_blendLots_233 rfl (lv_at hl 1 rfl) ?_
    refine cr_get C hW.1 0 rfl rfl 0 (by decide) hinX3 k0 (v := .ref (al 0)) rfl dX3_blendLots_234 ?_
    refine lv_iload hx hb dX3_blendLots_237 (lv_at hl 6 rfl) ?_
    refine lv_iload hx hb dX3_blendLots_239 (lv_at hl 0 rfl) ?_
    refine lv_iload hx hb dX3_blendLots_241 (lv_at hl 6 rfl) ?_
    obtain ⟨z6, hE⟩ := cr_ifz hE
    refine lv_idiv hx hb dX3_blendLots_243 z6 ?_
    refine lv_aload_n hx hb dX3_blendLots_244 rfl (lv_at hl 1 rfl) ?_
    refine cr_get C hW.1 0 rfl rfl 4 (by decide) hinX3 k1 (v := .int (vh 4 0)) rfl dX3_blendLots_245 ?_
    obtain ⟨q7, hq7, hE⟩ := cr_bind hE
    refine cr_vWq (n := 3) (As := [.int x7, .int (((x2 * q1) + (x4 * q2)) / x7), .int (vh 4 0)]) (rest := []) C hW (m_X4_add L D ct al q5 x7 (((x2 * q1) + (x4 * q2)) / x7) (vh 4 0) _ q7 hq7) (cwV 3 hts gX3_blendLots_X4_add rfl rfl rfl (by decide +kernel) ⟨Nat.le_of_ble_eq_true rfl, Nat.le_of_ble_eq_true rfl⟩) [3, 4, 5, 6, 7] [0, 1, 2, 8, 9, 10] [0, 1, 2, 6, 7, 8, 9, 10, 3, 4, 5] (cr_wH ct ah al ak vh q7.2 vk) rfl rfl rfl ⟨by decide +kernel, by decide +kernel, by decide +kernel, by decide +kernel⟩ 3 rfl rfl rfl hl.1 rfl (Nat.le_of_ble_eq_true rfl) dX3_blendLots_248 ⟨Nat.zero_le _, Nat.zero_le _⟩ (fun H locs hW => ?_)
    exact cr_retW C (w := (fun u : cr_V => cr_wH ct ah al ak vh u vk)) q7.2 hW (Option.some.inj hE) dX3_blendLots_251
  have n130 :  ∀ (vh : cr_V) (vl : cr_V) (vk : cr_V) (x2 : Int32) (x4 : Int32) (x5 : Int32) (x6 : Int32) (x7 : Int32) (x8 : Int32) (s0 : Int32) (hE : f_X3_blendLots_130  vh vl vk x2 x4 x5 x6 x7 x8 s0 = some out) (H : Heap) (locs : List Loc) (ls : Array Slot) (hW : cr_wd D A s (cr_wH ct ah al ak vh vl vk) H locs) (hl : lv_has ls 11 [(0, .ref (ah 0)), (2, .int x2), (4, .int x4), (5, .int x5), (6, .int x6), (7, .int x7), (8, .int x8)]), W p L e ({ frames := 2, cells := 0, slots := 0, locals := 43 } : Room) s m args below meth c H locs 0 0 (MQ below (va_Qi (fun r (u : cr_V) => (r, u) = out) (fun u t => cr_at D A ((fun u : cr_V => cr_wH ct ah al ak vh u vk) u) t) A) args s 0 0 A) (F0 m 130 ls [.int s0]) := by
    intro  vh vl vk x2 x4 x5 x6 x7 x8 s0 hE H locs ls hW hl
    replace hE : (if 9999 < x7 then (some ((-2000000003), vl)) else ((f_X4_isFull vl).bind fun q9 => if q9 = 0 then (f_X3_blendLots_163 vh vl vk x2 x4 x5 x6 x7) else (if x8 = 0 then (if s0 = 0 then (some ((-2000000003), vl)) else (f_X3_blendLots_163 vh vl vk x2 x4 x5 x6 x7)) else (f_X3_blendLots_163 vh vl vk x2 x4 x5 x6 x7)))) = some out := hE
    refine lv_istore (lv' := [(9, .int s0), (0, .ref (ah 0)), (2, .int x2), (4, .int x4), (5, .int x5), (6, .int x6), (7, .int x7), (8, .int x8)]) hx hb dX3_blendLots_130 hl (by decide) rfl (fun ls hl => ?_)
    refine lv_iload hx hb dX3_blendLots_132 (lv_at hl 6 rfl) ?_
    refine lv_sipush (v := 9999) hx hb dX3_blendLots_134 (by decide) ?_
    refine lv_icmp_gt (tgt := 160) hx hb dX3_blendLots_137 (by decide) (fun c8 => ?_) (fun c8 => ?_)
    · rw [if_pos c8] at hE
      refine cr_ldc C k3 dX3_blendLots_160 ?_
      exact cr_retW C (w := (fun u : cr_V => cr_wH ct ah al ak vh u vk)) vl hW (Option.some.inj hE) dX3_blendLots_162
    · rw [if_neg c8] at hE
      refine lv_aload_n hx hb dX3_blendLots_140 rfl (lv_at hl 1 rfl) ?_
      refine cr_get C hW.1 0 rfl rfl 0 (by decide) hinX3 k0 (v := .ref (al 0)) rfl dX3_blendLots_141 ?_
      obtain ⟨q9, hq9, hE⟩ := cr_bind hE
      refine cr_vRwq (n := 0) (As := []) (rest := []) C hW (m_X4_isFull L D ct al vl q9 hq9) (cwV 0 hts gX3_blendLots_X4_isFull rfl rfl rfl (by decide +kernel) ⟨Nat.le_of_ble_eq_true rfl, Nat.le_of_ble_eq_true rfl⟩) [3, 4, 5, 6, 7] rfl 3 rfl rfl rfl hl.1 rfl (Nat.le_of_ble_eq_true rfl) dX3_blendLots_144 ⟨Nat.zero_le _, Nat.zero_le _⟩ (fun H locs hW => ?_)
      refine lv_if_eq (tgt := 163) hx hb dX3_blendLots_147 (by decide) (fun c10 => ?_) (fun c10 => ?_)
      · rw [if_pos c10] at hE
        exact n163 vh vl vk x2 x4 x5 x6 x7 hE _ _ _ hW (lv_sub hl [1, 2, 3, 4, 5, 6] rfl)
      · rw [if_neg c10] at hE
        refine lv_iload hx hb dX3_blendLots_150 (lv_at hl 7 rfl) ?_
        refine lv_if_ne (tgt := 163) hx hb dX3_blendLots_152 (by decide) (fun c11 => ?_) (fun c11 => ?_)
        · rw [if_neg c11] at hE
          exact n163 vh vl vk x2 x4 x5 x6 x7 hE _ _ _ hW (lv_sub hl [1, 2, 3, 4, 5, 6] rfl)
        · rw [if_pos c11] at hE
          refine lv_iload hx hb dX3_blendLots_155 (lv_at hl 0 rfl) ?_
          refine lv_if_ne (tgt := 163) hx hb dX3_blendLots_157 (by decide) (fun c12 => ?_) (fun c12 => ?_)
          · rw [if_neg c12] at hE
            exact n163 vh vl vk x2 x4 x5 x6 x7 hE _ _ _ hW (lv_sub hl [1, 2, 3, 4, 5, 6] rfl)
          · rw [if_pos c12] at hE
            refine cr_ldc C k3 dX3_blendLots_160 ?_
            exact cr_retW C (w := (fun u : cr_V => cr_wH ct ah al ak vh u vk)) vl hW (Option.some.inj hE) dX3_blendLots_162
  have n108 :  ∀ (vh : cr_V) (vl : cr_V) (vk : cr_V) (x2 : Int32) (x4 : Int32) (x5 : Int32) (x6 : Int32) (x7 : Int32) (s0 : Int32) (hE : f_X3_blendLots_108  vh vl vk x2 x4 x5 x6 x7 s0 = some out) (H : Heap) (locs : List Loc) (ls : Array Slot) (hW : cr_wd D A s (cr_wH ct ah al ak vh vl vk) H locs) (hl : lv_has ls 11 [(0, .ref (ah 0)), (2, .int x2), (4, .int x4), (5, .int x5), (6, .int x6), (7, .int x7)]), W p L e ({ frames := 2, cells := 0, slots := 0, locals := 43 } : Room) s m args below meth c H locs 0 0 (MQ below (va_Qi (fun r (u : cr_V) => (r, u) = out) (fun u t => cr_at D A ((fun u : cr_V => cr_wH ct ah al ak vh u vk) u) t) A) args s 0 0 A) (F0 m 108 ls [.int s0]) := by
    intro  vh vl vk x2 x4 x5 x6 x7 s0 hE H locs ls hW hl
    replace hE : (if cr_in x6 12 = true then if x4 = (vl 1 (cr_x x6)) then (f_X3_blendLots_130 vh vl vk x2 x4 x5 x6 x7 s0 1) else (f_X3_blendLots_130 vh vl vk x2 x4 x5 x6 x7 s0 0) else none) = some out := hE
    refine lv_istore (lv' := [(8, .int s0), (0, .ref (ah 0)), (2, .int x2), (4, .int x4), (5, .int x5), (6, .int x6), (7, .int x7)]) hx hb dX3_blendLots_108 hl (by decide) rfl (fun ls hl => ?_)
    refine lv_iload hx hb dX3_blendLots_110 (lv_at hl 3 rfl) ?_
    refine lv_aload_n hx hb dX3_blendLots_112 rfl (lv_at hl 1 rfl) ?_
    refine cr_get C hW.1 0 rfl rfl 0 (by decide) hinX3 k0 (v := .ref (al 0)) rfl dX3_blendLots_113 ?_
    refine cr_get C hW.1 3 rfl rfl 1 (by decide) hinX4 k2 (v := .ref (al 2)) rfl dX3_blendLots_116 ?_
    refine lv_iload hx hb dX3_blendLots_119 (lv_at hl 5 rfl) ?_
    obtain ⟨i13, hE⟩ := cr_ifn hE
    refine cr_ald C hW.1 5 (f := vl 1) (k := cr_x x6) rfl i13 (cr_xe _) dX3_blendLots_121 ?_
    refine lv_icmp_ne (tgt := 129) hx hb dX3_blendLots_122 (by decide) (fun c14 => ?_) (fun c14 => ?_)
    · rw [if_neg c14] at hE
      refine lv_iconst (v := 0) hx hb dX3_blendLots_129 (by decide) ?_
      exact n130 vh vl vk x2 x4 x5 x6 x7 s0 0 hE _ _ _ hW (lv_sub hl [1, 2, 3, 4, 5, 6, 0] rfl)
    · rw [if_pos c14] at hE
      refine lv_iconst (v := 1) hx hb dX3_blendLots_125 (by decide) ?_
      refine lv_goto (tgt := 130) hx hb dX3_blendLots_126 (by decide) ?_
      exact n130 vh vl vk x2 x4 x5 x6 x7 s0 1 hE _ _ _ hW (lv_sub hl [1, 2, 3, 4, 5, 6, 0] rfl)
  replace hE : ((f_X4_rowOf vl x1).bind fun q15 => (f_X4_rowOf vl x3).bind fun q16 => if q15 < 0 then (some ((-2000000001), vl)) else (if q16 < 0 then (some ((-2000000001), vl)) else (if q15 = q16 then (some ((-2000000001), vl)) else (if x2 < 1 then (some ((-2000000001), vl)) else (if 1 ≤ x4 then (if cr_in q15 12 = true then if (vl 1 (cr_x q15)) < x2 then (some ((-2000000002), vl)) else (if cr_in q16 12 = true then if x4 ≤ (vl 1 (cr_x q16)) then (if x2 = (vl 1 (cr_x q15)) then (f_X3_blendLots_108 vh vl vk x2 x4 q15 q16 (x2 + x4) 1) else (f_X3_blendLots_108 vh vl vk x2 x4 q15 q16 (x2 + x4) 0)) else (some ((-2000000002), vl)) else none) else none) else (some ((-2000000001), vl))))))) = some out := hE
  refine lv_aload_n hx hb dX3_blendLots_0 rfl (lv_at hl 0 rfl) ?_
  refine cr_get C hW.1 0 rfl rfl 0 (by decide) hinX3 k0 (v := .ref (al 0)) rfl dX3_blendLots_1 ?_
  refine lv_iload_n hx hb dX3_blendLots_4 rfl (lv_at hl 1 rfl) ?_
  obtain ⟨q15, hq15, hE⟩ := cr_bind hE
  refine cr_vRwq (n := 1) (As := [.int x1]) (rest := []) C hW (m_X4_rowOf L D ct al vl x1 q15 hq15) (cwV 1 hts gX3_blendLots_X4_rowOf rfl rfl rfl (by decide +kernel) ⟨Nat.le_of_ble_eq_true rfl, Nat.le_of_ble_eq_true rfl⟩) [3, 4, 5, 6, 7] rfl 3 rfl rfl rfl hl.1 rfl (Nat.le_of_ble_eq_true rfl) dX3_blendLots_5 ⟨Nat.zero_le _, Nat.zero_le _⟩ (fun H locs hW => ?_)
  refine lv_istore (lv' := [(5, .int q15), (0, .ref (ah 0)), (1, .int x1), (2, .int x2), (3, .int x3), (4, .int x4)]) hx hb dX3_blendLots_8 hl (by decide) rfl (fun ls hl => ?_)
  refine lv_aload_n hx hb dX3_blendLots_10 rfl (lv_at hl 1 rfl) ?_
  refine cr_get C hW.1 0 rfl rfl 0 (by decide) hinX3 k0 (v := .ref (al 0)) rfl dX3_blendLots_11 ?_
  refine lv_iload_n hx hb dX3_blendLots_14 rfl (lv_at hl 4 rfl) ?_
  obtain ⟨q16, hq16, hE⟩ := cr_bind hE
  refine cr_vRwq (n := 1) (As := [.int x3]) (rest := []) C hW (m_X4_rowOf L D ct al vl x3 q16 hq16) (cwV 1 hts gX3_blendLots_X4_rowOf rfl rfl rfl (by decide +kernel) ⟨Nat.le_of_ble_eq_true rfl, Nat.le_of_ble_eq_true rfl⟩) [3, 4, 5, 6, 7] rfl 3 rfl rfl rfl hl.1 rfl (Nat.le_of_ble_eq_true rfl) dX3_blendLots_15 ⟨Nat.zero_le _, Nat.zero_le _⟩ (fun H locs hW => ?_)
  refine lv_istore (lv' := [(6, .int q16), (5, .int q15), (0, .ref (ah 0)), (1, .int x1), (2, .int x2), (3, .int x3), (4, .int x4)]) hx hb dX3_blendLots_18 hl (by decide) rfl (fun ls hl => ?_)
  refine lv_iload hx hb dX3_blendLots_20 (lv_at hl 1 rfl) ?_
  refine lv_if_lt (tgt := 48) hx hb dX3_blendLots_22 (by decide) (fun c17 => ?_) (fun c17 => ?_)
  · rw [if_pos c17] at hE
    refine cr_ldc C k4 dX3_blendLots_48 ?_
    exact cr_retW C (w := (fun u : cr_V => cr_wH ct ah al ak vh u vk)) vl hW (Option.some.inj hE) dX3_blendLots_50
  · rw [if_neg c17] at hE
    refine lv_iload hx hb dX3_blendLots_25 (lv_at hl 0 rfl) ?_
    refine lv_if_lt (tgt := 48) hx hb dX3_blendLots_27 (by decide) (fun c18 => ?_) (fun c18 => ?_)
    · rw [if_pos c18] at hE
      refine cr_ldc C k4 dX3_blendLots_48 ?_
      exact cr_retW C (w := (fun u : cr_V => cr_wH ct ah al ak vh u vk)) vl hW (Option.some.inj hE) dX3_blendLots_50
    · rw [if_neg c18] at hE
      refine lv_iload hx hb dX3_blendLots_30 (lv_at hl 1 rfl) ?_
      refine lv_iload hx hb dX3_blendLots_32 (lv_at hl 0 rfl) ?_
      refine lv_icmp_eq (tgt := 48) hx hb dX3_blendLots_34 (by decide) (fun c19 => ?_) (fun c19 => ?_)
      · rw [if_pos c19] at hE
        refine cr_ldc C k4 dX3_blendLots_48 ?_
        exact cr_retW C (w := (fun u : cr_V => cr_wH ct ah al ak vh u vk)) vl hW (Option.some.inj hE) dX3_blendLots_50
      · rw [if_neg c19] at hE
        refine lv_iload_n hx hb dX3_blendLots_37 rfl (lv_at hl 4 rfl) ?_
        refine lv_iconst (v := 1) hx hb dX3_blendLots_38 (by decide) ?_
        refine lv_icmp_lt (tgt := 48) hx hb dX3_blendLots_39 (by decide) (fun c20 => ?_) (fun c20 => ?_)
        · rw [if_pos c20] at hE
          refine cr_ldc C k4 dX3_blendLots_48 ?_
          exact cr_retW C (w := (fun u : cr_V => cr_wH ct ah al ak vh u vk)) vl hW (Option.some.inj hE) dX3_blendLots_50
        · rw [if_neg c20] at hE
          refine lv_iload hx hb dX3_blendLots_42 (lv_at hl 6 rfl) ?_
          refine lv_iconst (v := 1) hx hb dX3_blendLots_44 (by decide) ?_
          refine lv_icmp_ge (tgt := 51) hx hb dX3_blendLots_45 (by decide) (fun c21 => ?_) (fun c21 => ?_)
          · rw [if_pos c21] at hE
            refine lv_iload_n hx hb dX3_blendLots_51 rfl (lv_at hl 4 rfl) ?_
            refine lv_aload_n hx hb dX3_blendLots_52 rfl (lv_at hl 2 rfl) ?_
            refine cr_get C hW.1 0 rfl rfl 0 (by decide) hinX3 k0 (v := .ref (al 0)) rfl dX3_blendLots_53 ?_
            refine cr_get C hW.1 3 rfl rfl 1 (by decide) hinX4 k2 (v := .ref (al 2)) rfl dX3_blendLots_56 ?_
            refine lv_iload hx hb dX3_blendLots_59 (lv_at hl 1 rfl) ?_
            obtain ⟨i22, hE⟩ := cr_ifn hE
            refine cr_ald C hW.1 5 (f := vl 1) (k := cr_x q15) rfl i22 (cr_xe _) dX3_blendLots_61 ?_
            refine lv_icmp_gt (tgt := 80) hx hb dX3_blendLots_62 (by decide) (fun c23 => ?_) (fun c23 => ?_)
            · rw [if_pos c23] at hE
              refine cr_ldc C k5 dX3_blendLots_80 ?_
              exact cr_retW C (w := (fun u : cr_V => cr_wH ct ah al ak vh u vk)) vl hW (Option.some.inj hE) dX3_blendLots_82
            · rw [if_neg c23] at hE
              refine lv_iload hx hb dX3_blendLots_65 (lv_at hl 6 rfl) ?_
              refine lv_aload_n hx hb dX3_blendLots_67 rfl (lv_at hl 2 rfl) ?_
              refine cr_get C hW.1 0 rfl rfl 0 (by decide) hinX3 k0 (v := .ref (al 0)) rfl dX3_blendLots_68 ?_
              refine cr_get C hW.1 3 rfl rfl 1 (by decide) hinX4 k2 (v := .ref (al 2)) rfl dX3_blendLots_71 ?_
              refine lv_iload hx hb dX3_blendLots_74 (lv_at hl 0 rfl) ?_
              obtain ⟨i24, hE⟩ := cr_ifn hE
              refine cr_ald C hW.1 5 (f := vl 1) (k := cr_x q16) rfl i24 (cr_xe _) dX3_blendLots_76 ?_
              refine lv_icmp_le (tgt := 83) hx hb dX3_blendLots_77 (by decide) (fun c25 => ?_) (fun c25 => ?_)
              · rw [if_pos c25] at hE
                refine lv_iload_n hx hb dX3_blendLots_83 rfl (lv_at hl 4 rfl) ?_
                refine lv_iload hx hb dX3_blendLots_84 (lv_at hl 6 rfl) ?_
                refine lv_iadd hx hb dX3_blendLots_86 ?_
                refine lv_istore (lv' := [(7, .int (x2 + x4)), (6, .int q16), (5, .int q15), (0, .ref (ah 0)), (1, .int x1), (2, .int x2), (3, .int x3), (4, .int x4)]) hx hb dX3_blendLots_87 hl (by decide) rfl (fun ls hl => ?_)
                refine lv_iload_n hx hb dX3_blendLots_89 rfl (lv_at hl 5 rfl) ?_
                refine lv_aload_n hx hb dX3_blendLots_90 rfl (lv_at hl 3 rfl) ?_
                refine cr_get C hW.1 0 rfl rfl 0 (by decide) hinX3 k0 (v := .ref (al 0)) rfl dX3_blendLots_91 ?_
                refine cr_get C hW.1 3 rfl rfl 1 (by decide) hinX4 k2 (v := .ref (al 2)) rfl dX3_blendLots_94 ?_
                refine lv_iload hx hb dX3_blendLots_97 (lv_at hl 2 rfl) ?_
                refine cr_ald C hW.1 5 (f := vl 1) (k := cr_x q15) rfl i22 (cr_xe _) dX3_blendLots_99 ?_
                refine lv_icmp_ne (tgt := 107) hx hb dX3_blendLots_100 (by decide) (fun c26 => ?_) (fun c26 => ?_)
                · rw [if_neg c26] at hE
                  refine lv_iconst (v := 0) hx hb dX3_blendLots_107 (by decide) ?_
                  exact n108 vh vl vk x2 x4 q15 q16 (x2 + x4) 0 hE _ _ _ hW (lv_sub hl [3, 5, 7, 2, 1, 0] rfl)
                · rw [if_pos c26] at hE
                  refine lv_iconst (v := 1) hx hb dX3_blendLots_103 (by decide) ?_
                  refine lv_goto (tgt := 108) hx hb dX3_blendLots_104 (by decide) ?_
                  exact n108 vh vl vk x2 x4 q15 q16 (x2 + x4) 1 hE _ _ _ hW (lv_sub hl [3, 5, 7, 2, 1, 0] rfl)
              · rw [if_neg c25] at hE
                refine cr_ldc C k5 dX3_blendLots_80 ?_
                exact cr_retW C (w := (fun u : cr_V => cr_wH ct ah al ak vh u vk)) vl hW (Option.some.inj hE) dX3_blendLots_82
          · rw [if_neg c21] at hE
            refine cr_ldc C k4 dX3_blendLots_48 ?_
            exact cr_retW C (w := (fun u : cr_V => cr_wH ct ah al ak vh u vk)) vl hW (Option.some.inj hE) dX3_blendLots_50

set_option maxHeartbeats 4000000 in
set_option maxRecDepth 100000 in
theorem m_X3_cupAnew (L : Launch) (D : va_G) (ct : Nat → ClassId) (ah : Nat → Nat) (al : Nat → Nat) (ak : Nat → Nat) (vh : cr_V) (vl : cr_V) (vk : cr_V) (x1 : Int32) (sz : Nat) (out : Int32 × cr_V) (hE : f_X3_cupAnew vh vl vk x1 = some out) : Met L yX3_cupAnew wsX3_cupAnew ({ frames := 1, cells := 0, slots := 0, locals := 23 } : Room) (cr_pW D ct (cr_wH ct ah al ak vh vl vk) sz [.ref (ah 0), .int x1]) (cr_QW D (cr_wH ct ah al ak vh vl vk) sz (fun r (u : cr_V) => (r, u) = out) (fun u : cr_V => cr_wH ct ah al ak vh u vk)) 0 0 (va_A (cr_wH ct ah al ak vh vl vk) sz) := by
  have k0 : (Cond.fieldLink RX3 12 "CupReceipts$House" "lots" "LCupReceipts$Lots;") ∈ wsX3_cupAnew := List.mem_of_getElem? (i := 1) rfl
  have k1 : (Cond.fieldLink RX3 79 "CupReceipts$Lots" "bags" "[I") ∈ wsX3_cupAnew := List.mem_of_getElem? (i := 3) rfl
  have k2 : (Cond.fieldLink RX3 88 "CupReceipts$Lots" "cups" "[I") ∈ wsX3_cupAnew := List.mem_of_getElem? (i := 5) rfl
  have k3 : (Cond.fieldLink RX3 50 "CupReceipts$House" "month" "I") ∈ wsX3_cupAnew := List.mem_of_getElem? (i := 6) rfl
  have k4 : (Cond.fieldLink RX3 91 "CupReceipts$Lots" "months" "[I") ∈ wsX3_cupAnew := List.mem_of_getElem? (i := 7) rfl
  have k5 : (Cond.constant RX3 82 (-2000000002)) ∈ wsX3_cupAnew := List.mem_of_getElem? (i := 4) rfl
  have k6 : (Cond.constant RX3 70 (-2000000001)) ∈ wsX3_cupAnew := List.mem_of_getElem? (i := 2) rfl
  have hinX3 : ∀ w ∈ wsX30, w ∈ wsX3_cupAnew := fun w h => List.mem_cons_of_mem _ (List.mem_append_left _ (List.mem_append_right _ h))
  have hinX4 : ∀ w ∈ wsX40, w ∈ wsX3_cupAnew := fun w h => List.mem_cons_of_mem _ (List.mem_append_right _ h)
  refine cr_metW (Qc := fun A => va_Qi (fun r (u : cr_V) => (r, u) = out) (fun u t => cr_at D A ((fun u : cr_V => cr_wH ct ah al ak vh u vk) u) t) A) (by decide) rfl rfl (Nat.le_of_ble_eq_true rfl) ?_
  intro p e s m args below meth c ls A C hW hl
  obtain ⟨hx, hb, hml, hown, hts, hr, hlocks, hK, hN⟩ := id C
  have hl : lv_has ls 3 [(0, .ref (ah 0)), (1, .int x1)] := hl
  replace hE : ((f_X4_rowOf vl x1).bind fun q1 => if 0 ≤ q1 then (if cr_in q1 12 = true then if 1 < (vl 1 (cr_x q1)) then ((f_X4_cupAt (cr_a vl 1 (cr_x q1) ((vl 1 (cr_x q1)) - 1)) q1 (vh 4 0)).bind fun q5 => some (((cr_a vl 2 (cr_x q1) q5) 2 (cr_x q1)), (cr_a (cr_a (cr_a vl 1 (cr_x q1) ((vl 1 (cr_x q1)) - 1)) 2 (cr_x q1) q5) 3 (cr_x q1) (vh 4 0)))) else (some ((-2000000002), vl)) else none) else (some ((-2000000001), vl))) = some out := hE
  refine lv_aload_n hx hb dX3_cupAnew_0 rfl (lv_at hl 0 rfl) ?_
  refine cr_get C hW.1 0 rfl rfl 0 (by decide) hinX3 k0 (v := .ref (al 0)) rfl dX3_cupAnew_1 ?_
  refine lv_iload_n hx hb dX3_cupAnew_4 rfl (lv_at hl 1 rfl) ?_
  obtain ⟨q1, hq1, hE⟩ := cr_bind hE
  refine cr_vRwq (n := 1) (As := [.int x1]) (rest := []) C hW (m_X4_rowOf L D ct al vl x1 q1 hq1) (cwV 1 hts gX3_cupAnew_X4_rowOf rfl rfl rfl (by decide +kernel) ⟨Nat.le_of_ble_eq_true rfl, Nat.le_of_ble_eq_true rfl⟩) [3, 4, 5, 6, 7] rfl 3 rfl rfl rfl hl.1 rfl (Nat.le_of_ble_eq_true rfl) dX3_cupAnew_5 ⟨Nat.zero_le _, Nat.zero_le _⟩ (fun H locs hW => ?_)
  refine lv_istore_n (lv' := [(2, .int q1), (0, .ref (ah 0)), (1, .int x1)]) hx hb dX3_cupAnew_8 rfl hl (by decide) rfl (fun ls hl => ?_)
  refine lv_iload_n hx hb dX3_cupAnew_9 rfl (lv_at hl 0 rfl) ?_
  refine lv_if_ge (tgt := 16) hx hb dX3_cupAnew_10 (by decide) (fun c2 => ?_) (fun c2 => ?_)
  · rw [if_pos c2] at hE
    refine lv_aload_n hx hb dX3_cupAnew_16 rfl (lv_at hl 1 rfl) ?_
    refine cr_get C hW.1 0 rfl rfl 0 (by decide) hinX3 k0 (v := .ref (al 0)) rfl dX3_cupAnew_17 ?_
    refine cr_get C hW.1 3 rfl rfl 1 (by decide) hinX4 k1 (v := .ref (al 2)) rfl dX3_cupAnew_20 ?_
    refine lv_iload_n hx hb dX3_cupAnew_23 rfl (lv_at hl 0 rfl) ?_
    obtain ⟨i3, hE⟩ := cr_ifn hE
    refine cr_ald C hW.1 5 (f := vl 1) (k := cr_x q1) rfl i3 (cr_xe _) dX3_cupAnew_24 ?_
    refine lv_iconst (v := 1) hx hb dX3_cupAnew_25 (by decide) ?_
    refine lv_icmp_gt (tgt := 32) hx hb dX3_cupAnew_26 (by decide) (fun c4 => ?_) (fun c4 => ?_)
    · rw [if_pos c4] at hE
      refine lv_aload_n hx hb dX3_cupAnew_32 rfl (lv_at hl 1 rfl) ?_
      refine cr_get C hW.1 0 rfl rfl 0 (by decide) hinX3 k0 (v := .ref (al 0)) rfl dX3_cupAnew_33 ?_
      refine cr_get C hW.1 3 rfl rfl 1 (by decide) hinX4 k1 (v := .ref (al 2)) rfl dX3_cupAnew_36 ?_
      refine lv_iload_n hx hb dX3_cupAnew_39 rfl (lv_at hl 0 rfl) ?_
      refine lv_dup2_11 hx hb dX3_cupAnew_40 rfl rfl ?_
      refine cr_ald C hW.1 5 (f := vl 1) (k := cr_x q1) rfl i3 (cr_xe _) dX3_cupAnew_41 ?_
      refine lv_iconst (v := 1) hx hb dX3_cupAnew_42 (by decide) ?_
      refine lv_isub hx hb dX3_cupAnew_43 ?_
      refine cr_ast C hW 5 rfl (k := (cr_x q1)) i3 (cr_xe _) (w' := cr_wH ct ah al ak vh (cr_a vl 1 (cr_x q1) ((vl 1 (cr_x q1)) - 1)) vk) rfl dX3_cupAnew_44 (fun H locs hW => ?_)
      refine lv_aload_n hx hb dX3_cupAnew_45 rfl (lv_at hl 1 rfl) ?_
      refine cr_get C hW.1 0 rfl rfl 0 (by decide) hinX3 k0 (v := .ref (al 0)) rfl dX3_cupAnew_46 ?_
      refine cr_get C hW.1 3 rfl rfl 2 (by decide) hinX4 k2 (v := .ref (al 3)) rfl dX3_cupAnew_49 ?_
      refine lv_iload_n hx hb dX3_cupAnew_52 rfl (lv_at hl 0 rfl) ?_
      refine lv_aload_n hx hb dX3_cupAnew_53 rfl (lv_at hl 1 rfl) ?_
      refine cr_get C hW.1 0 rfl rfl 0 (by decide) hinX3 k0 (v := .ref (al 0)) rfl dX3_cupAnew_54 ?_
      refine lv_iload_n hx hb dX3_cupAnew_57 rfl (lv_at hl 0 rfl) ?_
      refine lv_aload_n hx hb dX3_cupAnew_58 rfl (lv_at hl 1 rfl) ?_
      refine cr_get C hW.1 0 rfl rfl 4 (by decide) hinX3 k3 (v := .int (vh 4 0)) rfl dX3_cupAnew_59 ?_
      obtain ⟨q5, hq5, hE⟩ := cr_bind hE
      refine cr_vRwq (n := 2) (As := [.int q1, .int (vh 4 0)]) (rest := [.int q1, .ref (al 3)]) C hW (m_X4_cupAt L D ct al (cr_a vl 1 (cr_x q1) ((vl 1 (cr_x q1)) - 1)) q1 (vh 4 0) q5 hq5) (cwV 2 hts gX3_cupAnew_X4_cupAt rfl rfl rfl (by decide +kernel) ⟨Nat.le_of_ble_eq_true rfl, Nat.le_of_ble_eq_true rfl⟩) [3, 4, 5, 6, 7] rfl 3 rfl rfl rfl hl.1 rfl (Nat.le_of_ble_eq_true rfl) dX3_cupAnew_62 ⟨Nat.zero_le _, Nat.zero_le _⟩ (fun H locs hW => ?_)
      refine cr_ast C hW 6 rfl (k := (cr_x q1)) i3 (cr_xe _) (w' := cr_wH ct ah al ak vh (cr_a (cr_a vl 1 (cr_x q1) ((vl 1 (cr_x q1)) - 1)) 2 (cr_x q1) q5) vk) rfl dX3_cupAnew_65 (fun H locs hW => ?_)
      refine lv_aload_n hx hb dX3_cupAnew_66 rfl (lv_at hl 1 rfl) ?_
      refine cr_get C hW.1 0 rfl rfl 0 (by decide) hinX3 k0 (v := .ref (al 0)) rfl dX3_cupAnew_67 ?_
      refine cr_get C hW.1 3 rfl rfl 3 (by decide) hinX4 k4 (v := .ref (al 4)) rfl dX3_cupAnew_70 ?_
      refine lv_iload_n hx hb dX3_cupAnew_73 rfl (lv_at hl 0 rfl) ?_
      refine lv_aload_n hx hb dX3_cupAnew_74 rfl (lv_at hl 1 rfl) ?_
      refine cr_get C hW.1 0 rfl rfl 4 (by decide) hinX3 k3 (v := .int (vh 4 0)) rfl dX3_cupAnew_75 ?_
      refine cr_ast C hW 7 rfl (k := (cr_x q1)) i3 (cr_xe _) (w' := cr_wH ct ah al ak vh (cr_a (cr_a (cr_a vl 1 (cr_x q1) ((vl 1 (cr_x q1)) - 1)) 2 (cr_x q1) q5) 3 (cr_x q1) (vh 4 0)) vk) rfl dX3_cupAnew_78 (fun H locs hW => ?_)
      refine lv_aload_n hx hb dX3_cupAnew_79 rfl (lv_at hl 1 rfl) ?_
      refine cr_get C hW.1 0 rfl rfl 0 (by decide) hinX3 k0 (v := .ref (al 0)) rfl dX3_cupAnew_80 ?_
      refine cr_get C hW.1 3 rfl rfl 2 (by decide) hinX4 k2 (v := .ref (al 3)) rfl dX3_cupAnew_83 ?_
      refine lv_iload_n hx hb dX3_cupAnew_86 rfl (lv_at hl 0 rfl) ?_
      refine cr_ald C hW.1 6 (f := (cr_a vl 2 (cr_x q1) q5) 2) (k := cr_x q1) rfl i3 (cr_xe _) dX3_cupAnew_87 ?_
      exact cr_retW C (w := (fun u : cr_V => cr_wH ct ah al ak vh u vk)) (cr_a (cr_a (cr_a vl 1 (cr_x q1) ((vl 1 (cr_x q1)) - 1)) 2 (cr_x q1) q5) 3 (cr_x q1) (vh 4 0)) hW (Option.some.inj hE) dX3_cupAnew_88
    · rw [if_neg c4] at hE
      refine cr_ldc C k5 dX3_cupAnew_29 ?_
      exact cr_retW C (w := (fun u : cr_V => cr_wH ct ah al ak vh u vk)) vl hW (Option.some.inj hE) dX3_cupAnew_31
  · rw [if_neg c2] at hE
    refine cr_ldc C k6 dX3_cupAnew_13 ?_
    exact cr_retW C (w := (fun u : cr_V => cr_wH ct ah al ak vh u vk)) vl hW (Option.some.inj hE) dX3_cupAnew_15

set_option maxHeartbeats 4000000 in
set_option maxRecDepth 100000 in
theorem m_X3_changeWorth (L : Launch) (D : va_G) (ct : Nat → ClassId) (ah : Nat → Nat) (al : Nat → Nat) (ak : Nat → Nat) (vh : cr_V) (vl : cr_V) (vk : cr_V) (x1 : Int32) (x2 : Int32) (sz : Nat) (out : Int32 × cr_V) (hE : f_X3_changeWorth vh vl vk x1 x2 = some out) : Met L yX3_changeWorth wsX3_changeWorth ({ frames := 1, cells := 0, slots := 0, locals := 22 } : Room) (cr_pW D ct (cr_wH ct ah al ak vh vl vk) sz [.ref (ah 0), .int x1, .int x2]) (cr_QW D (cr_wH ct ah al ak vh vl vk) sz (fun r (u : cr_V) => (r, u) = out) (fun u : cr_V => cr_wH ct ah al ak u vl vk)) 0 0 (va_A (cr_wH ct ah al ak vh vl vk) sz) := by
  have k0 : (Cond.initialized RX6) ∈ wsX3_changeWorth := List.mem_of_getElem? (i := 4) rfl
  have k1 : (Cond.static yX6_isWithin) ∈ wsX3_changeWorth := List.mem_of_getElem? (i := 3) rfl
  have k2 : (Cond.constant RX3 70 (-2000000001)) ∈ wsX3_changeWorth := List.mem_of_getElem? (i := 1) rfl
  have k3 : (Cond.fieldLink RX3 34 "CupReceipts$House" "worths" "[I") ∈ wsX3_changeWorth := List.mem_of_getElem? (i := 2) rfl
  have hinX3 : ∀ w ∈ wsX30, w ∈ wsX3_changeWorth := fun w h => List.mem_cons_of_mem _ (List.mem_append_right _ h)
  refine cr_metW (Qc := fun A => va_Qi (fun r (u : cr_V) => (r, u) = out) (fun u t => cr_at D A ((fun u : cr_V => cr_wH ct ah al ak u vl vk) u) t) A) (by decide) rfl rfl (Nat.le_of_ble_eq_true rfl) ?_
  intro p e s m args below meth c ls A C hW hl
  obtain ⟨hx, hb, hml, hown, hts, hr, hlocks, hK, hN⟩ := id C
  have hl : lv_has ls 4 [(0, .ref (ah 0)), (1, .int x1), (2, .int x2)] := hl
  replace hE : ((f_X6_isWithin x1 0 3).bind fun q1 => if q1 = 0 then (some ((-2000000001), vh)) else ((f_X6_isWithin x2 1 999).bind fun q3 => if q3 = 0 then (some ((-2000000001), vh)) else (if cr_in x1 4 = true then some ((vh 2 (cr_x x1)), (cr_a vh 2 (cr_x x1) x2)) else none))) = some out := hE
  refine lv_iload_n hx hb dX3_changeWorth_0 rfl (lv_at hl 1 rfl) ?_
  refine lv_iconst (v := 0) hx hb dX3_changeWorth_1 (by decide) ?_
  refine lv_iconst (v := 3) hx hb dX3_changeWorth_2 (by decide) ?_
  obtain ⟨q1, hq1, hE⟩ := cr_bind hE
  refine cr_nRwq (n := 3) (As := [.int x1, .int 0, .int 3]) (rest := []) C hW (m_X6_isWithin L D ct x1 0 3 q1 hq1) ⟨va_cnB 3 hts gX3_changeWorth_X6_isWithin_n66 rfl rfl rfl hN.2.2.1 (hts _ k0) (by decide +kernel) ⟨Nat.le_of_ble_eq_true rfl, Nat.le_of_ble_eq_true rfl⟩, hts _ k1, trivial⟩ rfl hl.1 rfl (Nat.le_of_ble_eq_true rfl) dX3_changeWorth_3 ⟨Nat.zero_le _, Nat.zero_le _⟩ (fun H locs hW => ?_)
  refine lv_if_eq (tgt := 20) hx hb dX3_changeWorth_6 (by decide) (fun c2 => ?_) (fun c2 => ?_)
  · rw [if_pos c2] at hE
    refine cr_ldc C k2 dX3_changeWorth_20 ?_
    exact cr_retW C (w := (fun u : cr_V => cr_wH ct ah al ak u vl vk)) vh hW (Option.some.inj hE) dX3_changeWorth_22
  · rw [if_neg c2] at hE
    refine lv_iload_n hx hb dX3_changeWorth_9 rfl (lv_at hl 2 rfl) ?_
    refine lv_iconst (v := 1) hx hb dX3_changeWorth_10 (by decide) ?_
    refine lv_sipush (v := 999) hx hb dX3_changeWorth_11 (by decide) ?_
    obtain ⟨q3, hq3, hE⟩ := cr_bind hE
    refine cr_nRwq (n := 3) (As := [.int x2, .int 1, .int 999]) (rest := []) C hW (m_X6_isWithin L D ct x2 1 999 q3 hq3) ⟨va_cnB 3 hts gX3_changeWorth_X6_isWithin_n66 rfl rfl rfl hN.2.2.1 (hts _ k0) (by decide +kernel) ⟨Nat.le_of_ble_eq_true rfl, Nat.le_of_ble_eq_true rfl⟩, hts _ k1, trivial⟩ rfl hl.1 rfl (Nat.le_of_ble_eq_true rfl) dX3_changeWorth_14 ⟨Nat.zero_le _, Nat.zero_le _⟩ (fun H locs hW => ?_)
    refine lv_if_ne (tgt := 23) hx hb dX3_changeWorth_17 (by decide) (fun c4 => ?_) (fun c4 => ?_)
    · rw [if_neg c4] at hE
      refine lv_aload_n hx hb dX3_changeWorth_23 rfl (lv_at hl 0 rfl) ?_
      refine cr_get C hW.1 0 rfl rfl 2 (by decide) hinX3 k3 (v := .ref (ah 3)) rfl dX3_changeWorth_24 ?_
      refine lv_iload_n hx hb dX3_changeWorth_27 rfl (lv_at hl 1 rfl) ?_
      obtain ⟨i5, hE⟩ := cr_ifn hE
      refine cr_ald C hW.1 1 (f := vh 2) (k := cr_x x1) rfl i5 (cr_xe _) dX3_changeWorth_28 ?_
      refine lv_istore_n (lv' := [(3, .int (vh 2 (cr_x x1))), (0, .ref (ah 0)), (1, .int x1), (2, .int x2)]) hx hb dX3_changeWorth_29 rfl hl (by decide) rfl (fun ls hl => ?_)
      refine lv_aload_n hx hb dX3_changeWorth_30 rfl (lv_at hl 1 rfl) ?_
      refine cr_get C hW.1 0 rfl rfl 2 (by decide) hinX3 k3 (v := .ref (ah 3)) rfl dX3_changeWorth_31 ?_
      refine lv_iload_n hx hb dX3_changeWorth_34 rfl (lv_at hl 2 rfl) ?_
      refine lv_iload_n hx hb dX3_changeWorth_35 rfl (lv_at hl 3 rfl) ?_
      refine cr_ast C hW 1 rfl (k := (cr_x x1)) i5 (cr_xe _) (w' := cr_wH ct ah al ak (cr_a vh 2 (cr_x x1) x2) vl vk) rfl dX3_changeWorth_36 (fun H locs hW => ?_)
      refine lv_iload_n hx hb dX3_changeWorth_37 rfl (lv_at hl 0 rfl) ?_
      exact cr_retW C (w := (fun u : cr_V => cr_wH ct ah al ak u vl vk)) (cr_a vh 2 (cr_x x1) x2) hW (Option.some.inj hE) dX3_changeWorth_38
    · rw [if_pos c4] at hE
      refine cr_ldc C k2 dX3_changeWorth_20 ?_
      exact cr_retW C (w := (fun u : cr_V => cr_wH ct ah al ak u vl vk)) vh hW (Option.some.inj hE) dX3_changeWorth_22

set_option maxHeartbeats 4000000 in
set_option maxRecDepth 100000 in
theorem m_J9_floorMod_7cf53 (L : Launch) (D : va_G) (ct : Nat → ClassId)   (x0 : Int32) (x1 : Int32) (out : Int32) (hE : f_J9_floorMod_7cf53 x0 x1 = some out) : Met L yJ9_floorMod_7cf53 wsJ9_floorMod_7cf53 ({ frames := 0, cells := 0, slots := 0, locals := 0 } : Room) (cr_pR D ct ([]) [.int x0, .int x1]) (cr_QR (fun r => r = out)) 0 0 cr_no := by
  refine cr_metRF (by decide +kernel) rfl rfl (Nat.le_of_ble_eq_true rfl) ?_
  intro p e s m args below meth c ls C hP hS hl
  obtain ⟨hx, hb, hml, hown, hts, hr, hlocks, hK, hN⟩ := id C
  have hl : lv_has ls 3 [(0, .int x0), (1, .int x1)] := hl
  replace hE : (if x1 = 0 then none else if 0 ≤ (x0 ^^^ x1) then (some (x0 - x0 / x1 * x1)) else (if (x0 - x0 / x1 * x1) = 0 then (some (x0 - x0 / x1 * x1)) else (some ((x0 - x0 / x1 * x1) + x1)))) = some out := hE
  refine lv_iload_n hx hb dJ9_floorMod_7cf53_0 rfl (lv_at hl 0 rfl) ?_
  refine lv_iload_n hx hb dJ9_floorMod_7cf53_1 rfl (lv_at hl 1 rfl) ?_
  obtain ⟨z1, hE⟩ := cr_ifz hE
  refine lv_irem hx hb dJ9_floorMod_7cf53_2 z1 ?_
  refine lv_istore_n (lv' := [(2, .int (x0 - x0 / x1 * x1)), (0, .int x0), (1, .int x1)]) hx hb dJ9_floorMod_7cf53_3 rfl hl (by decide) rfl (fun ls hl => ?_)
  refine lv_iload_n hx hb dJ9_floorMod_7cf53_4 rfl (lv_at hl 1 rfl) ?_
  refine lv_iload_n hx hb dJ9_floorMod_7cf53_5 rfl (lv_at hl 2 rfl) ?_
  refine lv_ixor hx hb dJ9_floorMod_7cf53_6 ?_
  refine lv_if_ge (tgt := 18) hx hb dJ9_floorMod_7cf53_7 (by decide) (fun c2 => ?_) (fun c2 => ?_)
  · rw [if_pos c2] at hE
    refine lv_iload_n hx hb dJ9_floorMod_7cf53_18 rfl (lv_at hl 0 rfl) ?_
    exact cr_retR C hS (Option.some.inj hE) dJ9_floorMod_7cf53_19
  · rw [if_neg c2] at hE
    refine lv_iload_n hx hb dJ9_floorMod_7cf53_10 rfl (lv_at hl 0 rfl) ?_
    refine lv_if_eq (tgt := 18) hx hb dJ9_floorMod_7cf53_11 (by decide) (fun c3 => ?_) (fun c3 => ?_)
    · rw [if_pos c3] at hE
      refine lv_iload_n hx hb dJ9_floorMod_7cf53_18 rfl (lv_at hl 0 rfl) ?_
      exact cr_retR C hS (Option.some.inj hE) dJ9_floorMod_7cf53_19
    · rw [if_neg c3] at hE
      refine lv_iload_n hx hb dJ9_floorMod_7cf53_14 rfl (lv_at hl 0 rfl) ?_
      refine lv_iload_n hx hb dJ9_floorMod_7cf53_15 rfl (lv_at hl 2 rfl) ?_
      refine lv_iadd hx hb dJ9_floorMod_7cf53_16 ?_
      exact cr_retR C hS (Option.some.inj hE) dJ9_floorMod_7cf53_17

set_option maxHeartbeats 4000000 in
set_option maxRecDepth 100000 in
theorem m_X3_isDeliveryMonth (L : Launch) (D : va_G) (ct : Nat → ClassId) (ah : Nat → Nat) (al : Nat → Nat) (ak : Nat → Nat) (vh : cr_V) (vl : cr_V) (vk : cr_V) (x1 : Int32) (out : Int32) (hE : f_X3_isDeliveryMonth vh vl vk x1 = some out) : Met L yX3_isDeliveryMonth wsX3_isDeliveryMonth ({ frames := 1, cells := 0, slots := 0, locals := 22 } : Room) (cr_pR D ct (cr_wH ct ah al ak vh vl vk) [.ref (ah 0), .int x1]) (cr_QR (fun r => r = out)) 0 0 cr_no := by
  have k0 : (Cond.fieldLink RX3 40 "CupReceipts$House" "settings" "[I") ∈ wsX3_isDeliveryMonth := List.mem_of_getElem? (i := 1) rfl
  have hinX3 : ∀ w ∈ wsX30, w ∈ wsX3_isDeliveryMonth := fun w h => List.mem_cons_of_mem _ (List.mem_append_right _ h)
  refine cr_metR (by decide) rfl rfl (Nat.le_of_ble_eq_true rfl) ?_
  intro p e s m args below meth c ls C hP hS hl
  obtain ⟨hx, hb, hml, hown, hts, hr, hlocks, hK, hN⟩ := id C
  have hl : lv_has ls 2 [(0, .ref (ah 0)), (1, .int x1)] := hl
  replace hE : ((f_J9_floorMod_7cf53 x1 12).bind fun q1 => if (((vh 3 1) >>> (q1 &&& 31)) &&& 1) = 1 then (some 1) else (some 0)) = some out := hE
  refine lv_aload_n hx hb dX3_isDeliveryMonth_0 rfl (lv_at hl 0 rfl) ?_
  refine cr_get C hP 0 rfl rfl 3 (by decide) hinX3 k0 (v := .ref (ah 4)) rfl dX3_isDeliveryMonth_1 ?_
  refine lv_iconst (v := 1) hx hb dX3_isDeliveryMonth_4 (by decide) ?_
  refine cr_ald C hP 2 (f := vh 3) (k := 1) rfl (by decide) (by decide) dX3_isDeliveryMonth_5 ?_
  refine lv_iload_n hx hb dX3_isDeliveryMonth_6 rfl (lv_at hl 1 rfl) ?_
  refine lv_bipush (v := 12) hx hb dX3_isDeliveryMonth_7 (by decide) ?_
  obtain ⟨q1, hq1, hE⟩ := cr_bind hE
  refine cr_sRq (n := 2) (As := [.int x1, .int 12]) (rest := [.int (vh 3 1)]) C hP hS (m_J9_floorMod_7cf53 L D ct x1 12 q1 hq1) (va_cwS 2 hts gX3_isDeliveryMonth_J9_floorMod_7cf53 rfl rfl rfl (by decide +kernel) ⟨Nat.le_of_ble_eq_true rfl, Nat.le_of_ble_eq_true rfl⟩) rfl hl.1 rfl (Nat.le_of_ble_eq_true rfl) dX3_isDeliveryMonth_9 ⟨Nat.zero_le _, Nat.zero_le _⟩ (fun H locs hP hS => ?_)
  refine lv_ishr hx hb dX3_isDeliveryMonth_12 ?_
  refine lv_iconst (v := 1) hx hb dX3_isDeliveryMonth_13 (by decide) ?_
  refine lv_iand hx hb dX3_isDeliveryMonth_14 ?_
  refine lv_iconst (v := 1) hx hb dX3_isDeliveryMonth_15 (by decide) ?_
  refine lv_icmp_ne (tgt := 23) hx hb dX3_isDeliveryMonth_16 (by decide) (fun c2 => ?_) (fun c2 => ?_)
  · rw [if_neg c2] at hE
    refine lv_iconst (v := 0) hx hb dX3_isDeliveryMonth_23 (by decide) ?_
    exact cr_retRz C hS rfl (Option.some.inj hE) dX3_isDeliveryMonth_24
  · rw [if_pos c2] at hE
    refine lv_iconst (v := 1) hx hb dX3_isDeliveryMonth_19 (by decide) ?_
    refine lv_goto (tgt := 24) hx hb dX3_isDeliveryMonth_20 (by decide) ?_
    exact cr_retRz C hS rfl (Option.some.inj hE) dX3_isDeliveryMonth_24

set_option maxHeartbeats 4000000 in
set_option maxRecDepth 100000 in
theorem m_X3_sellContract (L : Launch) (D : va_G) (ct : Nat → ClassId) (ah : Nat → Nat) (al : Nat → Nat) (ak : Nat → Nat) (vh : cr_V) (vl : cr_V) (vk : cr_V) (x1 : Int32) (x2 : Int32) (sz : Nat) (out : Int32 × cr_V) (hE : f_X3_sellContract vh vl vk x1 x2 = some out) : Met L yX3_sellContract wsX3_sellContract ({ frames := 2, cells := 0, slots := 0, locals := 43 } : Room) (cr_pW D ct (cr_wH ct ah al ak vh vl vk) sz [.ref (ah 0), .int x1, .int x2]) (cr_QW D (cr_wH ct ah al ak vh vl vk) sz (fun r (u : cr_V) => (r, u) = out) (fun u : cr_V => cr_wH ct ah al ak vh vl u)) 0 0 (va_A (cr_wH ct ah al ak vh vl vk) sz) := by
  have k0 : (Cond.initialized RX6) ∈ wsX3_sellContract := List.mem_of_getElem? (i := 6) rfl
  have k1 : (Cond.static yX6_isWithin) ∈ wsX3_sellContract := List.mem_of_getElem? (i := 5) rfl
  have k2 : (Cond.constant RX3 70 (-2000000001)) ∈ wsX3_sellContract := List.mem_of_getElem? (i := 1) rfl
  have k3 : (Cond.fieldLink RX3 50 "CupReceipts$House" "month" "I") ∈ wsX3_sellContract := List.mem_of_getElem? (i := 2) rfl
  have k4 : (Cond.constant RX3 82 (-2000000002)) ∈ wsX3_sellContract := List.mem_of_getElem? (i := 3) rfl
  have k5 : (Cond.fieldLink RX3 21 "CupReceipts$House" "contracts" "LCupReceipts$Contracts;") ∈ wsX3_sellContract := List.mem_of_getElem? (i := 4) rfl
  have hinX3 : ∀ w ∈ wsX30, w ∈ wsX3_sellContract := fun w h => List.mem_cons_of_mem _ (List.mem_append_left _ (List.mem_append_right _ h))
  refine cr_metW (Qc := fun A => va_Qi (fun r (u : cr_V) => (r, u) = out) (fun u t => cr_at D A ((fun u : cr_V => cr_wH ct ah al ak vh vl u) u) t) A) (by decide) rfl rfl (Nat.le_of_ble_eq_true rfl) ?_
  intro p e s m args below meth c ls A C hW hl
  obtain ⟨hx, hb, hml, hown, hts, hr, hlocks, hK, hN⟩ := id C
  have hl : lv_has ls 3 [(0, .ref (ah 0)), (1, .int x1), (2, .int x2)] := hl
  replace hE : ((f_X6_isWithin x1 0 999).bind fun q1 => if q1 = 0 then (some ((-2000000001), vk)) else ((f_X6_isWithin x2 1 999).bind fun q3 => if q3 = 0 then (some ((-2000000001), vk)) else (if x1 < (vh 4 0) then (some ((-2000000002), vk)) else ((f_X3_isDeliveryMonth vh vl vk x1).bind fun q6 => if q6 = 0 then (some ((-2000000002), vk)) else ((f_X0_add vk x1 x2).bind fun q8 => some (q8.1, q8.2)))))) = some out := hE
  refine lv_iload_n hx hb dX3_sellContract_0 rfl (lv_at hl 1 rfl) ?_
  refine lv_iconst (v := 0) hx hb dX3_sellContract_1 (by decide) ?_
  refine lv_sipush (v := 999) hx hb dX3_sellContract_2 (by decide) ?_
  obtain ⟨q1, hq1, hE⟩ := cr_bind hE
  refine cr_nRwq (n := 3) (As := [.int x1, .int 0, .int 999]) (rest := []) C hW (m_X6_isWithin L D ct x1 0 999 q1 hq1) ⟨va_cnB 3 hts gX3_sellContract_X6_isWithin_n66 rfl rfl rfl hN.2.2.1 (hts _ k0) (by decide +kernel) ⟨Nat.le_of_ble_eq_true rfl, Nat.le_of_ble_eq_true rfl⟩, hts _ k1, trivial⟩ rfl hl.1 rfl (Nat.le_of_ble_eq_true rfl) dX3_sellContract_5 ⟨Nat.zero_le _, Nat.zero_le _⟩ (fun H locs hW => ?_)
  refine lv_if_eq (tgt := 22) hx hb dX3_sellContract_8 (by decide) (fun c2 => ?_) (fun c2 => ?_)
  · rw [if_pos c2] at hE
    refine cr_ldc C k2 dX3_sellContract_22 ?_
    exact cr_retW C (w := (fun u : cr_V => cr_wH ct ah al ak vh vl u)) vk hW (Option.some.inj hE) dX3_sellContract_24
  · rw [if_neg c2] at hE
    refine lv_iload_n hx hb dX3_sellContract_11 rfl (lv_at hl 2 rfl) ?_
    refine lv_iconst (v := 1) hx hb dX3_sellContract_12 (by decide) ?_
    refine lv_sipush (v := 999) hx hb dX3_sellContract_13 (by decide) ?_
    obtain ⟨q3, hq3, hE⟩ := cr_bind hE
    refine cr_nRwq (n := 3) (As := [.int x2, .int 1, .int 999]) (rest := []) C hW (m_X6_isWithin L D ct x2 1 999 q3 hq3) ⟨va_cnB 3 hts gX3_sellContract_X6_isWithin_n66 rfl rfl rfl hN.2.2.1 (hts _ k0) (by decide +kernel) ⟨Nat.le_of_ble_eq_true rfl, Nat.le_of_ble_eq_true rfl⟩, hts _ k1, trivial⟩ rfl hl.1 rfl (Nat.le_of_ble_eq_true rfl) dX3_sellContract_16 ⟨Nat.zero_le _, Nat.zero_le _⟩ (fun H locs hW => ?_)
    refine lv_if_ne (tgt := 25) hx hb dX3_sellContract_19 (by decide) (fun c4 => ?_) (fun c4 => ?_)
    · rw [if_neg c4] at hE
      refine lv_iload_n hx hb dX3_sellContract_25 rfl (lv_at hl 1 rfl) ?_
      refine lv_aload_n hx hb dX3_sellContract_26 rfl (lv_at hl 0 rfl) ?_
      refine cr_get C hW.1 0 rfl rfl 4 (by decide) hinX3 k3 (v := .int (vh 4 0)) rfl dX3_sellContract_27 ?_
      refine lv_icmp_lt (tgt := 41) hx hb dX3_sellContract_30 (by decide) (fun c5 => ?_) (fun c5 => ?_)
      · rw [if_pos c5] at hE
        refine cr_ldc C k4 dX3_sellContract_41 ?_
        exact cr_retW C (w := (fun u : cr_V => cr_wH ct ah al ak vh vl u)) vk hW (Option.some.inj hE) dX3_sellContract_43
      · rw [if_neg c5] at hE
        refine lv_aload_n hx hb dX3_sellContract_33 rfl (lv_at hl 0 rfl) ?_
        refine lv_iload_n hx hb dX3_sellContract_34 rfl (lv_at hl 1 rfl) ?_
        obtain ⟨q6, hq6, hE⟩ := cr_bind hE
        refine cr_vRwq (n := 1) (As := [.int x1]) (rest := []) C hW (m_X3_isDeliveryMonth L D ct ah al ak vh vl vk x1 q6 hq6) (cwV 1 hts gX3_sellContract_X3_isDeliveryMonth rfl rfl rfl (by decide +kernel) ⟨Nat.le_of_ble_eq_true rfl, Nat.le_of_ble_eq_true rfl⟩) [0, 1, 2, 3, 4, 5, 6, 7, 8, 9, 10] rfl 0 rfl rfl rfl hl.1 rfl (Nat.le_of_ble_eq_true rfl) dX3_sellContract_35 ⟨Nat.zero_le _, Nat.zero_le _⟩ (fun H locs hW => ?_)
        refine lv_if_ne (tgt := 44) hx hb dX3_sellContract_38 (by decide) (fun c7 => ?_) (fun c7 => ?_)
        · rw [if_neg c7] at hE
          refine lv_aload_n hx hb dX3_sellContract_44 rfl (lv_at hl 0 rfl) ?_
          refine cr_get C hW.1 0 rfl rfl 1 (by decide) hinX3 k5 (v := .ref (ak 0)) rfl dX3_sellContract_45 ?_
          refine lv_iload_n hx hb dX3_sellContract_48 rfl (lv_at hl 1 rfl) ?_
          refine lv_iload_n hx hb dX3_sellContract_49 rfl (lv_at hl 2 rfl) ?_
          obtain ⟨q8, hq8, hE⟩ := cr_bind hE
          refine cr_vWq (n := 2) (As := [.int x1, .int x2]) (rest := []) C hW (m_X0_add L D ct ak vk x1 x2 _ q8 hq8) (cwV 2 hts gX3_sellContract_X0_add rfl rfl rfl (by decide +kernel) ⟨Nat.le_of_ble_eq_true rfl, Nat.le_of_ble_eq_true rfl⟩) [8, 9, 10] [0, 1, 2, 3, 4, 5, 6, 7] [0, 1, 2, 3, 4, 5, 6, 7, 8, 9, 10] (cr_wH ct ah al ak vh vl q8.2) rfl rfl rfl ⟨by decide +kernel, by decide +kernel, by decide +kernel, by decide +kernel⟩ 8 rfl rfl rfl hl.1 rfl (Nat.le_of_ble_eq_true rfl) dX3_sellContract_50 ⟨Nat.zero_le _, Nat.zero_le _⟩ (fun H locs hW => ?_)
          exact cr_retW C (w := (fun u : cr_V => cr_wH ct ah al ak vh vl u)) q8.2 hW (Option.some.inj hE) dX3_sellContract_53
        · rw [if_pos c7] at hE
          refine cr_ldc C k4 dX3_sellContract_41 ?_
          exact cr_retW C (w := (fun u : cr_V => cr_wH ct ah al ak vh vl u)) vk hW (Option.some.inj hE) dX3_sellContract_43
    · rw [if_pos c4] at hE
      refine cr_ldc C k2 dX3_sellContract_22 ?_
      exact cr_retW C (w := (fun u : cr_V => cr_wH ct ah al ak vh vl u)) vk hW (Option.some.inj hE) dX3_sellContract_24

set_option maxHeartbeats 4000000 in
set_option maxRecDepth 100000 in
theorem m_X3_buyContractBack (L : Launch) (D : va_G) (ct : Nat → ClassId) (ah : Nat → Nat) (al : Nat → Nat) (ak : Nat → Nat) (vh : cr_V) (vl : cr_V) (vk : cr_V) (x1 : Int32) (x2 : Int32) (sz : Nat) (out : Int32 × cr_V × cr_V) (hE : f_X3_buyContractBack vh vl vk x1 x2 = some out) : Met L yX3_buyContractBack wsX3_buyContractBack ({ frames := 2, cells := 0, slots := 0, locals := 43 } : Room) (cr_pW D ct (cr_wH ct ah al ak vh vl vk) sz [.ref (ah 0), .int x1, .int x2]) (cr_QW D (cr_wH ct ah al ak vh vl vk) sz (fun r (u : cr_V × cr_V) => (r, u) = out) (fun u : cr_V × cr_V => cr_wH ct ah al ak u.1 vl u.2)) 0 0 (va_A (cr_wH ct ah al ak vh vl vk) sz) := by
  have k0 : (Cond.fieldLink RX3 21 "CupReceipts$House" "contracts" "LCupReceipts$Contracts;") ∈ wsX3_buyContractBack := List.mem_of_getElem? (i := 1) rfl
  have k1 : (Cond.constant RX3 70 (-2000000001)) ∈ wsX3_buyContractBack := List.mem_of_getElem? (i := 2) rfl
  have k2 : (Cond.initialized RX6) ∈ wsX3_buyContractBack := List.mem_of_getElem? (i := 13) rfl
  have k3 : (Cond.static yX6_isWithin) ∈ wsX3_buyContractBack := List.mem_of_getElem? (i := 12) rfl
  have k4 : (Cond.fieldLink RX3 40 "CupReceipts$House" "settings" "[I") ∈ wsX3_buyContractBack := List.mem_of_getElem? (i := 3) rfl
  have k5 : (Cond.fieldLink RX3 110 "CupReceipts$Contracts" "prices" "[I") ∈ wsX3_buyContractBack := List.mem_of_getElem? (i := 4) rfl
  have k6 : (Cond.fieldLink RX3 54 "CupReceipts$House" "account" "I") ∈ wsX3_buyContractBack := List.mem_of_getElem? (i := 5) rfl
  have hinX0 : ∀ w ∈ wsX00, w ∈ wsX3_buyContractBack := fun w h => List.mem_cons_of_mem _ (List.mem_append_right _ h)
  have hinX3 : ∀ w ∈ wsX30, w ∈ wsX3_buyContractBack := fun w h => List.mem_cons_of_mem _ (List.mem_append_left _ (List.mem_append_right _ h))
  refine cr_metW (Qc := fun A => va_Qi (fun r (u : cr_V × cr_V) => (r, u) = out) (fun u t => cr_at D A ((fun u : cr_V × cr_V => cr_wH ct ah al ak u.1 vl u.2) u) t) A) (by decide) rfl rfl (Nat.le_of_ble_eq_true rfl) ?_
  intro p e s m args below meth c ls A C hW hl
  obtain ⟨hx, hb, hml, hown, hts, hr, hlocks, hK, hN⟩ := id C
  have hl : lv_has ls 4 [(0, .ref (ah 0)), (1, .int x1), (2, .int x2)] := hl
  replace hE : ((f_X0_isOpen vk x1).bind fun q1 => if q1 = 0 then (some ((-2000000001), vh, vk)) else ((f_X6_isWithin x2 1 999).bind fun q3 => if q3 = 0 then (some ((-2000000001), vh, vk)) else (if cr_in x1 6 = true then (f_X0_drop vk x1).bind fun q6 => some (((vh 3 0) * ((vk 1 (cr_x x1)) - x2)), cr_i vh 5 ((vh 5 0) + ((vh 3 0) * ((vk 1 (cr_x x1)) - x2))), q6) else none))) = some out := hE
  refine lv_aload_n hx hb dX3_buyContractBack_0 rfl (lv_at hl 0 rfl) ?_
  refine cr_get C hW.1 0 rfl rfl 1 (by decide) hinX3 k0 (v := .ref (ak 0)) rfl dX3_buyContractBack_1 ?_
  refine lv_iload_n hx hb dX3_buyContractBack_4 rfl (lv_at hl 1 rfl) ?_
  obtain ⟨q1, hq1, hE⟩ := cr_bind hE
  refine cr_vRwq (n := 1) (As := [.int x1]) (rest := []) C hW (m_X0_isOpen L D ct ak vk x1 q1 hq1) (cwV 1 hts gX3_buyContractBack_X0_isOpen rfl rfl rfl (by decide +kernel) ⟨Nat.le_of_ble_eq_true rfl, Nat.le_of_ble_eq_true rfl⟩) [8, 9, 10] rfl 8 rfl rfl rfl hl.1 rfl (Nat.le_of_ble_eq_true rfl) dX3_buyContractBack_5 ⟨Nat.zero_le _, Nat.zero_le _⟩ (fun H locs hW => ?_)
  refine lv_if_eq (tgt := 22) hx hb dX3_buyContractBack_8 (by decide) (fun c2 => ?_) (fun c2 => ?_)
  · rw [if_pos c2] at hE
    refine cr_ldc C k1 dX3_buyContractBack_22 ?_
    exact cr_retW C (w := (fun u : cr_V × cr_V => cr_wH ct ah al ak u.1 vl u.2)) (vh, vk) hW (Option.some.inj hE) dX3_buyContractBack_24
  · rw [if_neg c2] at hE
    refine lv_iload_n hx hb dX3_buyContractBack_11 rfl (lv_at hl 2 rfl) ?_
    refine lv_iconst (v := 1) hx hb dX3_buyContractBack_12 (by decide) ?_
    refine lv_sipush (v := 999) hx hb dX3_buyContractBack_13 (by decide) ?_
    obtain ⟨q3, hq3, hE⟩ := cr_bind hE
    refine cr_nRwq (n := 3) (As := [.int x2, .int 1, .int 999]) (rest := []) C hW (m_X6_isWithin L D ct x2 1 999 q3 hq3) ⟨va_cnB 3 hts gX3_buyContractBack_X6_isWithin_n66 rfl rfl rfl hN.2.2.1 (hts _ k2) (by decide +kernel) ⟨Nat.le_of_ble_eq_true rfl, Nat.le_of_ble_eq_true rfl⟩, hts _ k3, trivial⟩ rfl hl.1 rfl (Nat.le_of_ble_eq_true rfl) dX3_buyContractBack_16 ⟨Nat.zero_le _, Nat.zero_le _⟩ (fun H locs hW => ?_)
    refine lv_if_ne (tgt := 25) hx hb dX3_buyContractBack_19 (by decide) (fun c4 => ?_) (fun c4 => ?_)
    · rw [if_neg c4] at hE
      refine lv_aload_n hx hb dX3_buyContractBack_25 rfl (lv_at hl 0 rfl) ?_
      refine cr_get C hW.1 0 rfl rfl 3 (by decide) hinX3 k4 (v := .ref (ah 4)) rfl dX3_buyContractBack_26 ?_
      refine lv_iconst (v := 0) hx hb dX3_buyContractBack_29 (by decide) ?_
      refine cr_ald C hW.1 2 (f := vh 3) (k := 0) rfl (by decide) (by decide) dX3_buyContractBack_30 ?_
      refine lv_aload_n hx hb dX3_buyContractBack_31 rfl (lv_at hl 0 rfl) ?_
      refine cr_get C hW.1 0 rfl rfl 1 (by decide) hinX3 k0 (v := .ref (ak 0)) rfl dX3_buyContractBack_32 ?_
      refine cr_get C hW.1 8 rfl rfl 1 (by decide) hinX0 k5 (v := .ref (ak 2)) rfl dX3_buyContractBack_35 ?_
      refine lv_iload_n hx hb dX3_buyContractBack_38 rfl (lv_at hl 1 rfl) ?_
      obtain ⟨i5, hE⟩ := cr_ifn hE
      refine cr_ald C hW.1 10 (f := vk 1) (k := cr_x x1) rfl i5 (cr_xe _) dX3_buyContractBack_39 ?_
      refine lv_iload_n hx hb dX3_buyContractBack_40 rfl (lv_at hl 2 rfl) ?_
      refine lv_isub hx hb dX3_buyContractBack_41 ?_
      refine lv_imul hx hb dX3_buyContractBack_42 ?_
      refine lv_istore_n (lv' := [(3, .int ((vh 3 0) * ((vk 1 (cr_x x1)) - x2))), (0, .ref (ah 0)), (1, .int x1), (2, .int x2)]) hx hb dX3_buyContractBack_43 rfl hl (by decide) rfl (fun ls hl => ?_)
      refine lv_aload_n hx hb dX3_buyContractBack_44 rfl (lv_at hl 1 rfl) ?_
      refine lv_dup hx hb dX3_buyContractBack_45 rfl ?_
      refine cr_get C hW.1 0 rfl rfl 5 (by decide) hinX3 k6 (v := .int (vh 5 0)) rfl dX3_buyContractBack_46 ?_
      refine lv_iload_n hx hb dX3_buyContractBack_49 rfl (lv_at hl 0 rfl) ?_
      refine lv_iadd hx hb dX3_buyContractBack_50 ?_
      refine cr_put C hW 0 rfl rfl tyX3 tyX3_ok nmX3 5 (by decide) hinX3 k6 rfl rfl rfl rfl (Nat.le_of_ble_eq_true rfl) (w' := cr_wH ct ah al ak (cr_i vh 5 ((vh 5 0) + ((vh 3 0) * ((vk 1 (cr_x x1)) - x2)))) vl vk) rfl dX3_buyContractBack_51 (fun H locs hW => ?_)
      refine lv_aload_n hx hb dX3_buyContractBack_54 rfl (lv_at hl 1 rfl) ?_
      refine cr_get C hW.1 0 rfl rfl 1 (by decide) hinX3 k0 (v := .ref (ak 0)) rfl dX3_buyContractBack_55 ?_
      refine lv_iload_n hx hb dX3_buyContractBack_58 rfl (lv_at hl 2 rfl) ?_
      obtain ⟨q6, hq6, hE⟩ := cr_bind hE
      refine cr_vVq (n := 1) (As := [.int x1]) (rest := []) C hW (m_X0_drop L D ct ak vk x1 _ q6 hq6) (cwV 1 hts gX3_buyContractBack_X0_drop rfl rfl rfl (by decide +kernel) ⟨Nat.le_of_ble_eq_true rfl, Nat.le_of_ble_eq_true rfl⟩) [8, 9, 10] [0, 1, 2, 3, 4, 5, 6, 7] [0, 1, 2, 3, 4, 5, 6, 7, 8, 9, 10] (cr_wH ct ah al ak (cr_i vh 5 ((vh 5 0) + ((vh 3 0) * ((vk 1 (cr_x x1)) - x2)))) vl q6) rfl rfl rfl ⟨by decide +kernel, by decide +kernel, by decide +kernel, by decide +kernel⟩ 8 rfl rfl rfl hl.1 rfl (Nat.le_of_ble_eq_true rfl) dX3_buyContractBack_59 ⟨Nat.zero_le _, Nat.zero_le _⟩ (fun H locs hW => ?_)
      refine lv_iload_n hx hb dX3_buyContractBack_62 rfl (lv_at hl 0 rfl) ?_
      exact cr_retW C (w := (fun u : cr_V × cr_V => cr_wH ct ah al ak u.1 vl u.2)) (cr_i vh 5 ((vh 5 0) + ((vh 3 0) * ((vk 1 (cr_x x1)) - x2))), q6) hW (Option.some.inj hE) dX3_buyContractBack_63
    · rw [if_pos c4] at hE
      refine cr_ldc C k1 dX3_buyContractBack_22 ?_
      exact cr_retW C (w := (fun u : cr_V × cr_V => cr_wH ct ah al ak u.1 vl u.2)) (vh, vk) hW (Option.some.inj hE) dX3_buyContractBack_24

set_option maxHeartbeats 4000000 in
set_option maxRecDepth 100000 in
theorem m_X3_meetContract (L : Launch) (D : va_G) (ct : Nat → ClassId) (ah : Nat → Nat) (al : Nat → Nat) (ak : Nat → Nat) (ad : Nat → Nat) (vh : cr_V) (vl : cr_V) (vk : cr_V) (vd : cr_V) (x1 : Int32) (sz : Nat) (out : Int32 × cr_V × cr_V × cr_V × cr_V) (hE : f_X3_meetContract vh vl vk vd x1 = some out) : Met L yX3_meetContract wsX3_meetContract ({ frames := 3, cells := 0, slots := 0, locals := 74 } : Room) (cr_pW D ct (cr_wH ct ah al ak vh vl vk ++ cr_wD ct ad vd) sz [.ref (ah 0), .int x1, .ref (ad 0)]) (cr_QW D (cr_wH ct ah al ak vh vl vk ++ cr_wD ct ad vd) sz (fun r (u : cr_V × cr_V × cr_V × cr_V) => (r, u) = out) (fun u : cr_V × cr_V × cr_V × cr_V => cr_wH ct ah al ak u.1 u.2.1 u.2.2.1 ++ cr_wD ct ad u.2.2.2)) 0 0 (va_A (cr_wH ct ah al ak vh vl vk ++ cr_wD ct ad vd) sz) := by
  have k0 : (Cond.fieldLink RX3 127 "CupReceipts$Delivery" "places" "I") ∈ wsX3_meetContract := List.mem_of_getElem? (i := 8) rfl
  have k1 : (Cond.fieldLink RX3 12 "CupReceipts$House" "lots" "LCupReceipts$Lots;") ∈ wsX3_meetContract := List.mem_of_getElem? (i := 9) rfl
  have k2 : (Cond.fieldLink RX3 21 "CupReceipts$House" "contracts" "LCupReceipts$Contracts;") ∈ wsX3_meetContract := List.mem_of_getElem? (i := 1) rfl
  have k3 : (Cond.fieldLink RX3 54 "CupReceipts$House" "account" "I") ∈ wsX3_meetContract := List.mem_of_getElem? (i := 13) rfl
  have k4 : (Cond.fieldLink RX3 134 "CupReceipts$Delivery" "pay" "I") ∈ wsX3_meetContract := List.mem_of_getElem? (i := 14) rfl
  have k5 : (Cond.fieldLink RX3 57 "CupReceipts$House" "contractsMet" "I") ∈ wsX3_meetContract := List.mem_of_getElem? (i := 15) rfl
  have k6 : (Cond.fieldLink RX3 63 "CupReceipts$House" "bagsGiven" "I") ∈ wsX3_meetContract := List.mem_of_getElem? (i := 16) rfl
  have k7 : (Cond.fieldLink RX3 40 "CupReceipts$House" "settings" "[I") ∈ wsX3_meetContract := List.mem_of_getElem? (i := 17) rfl
  have k8 : (Cond.fieldLink RX3 79 "CupReceipts$Lots" "bags" "[I") ∈ wsX3_meetContract := List.mem_of_getElem? (i := 10) rfl
  have k9 : (Cond.fieldLink RX3 130 "CupReceipts$Delivery" "rows" "[I") ∈ wsX3_meetContract := List.mem_of_getElem? (i := 11) rfl
  have k10 : (Cond.fieldLink RX3 133 "CupReceipts$Delivery" "bags" "[I") ∈ wsX3_meetContract := List.mem_of_getElem? (i := 12) rfl
  have k11 : (Cond.fieldLink RX3 117 "CupReceipts$Contracts" "months" "[I") ∈ wsX3_meetContract := List.mem_of_getElem? (i := 3) rfl
  have k12 : (Cond.fieldLink RX3 50 "CupReceipts$House" "month" "I") ∈ wsX3_meetContract := List.mem_of_getElem? (i := 4) rfl
  have k13 : (Cond.fieldLink RX3 110 "CupReceipts$Contracts" "prices" "[I") ∈ wsX3_meetContract := List.mem_of_getElem? (i := 6) rfl
  have k14 : (Cond.fieldLink RX3 124 "CupReceipts$Delivery" "missing" "I") ∈ wsX3_meetContract := List.mem_of_getElem? (i := 7) rfl
  have k15 : (Cond.constant RX3 82 (-2000000002)) ∈ wsX3_meetContract := List.mem_of_getElem? (i := 5) rfl
  have k16 : (Cond.constant RX3 70 (-2000000001)) ∈ wsX3_meetContract := List.mem_of_getElem? (i := 2) rfl
  have hinX0 : ∀ w ∈ wsX00, w ∈ wsX3_meetContract := fun w h => List.mem_cons_of_mem _ (List.mem_append_left _ (List.mem_append_left _ (List.mem_append_right _ h)))
  have hinX1 : ∀ w ∈ wsX10, w ∈ wsX3_meetContract := fun w h => List.mem_cons_of_mem _ (List.mem_append_left _ (List.mem_append_right _ h))
  have hinX3 : ∀ w ∈ wsX30, w ∈ wsX3_meetContract := fun w h => List.mem_cons_of_mem _ (List.mem_append_left _ (List.mem_append_left _ (List.mem_append_left _ (List.mem_append_right _ h))))
  have hinX4 : ∀ w ∈ wsX40, w ∈ wsX3_meetContract := fun w h => List.mem_cons_of_mem _ (List.mem_append_right _ h)
  refine cr_metW (Qc := fun A => va_Qi (fun r (u : cr_V × cr_V × cr_V × cr_V) => (r, u) = out) (fun u t => cr_at D A ((fun u : cr_V × cr_V × cr_V × cr_V => cr_wH ct ah al ak u.1 u.2.1 u.2.2.1 ++ cr_wD ct ad u.2.2.2) u) t) A) (by decide) rfl rfl (Nat.le_of_ble_eq_true rfl) ?_
  intro p e s m args below meth c ls A C hW hl
  obtain ⟨hx, hb, hml, hown, hts, hr, hlocks, hK, hN⟩ := id C
  have hl : lv_has ls 4 [(0, .ref (ah 0)), (1, .int x1), (2, .ref (ad 0))] := hl
  have n63 :  ∀ (n : Nat), ∀ (vh : cr_V) (vl : cr_V) (vk : cr_V) (vd : cr_V) (x1 : Int32) (x3 : Int32) (hE : f_X3_meetContract_63  n vh vl vk vd x1 x3 = some out) (H : Heap) (locs : List Loc) (ls : Array Slot) (hW : cr_wd D A s (cr_wH ct ah al ak vh vl vk ++ cr_wD ct ad vd) H locs) (hl : lv_has ls 4 [(0, .ref (ah 0)), (1, .int x1), (2, .ref (ad 0)), (3, .int x3)]), W p L e ({ frames := 3, cells := 0, slots := 0, locals := 74 } : Room) s m args below meth c H locs 0 0 (MQ below (va_Qi (fun r (u : cr_V × cr_V × cr_V × cr_V) => (r, u) = out) (fun u t => cr_at D A ((fun u : cr_V × cr_V × cr_V × cr_V => cr_wH ct ah al ak u.1 u.2.1 u.2.2.1 ++ cr_wD ct ad u.2.2.2) u) t) A) args s 0 0 A) (F0 m 63 ls []) := by
    intro  n
    induction n with
    | zero =>
      intro vh vl vk vd x1 x3 hE
      cases hE
    | succ n ih =>
      intro vh vl vk vd x1 x3 hE H locs ls hW hl
      replace hE : (if (vd 2 0) ≤ x3 then ((f_X4_dropEmpty vl).bind fun q2 => (f_X0_drop vk x1).bind fun q3 => some ((vd 4 0), cr_i (cr_i (cr_i vh 5 ((vh 5 0) + (vd 4 0))) 6 ((vh 6 0) + 1)) 8 ((vh 8 0) + (vh 3 0)), q2, q3, vd)) else (if cr_in x3 12 = true then if cr_in (vd 0 (cr_x x3)) 12 = true then f_X3_meetContract_63 n vh (cr_a vl 1 (cr_x (vd 0 (cr_x x3))) ((vl 1 (cr_x (vd 0 (cr_x x3)))) - (vd 1 (cr_x x3)))) vk vd x1 (x3 + 1) else none else none)) = some out := hE
      refine lv_iload_n hx hb dX3_meetContract_63 rfl (lv_at hl 3 rfl) ?_
      refine lv_aload_n hx hb dX3_meetContract_64 rfl (lv_at hl 2 rfl) ?_
      refine cr_get C hW.1 11 rfl rfl 2 (by decide) hinX1 k0 (v := .int (vd 2 0)) rfl dX3_meetContract_65 ?_
      refine lv_icmp_ge (tgt := 100) hx hb dX3_meetContract_68 (by decide) (fun c1 => ?_) (fun c1 => ?_)
      · rw [if_pos c1] at hE
        refine lv_aload_n hx hb dX3_meetContract_100 rfl (lv_at hl 0 rfl) ?_
        refine cr_get C hW.1 0 rfl rfl 0 (by decide) hinX3 k1 (v := .ref (al 0)) rfl dX3_meetContract_101 ?_
        obtain ⟨q2, hq2, hE⟩ := cr_bind hE
        refine cr_vVq (n := 0) (As := []) (rest := []) C hW (m_X4_dropEmpty L D ct al vl _ q2 hq2) (cwV 0 hts gX3_meetContract_X4_dropEmpty rfl rfl rfl (by decide +kernel) ⟨Nat.le_of_ble_eq_true rfl, Nat.le_of_ble_eq_true rfl⟩) [3, 4, 5, 6, 7] [0, 1, 2, 8, 9, 10, 11, 12, 13, 14, 15, 16, 17] [0, 1, 2, 13, 14, 15, 16, 17, 3, 4, 5, 6, 7, 8, 9, 10, 11, 12] (cr_wH ct ah al ak vh q2 vk ++ cr_wD ct ad vd) rfl rfl rfl ⟨by decide +kernel, by decide +kernel, by decide +kernel, by decide +kernel⟩ 3 rfl rfl rfl hl.1 rfl (Nat.le_of_ble_eq_true rfl) dX3_meetContract_104 ⟨Nat.zero_le _, Nat.zero_le _⟩ (fun H locs hW => ?_)
        refine lv_aload_n hx hb dX3_meetContract_107 rfl (lv_at hl 0 rfl) ?_
        refine cr_get C hW.1 0 rfl rfl 1 (by decide) hinX3 k2 (v := .ref (ak 0)) rfl dX3_meetContract_108 ?_
        refine lv_iload_n hx hb dX3_meetContract_111 rfl (lv_at hl 1 rfl) ?_
        obtain ⟨q3, hq3, hE⟩ := cr_bind hE
        refine cr_vVq (n := 1) (As := [.int x1]) (rest := []) C hW (m_X0_drop L D ct ak vk x1 _ q3 hq3) (cwV 1 hts gX3_meetContract_X0_drop rfl rfl rfl (by decide +kernel) ⟨Nat.le_of_ble_eq_true rfl, Nat.le_of_ble_eq_true rfl⟩) [8, 9, 10] [0, 1, 2, 3, 4, 5, 6, 7, 11, 12, 13, 14, 15, 16, 17] [0, 1, 2, 3, 4, 5, 6, 7, 15, 16, 17, 8, 9, 10, 11, 12, 13, 14] (cr_wH ct ah al ak vh q2 q3 ++ cr_wD ct ad vd) rfl rfl rfl ⟨by decide +kernel, by decide +kernel, by decide +kernel, by decide +kernel⟩ 8 rfl rfl rfl hl.1 rfl (Nat.le_of_ble_eq_true rfl) dX3_meetContract_112 ⟨Nat.zero_le _, Nat.zero_le _⟩ (fun H locs hW => ?_)
        refine lv_aload_n hx hb dX3_meetContract_115 rfl (lv_at hl 0 rfl) ?_
        refine lv_dup hx hb dX3_meetContract_116 rfl ?_
        refine cr_get C hW.1 0 rfl rfl 5 (by decide) hinX3 k3 (v := .int (vh 5 0)) rfl dX3_meetContract_117 ?_
        refine lv_aload_n hx hb dX3_meetContract_120 rfl (lv_at hl 2 rfl) ?_
        refine cr_get C hW.1 11 rfl rfl 4 (by decide) hinX1 k4 (v := .int (vd 4 0)) rfl dX3_meetContract_121 ?_
        refine lv_iadd hx hb dX3_meetContract_124 ?_
        refine cr_put C hW 0 rfl rfl tyX3 tyX3_ok nmX3 5 (by decide) hinX3 k3 rfl rfl rfl rfl (Nat.le_of_ble_eq_true rfl) (w' := cr_wH ct ah al ak (cr_i vh 5 ((vh 5 0) + (vd 4 0))) q2 q3 ++ cr_wD ct ad vd) rfl dX3_meetContract_125 (fun H locs hW => ?_)
        refine lv_aload_n hx hb dX3_meetContract_128 rfl (lv_at hl 0 rfl) ?_
        refine lv_dup hx hb dX3_meetContract_129 rfl ?_
        refine cr_get C hW.1 0 rfl rfl 6 (by decide) hinX3 k5 (v := .int (vh 6 0)) rfl dX3_meetContract_130 ?_
        refine lv_iconst (v := 1) hx hb dX3_meetContract_133 (by decide) ?_
        refine lv_iadd hx hb dX3_meetContract_134 ?_
        refine cr_put C hW 0 rfl rfl tyX3 tyX3_ok nmX3 6 (by decide) hinX3 k5 rfl rfl rfl rfl (Nat.le_of_ble_eq_true rfl) (w' := cr_wH ct ah al ak (cr_i (cr_i vh 5 ((vh 5 0) + (vd 4 0))) 6 ((vh 6 0) + 1)) q2 q3 ++ cr_wD ct ad vd) rfl dX3_meetContract_135 (fun H locs hW => ?_)
        refine lv_aload_n hx hb dX3_meetContract_138 rfl (lv_at hl 0 rfl) ?_
        refine lv_dup hx hb dX3_meetContract_139 rfl ?_
        refine cr_get C hW.1 0 rfl rfl 8 (by decide) hinX3 k6 (v := .int (vh 8 0)) rfl dX3_meetContract_140 ?_
        refine lv_aload_n hx hb dX3_meetContract_143 rfl (lv_at hl 0 rfl) ?_
        refine cr_get C hW.1 0 rfl rfl 3 (by decide) hinX3 k7 (v := .ref (ah 4)) rfl dX3_meetContract_144 ?_
        refine lv_iconst (v := 0) hx hb dX3_meetContract_147 (by decide) ?_
        refine cr_ald C hW.1 2 (f := vh 3) (k := 0) rfl (by decide) (by decide) dX3_meetContract_148 ?_
        refine lv_iadd hx hb dX3_meetContract_149 ?_
        refine cr_put C hW 0 rfl rfl tyX3 tyX3_ok nmX3 8 (by decide) hinX3 k6 rfl rfl rfl rfl (Nat.le_of_ble_eq_true rfl) (w' := cr_wH ct ah al ak (cr_i (cr_i (cr_i vh 5 ((vh 5 0) + (vd 4 0))) 6 ((vh 6 0) + 1)) 8 ((vh 8 0) + (vh 3 0))) q2 q3 ++ cr_wD ct ad vd) rfl dX3_meetContract_150 (fun H locs hW => ?_)
        refine lv_aload_n hx hb dX3_meetContract_153 rfl (lv_at hl 2 rfl) ?_
        refine cr_get C hW.1 11 rfl rfl 4 (by decide) hinX1 k4 (v := .int (vd 4 0)) rfl dX3_meetContract_154 ?_
        exact cr_retW C (w := (fun u : cr_V × cr_V × cr_V × cr_V => cr_wH ct ah al ak u.1 u.2.1 u.2.2.1 ++ cr_wD ct ad u.2.2.2)) (cr_i (cr_i (cr_i vh 5 ((vh 5 0) + (vd 4 0))) 6 ((vh 6 0) + 1)) 8 ((vh 8 0) + (vh 3 0)), q2, q3, vd) hW (Option.some.inj hE) dX3_meetContract_157
      · rw [if_neg c1] at hE
        refine lv_aload_n hx hb dX3_meetContract_71 rfl (lv_at hl 0 rfl) ?_
        refine cr_get C hW.1 0 rfl rfl 0 (by decide) hinX3 k1 (v := .ref (al 0)) rfl dX3_meetContract_72 ?_
        refine cr_get C hW.1 3 rfl rfl 1 (by decide) hinX4 k8 (v := .ref (al 2)) rfl dX3_meetContract_75 ?_
        refine lv_aload_n hx hb dX3_meetContract_78 rfl (lv_at hl 2 rfl) ?_
        refine cr_get C hW.1 11 rfl rfl 0 (by decide) hinX1 k9 (v := .ref (ad 1)) rfl dX3_meetContract_79 ?_
        refine lv_iload_n hx hb dX3_meetContract_82 rfl (lv_at hl 3 rfl) ?_
        obtain ⟨i4, hE⟩ := cr_ifn hE
        refine cr_ald C hW.1 12 (f := vd 0) (k := cr_x x3) rfl i4 (cr_xe _) dX3_meetContract_83 ?_
        refine lv_dup2_11 hx hb dX3_meetContract_84 rfl rfl ?_
        obtain ⟨i5, hE⟩ := cr_ifn hE
        refine cr_ald C hW.1 5 (f := vl 1) (k := cr_x (vd 0 (cr_x x3))) rfl i5 (cr_xe _) dX3_meetContract_85 ?_
        refine lv_aload_n hx hb dX3_meetContract_86 rfl (lv_at hl 2 rfl) ?_
        refine cr_get C hW.1 11 rfl rfl 1 (by decide) hinX1 k10 (v := .ref (ad 2)) rfl dX3_meetContract_87 ?_
        refine lv_iload_n hx hb dX3_meetContract_90 rfl (lv_at hl 3 rfl) ?_
        refine cr_ald C hW.1 13 (f := vd 1) (k := cr_x x3) rfl i4 (cr_xe _) dX3_meetContract_91 ?_
        refine lv_isub hx hb dX3_meetContract_92 ?_
        refine cr_ast C hW 5 rfl (k := (cr_x (vd 0 (cr_x x3)))) i5 (cr_xe _) (w' := cr_wH ct ah al ak vh (cr_a vl 1 (cr_x (vd 0 (cr_x x3))) ((vl 1 (cr_x (vd 0 (cr_x x3)))) - (vd 1 (cr_x x3)))) vk ++ cr_wD ct ad vd) rfl dX3_meetContract_93 (fun H locs hW => ?_)
        refine lv_iinc (v := x3 + 1) (lv' := [(3, .int (x3 + 1)), (0, .ref (ah 0)), (1, .int x1), (2, .ref (ad 0))]) hx hb dX3_meetContract_94 hl (k := 3) rfl (by first | rfl | decide) (by decide) rfl (fun ls hl => ?_)
        refine lv_goto (tgt := 63) hx hb dX3_meetContract_97 (by decide) ?_
        exact ih vh (cr_a vl 1 (cr_x (vd 0 (cr_x x3))) ((vl 1 (cr_x (vd 0 (cr_x x3)))) - (vd 1 (cr_x x3)))) vk vd x1 (x3 + 1) hE _ _ _ hW (lv_sub hl [1, 2, 3, 0] rfl)
  replace hE : ((f_X0_isOpen vk x1).bind fun q6 => if q6 = 0 then (some ((-2000000001), vh, vl, vk, vd)) else (if cr_in x1 6 = true then if (vk 0 (cr_x x1)) = (vh 4 0) then ((f_X1_plan vd vh vl vk (vk 1 (cr_x x1)) (vh 4 0)).bind fun q10 => if (q10 3 0) ≤ 0 then (f_X3_meetContract_63 10100 vh vl vk q10 x1 0) else (some ((-2000000002), vh, vl, vk, q10))) else (some ((-2000000002), vh, vl, vk, vd)) else none)) = some out := hE
  refine lv_aload_n hx hb dX3_meetContract_0 rfl (lv_at hl 0 rfl) ?_
  refine cr_get C hW.1 0 rfl rfl 1 (by decide) hinX3 k2 (v := .ref (ak 0)) rfl dX3_meetContract_1 ?_
  refine lv_iload_n hx hb dX3_meetContract_4 rfl (lv_at hl 1 rfl) ?_
  obtain ⟨q6, hq6, hE⟩ := cr_bind hE
  refine cr_vRwq (n := 1) (As := [.int x1]) (rest := []) C hW (m_X0_isOpen L D ct ak vk x1 q6 hq6) (cwV 1 hts gX3_meetContract_X0_isOpen rfl rfl rfl (by decide +kernel) ⟨Nat.le_of_ble_eq_true rfl, Nat.le_of_ble_eq_true rfl⟩) [8, 9, 10] rfl 8 rfl rfl rfl hl.1 rfl (Nat.le_of_ble_eq_true rfl) dX3_meetContract_5 ⟨Nat.zero_le _, Nat.zero_le _⟩ (fun H locs hW => ?_)
  refine lv_if_ne (tgt := 14) hx hb dX3_meetContract_8 (by decide) (fun c7 => ?_) (fun c7 => ?_)
  · rw [if_neg c7] at hE
    refine lv_aload_n hx hb dX3_meetContract_14 rfl (lv_at hl 0 rfl) ?_
    refine cr_get C hW.1 0 rfl rfl 1 (by decide) hinX3 k2 (v := .ref (ak 0)) rfl dX3_meetContract_15 ?_
    refine cr_get C hW.1 8 rfl rfl 0 (by decide) hinX0 k11 (v := .ref (ak 1)) rfl dX3_meetContract_18 ?_
    refine lv_iload_n hx hb dX3_meetContract_21 rfl (lv_at hl 1 rfl) ?_
    obtain ⟨i8, hE⟩ := cr_ifn hE
    refine cr_ald C hW.1 9 (f := vk 0) (k := cr_x x1) rfl i8 (cr_xe _) dX3_meetContract_22 ?_
    refine lv_aload_n hx hb dX3_meetContract_23 rfl (lv_at hl 0 rfl) ?_
    refine cr_get C hW.1 0 rfl rfl 4 (by decide) hinX3 k12 (v := .int (vh 4 0)) rfl dX3_meetContract_24 ?_
    refine lv_icmp_eq (tgt := 33) hx hb dX3_meetContract_27 (by decide) (fun c9 => ?_) (fun c9 => ?_)
    · rw [if_pos c9] at hE
      refine lv_aload_n hx hb dX3_meetContract_33 rfl (lv_at hl 2 rfl) ?_
      refine lv_aload_n hx hb dX3_meetContract_34 rfl (lv_at hl 0 rfl) ?_
      refine lv_aload_n hx hb dX3_meetContract_35 rfl (lv_at hl 0 rfl) ?_
      refine cr_get C hW.1 0 rfl rfl 1 (by decide) hinX3 k2 (v := .ref (ak 0)) rfl dX3_meetContract_36 ?_
      refine cr_get C hW.1 8 rfl rfl 1 (by decide) hinX0 k13 (v := .ref (ak 2)) rfl dX3_meetContract_39 ?_
      refine lv_iload_n hx hb dX3_meetContract_42 rfl (lv_at hl 1 rfl) ?_
      refine cr_ald C hW.1 10 (f := vk 1) (k := cr_x x1) rfl i8 (cr_xe _) dX3_meetContract_43 ?_
      refine lv_aload_n hx hb dX3_meetContract_44 rfl (lv_at hl 0 rfl) ?_
      refine cr_get C hW.1 0 rfl rfl 4 (by decide) hinX3 k12 (v := .int (vh 4 0)) rfl dX3_meetContract_45 ?_
      obtain ⟨q10, hq10, hE⟩ := cr_bind hE
      refine cr_vVq (n := 3) (As := [.ref (ah 0), .int (vk 1 (cr_x x1)), .int (vh 4 0)]) (rest := []) C hW (m_X1_plan L D ct ad ah al ak vd vh vl vk (vk 1 (cr_x x1)) (vh 4 0) _ q10 hq10) (cwV 3 hts gX3_meetContract_X1_plan rfl rfl rfl (by decide +kernel) ⟨Nat.le_of_ble_eq_true rfl, Nat.le_of_ble_eq_true rfl⟩) [11, 12, 13, 14, 15, 16, 17, 0, 1, 2, 3, 4, 5, 6, 7, 8, 9, 10] [] [7, 8, 9, 10, 11, 12, 13, 14, 15, 16, 17, 0, 1, 2, 3, 4, 5, 6] (cr_wH ct ah al ak vh vl vk ++ cr_wD ct ad q10) rfl rfl rfl ⟨by decide +kernel, by decide +kernel, by decide +kernel, by decide +kernel⟩ 11 rfl rfl rfl hl.1 rfl (Nat.le_of_ble_eq_true rfl) dX3_meetContract_48 ⟨Nat.zero_le _, Nat.zero_le _⟩ (fun H locs hW => ?_)
      refine lv_aload_n hx hb dX3_meetContract_51 rfl (lv_at hl 2 rfl) ?_
      refine cr_get C hW.1 11 rfl rfl 3 (by decide) hinX1 k14 (v := .int (q10 3 0)) rfl dX3_meetContract_52 ?_
      refine lv_if_le (tgt := 61) hx hb dX3_meetContract_55 (by decide) (fun c11 => ?_) (fun c11 => ?_)
      · rw [if_pos c11] at hE
        refine lv_iconst (v := 0) hx hb dX3_meetContract_61 (by decide) ?_
        refine lv_istore_n (lv' := [(3, .int 0), (0, .ref (ah 0)), (1, .int x1), (2, .ref (ad 0))]) hx hb dX3_meetContract_62 rfl hl (by decide) rfl (fun ls hl => ?_)
        exact n63 10100 vh vl vk q10 x1 0 hE _ _ _ hW (lv_sub hl [1, 2, 3, 0] rfl)
      · rw [if_neg c11] at hE
        refine cr_ldc C k15 dX3_meetContract_58 ?_
        exact cr_retW C (w := (fun u : cr_V × cr_V × cr_V × cr_V => cr_wH ct ah al ak u.1 u.2.1 u.2.2.1 ++ cr_wD ct ad u.2.2.2)) (vh, vl, vk, q10) hW (Option.some.inj hE) dX3_meetContract_60
    · rw [if_neg c9] at hE
      refine cr_ldc C k15 dX3_meetContract_30 ?_
      exact cr_retW C (w := (fun u : cr_V × cr_V × cr_V × cr_V => cr_wH ct ah al ak u.1 u.2.1 u.2.2.1 ++ cr_wD ct ad u.2.2.2)) (vh, vl, vk, vd) hW (Option.some.inj hE) dX3_meetContract_32
  · rw [if_pos c7] at hE
    refine cr_ldc C k16 dX3_meetContract_11 ?_
    exact cr_retW C (w := (fun u : cr_V × cr_V × cr_V × cr_V => cr_wH ct ah al ak u.1 u.2.1 u.2.2.1 ++ cr_wD ct ad u.2.2.2)) (vh, vl, vk, vd) hW (Option.some.inj hE) dX3_meetContract_13

set_option maxHeartbeats 4000000 in
set_option maxRecDepth 100000 in
theorem m_X3_passMonths (L : Launch) (D : va_G) (ct : Nat → ClassId) (ah : Nat → Nat) (al : Nat → Nat) (ak : Nat → Nat) (vh : cr_V) (vl : cr_V) (vk : cr_V) (x1 : Int32) (sz : Nat) (out : Int32 × cr_V × cr_V) (hE : f_X3_passMonths vh vl vk x1 = some out) : Met L yX3_passMonths wsX3_passMonths ({ frames := 1, cells := 0, slots := 0, locals := 23 } : Room) (cr_pW D ct (cr_wH ct ah al ak vh vl vk) sz [.ref (ah 0), .int x1]) (cr_QW D (cr_wH ct ah al ak vh vl vk) sz (fun r (u : cr_V × cr_V) => (r, u) = out) (fun u : cr_V × cr_V => cr_wH ct ah al ak u.1 vl u.2)) 0 0 (va_A (cr_wH ct ah al ak vh vl vk) sz) := by
  have k0 : (Cond.initialized RX6) ∈ wsX3_passMonths := List.mem_of_getElem? (i := 9) rfl
  have k1 : (Cond.static yX6_isWithin) ∈ wsX3_passMonths := List.mem_of_getElem? (i := 8) rfl
  have k2 : (Cond.fieldLink RX3 50 "CupReceipts$House" "month" "I") ∈ wsX3_passMonths := List.mem_of_getElem? (i := 2) rfl
  have k3 : (Cond.fieldLink RX3 21 "CupReceipts$House" "contracts" "LCupReceipts$Contracts;") ∈ wsX3_passMonths := List.mem_of_getElem? (i := 4) rfl
  have k4 : (Cond.fieldLink RX3 60 "CupReceipts$House" "contractsFailed" "I") ∈ wsX3_passMonths := List.mem_of_getElem? (i := 5) rfl
  have k5 : (Cond.fieldLink RX3 54 "CupReceipts$House" "account" "I") ∈ wsX3_passMonths := List.mem_of_getElem? (i := 6) rfl
  have k6 : (Cond.fieldLink RX3 40 "CupReceipts$House" "settings" "[I") ∈ wsX3_passMonths := List.mem_of_getElem? (i := 7) rfl
  have k7 : (Cond.constant RX3 87 (-2000000003)) ∈ wsX3_passMonths := List.mem_of_getElem? (i := 3) rfl
  have k8 : (Cond.constant RX3 70 (-2000000001)) ∈ wsX3_passMonths := List.mem_of_getElem? (i := 1) rfl
  have hinX3 : ∀ w ∈ wsX30, w ∈ wsX3_passMonths := fun w h => List.mem_cons_of_mem _ (List.mem_append_left _ (List.mem_append_right _ h))
  refine cr_metW (Qc := fun A => va_Qi (fun r (u : cr_V × cr_V) => (r, u) = out) (fun u t => cr_at D A ((fun u : cr_V × cr_V => cr_wH ct ah al ak u.1 vl u.2) u) t) A) (by decide) rfl rfl (Nat.le_of_ble_eq_true rfl) ?_
  intro p e s m args below meth c ls A C hW hl
  obtain ⟨hx, hb, hml, hown, hts, hr, hlocks, hK, hN⟩ := id C
  have hl : lv_has ls 3 [(0, .ref (ah 0)), (1, .int x1)] := hl
  replace hE : ((f_X6_isWithin x1 1 24).bind fun q1 => if q1 = 0 then (some ((-2000000001), vh, vk)) else (if ((vh 4 0) + x1) ≤ 999 then ((f_X0_dropBefore vk ((vh 4 0) + x1)).bind fun q4 => some (q4.1, cr_i (cr_i (cr_i vh 4 ((vh 4 0) + x1)) 7 ((vh 7 0) + q4.1)) 5 ((vh 5 0) - ((q4.1 * (vh 3 0)) * (vh 3 4))), q4.2)) else (some ((-2000000003), vh, vk)))) = some out := hE
  refine lv_iload_n hx hb dX3_passMonths_0 rfl (lv_at hl 1 rfl) ?_
  refine lv_iconst (v := 1) hx hb dX3_passMonths_1 (by decide) ?_
  refine lv_bipush (v := 24) hx hb dX3_passMonths_2 (by decide) ?_
  obtain ⟨q1, hq1, hE⟩ := cr_bind hE
  refine cr_nRwq (n := 3) (As := [.int x1, .int 1, .int 24]) (rest := []) C hW (m_X6_isWithin L D ct x1 1 24 q1 hq1) ⟨va_cnB 3 hts gX3_passMonths_X6_isWithin_n66 rfl rfl rfl hN.2.2.1 (hts _ k0) (by decide +kernel) ⟨Nat.le_of_ble_eq_true rfl, Nat.le_of_ble_eq_true rfl⟩, hts _ k1, trivial⟩ rfl hl.1 rfl (Nat.le_of_ble_eq_true rfl) dX3_passMonths_4 ⟨Nat.zero_le _, Nat.zero_le _⟩ (fun H locs hW => ?_)
  refine lv_if_ne (tgt := 13) hx hb dX3_passMonths_7 (by decide) (fun c2 => ?_) (fun c2 => ?_)
  · rw [if_neg c2] at hE
    refine lv_aload_n hx hb dX3_passMonths_13 rfl (lv_at hl 0 rfl) ?_
    refine cr_get C hW.1 0 rfl rfl 4 (by decide) hinX3 k2 (v := .int (vh 4 0)) rfl dX3_passMonths_14 ?_
    refine lv_iload_n hx hb dX3_passMonths_17 rfl (lv_at hl 1 rfl) ?_
    refine lv_iadd hx hb dX3_passMonths_18 ?_
    refine lv_sipush (v := 999) hx hb dX3_passMonths_19 (by decide) ?_
    refine lv_icmp_le (tgt := 28) hx hb dX3_passMonths_22 (by decide) (fun c3 => ?_) (fun c3 => ?_)
    · rw [if_pos c3] at hE
      refine lv_aload_n hx hb dX3_passMonths_28 rfl (lv_at hl 0 rfl) ?_
      refine lv_dup hx hb dX3_passMonths_29 rfl ?_
      refine cr_get C hW.1 0 rfl rfl 4 (by decide) hinX3 k2 (v := .int (vh 4 0)) rfl dX3_passMonths_30 ?_
      refine lv_iload_n hx hb dX3_passMonths_33 rfl (lv_at hl 1 rfl) ?_
      refine lv_iadd hx hb dX3_passMonths_34 ?_
      refine cr_put C hW 0 rfl rfl tyX3 tyX3_ok nmX3 4 (by decide) hinX3 k2 rfl rfl rfl rfl (Nat.le_of_ble_eq_true rfl) (w' := cr_wH ct ah al ak (cr_i vh 4 ((vh 4 0) + x1)) vl vk) rfl dX3_passMonths_35 (fun H locs hW => ?_)
      refine lv_aload_n hx hb dX3_passMonths_38 rfl (lv_at hl 0 rfl) ?_
      refine cr_get C hW.1 0 rfl rfl 1 (by decide) hinX3 k3 (v := .ref (ak 0)) rfl dX3_passMonths_39 ?_
      refine lv_aload_n hx hb dX3_passMonths_42 rfl (lv_at hl 0 rfl) ?_
      refine cr_get C hW.1 0 rfl rfl 4 (by decide) hinX3 k2 (v := .int ((vh 4 0) + x1)) rfl dX3_passMonths_43 ?_
      obtain ⟨q4, hq4, hE⟩ := cr_bind hE
      refine cr_vWq (n := 1) (As := [.int ((vh 4 0) + x1)]) (rest := []) C hW (m_X0_dropBefore L D ct ak vk ((vh 4 0) + x1) _ q4 hq4) (cwV 1 hts gX3_passMonths_X0_dropBefore rfl rfl rfl (by decide +kernel) ⟨Nat.le_of_ble_eq_true rfl, Nat.le_of_ble_eq_true rfl⟩) [8, 9, 10] [0, 1, 2, 3, 4, 5, 6, 7] [0, 1, 2, 3, 4, 5, 6, 7, 8, 9, 10] (cr_wH ct ah al ak (cr_i vh 4 ((vh 4 0) + x1)) vl q4.2) rfl rfl rfl ⟨by decide +kernel, by decide +kernel, by decide +kernel, by decide +kernel⟩ 8 rfl rfl rfl hl.1 rfl (Nat.le_of_ble_eq_true rfl) dX3_passMonths_46 ⟨Nat.zero_le _, Nat.zero_le _⟩ (fun H locs hW => ?_)
      refine lv_istore_n (lv' := [(2, .int q4.1), (0, .ref (ah 0)), (1, .int x1)]) hx hb dX3_passMonths_49 rfl hl (by decide) rfl (fun ls hl => ?_)
      refine lv_aload_n hx hb dX3_passMonths_50 rfl (lv_at hl 1 rfl) ?_
      refine lv_dup hx hb dX3_passMonths_51 rfl ?_
      refine cr_get C hW.1 0 rfl rfl 7 (by decide) hinX3 k4 (v := .int (vh 7 0)) rfl dX3_passMonths_52 ?_
      refine lv_iload_n hx hb dX3_passMonths_55 rfl (lv_at hl 0 rfl) ?_
      refine lv_iadd hx hb dX3_passMonths_56 ?_
      refine cr_put C hW 0 rfl rfl tyX3 tyX3_ok nmX3 7 (by decide) hinX3 k4 rfl rfl rfl rfl (Nat.le_of_ble_eq_true rfl) (w' := cr_wH ct ah al ak (cr_i (cr_i vh 4 ((vh 4 0) + x1)) 7 ((vh 7 0) + q4.1)) vl q4.2) rfl dX3_passMonths_57 (fun H locs hW => ?_)
      refine lv_aload_n hx hb dX3_passMonths_60 rfl (lv_at hl 1 rfl) ?_
      refine lv_dup hx hb dX3_passMonths_61 rfl ?_
      refine cr_get C hW.1 0 rfl rfl 5 (by decide) hinX3 k5 (v := .int (vh 5 0)) rfl dX3_passMonths_62 ?_
      refine lv_iload_n hx hb dX3_passMonths_65 rfl (lv_at hl 0 rfl) ?_
      refine lv_aload_n hx hb dX3_passMonths_66 rfl (lv_at hl 1 rfl) ?_
      refine cr_get C hW.1 0 rfl rfl 3 (by decide) hinX3 k6 (v := .ref (ah 4)) rfl dX3_passMonths_67 ?_
      refine lv_iconst (v := 0) hx hb dX3_passMonths_70 (by decide) ?_
      refine cr_ald C hW.1 2 (f := vh 3) (k := 0) rfl (by decide) (by decide) dX3_passMonths_71 ?_
      refine lv_imul hx hb dX3_passMonths_72 ?_
      refine lv_aload_n hx hb dX3_passMonths_73 rfl (lv_at hl 1 rfl) ?_
      refine cr_get C hW.1 0 rfl rfl 3 (by decide) hinX3 k6 (v := .ref (ah 4)) rfl dX3_passMonths_74 ?_
      refine lv_iconst (v := 4) hx hb dX3_passMonths_77 (by decide) ?_
      refine cr_ald C hW.1 2 (f := vh 3) (k := 4) rfl (by decide) (by decide) dX3_passMonths_78 ?_
      refine lv_imul hx hb dX3_passMonths_79 ?_
      refine lv_isub hx hb dX3_passMonths_80 ?_
      refine cr_put C hW 0 rfl rfl tyX3 tyX3_ok nmX3 5 (by decide) hinX3 k5 rfl rfl rfl rfl (Nat.le_of_ble_eq_true rfl) (w' := cr_wH ct ah al ak (cr_i (cr_i (cr_i vh 4 ((vh 4 0) + x1)) 7 ((vh 7 0) + q4.1)) 5 ((vh 5 0) - ((q4.1 * (vh 3 0)) * (vh 3 4)))) vl q4.2) rfl dX3_passMonths_81 (fun H locs hW => ?_)
      refine lv_iload_n hx hb dX3_passMonths_84 rfl (lv_at hl 0 rfl) ?_
      exact cr_retW C (w := (fun u : cr_V × cr_V => cr_wH ct ah al ak u.1 vl u.2)) (cr_i (cr_i (cr_i vh 4 ((vh 4 0) + x1)) 7 ((vh 7 0) + q4.1)) 5 ((vh 5 0) - ((q4.1 * (vh 3 0)) * (vh 3 4))), q4.2) hW (Option.some.inj hE) dX3_passMonths_85
    · rw [if_neg c3] at hE
      refine cr_ldc C k7 dX3_passMonths_25 ?_
      exact cr_retW C (w := (fun u : cr_V × cr_V => cr_wH ct ah al ak u.1 vl u.2)) (vh, vk) hW (Option.some.inj hE) dX3_passMonths_27
  · rw [if_pos c2] at hE
    refine cr_ldc C k8 dX3_passMonths_10 ?_
    exact cr_retW C (w := (fun u : cr_V × cr_V => cr_wH ct ah al ak u.1 vl u.2)) (vh, vk) hW (Option.some.inj hE) dX3_passMonths_12

set_option maxHeartbeats 4000000 in
set_option maxRecDepth 100000 in
theorem m_X3_tellOfLot (L : Launch) (D : va_G) (ct : Nat → ClassId) (ah : Nat → Nat) (al : Nat → Nat) (ak : Nat → Nat) (vh : cr_V) (vl : cr_V) (vk : cr_V) (x1 : Int32) (x2 : Int32) (out : Int32) (hE : f_X3_tellOfLot vh vl vk x1 x2 = some out) : Met L yX3_tellOfLot wsX3_tellOfLot ({ frames := 1, cells := 0, slots := 0, locals := 23 } : Room) (cr_pR D ct (cr_wH ct ah al ak vh vl vk) [.ref (ah 0), .int x1, .int x2]) (cr_QR (fun r => r = out)) 0 0 cr_no := by
  have k0 : (Cond.fieldLink RX3 12 "CupReceipts$House" "lots" "LCupReceipts$Lots;") ∈ wsX3_tellOfLot := List.mem_of_getElem? (i := 1) rfl
  have k1 : (Cond.fieldLink RX3 79 "CupReceipts$Lots" "bags" "[I") ∈ wsX3_tellOfLot := List.mem_of_getElem? (i := 2) rfl
  have k2 : (Cond.fieldLink RX3 88 "CupReceipts$Lots" "cups" "[I") ∈ wsX3_tellOfLot := List.mem_of_getElem? (i := 3) rfl
  have k3 : (Cond.fieldLink RX3 91 "CupReceipts$Lots" "months" "[I") ∈ wsX3_tellOfLot := List.mem_of_getElem? (i := 4) rfl
  have k4 : (Cond.fieldLink RX3 50 "CupReceipts$House" "month" "I") ∈ wsX3_tellOfLot := List.mem_of_getElem? (i := 5) rfl
  have k5 : (Cond.fieldLink RX3 34 "CupReceipts$House" "worths" "[I") ∈ wsX3_tellOfLot := List.mem_of_getElem? (i := 6) rfl
  have k6 : (Cond.initialized RX6) ∈ wsX3_tellOfLot := List.mem_of_getElem? (i := 16) rfl
  have k7 : (Cond.static yX6_bandOf) ∈ wsX3_tellOfLot := List.mem_of_getElem? (i := 15) rfl
  have k8 : (Cond.constant RX3 70 (-2000000001)) ∈ wsX3_tellOfLot := List.mem_of_getElem? (i := 7) rfl
  have hinX3 : ∀ w ∈ wsX30, w ∈ wsX3_tellOfLot := fun w h => List.mem_cons_of_mem _ (List.mem_append_left _ (List.mem_append_right _ h))
  have hinX4 : ∀ w ∈ wsX40, w ∈ wsX3_tellOfLot := fun w h => List.mem_cons_of_mem _ (List.mem_append_right _ h)
  refine cr_metR (by decide) rfl rfl (Nat.le_of_ble_eq_true rfl) ?_
  intro p e s m args below meth c ls C hP hS hl
  obtain ⟨hx, hb, hml, hown, hts, hr, hlocks, hK, hN⟩ := id C
  have hl : lv_has ls 3 [(0, .ref (ah 0)), (1, .int x1), (2, .int x2)] := hl
  replace hE : (if x2 = 0 then (if cr_in x1 12 = true then some (vl 1 (cr_x x1)) else none) else (if x2 = 1 then (if cr_in x1 12 = true then some (vl 2 (cr_x x1)) else none) else (if x2 = 2 then (if cr_in x1 12 = true then some (vl 3 (cr_x x1)) else none) else (if x2 = 3 then ((f_X4_cupAt vl x1 (vh 4 0)).bind fun q8 => some q8) else (if x2 = 4 then ((f_X4_cupAt vl x1 (vh 4 0)).bind fun q10 => (f_X6_bandOf q10).bind fun q11 => if cr_in q11 4 = true then some (vh 2 (cr_x q11)) else none) else (if x2 = 5 then ((f_X4_monthsTooOld vl x1 (vh 4 0)).bind fun q14 => some q14) else (if x2 = 6 then ((f_X4_cupAt vl x1 (vh 4 0)).bind fun q16 => (f_X6_bandOf q16).bind fun q17 => some q17) else (some (-2000000001))))))))) = some out := hE
  refine lv_iload_n hx hb dX3_tellOfLot_0 rfl (lv_at hl 2 rfl) ?_
  by_cases c1 : x2 = 0
  · rw [if_pos c1] at hE
    refine lv_tableIn (tgt := 44) (off := 43) hx hb dX3_tellOfLot_1 (by rw [c1]; decide) (by rw [c1]; decide) (by rw [c1]; rfl) (by decide) ?_
    refine lv_aload_n hx hb dX3_tellOfLot_44 rfl (lv_at hl 0 rfl) ?_
    refine cr_get C hP 0 rfl rfl 0 (by decide) hinX3 k0 (v := .ref (al 0)) rfl dX3_tellOfLot_45 ?_
    refine cr_get C hP 3 rfl rfl 1 (by decide) hinX4 k1 (v := .ref (al 2)) rfl dX3_tellOfLot_48 ?_
    refine lv_iload_n hx hb dX3_tellOfLot_51 rfl (lv_at hl 1 rfl) ?_
    obtain ⟨i2, hE⟩ := cr_ifn hE
    refine cr_ald C hP 5 (f := vl 1) (k := cr_x x1) rfl i2 (cr_xe _) dX3_tellOfLot_52 ?_
    exact cr_retR C hS (Option.some.inj hE) dX3_tellOfLot_53
  · rw [if_neg c1] at hE
    by_cases c3 : x2 = 1
    · rw [if_pos c3] at hE
      refine lv_tableIn (tgt := 54) (off := 53) hx hb dX3_tellOfLot_1 (by rw [c3]; decide) (by rw [c3]; decide) (by rw [c3]; rfl) (by decide) ?_
      refine lv_aload_n hx hb dX3_tellOfLot_54 rfl (lv_at hl 0 rfl) ?_
      refine cr_get C hP 0 rfl rfl 0 (by decide) hinX3 k0 (v := .ref (al 0)) rfl dX3_tellOfLot_55 ?_
      refine cr_get C hP 3 rfl rfl 2 (by decide) hinX4 k2 (v := .ref (al 3)) rfl dX3_tellOfLot_58 ?_
      refine lv_iload_n hx hb dX3_tellOfLot_61 rfl (lv_at hl 1 rfl) ?_
      obtain ⟨i4, hE⟩ := cr_ifn hE
      refine cr_ald C hP 6 (f := vl 2) (k := cr_x x1) rfl i4 (cr_xe _) dX3_tellOfLot_62 ?_
      exact cr_retR C hS (Option.some.inj hE) dX3_tellOfLot_63
    · rw [if_neg c3] at hE
      by_cases c5 : x2 = 2
      · rw [if_pos c5] at hE
        refine lv_tableIn (tgt := 64) (off := 63) hx hb dX3_tellOfLot_1 (by rw [c5]; decide) (by rw [c5]; decide) (by rw [c5]; rfl) (by decide) ?_
        refine lv_aload_n hx hb dX3_tellOfLot_64 rfl (lv_at hl 0 rfl) ?_
        refine cr_get C hP 0 rfl rfl 0 (by decide) hinX3 k0 (v := .ref (al 0)) rfl dX3_tellOfLot_65 ?_
        refine cr_get C hP 3 rfl rfl 3 (by decide) hinX4 k3 (v := .ref (al 4)) rfl dX3_tellOfLot_68 ?_
        refine lv_iload_n hx hb dX3_tellOfLot_71 rfl (lv_at hl 1 rfl) ?_
        obtain ⟨i6, hE⟩ := cr_ifn hE
        refine cr_ald C hP 7 (f := vl 3) (k := cr_x x1) rfl i6 (cr_xe _) dX3_tellOfLot_72 ?_
        exact cr_retR C hS (Option.some.inj hE) dX3_tellOfLot_73
      · rw [if_neg c5] at hE
        by_cases c7 : x2 = 3
        · rw [if_pos c7] at hE
          refine lv_tableIn (tgt := 74) (off := 73) hx hb dX3_tellOfLot_1 (by rw [c7]; decide) (by rw [c7]; decide) (by rw [c7]; rfl) (by decide) ?_
          refine lv_aload_n hx hb dX3_tellOfLot_74 rfl (lv_at hl 0 rfl) ?_
          refine cr_get C hP 0 rfl rfl 0 (by decide) hinX3 k0 (v := .ref (al 0)) rfl dX3_tellOfLot_75 ?_
          refine lv_iload_n hx hb dX3_tellOfLot_78 rfl (lv_at hl 1 rfl) ?_
          refine lv_aload_n hx hb dX3_tellOfLot_79 rfl (lv_at hl 0 rfl) ?_
          refine cr_get C hP 0 rfl rfl 4 (by decide) hinX3 k4 (v := .int (vh 4 0)) rfl dX3_tellOfLot_80 ?_
          obtain ⟨q8, hq8, hE⟩ := cr_bind hE
          refine cr_vRq (n := 2) (As := [.int x1, .int (vh 4 0)]) (rest := []) C hP hS (m_X4_cupAt L D ct al vl x1 (vh 4 0) q8 hq8) (cwV 2 hts gX3_tellOfLot_X4_cupAt rfl rfl rfl (by decide +kernel) ⟨Nat.le_of_ble_eq_true rfl, Nat.le_of_ble_eq_true rfl⟩) [3, 4, 5, 6, 7] rfl 3 rfl rfl rfl hl.1 rfl (Nat.le_of_ble_eq_true rfl) dX3_tellOfLot_83 ⟨Nat.zero_le _, Nat.zero_le _⟩ (fun H locs hP hS => ?_)
          exact cr_retR C hS (Option.some.inj hE) dX3_tellOfLot_86
        · rw [if_neg c7] at hE
          by_cases c9 : x2 = 4
          · rw [if_pos c9] at hE
            refine lv_tableIn (tgt := 87) (off := 86) hx hb dX3_tellOfLot_1 (by rw [c9]; decide) (by rw [c9]; decide) (by rw [c9]; rfl) (by decide) ?_
            refine lv_aload_n hx hb dX3_tellOfLot_87 rfl (lv_at hl 0 rfl) ?_
            refine cr_get C hP 0 rfl rfl 2 (by decide) hinX3 k5 (v := .ref (ah 3)) rfl dX3_tellOfLot_88 ?_
            refine lv_aload_n hx hb dX3_tellOfLot_91 rfl (lv_at hl 0 rfl) ?_
            refine cr_get C hP 0 rfl rfl 0 (by decide) hinX3 k0 (v := .ref (al 0)) rfl dX3_tellOfLot_92 ?_
            refine lv_iload_n hx hb dX3_tellOfLot_95 rfl (lv_at hl 1 rfl) ?_
            refine lv_aload_n hx hb dX3_tellOfLot_96 rfl (lv_at hl 0 rfl) ?_
            refine cr_get C hP 0 rfl rfl 4 (by decide) hinX3 k4 (v := .int (vh 4 0)) rfl dX3_tellOfLot_97 ?_
            obtain ⟨q10, hq10, hE⟩ := cr_bind hE
            refine cr_vRq (n := 2) (As := [.int x1, .int (vh 4 0)]) (rest := [.ref (ah 3)]) C hP hS (m_X4_cupAt L D ct al vl x1 (vh 4 0) q10 hq10) (cwV 2 hts gX3_tellOfLot_X4_cupAt rfl rfl rfl (by decide +kernel) ⟨Nat.le_of_ble_eq_true rfl, Nat.le_of_ble_eq_true rfl⟩) [3, 4, 5, 6, 7] rfl 3 rfl rfl rfl hl.1 rfl (Nat.le_of_ble_eq_true rfl) dX3_tellOfLot_100 ⟨Nat.zero_le _, Nat.zero_le _⟩ (fun H locs hP hS => ?_)
            obtain ⟨q11, hq11, hE⟩ := cr_bind hE
            refine cr_nRq (n := 1) (As := [.int q10]) (rest := [.ref (ah 3)]) C hP hS (m_X6_bandOf L D ct q10 q11 hq11) ⟨va_cnB 1 hts gX3_tellOfLot_X6_bandOf_n154 rfl rfl rfl hN.2.1 (hts _ k6) (by decide +kernel) ⟨Nat.le_of_ble_eq_true rfl, Nat.le_of_ble_eq_true rfl⟩, hts _ k7, trivial⟩ rfl hl.1 rfl (Nat.le_of_ble_eq_true rfl) dX3_tellOfLot_103 ⟨Nat.zero_le _, Nat.zero_le _⟩ (fun H locs hP hS => ?_)
            obtain ⟨i12, hE⟩ := cr_ifn hE
            refine cr_ald C hP 1 (f := vh 2) (k := cr_x q11) rfl i12 (cr_xe _) dX3_tellOfLot_106 ?_
            exact cr_retR C hS (Option.some.inj hE) dX3_tellOfLot_107
          · rw [if_neg c9] at hE
            by_cases c13 : x2 = 5
            · rw [if_pos c13] at hE
              refine lv_tableIn (tgt := 108) (off := 107) hx hb dX3_tellOfLot_1 (by rw [c13]; decide) (by rw [c13]; decide) (by rw [c13]; rfl) (by decide) ?_
              refine lv_aload_n hx hb dX3_tellOfLot_108 rfl (lv_at hl 0 rfl) ?_
              refine cr_get C hP 0 rfl rfl 0 (by decide) hinX3 k0 (v := .ref (al 0)) rfl dX3_tellOfLot_109 ?_
              refine lv_iload_n hx hb dX3_tellOfLot_112 rfl (lv_at hl 1 rfl) ?_
              refine lv_aload_n hx hb dX3_tellOfLot_113 rfl (lv_at hl 0 rfl) ?_
              refine cr_get C hP 0 rfl rfl 4 (by decide) hinX3 k4 (v := .int (vh 4 0)) rfl dX3_tellOfLot_114 ?_
              obtain ⟨q14, hq14, hE⟩ := cr_bind hE
              refine cr_vRq (n := 2) (As := [.int x1, .int (vh 4 0)]) (rest := []) C hP hS (m_X4_monthsTooOld L D ct al vl x1 (vh 4 0) q14 hq14) (cwV 2 hts gX3_tellOfLot_X4_monthsTooOld rfl rfl rfl (by decide +kernel) ⟨Nat.le_of_ble_eq_true rfl, Nat.le_of_ble_eq_true rfl⟩) [3, 4, 5, 6, 7] rfl 3 rfl rfl rfl hl.1 rfl (Nat.le_of_ble_eq_true rfl) dX3_tellOfLot_117 ⟨Nat.zero_le _, Nat.zero_le _⟩ (fun H locs hP hS => ?_)
              exact cr_retR C hS (Option.some.inj hE) dX3_tellOfLot_120
            · rw [if_neg c13] at hE
              by_cases c15 : x2 = 6
              · rw [if_pos c15] at hE
                refine lv_tableIn (tgt := 121) (off := 120) hx hb dX3_tellOfLot_1 (by rw [c15]; decide) (by rw [c15]; decide) (by rw [c15]; rfl) (by decide) ?_
                refine lv_aload_n hx hb dX3_tellOfLot_121 rfl (lv_at hl 0 rfl) ?_
                refine cr_get C hP 0 rfl rfl 0 (by decide) hinX3 k0 (v := .ref (al 0)) rfl dX3_tellOfLot_122 ?_
                refine lv_iload_n hx hb dX3_tellOfLot_125 rfl (lv_at hl 1 rfl) ?_
                refine lv_aload_n hx hb dX3_tellOfLot_126 rfl (lv_at hl 0 rfl) ?_
                refine cr_get C hP 0 rfl rfl 4 (by decide) hinX3 k4 (v := .int (vh 4 0)) rfl dX3_tellOfLot_127 ?_
                obtain ⟨q16, hq16, hE⟩ := cr_bind hE
                refine cr_vRq (n := 2) (As := [.int x1, .int (vh 4 0)]) (rest := []) C hP hS (m_X4_cupAt L D ct al vl x1 (vh 4 0) q16 hq16) (cwV 2 hts gX3_tellOfLot_X4_cupAt rfl rfl rfl (by decide +kernel) ⟨Nat.le_of_ble_eq_true rfl, Nat.le_of_ble_eq_true rfl⟩) [3, 4, 5, 6, 7] rfl 3 rfl rfl rfl hl.1 rfl (Nat.le_of_ble_eq_true rfl) dX3_tellOfLot_130 ⟨Nat.zero_le _, Nat.zero_le _⟩ (fun H locs hP hS => ?_)
                obtain ⟨q17, hq17, hE⟩ := cr_bind hE
                refine cr_nRq (n := 1) (As := [.int q16]) (rest := []) C hP hS (m_X6_bandOf L D ct q16 q17 hq17) ⟨va_cnB 1 hts gX3_tellOfLot_X6_bandOf_n154 rfl rfl rfl hN.2.1 (hts _ k6) (by decide +kernel) ⟨Nat.le_of_ble_eq_true rfl, Nat.le_of_ble_eq_true rfl⟩, hts _ k7, trivial⟩ rfl hl.1 rfl (Nat.le_of_ble_eq_true rfl) dX3_tellOfLot_133 ⟨Nat.zero_le _, Nat.zero_le _⟩ (fun H locs hP hS => ?_)
                exact cr_retR C hS (Option.some.inj hE) dX3_tellOfLot_136
              · rw [if_neg c15] at hE
                refine lv_tableOut (tgt := 137) hx hb dX3_tellOfLot_1 (by have e0 := cr_ne (n := 0) (by decide) c1; have e1 := cr_ne (n := 1) (by decide) c3; have e2 := cr_ne (n := 2) (by decide) c5; have e3 := cr_ne (n := 3) (by decide) c7; have e4 := cr_ne (n := 4) (by decide) c9; have e5 := cr_ne (n := 5) (by decide) c13; have e6 := cr_ne (n := 6) (by decide) c15; omega) (by decide) ?_
                refine cr_ldc C k8 dX3_tellOfLot_137 ?_
                exact cr_retR C hS (Option.some.inj hE) dX3_tellOfLot_139

set_option maxHeartbeats 4000000 in
set_option maxRecDepth 100000 in
theorem m_X3_tellCount (L : Launch) (D : va_G) (ct : Nat → ClassId) (ah : Nat → Nat) (al : Nat → Nat) (ak : Nat → Nat) (vh : cr_V) (vl : cr_V) (vk : cr_V) (x1 : Int32) (out : Int32) (hE : f_X3_tellCount vh vl vk x1 = some out) : Met L yX3_tellCount wsX3_tellCount ({ frames := 2, cells := 0, slots := 0, locals := 46 } : Room) (cr_pR D ct (cr_wH ct ah al ak vh vl vk) [.ref (ah 0), .int x1]) (cr_QR (fun r => r = out)) 0 0 cr_no := by
  have k0 : (Cond.fieldLink RX3 12 "CupReceipts$House" "lots" "LCupReceipts$Lots;") ∈ wsX3_tellCount := List.mem_of_getElem? (i := 1) rfl
  have k1 : (Cond.fieldLink RX3 160 "CupReceipts$Lots" "size" "I") ∈ wsX3_tellCount := List.mem_of_getElem? (i := 2) rfl
  have k2 : (Cond.fieldLink RX3 50 "CupReceipts$House" "month" "I") ∈ wsX3_tellCount := List.mem_of_getElem? (i := 3) rfl
  have k3 : (Cond.fieldLink RX3 21 "CupReceipts$House" "contracts" "LCupReceipts$Contracts;") ∈ wsX3_tellCount := List.mem_of_getElem? (i := 4) rfl
  have k4 : (Cond.fieldLink RX3 146 "CupReceipts$Contracts" "size" "I") ∈ wsX3_tellCount := List.mem_of_getElem? (i := 5) rfl
  have k5 : (Cond.fieldLink RX3 54 "CupReceipts$House" "account" "I") ∈ wsX3_tellCount := List.mem_of_getElem? (i := 6) rfl
  have k6 : (Cond.fieldLink RX3 57 "CupReceipts$House" "contractsMet" "I") ∈ wsX3_tellCount := List.mem_of_getElem? (i := 7) rfl
  have k7 : (Cond.fieldLink RX3 60 "CupReceipts$House" "contractsFailed" "I") ∈ wsX3_tellCount := List.mem_of_getElem? (i := 8) rfl
  have k8 : (Cond.fieldLink RX3 63 "CupReceipts$House" "bagsGiven" "I") ∈ wsX3_tellCount := List.mem_of_getElem? (i := 9) rfl
  have k9 : (Cond.fieldLink RX3 168 "CupReceipts$Lots" "made" "I") ∈ wsX3_tellCount := List.mem_of_getElem? (i := 10) rfl
  have k10 : (Cond.constant RX3 70 (-2000000001)) ∈ wsX3_tellCount := List.mem_of_getElem? (i := 11) rfl
  have hinX0 : ∀ w ∈ wsX00, w ∈ wsX3_tellCount := fun w h => List.mem_cons_of_mem _ (List.mem_append_right _ h)
  have hinX3 : ∀ w ∈ wsX30, w ∈ wsX3_tellCount := fun w h => List.mem_cons_of_mem _ (List.mem_append_left _ (List.mem_append_left _ (List.mem_append_right _ h)))
  have hinX4 : ∀ w ∈ wsX40, w ∈ wsX3_tellCount := fun w h => List.mem_cons_of_mem _ (List.mem_append_left _ (List.mem_append_right _ h))
  refine cr_metR (by decide) rfl rfl (Nat.le_of_ble_eq_true rfl) ?_
  intro p e s m args below meth c ls C hP hS hl
  obtain ⟨hx, hb, hml, hown, hts, hr, hlocks, hK, hN⟩ := id C
  have hl : lv_has ls 2 [(0, .ref (ah 0)), (1, .int x1)] := hl
  replace hE : (if x1 = 0 then (some (vl 4 0)) else (if x1 = 1 then ((f_X4_allBags vl).bind fun q3 => some q3) else (if x1 = 2 then (some (vh 4 0)) else (if x1 = 3 then (some (vk 2 0)) else (if x1 = 4 then (some (vh 5 0)) else (if x1 = 5 then (some (vh 6 0)) else (if x1 = 6 then (some (vh 7 0)) else (if x1 = 7 then (some (vh 8 0)) else (if x1 = 8 then ((f_X4_bagsToGive vl (vh 4 0)).bind fun q11 => some q11) else (if x1 = 9 then (some (vl 5 0)) else (some (-2000000001)))))))))))) = some out := hE
  refine lv_iload_n hx hb dX3_tellCount_0 rfl (lv_at hl 1 rfl) ?_
  by_cases c1 : x1 = 0
  · rw [if_pos c1] at hE
    refine lv_tableIn (tgt := 56) (off := 55) hx hb dX3_tellCount_1 (by rw [c1]; decide) (by rw [c1]; decide) (by rw [c1]; rfl) (by decide) ?_
    refine lv_aload_n hx hb dX3_tellCount_56 rfl (lv_at hl 0 rfl) ?_
    refine cr_get C hP 0 rfl rfl 0 (by decide) hinX3 k0 (v := .ref (al 0)) rfl dX3_tellCount_57 ?_
    refine cr_get C hP 3 rfl rfl 4 (by decide) hinX4 k1 (v := .int (vl 4 0)) rfl dX3_tellCount_60 ?_
    exact cr_retR C hS (Option.some.inj hE) dX3_tellCount_63
  · rw [if_neg c1] at hE
    by_cases c2 : x1 = 1
    · rw [if_pos c2] at hE
      refine lv_tableIn (tgt := 64) (off := 63) hx hb dX3_tellCount_1 (by rw [c2]; decide) (by rw [c2]; decide) (by rw [c2]; rfl) (by decide) ?_
      refine lv_aload_n hx hb dX3_tellCount_64 rfl (lv_at hl 0 rfl) ?_
      refine cr_get C hP 0 rfl rfl 0 (by decide) hinX3 k0 (v := .ref (al 0)) rfl dX3_tellCount_65 ?_
      obtain ⟨q3, hq3, hE⟩ := cr_bind hE
      refine cr_vRq (n := 0) (As := []) (rest := []) C hP hS (m_X4_allBags L D ct al vl q3 hq3) (cwV 0 hts gX3_tellCount_X4_allBags rfl rfl rfl (by decide +kernel) ⟨Nat.le_of_ble_eq_true rfl, Nat.le_of_ble_eq_true rfl⟩) [3, 4, 5, 6, 7] rfl 3 rfl rfl rfl hl.1 rfl (Nat.le_of_ble_eq_true rfl) dX3_tellCount_68 ⟨Nat.zero_le _, Nat.zero_le _⟩ (fun H locs hP hS => ?_)
      exact cr_retR C hS (Option.some.inj hE) dX3_tellCount_71
    · rw [if_neg c2] at hE
      by_cases c4 : x1 = 2
      · rw [if_pos c4] at hE
        refine lv_tableIn (tgt := 72) (off := 71) hx hb dX3_tellCount_1 (by rw [c4]; decide) (by rw [c4]; decide) (by rw [c4]; rfl) (by decide) ?_
        refine lv_aload_n hx hb dX3_tellCount_72 rfl (lv_at hl 0 rfl) ?_
        refine cr_get C hP 0 rfl rfl 4 (by decide) hinX3 k2 (v := .int (vh 4 0)) rfl dX3_tellCount_73 ?_
        exact cr_retR C hS (Option.some.inj hE) dX3_tellCount_76
      · rw [if_neg c4] at hE
        by_cases c5 : x1 = 3
        · rw [if_pos c5] at hE
          refine lv_tableIn (tgt := 77) (off := 76) hx hb dX3_tellCount_1 (by rw [c5]; decide) (by rw [c5]; decide) (by rw [c5]; rfl) (by decide) ?_
          refine lv_aload_n hx hb dX3_tellCount_77 rfl (lv_at hl 0 rfl) ?_
          refine cr_get C hP 0 rfl rfl 1 (by decide) hinX3 k3 (v := .ref (ak 0)) rfl dX3_tellCount_78 ?_
          refine cr_get C hP 8 rfl rfl 2 (by decide) hinX0 k4 (v := .int (vk 2 0)) rfl dX3_tellCount_81 ?_
          exact cr_retR C hS (Option.some.inj hE) dX3_tellCount_84
        · rw [if_neg c5] at hE
          by_cases c6 : x1 = 4
          · rw [if_pos c6] at hE
            refine lv_tableIn (tgt := 85) (off := 84) hx hb dX3_tellCount_1 (by rw [c6]; decide) (by rw [c6]; decide) (by rw [c6]; rfl) (by decide) ?_
            refine lv_aload_n hx hb dX3_tellCount_85 rfl (lv_at hl 0 rfl) ?_
            refine cr_get C hP 0 rfl rfl 5 (by decide) hinX3 k5 (v := .int (vh 5 0)) rfl dX3_tellCount_86 ?_
            exact cr_retR C hS (Option.some.inj hE) dX3_tellCount_89
          · rw [if_neg c6] at hE
            by_cases c7 : x1 = 5
            · rw [if_pos c7] at hE
              refine lv_tableIn (tgt := 90) (off := 89) hx hb dX3_tellCount_1 (by rw [c7]; decide) (by rw [c7]; decide) (by rw [c7]; rfl) (by decide) ?_
              refine lv_aload_n hx hb dX3_tellCount_90 rfl (lv_at hl 0 rfl) ?_
              refine cr_get C hP 0 rfl rfl 6 (by decide) hinX3 k6 (v := .int (vh 6 0)) rfl dX3_tellCount_91 ?_
              exact cr_retR C hS (Option.some.inj hE) dX3_tellCount_94
            · rw [if_neg c7] at hE
              by_cases c8 : x1 = 6
              · rw [if_pos c8] at hE
                refine lv_tableIn (tgt := 95) (off := 94) hx hb dX3_tellCount_1 (by rw [c8]; decide) (by rw [c8]; decide) (by rw [c8]; rfl) (by decide) ?_
                refine lv_aload_n hx hb dX3_tellCount_95 rfl (lv_at hl 0 rfl) ?_
                refine cr_get C hP 0 rfl rfl 7 (by decide) hinX3 k7 (v := .int (vh 7 0)) rfl dX3_tellCount_96 ?_
                exact cr_retR C hS (Option.some.inj hE) dX3_tellCount_99
              · rw [if_neg c8] at hE
                by_cases c9 : x1 = 7
                · rw [if_pos c9] at hE
                  refine lv_tableIn (tgt := 100) (off := 99) hx hb dX3_tellCount_1 (by rw [c9]; decide) (by rw [c9]; decide) (by rw [c9]; rfl) (by decide) ?_
                  refine lv_aload_n hx hb dX3_tellCount_100 rfl (lv_at hl 0 rfl) ?_
                  refine cr_get C hP 0 rfl rfl 8 (by decide) hinX3 k8 (v := .int (vh 8 0)) rfl dX3_tellCount_101 ?_
                  exact cr_retR C hS (Option.some.inj hE) dX3_tellCount_104
                · rw [if_neg c9] at hE
                  by_cases c10 : x1 = 8
                  · rw [if_pos c10] at hE
                    refine lv_tableIn (tgt := 105) (off := 104) hx hb dX3_tellCount_1 (by rw [c10]; decide) (by rw [c10]; decide) (by rw [c10]; rfl) (by decide) ?_
                    refine lv_aload_n hx hb dX3_tellCount_105 rfl (lv_at hl 0 rfl) ?_
                    refine cr_get C hP 0 rfl rfl 0 (by decide) hinX3 k0 (v := .ref (al 0)) rfl dX3_tellCount_106 ?_
                    refine lv_aload_n hx hb dX3_tellCount_109 rfl (lv_at hl 0 rfl) ?_
                    refine cr_get C hP 0 rfl rfl 4 (by decide) hinX3 k2 (v := .int (vh 4 0)) rfl dX3_tellCount_110 ?_
                    obtain ⟨q11, hq11, hE⟩ := cr_bind hE
                    refine cr_vRq (n := 1) (As := [.int (vh 4 0)]) (rest := []) C hP hS (m_X4_bagsToGive L D ct al vl (vh 4 0) q11 hq11) (cwV 1 hts gX3_tellCount_X4_bagsToGive rfl rfl rfl (by decide +kernel) ⟨Nat.le_of_ble_eq_true rfl, Nat.le_of_ble_eq_true rfl⟩) [3, 4, 5, 6, 7] rfl 3 rfl rfl rfl hl.1 rfl (Nat.le_of_ble_eq_true rfl) dX3_tellCount_113 ⟨Nat.zero_le _, Nat.zero_le _⟩ (fun H locs hP hS => ?_)
                    exact cr_retR C hS (Option.some.inj hE) dX3_tellCount_116
                  · rw [if_neg c10] at hE
                    by_cases c12 : x1 = 9
                    · rw [if_pos c12] at hE
                      refine lv_tableIn (tgt := 117) (off := 116) hx hb dX3_tellCount_1 (by rw [c12]; decide) (by rw [c12]; decide) (by rw [c12]; rfl) (by decide) ?_
                      refine lv_aload_n hx hb dX3_tellCount_117 rfl (lv_at hl 0 rfl) ?_
                      refine cr_get C hP 0 rfl rfl 0 (by decide) hinX3 k0 (v := .ref (al 0)) rfl dX3_tellCount_118 ?_
                      refine cr_get C hP 3 rfl rfl 5 (by decide) hinX4 k9 (v := .int (vl 5 0)) rfl dX3_tellCount_121 ?_
                      exact cr_retR C hS (Option.some.inj hE) dX3_tellCount_124
                    · rw [if_neg c12] at hE
                      refine lv_tableOut (tgt := 125) hx hb dX3_tellCount_1 (by have e0 := cr_ne (n := 0) (by decide) c1; have e1 := cr_ne (n := 1) (by decide) c2; have e2 := cr_ne (n := 2) (by decide) c4; have e3 := cr_ne (n := 3) (by decide) c5; have e4 := cr_ne (n := 4) (by decide) c6; have e5 := cr_ne (n := 5) (by decide) c7; have e6 := cr_ne (n := 6) (by decide) c8; have e7 := cr_ne (n := 7) (by decide) c9; have e8 := cr_ne (n := 8) (by decide) c10; have e9 := cr_ne (n := 9) (by decide) c12; omega) (by decide) ?_
                      refine cr_ldc C k10 dX3_tellCount_125 ?_
                      exact cr_retR C hS (Option.some.inj hE) dX3_tellCount_127

set_option maxHeartbeats 4000000 in
set_option maxRecDepth 100000 in
theorem m_X6_isError (L : Launch) (D : va_G) (ct : Nat → ClassId)   (x0 : Int32) (out : Int32) (hE : f_X6_isError x0 = some out) : Met L yX6_isError wsX6_isError ({ frames := 1, cells := 0, slots := 0, locals := 22 } : Room) (cr_pR D ct ([]) [.int x0]) (cr_QR (fun r => r = out)) 0 0 cr_no := by
  have k0 : (Cond.constant RX6 102 (-2000000004)) ∈ wsX6_isError := List.mem_of_getElem? (i := 1) rfl
  have k1 : (Cond.constant RX6 90 (-2000000001)) ∈ wsX6_isError := List.mem_of_getElem? (i := 2) rfl
  refine cr_metR (by decide) rfl rfl (Nat.le_of_ble_eq_true rfl) ?_
  intro p e s m args below meth c ls C hP hS hl
  obtain ⟨hx, hb, hml, hown, hts, hr, hlocks, hK, hN⟩ := id C
  have hl : lv_has ls 1 [(0, .int x0)] := hl
  replace hE : ((f_X6_isWithin x0 (-2000000004) (-2000000001)).bind fun q1 => if cr_bool q1 = true then some q1 else none) = some out := hE
  refine lv_iload_n hx hb dX6_isError_0 rfl (lv_at hl 0 rfl) ?_
  refine cr_ldc C k0 dX6_isError_1 ?_
  refine cr_ldc C k1 dX6_isError_3 ?_
  obtain ⟨q1, hq1, hE⟩ := cr_bind hE
  refine cr_sRq (n := 3) (As := [.int x0, .int (-2000000004), .int (-2000000001)]) (rest := []) C hP hS (m_X6_isWithin L D ct x0 (-2000000004) (-2000000001) q1 hq1) (va_cwS 3 hts gX6_isError_X6_isWithin rfl rfl rfl (by decide +kernel) ⟨Nat.le_of_ble_eq_true rfl, Nat.le_of_ble_eq_true rfl⟩) rfl hl.1 rfl (Nat.le_of_ble_eq_true rfl) dX6_isError_5 ⟨Nat.zero_le _, Nat.zero_le _⟩ (fun H locs hP hS => ?_)
  obtain ⟨z2, hE⟩ := cr_ifn hE
  exact cr_retRz C hS (cr_boolN z2) (Option.some.inj hE) dX6_isError_8
