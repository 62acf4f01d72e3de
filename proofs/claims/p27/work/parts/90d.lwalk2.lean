set_option maxHeartbeats 4000000 in
set_option maxRecDepth 100000 in
theorem m_L_lots (L : Launch) (D : va_G) (ct : Nat → ClassId) (bg : Nat → Nat) (bl : Nat → Nat) (a : Nat → Nat → Nat) (r : Nat → Nat → Nat → Nat) (wg : cr_V) (wl : cr_V) (vX : cr_XT) (x3 : Int32) (x4 : Int32) (sz : Nat) (out : Int32 × cr_V × cr_V × cr_XT) (hE : f_L_lots wg wl vX x3 x4 = some out) : Met L yL_lots wsL_lots ({ frames := 5, cells := 0, slots := 0, locals := 110 } : Room) (cr_pW D ct (cr_wN ct 17 bg wg ++ (cr_wN ct 52 bl wl ++ cr_wXt ct a r vX)) sz [.ref (a 0 0), .ref (bg 0), .ref (bl 0), .int x3, .int x4]) (cr_QW D (cr_wN ct 17 bg wg ++ (cr_wN ct 52 bl wl ++ cr_wXt ct a r vX)) sz (fun r (u : (Nat → Nat → Nat → Nat) × cr_V × cr_V × cr_XT) => (r, u.2) = out) (fun u : (Nat → Nat → Nat → Nat) × cr_V × cr_V × cr_XT => cr_wN ct 17 bg u.2.1 ++ (cr_wN ct 52 bl u.2.2.1 ++ cr_wXt ct a u.1 u.2.2.2))) 0 0 (va_A (cr_wN ct 17 bg wg ++ (cr_wN ct 52 bl wl ++ cr_wXt ct a r vX)) sz) := by
  have k0 : (Cond.constant RL 37 (-2000000003)) ∈ wsL_lots := List.mem_of_getElem? (i := 1) rfl
  have k1 : (Cond.constant RL 51 (-2000000002)) ∈ wsL_lots := List.mem_of_getElem? (i := 3) rfl
  have k2 : (Cond.constant RL 44 (-2000000001)) ∈ wsL_lots := List.mem_of_getElem? (i := 2) rfl
  refine cr_metW (Qc := fun A => va_Qi (fun r (u : (Nat → Nat → Nat → Nat) × cr_V × cr_V × cr_XT) => (r, u.2) = out) (fun u t => cr_at D A ((fun u : (Nat → Nat → Nat → Nat) × cr_V × cr_V × cr_XT => cr_wN ct 17 bg u.2.1 ++ (cr_wN ct 52 bl u.2.2.1 ++ cr_wXt ct a u.1 u.2.2.2)) u) t) A) (by decide) rfl rfl (Nat.le_of_ble_eq_true rfl) ?_
  intro p e s m args below meth c ls A C hW hl
  obtain ⟨hx, hb, hml, hown, hts, hr, hlocks, hK, hN⟩ := id C
  have hl : lv_has ls 13 [(0, .ref (a 0 0)), (1, .ref (bg 0)), (2, .ref (bl 0)), (3, .int x3), (4, .int x4)] := hl
  have n22 :  ∀ (wg : cr_V) (wl : cr_V) (vX : cr_XT) (x4 : Int32) (s0 : Int32) (s1 : Int32) (s2 : Int32) (hE : f_L_lots_22  wg wl vX x4 s0 s1 s2 = some out) (r : Nat → Nat → Nat → Nat) (H : Heap) (locs : List Loc) (ls : Array Slot) (hW : cr_wd D A s (cr_wN ct 17 bg wg ++ (cr_wN ct 52 bl wl ++ cr_wXt ct a r vX)) H locs) (hl : lv_has ls 13 [(0, .ref (a 0 0)), (1, .ref (bg 0)), (2, .ref (bl 0)), (4, .int x4)]), W p L e ({ frames := 5, cells := 0, slots := 0, locals := 110 } : Room) s m args below meth c H locs 0 0 (MQ below (va_Qi (fun r (u : (Nat → Nat → Nat → Nat) × cr_V × cr_V × cr_XT) => (r, u.2) = out) (fun u t => cr_at D A ((fun u : (Nat → Nat → Nat → Nat) × cr_V × cr_V × cr_XT => cr_wN ct 17 bg u.2.1 ++ (cr_wN ct 52 bl u.2.2.1 ++ cr_wXt ct a u.1 u.2.2.2)) u) t) A) args s 0 0 A) (F0 m 22 ls [.int s0, .int s1, .int s2]) := by
    intro  wg wl vX x4 s0 s1 s2 hE r H locs ls hW hl
    replace hE : (if s0 = 0 then none else if (wg 0 6) = 12 then ((f_X6_lot vX.1 vX.2.1 vX.2.2.1 vX.2.2.2.1 vX.2.2.2.2.1 vX.2.2.2.2.2.1 vX.2.2.2.2.2.2.1 vX.2.2.2.2.2.2.2.1 vX.2.2.2.2.2.2.2.2.1 vX.2.2.2.2.2.2.2.2.2 (s2 + (s1 - s1 / s0 * s0)) (60 + ((x4 / 999) - (x4 / 999) / 41 * 41))).bind fun q6 => if q6.1 = (-2000000003) then (some (1, wg, wl, (cl_uX q6.2 vX))) else (some (0, wg, wl, (cl_uX q6.2 vX)))) else ((f_X6_lot vX.1 vX.2.1 vX.2.2.1 vX.2.2.2.1 vX.2.2.2.2.1 vX.2.2.2.2.2.1 vX.2.2.2.2.2.2.1 vX.2.2.2.2.2.2.2.1 vX.2.2.2.2.2.2.2.2.1 vX.2.2.2.2.2.2.2.2.2 (s2 + (s1 - s1 / s0 * s0)) (60 + ((x4 / 999) - (x4 / 999) / 41 * 41))).bind fun q3 => (f_L_makes wg wl (s2 + (s1 - s1 / s0 * s0)) (60 + ((x4 / 999) - (x4 / 999) / 41 * 41)) (wg 0 0)).bind fun q4 => if q3.1 = q4.1 then (some (1, q4.2.1, q4.2.2, (cl_uX q3.2 vX))) else (some (0, q4.2.1, q4.2.2, (cl_uX q3.2 vX))))) = some out := hE
    obtain ⟨z1, hE⟩ := cr_ifz hE
    refine lv_irem hx hb dL_lots_22 z1 ?_
    refine lv_iadd hx hb dL_lots_23 ?_
    refine lv_istore (lv' := [(5, .int (s2 + (s1 - s1 / s0 * s0))), (0, .ref (a 0 0)), (1, .ref (bg 0)), (2, .ref (bl 0)), (4, .int x4)]) hx hb dL_lots_24 hl (by decide) rfl (fun ls hl => ?_)
    refine lv_bipush (v := 60) hx hb dL_lots_26 (by decide) ?_
    refine lv_iload hx hb dL_lots_28 (lv_at hl 4 rfl) ?_
    refine lv_sipush (v := 999) hx hb dL_lots_30 (by decide) ?_
    refine lv_idiv hx hb dL_lots_33 (by decide) ?_
    refine lv_bipush (v := 41) hx hb dL_lots_34 (by decide) ?_
    refine lv_irem hx hb dL_lots_36 (by decide) ?_
    refine lv_iadd hx hb dL_lots_37 ?_
    refine lv_istore (lv' := [(6, .int (60 + ((x4 / 999) - (x4 / 999) / 41 * 41))), (5, .int (s2 + (s1 - s1 / s0 * s0))), (0, .ref (a 0 0)), (1, .ref (bg 0)), (2, .ref (bl 0)), (4, .int x4)]) hx hb dL_lots_38 hl (by decide) rfl (fun ls hl => ?_)
    refine lv_aload_n hx hb dL_lots_40 rfl (lv_at hl 3 rfl) ?_
    refine lv_bipush (v := 6) hx hb dL_lots_41 (by decide) ?_
    refine cr_ald C hW.1 0 (f := wg 0) (k := 6) rfl (by decide) (by decide) dL_lots_43 ?_
    refine lv_bipush (v := 12) hx hb dL_lots_44 (by decide) ?_
    refine lv_icmp_ne (tgt := 68) hx hb dL_lots_46 (by decide) (fun c2 => ?_) (fun c2 => ?_)
    · rw [if_neg c2] at hE
      refine lv_aload_n hx hb dL_lots_68 rfl (lv_at hl 2 rfl) ?_
      refine lv_iload hx hb dL_lots_69 (lv_at hl 1 rfl) ?_
      refine lv_iload hx hb dL_lots_71 (lv_at hl 0 rfl) ?_
      obtain ⟨q3, hq3, hE⟩ := cr_bind hE
      refine cl_vWBr (nb := 3) (n := 2) (As := [.int (s2 + (s1 - s1 / s0 * s0)), .int (60 + ((x4 / 999) - (x4 / 999) / 41 * 41))]) (rest := []) C hW (m_X6_lot L D ct a r vX.1 vX.2.1 vX.2.2.1 vX.2.2.2.1 vX.2.2.2.2.1 vX.2.2.2.2.2.1 vX.2.2.2.2.2.2.1 vX.2.2.2.2.2.2.2.1 vX.2.2.2.2.2.2.2.2.1 vX.2.2.2.2.2.2.2.2.2 (s2 + (s1 - s1 / s0 * s0)) (60 + ((x4 / 999) - (x4 / 999) / 41 * 41)) _ q3 hq3) (cwV 2 hts gL_lots_X6_lot rfl rfl rfl (by decide +kernel) ⟨Nat.le_of_ble_eq_true rfl, Nat.le_of_ble_eq_true rfl⟩) [2] [0, 1] [cr_wN ct 17 bg wg, cr_wN ct 52 bl wl, cr_wXt ct a r vX] (fun r => cr_wN ct 17 bg wg ++ (cr_wN ct 52 bl wl ++ cr_wXt ct a r (cl_uX q3.2 vX))) (fun r => [cr_wN ct 17 bg wg, cr_wN ct 52 bl wl, cr_wXt ct a r (cl_uX q3.2 vX)]) ⟨rfl, rfl⟩ (fun _ => ⟨rfl, rfl⟩) rfl (fun _ => rfl) (fun _ => rfl) (by decide) 2 rfl rfl rfl hl.1 rfl (Nat.le_of_ble_eq_true rfl) dL_lots_73 ⟨Nat.le_of_ble_eq_true rfl, Nat.le_of_ble_eq_true rfl⟩ (fun r H locs hW => ?_)
      refine lv_aload_n hx hb dL_lots_76 rfl (lv_at hl 3 rfl) ?_
      refine lv_aload_n hx hb dL_lots_77 rfl (lv_at hl 4 rfl) ?_
      refine lv_iload hx hb dL_lots_78 (lv_at hl 1 rfl) ?_
      refine lv_iload hx hb dL_lots_80 (lv_at hl 0 rfl) ?_
      refine lv_aload_n hx hb dL_lots_82 rfl (lv_at hl 3 rfl) ?_
      refine lv_iconst (v := 0) hx hb dL_lots_83 (by decide) ?_
      refine cr_ald C hW.1 0 (f := wg 0) (k := 0) rfl (by decide) (by decide) dL_lots_84 ?_
      obtain ⟨q4, hq4, hE⟩ := cr_bind hE
      refine cl_sWB (nb := 3) (n := 5) (As := [.ref (bg 0), .ref (bl 0), .int (s2 + (s1 - s1 / s0 * s0)), .int (60 + ((x4 / 999) - (x4 / 999) / 41 * 41)), .int (wg 0 0)]) (rest := [.int q3.1]) C hW (m_L_makes L D ct bg bl wg wl (s2 + (s1 - s1 / s0 * s0)) (60 + ((x4 / 999) - (x4 / 999) / 41 * 41)) (wg 0 0) _ q4 hq4) (va_cwS 5 hts gL_lots_L_makes rfl rfl rfl (by decide +kernel) ⟨Nat.le_of_ble_eq_true rfl, Nat.le_of_ble_eq_true rfl⟩) [0, 1] [2] [cr_wN ct 17 bg wg, cr_wN ct 52 bl wl, cr_wXt ct a r (cl_uX q3.2 vX)] (cr_wN ct 17 bg q4.2.1 ++ (cr_wN ct 52 bl q4.2.2 ++ cr_wXt ct a r (cl_uX q3.2 vX))) [cr_wN ct 17 bg q4.2.1, cr_wN ct 52 bl q4.2.2, cr_wXt ct a r (cl_uX q3.2 vX)] ⟨rfl, rfl⟩ ⟨rfl, rfl⟩ rfl rfl rfl (by decide) rfl hl.1 rfl (Nat.le_of_ble_eq_true rfl) dL_lots_85 ⟨Nat.le_of_ble_eq_true rfl, Nat.le_of_ble_eq_true rfl⟩ (fun H locs hW => ?_)
      refine lv_icmp_ne (tgt := 95) hx hb dL_lots_88 (by decide) (fun c5 => ?_) (fun c5 => ?_)
      · rw [if_neg c5] at hE
        refine lv_iconst (v := 0) hx hb dL_lots_95 (by decide) ?_
        exact cr_retWz C (w := (fun u : (Nat → Nat → Nat → Nat) × cr_V × cr_V × cr_XT => cr_wN ct 17 bg u.2.1 ++ (cr_wN ct 52 bl u.2.2.1 ++ cr_wXt ct a u.1 u.2.2.2))) (r, q4.2.1, q4.2.2, (cl_uX q3.2 vX)) hW rfl (Option.some.inj hE) dL_lots_96
      · rw [if_pos c5] at hE
        refine lv_iconst (v := 1) hx hb dL_lots_91 (by decide) ?_
        refine lv_goto (tgt := 96) hx hb dL_lots_92 (by decide) ?_
        exact cr_retWz C (w := (fun u : (Nat → Nat → Nat → Nat) × cr_V × cr_V × cr_XT => cr_wN ct 17 bg u.2.1 ++ (cr_wN ct 52 bl u.2.2.1 ++ cr_wXt ct a u.1 u.2.2.2))) (r, q4.2.1, q4.2.2, (cl_uX q3.2 vX)) hW rfl (Option.some.inj hE) dL_lots_96
    · rw [if_pos c2] at hE
      refine lv_aload_n hx hb dL_lots_49 rfl (lv_at hl 2 rfl) ?_
      refine lv_iload hx hb dL_lots_50 (lv_at hl 1 rfl) ?_
      refine lv_iload hx hb dL_lots_52 (lv_at hl 0 rfl) ?_
      obtain ⟨q6, hq6, hE⟩ := cr_bind hE
      refine cl_vWBr (nb := 3) (n := 2) (As := [.int (s2 + (s1 - s1 / s0 * s0)), .int (60 + ((x4 / 999) - (x4 / 999) / 41 * 41))]) (rest := []) C hW (m_X6_lot L D ct a r vX.1 vX.2.1 vX.2.2.1 vX.2.2.2.1 vX.2.2.2.2.1 vX.2.2.2.2.2.1 vX.2.2.2.2.2.2.1 vX.2.2.2.2.2.2.2.1 vX.2.2.2.2.2.2.2.2.1 vX.2.2.2.2.2.2.2.2.2 (s2 + (s1 - s1 / s0 * s0)) (60 + ((x4 / 999) - (x4 / 999) / 41 * 41)) _ q6 hq6) (cwV 2 hts gL_lots_X6_lot rfl rfl rfl (by decide +kernel) ⟨Nat.le_of_ble_eq_true rfl, Nat.le_of_ble_eq_true rfl⟩) [2] [0, 1] [cr_wN ct 17 bg wg, cr_wN ct 52 bl wl, cr_wXt ct a r vX] (fun r => cr_wN ct 17 bg wg ++ (cr_wN ct 52 bl wl ++ cr_wXt ct a r (cl_uX q6.2 vX))) (fun r => [cr_wN ct 17 bg wg, cr_wN ct 52 bl wl, cr_wXt ct a r (cl_uX q6.2 vX)]) ⟨rfl, rfl⟩ (fun _ => ⟨rfl, rfl⟩) rfl (fun _ => rfl) (fun _ => rfl) (by decide) 2 rfl rfl rfl hl.1 rfl (Nat.le_of_ble_eq_true rfl) dL_lots_54 ⟨Nat.le_of_ble_eq_true rfl, Nat.le_of_ble_eq_true rfl⟩ (fun r H locs hW => ?_)
      refine cr_ldc C k0 dL_lots_57 ?_
      refine lv_icmp_ne (tgt := 66) hx hb dL_lots_59 (by decide) (fun c7 => ?_) (fun c7 => ?_)
      · rw [if_neg c7] at hE
        refine lv_iconst (v := 0) hx hb dL_lots_66 (by decide) ?_
        exact cr_retWz C (w := (fun u : (Nat → Nat → Nat → Nat) × cr_V × cr_V × cr_XT => cr_wN ct 17 bg u.2.1 ++ (cr_wN ct 52 bl u.2.2.1 ++ cr_wXt ct a u.1 u.2.2.2))) (r, wg, wl, (cl_uX q6.2 vX)) hW rfl (Option.some.inj hE) dL_lots_67
      · rw [if_pos c7] at hE
        refine lv_iconst (v := 1) hx hb dL_lots_62 (by decide) ?_
        refine lv_goto (tgt := 67) hx hb dL_lots_63 (by decide) ?_
        exact cr_retWz C (w := (fun u : (Nat → Nat → Nat → Nat) × cr_V × cr_V × cr_XT => cr_wN ct 17 bg u.2.1 ++ (cr_wN ct 52 bl u.2.2.1 ++ cr_wXt ct a u.1 u.2.2.2))) (r, wg, wl, (cl_uX q6.2 vX)) hW rfl (Option.some.inj hE) dL_lots_67
  have n623 :  ∀ (wg : cr_V) (wl : cr_V) (vX : cr_XT) (x6 : Int32) (x8 : Int32) (x9 : Int32) (x10 : Int32) (hE : f_L_lots_623  wg wl vX x6 x8 x9 x10 = some out) (r : Nat → Nat → Nat → Nat) (H : Heap) (locs : List Loc) (ls : Array Slot) (hW : cr_wd D A s (cr_wN ct 17 bg wg ++ (cr_wN ct 52 bl wl ++ cr_wXt ct a r vX)) H locs) (hl : lv_has ls 13 [(0, .ref (a 0 0)), (6, .int x6), (8, .int x8), (9, .int x9), (10, .int x10)]), W p L e ({ frames := 5, cells := 0, slots := 0, locals := 110 } : Room) s m args below meth c H locs 0 0 (MQ below (va_Qi (fun r (u : (Nat → Nat → Nat → Nat) × cr_V × cr_V × cr_XT) => (r, u.2) = out) (fun u t => cr_at D A ((fun u : (Nat → Nat → Nat → Nat) × cr_V × cr_V × cr_XT => cr_wN ct 17 bg u.2.1 ++ (cr_wN ct 52 bl u.2.2.1 ++ cr_wXt ct a u.1 u.2.2.2)) u) t) A) args s 0 0 A) (F0 m 623 ls []) := by
    intro  wg wl vX x6 x8 x9 x10 hE r H locs ls hW hl
    replace hE : ((f_X6_blend vX.1 vX.2.1 vX.2.2.1 vX.2.2.2.1 vX.2.2.2.2.1 vX.2.2.2.2.2.1 vX.2.2.2.2.2.2.1 vX.2.2.2.2.2.2.2.1 vX.2.2.2.2.2.2.2.2.1 vX.2.2.2.2.2.2.2.2.2 x6 x9 x8 x10).bind fun q8 => if q8.1 = (-2000000003) then (some (1, wg, wl, (cl_uX q8.2 vX))) else (some (0, wg, wl, (cl_uX q8.2 vX)))) = some out := hE
    refine lv_aload_n hx hb dL_lots_623 rfl (lv_at hl 0 rfl) ?_
    refine lv_iload hx hb dL_lots_624 (lv_at hl 1 rfl) ?_
    refine lv_iload hx hb dL_lots_626 (lv_at hl 3 rfl) ?_
    refine lv_iload hx hb dL_lots_628 (lv_at hl 2 rfl) ?_
    refine lv_iload hx hb dL_lots_630 (lv_at hl 4 rfl) ?_
    obtain ⟨q8, hq8, hE⟩ := cr_bind hE
    refine cl_vWBr (nb := 3) (n := 4) (As := [.int x6, .int x9, .int x8, .int x10]) (rest := []) C hW (m_X6_blend L D ct a r vX.1 vX.2.1 vX.2.2.1 vX.2.2.2.1 vX.2.2.2.2.1 vX.2.2.2.2.2.1 vX.2.2.2.2.2.2.1 vX.2.2.2.2.2.2.2.1 vX.2.2.2.2.2.2.2.2.1 vX.2.2.2.2.2.2.2.2.2 x6 x9 x8 x10 _ q8 hq8) (cwV 4 hts gL_lots_X6_blend rfl rfl rfl (by decide +kernel) ⟨Nat.le_of_ble_eq_true rfl, Nat.le_of_ble_eq_true rfl⟩) [2] [0, 1] [cr_wN ct 17 bg wg, cr_wN ct 52 bl wl, cr_wXt ct a r vX] (fun r => cr_wN ct 17 bg wg ++ (cr_wN ct 52 bl wl ++ cr_wXt ct a r (cl_uX q8.2 vX))) (fun r => [cr_wN ct 17 bg wg, cr_wN ct 52 bl wl, cr_wXt ct a r (cl_uX q8.2 vX)]) ⟨rfl, rfl⟩ (fun _ => ⟨rfl, rfl⟩) rfl (fun _ => rfl) (fun _ => rfl) (by decide) 2 rfl rfl rfl hl.1 rfl (Nat.le_of_ble_eq_true rfl) dL_lots_632 ⟨Nat.le_of_ble_eq_true rfl, Nat.le_of_ble_eq_true rfl⟩ (fun r H locs hW => ?_)
    refine cr_ldc C k0 dL_lots_635 ?_
    refine lv_icmp_ne (tgt := 644) hx hb dL_lots_637 (by decide) (fun c9 => ?_) (fun c9 => ?_)
    · rw [if_neg c9] at hE
      refine lv_iconst (v := 0) hx hb dL_lots_644 (by decide) ?_
      exact cr_retWz C (w := (fun u : (Nat → Nat → Nat → Nat) × cr_V × cr_V × cr_XT => cr_wN ct 17 bg u.2.1 ++ (cr_wN ct 52 bl u.2.2.1 ++ cr_wXt ct a u.1 u.2.2.2))) (r, wg, wl, (cl_uX q8.2 vX)) hW rfl (Option.some.inj hE) dL_lots_645
    · rw [if_pos c9] at hE
      refine lv_iconst (v := 1) hx hb dL_lots_640 (by decide) ?_
      refine lv_goto (tgt := 645) hx hb dL_lots_641 (by decide) ?_
      exact cr_retWz C (w := (fun u : (Nat → Nat → Nat → Nat) × cr_V × cr_V × cr_XT => cr_wN ct 17 bg u.2.1 ++ (cr_wN ct 52 bl u.2.2.1 ++ cr_wXt ct a u.1 u.2.2.2))) (r, wg, wl, (cl_uX q8.2 vX)) hW rfl (Option.some.inj hE) dL_lots_645
  have n602 :  ∀ (wg : cr_V) (wl : cr_V) (vX : cr_XT) (x5 : Int32) (x6 : Int32) (x7 : Int32) (x8 : Int32) (x9 : Int32) (x10 : Int32) (s0 : Int32) (s1 : Int32) (hE : f_L_lots_602  wg wl vX x5 x6 x7 x8 x9 x10 s0 s1 = some out) (r : Nat → Nat → Nat → Nat) (H : Heap) (locs : List Loc) (ls : Array Slot) (hW : cr_wd D A s (cr_wN ct 17 bg wg ++ (cr_wN ct 52 bl wl ++ cr_wXt ct a r vX)) H locs) (hl : lv_has ls 13 [(0, .ref (a 0 0)), (1, .ref (bg 0)), (2, .ref (bl 0)), (5, .int x5), (6, .int x6), (7, .int x7), (8, .int x8), (9, .int x9), (10, .int x10)]), W p L e ({ frames := 5, cells := 0, slots := 0, locals := 110 } : Room) s m args below meth c H locs 0 0 (MQ below (va_Qi (fun r (u : (Nat → Nat → Nat → Nat) × cr_V × cr_V × cr_XT) => (r, u.2) = out) (fun u t => cr_at D A ((fun u : (Nat → Nat → Nat → Nat) × cr_V × cr_V × cr_XT => cr_wN ct 17 bg u.2.1 ++ (cr_wN ct 52 bl u.2.2.1 ++ cr_wXt ct a u.1 u.2.2.2)) u) t) A) args s 0 0 A) (F0 m 602 ls [.int s0, .int s1]) := by
    intro  wg wl vX x5 x6 x7 x8 x9 x10 s0 s1 hE r H locs ls hW hl
    replace hE : (if 12 < (s1 - s0) then (f_L_lots_623 wg wl vX x6 x8 x9 x10) else (if (x9 + x10) ≤ 9999 then ((f_L_cup wl x5 (wg 0 0)).bind fun q12 => (f_L_cup wl x7 (wg 0 0)).bind fun q13 => (f_L_takes wg wl x6 x9).bind fun q14 => (f_L_takes q14.1 q14.2 x8 x10).bind fun q15 => (f_X6_blend vX.1 vX.2.1 vX.2.2.1 vX.2.2.2.1 vX.2.2.2.2.1 vX.2.2.2.2.2.1 vX.2.2.2.2.2.2.1 vX.2.2.2.2.2.2.2.1 vX.2.2.2.2.2.2.2.2.1 vX.2.2.2.2.2.2.2.2.2 x6 x9 x8 x10).bind fun q16 => if (x9 + x10) = 0 then none else (f_L_makes q15.1 q15.2 (x9 + x10) (((x9 * q12) + (x10 * q13)) / (x9 + x10)) (q15.1 0 0)).bind fun q18 => if q16.1 = q18.1 then (some (1, q18.2.1, q18.2.2, (cl_uX q16.2 vX))) else (some (0, q18.2.1, q18.2.2, (cl_uX q16.2 vX)))) else (f_L_lots_623 wg wl vX x6 x8 x9 x10))) = some out := hE
    refine lv_isub hx hb dL_lots_602 ?_
    refine lv_istore (lv' := [(11, .int (s1 - s0)), (0, .ref (a 0 0)), (1, .ref (bg 0)), (2, .ref (bl 0)), (5, .int x5), (6, .int x6), (7, .int x7), (8, .int x8), (9, .int x9), (10, .int x10)]) hx hb dL_lots_603 hl (by decide) rfl (fun ls hl => ?_)
    refine lv_iload hx hb dL_lots_605 (lv_at hl 0 rfl) ?_
    refine lv_bipush (v := 12) hx hb dL_lots_607 (by decide) ?_
    refine lv_icmp_gt (tgt := 623) hx hb dL_lots_609 (by decide) (fun c10 => ?_) (fun c10 => ?_)
    · rw [if_pos c10] at hE
      exact n623 wg wl vX x6 x8 x9 x10 hE _ _ _ _ hW (lv_sub hl [1, 5, 7, 8, 9] rfl)
    · rw [if_neg c10] at hE
      refine lv_iload hx hb dL_lots_612 (lv_at hl 8 rfl) ?_
      refine lv_iload hx hb dL_lots_614 (lv_at hl 9 rfl) ?_
      refine lv_iadd hx hb dL_lots_616 ?_
      refine lv_sipush (v := 9999) hx hb dL_lots_617 (by decide) ?_
      refine lv_icmp_le (tgt := 646) hx hb dL_lots_620 (by decide) (fun c11 => ?_) (fun c11 => ?_)
      · rw [if_pos c11] at hE
        refine lv_iload hx hb dL_lots_646 (lv_at hl 8 rfl) ?_
        refine lv_aload_n hx hb dL_lots_648 rfl (lv_at hl 3 rfl) ?_
        refine lv_iload hx hb dL_lots_649 (lv_at hl 4 rfl) ?_
        refine lv_aload_n hx hb dL_lots_651 rfl (lv_at hl 2 rfl) ?_
        refine lv_iconst (v := 0) hx hb dL_lots_652 (by decide) ?_
        refine cr_ald C hW.1 0 (f := wg 0) (k := 0) rfl (by decide) (by decide) dL_lots_653 ?_
        obtain ⟨q12, hq12, hE⟩ := cr_bind hE
        refine cl_sRw (nb := 3) (n := 3) (As := [.ref (bl 0), .int x5, .int (wg 0 0)]) (rest := [.int x9]) C hW (m_L_cup L D ct bl wl x5 (wg 0 0) q12 hq12) (va_cwS 3 hts gL_lots_L_cup rfl rfl rfl (by decide +kernel) ⟨Nat.le_of_ble_eq_true rfl, Nat.le_of_ble_eq_true rfl⟩) [1] [cr_wN ct 17 bg wg, cr_wN ct 52 bl wl, cr_wXt ct a r vX] ⟨rfl, rfl⟩ rfl rfl hl.1 rfl (Nat.le_of_ble_eq_true rfl) dL_lots_654 ⟨Nat.le_of_ble_eq_true rfl, Nat.le_of_ble_eq_true rfl⟩ (fun H locs hW => ?_)
        refine lv_imul hx hb dL_lots_657 ?_
        refine lv_iload hx hb dL_lots_658 (lv_at hl 9 rfl) ?_
        refine lv_aload_n hx hb dL_lots_660 rfl (lv_at hl 3 rfl) ?_
        refine lv_iload hx hb dL_lots_661 (lv_at hl 6 rfl) ?_
        refine lv_aload_n hx hb dL_lots_663 rfl (lv_at hl 2 rfl) ?_
        refine lv_iconst (v := 0) hx hb dL_lots_664 (by decide) ?_
        refine cr_ald C hW.1 0 (f := wg 0) (k := 0) rfl (by decide) (by decide) dL_lots_665 ?_
        obtain ⟨q13, hq13, hE⟩ := cr_bind hE
        refine cl_sRw (nb := 3) (n := 3) (As := [.ref (bl 0), .int x7, .int (wg 0 0)]) (rest := [.int x10, .int (x9 * q12)]) C hW (m_L_cup L D ct bl wl x7 (wg 0 0) q13 hq13) (va_cwS 3 hts gL_lots_L_cup rfl rfl rfl (by decide +kernel) ⟨Nat.le_of_ble_eq_true rfl, Nat.le_of_ble_eq_true rfl⟩) [1] [cr_wN ct 17 bg wg, cr_wN ct 52 bl wl, cr_wXt ct a r vX] ⟨rfl, rfl⟩ rfl rfl hl.1 rfl (Nat.le_of_ble_eq_true rfl) dL_lots_666 ⟨Nat.le_of_ble_eq_true rfl, Nat.le_of_ble_eq_true rfl⟩ (fun H locs hW => ?_)
        refine lv_imul hx hb dL_lots_669 ?_
        refine lv_iadd hx hb dL_lots_670 ?_
        refine lv_istore (lv' := [(12, .int ((x9 * q12) + (x10 * q13))), (11, .int (s1 - s0)), (0, .ref (a 0 0)), (1, .ref (bg 0)), (2, .ref (bl 0)), (5, .int x5), (6, .int x6), (7, .int x7), (8, .int x8), (9, .int x9), (10, .int x10)]) hx hb dL_lots_671 hl (by decide) rfl (fun ls hl => ?_)
        refine lv_aload_n hx hb dL_lots_673 rfl (lv_at hl 3 rfl) ?_
        refine lv_aload_n hx hb dL_lots_674 rfl (lv_at hl 4 rfl) ?_
        refine lv_iload hx hb dL_lots_675 (lv_at hl 6 rfl) ?_
        refine lv_iload hx hb dL_lots_677 (lv_at hl 9 rfl) ?_
        obtain ⟨q14, hq14, hE⟩ := cr_bind hE
        refine cl_sVB (nb := 3) (n := 4) (As := [.ref (bg 0), .ref (bl 0), .int x6, .int x9]) (rest := []) C hW (m_L_takes L D ct bg bl wg wl x6 x9 _ q14 hq14) (va_cwS 4 hts gL_lots_L_takes rfl rfl rfl (by decide +kernel) ⟨Nat.le_of_ble_eq_true rfl, Nat.le_of_ble_eq_true rfl⟩) [0, 1] [2] [cr_wN ct 17 bg wg, cr_wN ct 52 bl wl, cr_wXt ct a r vX] (cr_wN ct 17 bg q14.1 ++ (cr_wN ct 52 bl q14.2 ++ cr_wXt ct a r vX)) [cr_wN ct 17 bg q14.1, cr_wN ct 52 bl q14.2, cr_wXt ct a r vX] ⟨rfl, rfl⟩ ⟨rfl, rfl⟩ rfl rfl rfl (by decide) rfl hl.1 rfl (Nat.le_of_ble_eq_true rfl) dL_lots_679 ⟨Nat.le_of_ble_eq_true rfl, Nat.le_of_ble_eq_true rfl⟩ (fun H locs hW => ?_)
        refine lv_aload_n hx hb dL_lots_682 rfl (lv_at hl 3 rfl) ?_
        refine lv_aload_n hx hb dL_lots_683 rfl (lv_at hl 4 rfl) ?_
        refine lv_iload hx hb dL_lots_684 (lv_at hl 8 rfl) ?_
        refine lv_iload hx hb dL_lots_686 (lv_at hl 10 rfl) ?_
        obtain ⟨q15, hq15, hE⟩ := cr_bind hE
        refine cl_sVB (nb := 3) (n := 4) (As := [.ref (bg 0), .ref (bl 0), .int x8, .int x10]) (rest := []) C hW (m_L_takes L D ct bg bl q14.1 q14.2 x8 x10 _ q15 hq15) (va_cwS 4 hts gL_lots_L_takes rfl rfl rfl (by decide +kernel) ⟨Nat.le_of_ble_eq_true rfl, Nat.le_of_ble_eq_true rfl⟩) [0, 1] [2] [cr_wN ct 17 bg q14.1, cr_wN ct 52 bl q14.2, cr_wXt ct a r vX] (cr_wN ct 17 bg q15.1 ++ (cr_wN ct 52 bl q15.2 ++ cr_wXt ct a r vX)) [cr_wN ct 17 bg q15.1, cr_wN ct 52 bl q15.2, cr_wXt ct a r vX] ⟨rfl, rfl⟩ ⟨rfl, rfl⟩ rfl rfl rfl (by decide) rfl hl.1 rfl (Nat.le_of_ble_eq_true rfl) dL_lots_688 ⟨Nat.le_of_ble_eq_true rfl, Nat.le_of_ble_eq_true rfl⟩ (fun H locs hW => ?_)
        refine lv_aload_n hx hb dL_lots_691 rfl (lv_at hl 2 rfl) ?_
        refine lv_iload hx hb dL_lots_692 (lv_at hl 6 rfl) ?_
        refine lv_iload hx hb dL_lots_694 (lv_at hl 9 rfl) ?_
        refine lv_iload hx hb dL_lots_696 (lv_at hl 8 rfl) ?_
        refine lv_iload hx hb dL_lots_698 (lv_at hl 10 rfl) ?_
        obtain ⟨q16, hq16, hE⟩ := cr_bind hE
        refine cl_vWBr (nb := 3) (n := 4) (As := [.int x6, .int x9, .int x8, .int x10]) (rest := []) C hW (m_X6_blend L D ct a r vX.1 vX.2.1 vX.2.2.1 vX.2.2.2.1 vX.2.2.2.2.1 vX.2.2.2.2.2.1 vX.2.2.2.2.2.2.1 vX.2.2.2.2.2.2.2.1 vX.2.2.2.2.2.2.2.2.1 vX.2.2.2.2.2.2.2.2.2 x6 x9 x8 x10 _ q16 hq16) (cwV 4 hts gL_lots_X6_blend rfl rfl rfl (by decide +kernel) ⟨Nat.le_of_ble_eq_true rfl, Nat.le_of_ble_eq_true rfl⟩) [2] [0, 1] [cr_wN ct 17 bg q15.1, cr_wN ct 52 bl q15.2, cr_wXt ct a r vX] (fun r => cr_wN ct 17 bg q15.1 ++ (cr_wN ct 52 bl q15.2 ++ cr_wXt ct a r (cl_uX q16.2 vX))) (fun r => [cr_wN ct 17 bg q15.1, cr_wN ct 52 bl q15.2, cr_wXt ct a r (cl_uX q16.2 vX)]) ⟨rfl, rfl⟩ (fun _ => ⟨rfl, rfl⟩) rfl (fun _ => rfl) (fun _ => rfl) (by decide) 2 rfl rfl rfl hl.1 rfl (Nat.le_of_ble_eq_true rfl) dL_lots_700 ⟨Nat.le_of_ble_eq_true rfl, Nat.le_of_ble_eq_true rfl⟩ (fun r H locs hW => ?_)
        refine lv_aload_n hx hb dL_lots_703 rfl (lv_at hl 3 rfl) ?_
        refine lv_aload_n hx hb dL_lots_704 rfl (lv_at hl 4 rfl) ?_
        refine lv_iload hx hb dL_lots_705 (lv_at hl 9 rfl) ?_
        refine lv_iload hx hb dL_lots_707 (lv_at hl 10 rfl) ?_
        refine lv_iadd hx hb dL_lots_709 ?_
        refine lv_iload hx hb dL_lots_710 (lv_at hl 0 rfl) ?_
        refine lv_iload hx hb dL_lots_712 (lv_at hl 9 rfl) ?_
        refine lv_iload hx hb dL_lots_714 (lv_at hl 10 rfl) ?_
        refine lv_iadd hx hb dL_lots_716 ?_
        obtain ⟨z17, hE⟩ := cr_ifz hE
        refine lv_idiv hx hb dL_lots_717 z17 ?_
        refine lv_aload_n hx hb dL_lots_718 rfl (lv_at hl 3 rfl) ?_
        refine lv_iconst (v := 0) hx hb dL_lots_719 (by decide) ?_
        refine cr_ald C hW.1 0 (f := q15.1 0) (k := 0) rfl (by decide) (by decide) dL_lots_720 ?_
        obtain ⟨q18, hq18, hE⟩ := cr_bind hE
        refine cl_sWB (nb := 3) (n := 5) (As := [.ref (bg 0), .ref (bl 0), .int (x9 + x10), .int (((x9 * q12) + (x10 * q13)) / (x9 + x10)), .int (q15.1 0 0)]) (rest := [.int q16.1]) C hW (m_L_makes L D ct bg bl q15.1 q15.2 (x9 + x10) (((x9 * q12) + (x10 * q13)) / (x9 + x10)) (q15.1 0 0) _ q18 hq18) (va_cwS 5 hts gL_lots_L_makes rfl rfl rfl (by decide +kernel) ⟨Nat.le_of_ble_eq_true rfl, Nat.le_of_ble_eq_true rfl⟩) [0, 1] [2] [cr_wN ct 17 bg q15.1, cr_wN ct 52 bl q15.2, cr_wXt ct a r (cl_uX q16.2 vX)] (cr_wN ct 17 bg q18.2.1 ++ (cr_wN ct 52 bl q18.2.2 ++ cr_wXt ct a r (cl_uX q16.2 vX))) [cr_wN ct 17 bg q18.2.1, cr_wN ct 52 bl q18.2.2, cr_wXt ct a r (cl_uX q16.2 vX)] ⟨rfl, rfl⟩ ⟨rfl, rfl⟩ rfl rfl rfl (by decide) rfl hl.1 rfl (Nat.le_of_ble_eq_true rfl) dL_lots_721 ⟨Nat.le_of_ble_eq_true rfl, Nat.le_of_ble_eq_true rfl⟩ (fun H locs hW => ?_)
        refine lv_icmp_ne (tgt := 731) hx hb dL_lots_724 (by decide) (fun c19 => ?_) (fun c19 => ?_)
        · rw [if_neg c19] at hE
          refine lv_iconst (v := 0) hx hb dL_lots_731 (by decide) ?_
          exact cr_retWz C (w := (fun u : (Nat → Nat → Nat → Nat) × cr_V × cr_V × cr_XT => cr_wN ct 17 bg u.2.1 ++ (cr_wN ct 52 bl u.2.2.1 ++ cr_wXt ct a u.1 u.2.2.2))) (r, q18.2.1, q18.2.2, (cl_uX q16.2 vX)) hW rfl (Option.some.inj hE) dL_lots_732
        · rw [if_pos c19] at hE
          refine lv_iconst (v := 1) hx hb dL_lots_727 (by decide) ?_
          refine lv_goto (tgt := 732) hx hb dL_lots_728 (by decide) ?_
          exact cr_retWz C (w := (fun u : (Nat → Nat → Nat → Nat) × cr_V × cr_V × cr_XT => cr_wN ct 17 bg u.2.1 ++ (cr_wN ct 52 bl u.2.2.1 ++ cr_wXt ct a u.1 u.2.2.2))) (r, q18.2.1, q18.2.2, (cl_uX q16.2 vX)) hW rfl (Option.some.inj hE) dL_lots_732
      · rw [if_neg c11] at hE
        exact n623 wg wl vX x6 x8 x9 x10 hE _ _ _ _ hW (lv_sub hl [1, 5, 7, 8, 9] rfl)
  have n583 :  ∀ (wg : cr_V) (wl : cr_V) (vX : cr_XT) (x5 : Int32) (x6 : Int32) (x7 : Int32) (x8 : Int32) (x9 : Int32) (x10 : Int32) (s0 : Int32) (s1 : Int32) (hE : f_L_lots_583  wg wl vX x5 x6 x7 x8 x9 x10 s0 s1 = some out) (r : Nat → Nat → Nat → Nat) (H : Heap) (locs : List Loc) (ls : Array Slot) (hW : cr_wd D A s (cr_wN ct 17 bg wg ++ (cr_wN ct 52 bl wl ++ cr_wXt ct a r vX)) H locs) (hl : lv_has ls 13 [(0, .ref (a 0 0)), (1, .ref (bg 0)), (2, .ref (bl 0)), (5, .int x5), (6, .int x6), (7, .int x7), (8, .int x8), (9, .int x9), (10, .int x10)]), W p L e ({ frames := 5, cells := 0, slots := 0, locals := 110 } : Room) s m args below meth c H locs 0 0 (MQ below (va_Qi (fun r (u : (Nat → Nat → Nat → Nat) × cr_V × cr_V × cr_XT) => (r, u.2) = out) (fun u t => cr_at D A ((fun u : (Nat → Nat → Nat → Nat) × cr_V × cr_V × cr_XT => cr_wN ct 17 bg u.2.1 ++ (cr_wN ct 52 bl u.2.2.1 ++ cr_wXt ct a u.1 u.2.2.2)) u) t) A) args s 0 0 A) (F0 m 583 ls [.int s0, .int s1]) := by
    intro  wg wl vX x5 x6 x7 x8 x9 x10 s0 s1 hE r H locs ls hW hl
    replace hE : (if cr_in ((4 * x7) + 1) 52 = true then if x10 = (wl 0 (cr_x ((4 * x7) + 1))) then (f_L_lots_602 wg wl vX x5 x6 x7 x8 x9 x10 1 (s1 + s0)) else (f_L_lots_602 wg wl vX x5 x6 x7 x8 x9 x10 0 (s1 + s0)) else none) = some out := hE
    refine lv_iadd hx hb dL_lots_583 ?_
    refine lv_iload hx hb dL_lots_584 (lv_at hl 8 rfl) ?_
    refine lv_aload_n hx hb dL_lots_586 rfl (lv_at hl 2 rfl) ?_
    refine lv_iconst (v := 4) hx hb dL_lots_587 (by decide) ?_
    refine lv_iload hx hb dL_lots_588 (lv_at hl 5 rfl) ?_
    refine lv_imul hx hb dL_lots_590 ?_
    refine lv_iconst (v := 1) hx hb dL_lots_591 (by decide) ?_
    refine lv_iadd hx hb dL_lots_592 ?_
    obtain ⟨i20, hE⟩ := cr_ifn hE
    refine cr_ald C hW.1 1 (f := wl 0) (k := cr_x ((4 * x7) + 1)) rfl i20 (cr_xe _) dL_lots_593 ?_
    refine lv_icmp_ne (tgt := 601) hx hb dL_lots_594 (by decide) (fun c21 => ?_) (fun c21 => ?_)
    · rw [if_neg c21] at hE
      refine lv_iconst (v := 0) hx hb dL_lots_601 (by decide) ?_
      exact n602 wg wl vX x5 x6 x7 x8 x9 x10 0 (s1 + s0) hE _ _ _ _ hW (lv_sub hl [0, 1, 2, 3, 4, 5, 6, 7, 8] rfl)
    · rw [if_pos c21] at hE
      refine lv_iconst (v := 1) hx hb dL_lots_597 (by decide) ?_
      refine lv_goto (tgt := 602) hx hb dL_lots_598 (by decide) ?_
      exact n602 wg wl vX x5 x6 x7 x8 x9 x10 1 (s1 + s0) hE _ _ _ _ hW (lv_sub hl [0, 1, 2, 3, 4, 5, 6, 7, 8] rfl)
  have n538 :  ∀ (wg : cr_V) (wl : cr_V) (vX : cr_XT) (x6 : Int32) (x8 : Int32) (x9 : Int32) (x10 : Int32) (hE : f_L_lots_538  wg wl vX x6 x8 x9 x10 = some out) (r : Nat → Nat → Nat → Nat) (H : Heap) (locs : List Loc) (ls : Array Slot) (hW : cr_wd D A s (cr_wN ct 17 bg wg ++ (cr_wN ct 52 bl wl ++ cr_wXt ct a r vX)) H locs) (hl : lv_has ls 13 [(0, .ref (a 0 0)), (6, .int x6), (8, .int x8), (9, .int x9), (10, .int x10)]), W p L e ({ frames := 5, cells := 0, slots := 0, locals := 110 } : Room) s m args below meth c H locs 0 0 (MQ below (va_Qi (fun r (u : (Nat → Nat → Nat → Nat) × cr_V × cr_V × cr_XT) => (r, u.2) = out) (fun u t => cr_at D A ((fun u : (Nat → Nat → Nat → Nat) × cr_V × cr_V × cr_XT => cr_wN ct 17 bg u.2.1 ++ (cr_wN ct 52 bl u.2.2.1 ++ cr_wXt ct a u.1 u.2.2.2)) u) t) A) args s 0 0 A) (F0 m 538 ls []) := by
    intro  wg wl vX x6 x8 x9 x10 hE r H locs ls hW hl
    replace hE : ((f_X6_blend vX.1 vX.2.1 vX.2.2.1 vX.2.2.2.1 vX.2.2.2.2.1 vX.2.2.2.2.2.1 vX.2.2.2.2.2.2.1 vX.2.2.2.2.2.2.2.1 vX.2.2.2.2.2.2.2.2.1 vX.2.2.2.2.2.2.2.2.2 x6 x9 x8 x10).bind fun q22 => if q22.1 = (-2000000002) then (some (1, wg, wl, (cl_uX q22.2 vX))) else (some (0, wg, wl, (cl_uX q22.2 vX)))) = some out := hE
    refine lv_aload_n hx hb dL_lots_538 rfl (lv_at hl 0 rfl) ?_
    refine lv_iload hx hb dL_lots_539 (lv_at hl 1 rfl) ?_
    refine lv_iload hx hb dL_lots_541 (lv_at hl 3 rfl) ?_
    refine lv_iload hx hb dL_lots_543 (lv_at hl 2 rfl) ?_
    refine lv_iload hx hb dL_lots_545 (lv_at hl 4 rfl) ?_
    obtain ⟨q22, hq22, hE⟩ := cr_bind hE
    refine cl_vWBr (nb := 3) (n := 4) (As := [.int x6, .int x9, .int x8, .int x10]) (rest := []) C hW (m_X6_blend L D ct a r vX.1 vX.2.1 vX.2.2.1 vX.2.2.2.1 vX.2.2.2.2.1 vX.2.2.2.2.2.1 vX.2.2.2.2.2.2.1 vX.2.2.2.2.2.2.2.1 vX.2.2.2.2.2.2.2.2.1 vX.2.2.2.2.2.2.2.2.2 x6 x9 x8 x10 _ q22 hq22) (cwV 4 hts gL_lots_X6_blend rfl rfl rfl (by decide +kernel) ⟨Nat.le_of_ble_eq_true rfl, Nat.le_of_ble_eq_true rfl⟩) [2] [0, 1] [cr_wN ct 17 bg wg, cr_wN ct 52 bl wl, cr_wXt ct a r vX] (fun r => cr_wN ct 17 bg wg ++ (cr_wN ct 52 bl wl ++ cr_wXt ct a r (cl_uX q22.2 vX))) (fun r => [cr_wN ct 17 bg wg, cr_wN ct 52 bl wl, cr_wXt ct a r (cl_uX q22.2 vX)]) ⟨rfl, rfl⟩ (fun _ => ⟨rfl, rfl⟩) rfl (fun _ => rfl) (fun _ => rfl) (by decide) 2 rfl rfl rfl hl.1 rfl (Nat.le_of_ble_eq_true rfl) dL_lots_547 ⟨Nat.le_of_ble_eq_true rfl, Nat.le_of_ble_eq_true rfl⟩ (fun r H locs hW => ?_)
    refine cr_ldc C k1 dL_lots_550 ?_
    refine lv_icmp_ne (tgt := 559) hx hb dL_lots_552 (by decide) (fun c23 => ?_) (fun c23 => ?_)
    · rw [if_neg c23] at hE
      refine lv_iconst (v := 0) hx hb dL_lots_559 (by decide) ?_
      exact cr_retWz C (w := (fun u : (Nat → Nat → Nat → Nat) × cr_V × cr_V × cr_XT => cr_wN ct 17 bg u.2.1 ++ (cr_wN ct 52 bl u.2.2.1 ++ cr_wXt ct a u.1 u.2.2.2))) (r, wg, wl, (cl_uX q22.2 vX)) hW rfl (Option.some.inj hE) dL_lots_560
    · rw [if_pos c23] at hE
      refine lv_iconst (v := 1) hx hb dL_lots_555 (by decide) ?_
      refine lv_goto (tgt := 560) hx hb dL_lots_556 (by decide) ?_
      exact cr_retWz C (w := (fun u : (Nat → Nat → Nat → Nat) × cr_V × cr_V × cr_XT => cr_wN ct 17 bg u.2.1 ++ (cr_wN ct 52 bl u.2.2.1 ++ cr_wXt ct a u.1 u.2.2.2))) (r, wg, wl, (cl_uX q22.2 vX)) hW rfl (Option.some.inj hE) dL_lots_560
  have n477 :  ∀ (wg : cr_V) (wl : cr_V) (vX : cr_XT) (x5 : Int32) (x6 : Int32) (x7 : Int32) (x8 : Int32) (x9 : Int32) (s0 : Int32) (s1 : Int32) (s2 : Int32) (s3 : Int32) (hE : f_L_lots_477  wg wl vX x5 x6 x7 x8 x9 s0 s1 s2 s3 = some out) (r : Nat → Nat → Nat → Nat) (H : Heap) (locs : List Loc) (ls : Array Slot) (hW : cr_wd D A s (cr_wN ct 17 bg wg ++ (cr_wN ct 52 bl wl ++ cr_wXt ct a r vX)) H locs) (hl : lv_has ls 13 [(0, .ref (a 0 0)), (1, .ref (bg 0)), (2, .ref (bl 0)), (5, .int x5), (6, .int x6), (7, .int x7), (8, .int x8), (9, .int x9)]), W p L e ({ frames := 5, cells := 0, slots := 0, locals := 110 } : Room) s m args below meth c H locs 0 0 (MQ below (va_Qi (fun r (u : (Nat → Nat → Nat → Nat) × cr_V × cr_V × cr_XT) => (r, u.2) = out) (fun u t => cr_at D A ((fun u : (Nat → Nat → Nat → Nat) × cr_V × cr_V × cr_XT => cr_wN ct 17 bg u.2.1 ++ (cr_wN ct 52 bl u.2.2.1 ++ cr_wXt ct a u.1 u.2.2.2)) u) t) A) args s 0 0 A) (F0 m 477 ls [.int s0, .int s1, .int s2, .int s3]) := by
    intro  wg wl vX x5 x6 x7 x8 x9 s0 s1 s2 s3 hE r H locs ls hW hl
    replace hE : (if (s1 + s0) = 0 then none else if x5 = x7 then ((f_X6_blend vX.1 vX.2.1 vX.2.2.1 vX.2.2.2.1 vX.2.2.2.2.1 vX.2.2.2.2.2.1 vX.2.2.2.2.2.2.1 vX.2.2.2.2.2.2.2.1 vX.2.2.2.2.2.2.2.2.1 vX.2.2.2.2.2.2.2.2.2 x6 x9 x8 (s3 + (s2 - s2 / (s1 + s0) * (s1 + s0)))).bind fun q31 => if q31.1 = (-2000000001) then (some (1, wg, wl, (cl_uX q31.2 vX))) else (some (0, wg, wl, (cl_uX q31.2 vX)))) else (if cr_in ((4 * x5) + 1) 52 = true then if (wl 0 (cr_x ((4 * x5) + 1))) < x9 then (f_L_lots_538 wg wl vX x6 x8 x9 (s3 + (s2 - s2 / (s1 + s0) * (s1 + s0)))) else (if cr_in ((4 * x7) + 1) 52 = true then if (s3 + (s2 - s2 / (s1 + s0) * (s1 + s0))) ≤ (wl 0 (cr_x ((4 * x7) + 1))) then (if x9 = (wl 0 (cr_x ((4 * x5) + 1))) then (f_L_lots_583 wg wl vX x5 x6 x7 x8 x9 (s3 + (s2 - s2 / (s1 + s0) * (s1 + s0))) 0 (wg 0 6)) else (f_L_lots_583 wg wl vX x5 x6 x7 x8 x9 (s3 + (s2 - s2 / (s1 + s0) * (s1 + s0))) 1 (wg 0 6))) else (f_L_lots_538 wg wl vX x6 x8 x9 (s3 + (s2 - s2 / (s1 + s0) * (s1 + s0)))) else none) else none)) = some out := hE
    refine lv_iadd hx hb dL_lots_477 ?_
    obtain ⟨z24, hE⟩ := cr_ifz hE
    refine lv_irem hx hb dL_lots_478 z24 ?_
    refine lv_iadd hx hb dL_lots_479 ?_
    refine lv_istore (lv' := [(10, .int (s3 + (s2 - s2 / (s1 + s0) * (s1 + s0)))), (0, .ref (a 0 0)), (1, .ref (bg 0)), (2, .ref (bl 0)), (5, .int x5), (6, .int x6), (7, .int x7), (8, .int x8), (9, .int x9)]) hx hb dL_lots_480 hl (by decide) rfl (fun ls hl => ?_)
    refine lv_iload hx hb dL_lots_482 (lv_at hl 4 rfl) ?_
    refine lv_iload hx hb dL_lots_484 (lv_at hl 6 rfl) ?_
    refine lv_icmp_ne (tgt := 512) hx hb dL_lots_486 (by decide) (fun c25 => ?_) (fun c25 => ?_)
    · rw [if_neg c25] at hE
      refine lv_iload hx hb dL_lots_512 (lv_at hl 8 rfl) ?_
      refine lv_aload_n hx hb dL_lots_514 rfl (lv_at hl 3 rfl) ?_
      refine lv_iconst (v := 4) hx hb dL_lots_515 (by decide) ?_
      refine lv_iload hx hb dL_lots_516 (lv_at hl 4 rfl) ?_
      refine lv_imul hx hb dL_lots_518 ?_
      refine lv_iconst (v := 1) hx hb dL_lots_519 (by decide) ?_
      refine lv_iadd hx hb dL_lots_520 ?_
      obtain ⟨i26, hE⟩ := cr_ifn hE
      refine cr_ald C hW.1 1 (f := wl 0) (k := cr_x ((4 * x5) + 1)) rfl i26 (cr_xe _) dL_lots_521 ?_
      refine lv_icmp_gt (tgt := 538) hx hb dL_lots_522 (by decide) (fun c27 => ?_) (fun c27 => ?_)
      · rw [if_pos c27] at hE
        exact n538 wg wl vX x6 x8 x9 (s3 + (s2 - s2 / (s1 + s0) * (s1 + s0))) hE _ _ _ _ hW (lv_sub hl [1, 5, 7, 8, 0] rfl)
      · rw [if_neg c27] at hE
        refine lv_iload hx hb dL_lots_525 (lv_at hl 0 rfl) ?_
        refine lv_aload_n hx hb dL_lots_527 rfl (lv_at hl 3 rfl) ?_
        refine lv_iconst (v := 4) hx hb dL_lots_528 (by decide) ?_
        refine lv_iload hx hb dL_lots_529 (lv_at hl 6 rfl) ?_
        refine lv_imul hx hb dL_lots_531 ?_
        refine lv_iconst (v := 1) hx hb dL_lots_532 (by decide) ?_
        refine lv_iadd hx hb dL_lots_533 ?_
        obtain ⟨i28, hE⟩ := cr_ifn hE
        refine cr_ald C hW.1 1 (f := wl 0) (k := cr_x ((4 * x7) + 1)) rfl i28 (cr_xe _) dL_lots_534 ?_
        refine lv_icmp_le (tgt := 561) hx hb dL_lots_535 (by decide) (fun c29 => ?_) (fun c29 => ?_)
        · rw [if_pos c29] at hE
          refine lv_aload_n hx hb dL_lots_561 rfl (lv_at hl 2 rfl) ?_
          refine lv_bipush (v := 6) hx hb dL_lots_562 (by decide) ?_
          refine cr_ald C hW.1 0 (f := wg 0) (k := 6) rfl (by decide) (by decide) dL_lots_564 ?_
          refine lv_iload hx hb dL_lots_565 (lv_at hl 8 rfl) ?_
          refine lv_aload_n hx hb dL_lots_567 rfl (lv_at hl 3 rfl) ?_
          refine lv_iconst (v := 4) hx hb dL_lots_568 (by decide) ?_
          refine lv_iload hx hb dL_lots_569 (lv_at hl 4 rfl) ?_
          refine lv_imul hx hb dL_lots_571 ?_
          refine lv_iconst (v := 1) hx hb dL_lots_572 (by decide) ?_
          refine lv_iadd hx hb dL_lots_573 ?_
          refine cr_ald C hW.1 1 (f := wl 0) (k := cr_x ((4 * x5) + 1)) rfl i26 (cr_xe _) dL_lots_574 ?_
          refine lv_icmp_ne (tgt := 582) hx hb dL_lots_575 (by decide) (fun c30 => ?_) (fun c30 => ?_)
          · rw [if_neg c30] at hE
            refine lv_iconst (v := 1) hx hb dL_lots_582 (by decide) ?_
            exact n583 wg wl vX x5 x6 x7 x8 x9 (s3 + (s2 - s2 / (s1 + s0) * (s1 + s0))) 1 (wg 0 6) hE _ _ _ _ hW (lv_sub hl [1, 2, 3, 4, 5, 6, 7, 8, 0] rfl)
          · rw [if_pos c30] at hE
            refine lv_iconst (v := 0) hx hb dL_lots_578 (by decide) ?_
            refine lv_goto (tgt := 583) hx hb dL_lots_579 (by decide) ?_
            exact n583 wg wl vX x5 x6 x7 x8 x9 (s3 + (s2 - s2 / (s1 + s0) * (s1 + s0))) 0 (wg 0 6) hE _ _ _ _ hW (lv_sub hl [1, 2, 3, 4, 5, 6, 7, 8, 0] rfl)
        · rw [if_neg c29] at hE
          exact n538 wg wl vX x6 x8 x9 (s3 + (s2 - s2 / (s1 + s0) * (s1 + s0))) hE _ _ _ _ hW (lv_sub hl [1, 5, 7, 8, 0] rfl)
    · rw [if_pos c25] at hE
      refine lv_aload_n hx hb dL_lots_489 rfl (lv_at hl 1 rfl) ?_
      refine lv_iload hx hb dL_lots_490 (lv_at hl 5 rfl) ?_
      refine lv_iload hx hb dL_lots_492 (lv_at hl 8 rfl) ?_
      refine lv_iload hx hb dL_lots_494 (lv_at hl 7 rfl) ?_
      refine lv_iload hx hb dL_lots_496 (lv_at hl 0 rfl) ?_
      obtain ⟨q31, hq31, hE⟩ := cr_bind hE
      refine cl_vWBr (nb := 3) (n := 4) (As := [.int x6, .int x9, .int x8, .int (s3 + (s2 - s2 / (s1 + s0) * (s1 + s0)))]) (rest := []) C hW (m_X6_blend L D ct a r vX.1 vX.2.1 vX.2.2.1 vX.2.2.2.1 vX.2.2.2.2.1 vX.2.2.2.2.2.1 vX.2.2.2.2.2.2.1 vX.2.2.2.2.2.2.2.1 vX.2.2.2.2.2.2.2.2.1 vX.2.2.2.2.2.2.2.2.2 x6 x9 x8 (s3 + (s2 - s2 / (s1 + s0) * (s1 + s0))) _ q31 hq31) (cwV 4 hts gL_lots_X6_blend rfl rfl rfl (by decide +kernel) ⟨Nat.le_of_ble_eq_true rfl, Nat.le_of_ble_eq_true rfl⟩) [2] [0, 1] [cr_wN ct 17 bg wg, cr_wN ct 52 bl wl, cr_wXt ct a r vX] (fun r => cr_wN ct 17 bg wg ++ (cr_wN ct 52 bl wl ++ cr_wXt ct a r (cl_uX q31.2 vX))) (fun r => [cr_wN ct 17 bg wg, cr_wN ct 52 bl wl, cr_wXt ct a r (cl_uX q31.2 vX)]) ⟨rfl, rfl⟩ (fun _ => ⟨rfl, rfl⟩) rfl (fun _ => rfl) (fun _ => rfl) (by decide) 2 rfl rfl rfl hl.1 rfl (Nat.le_of_ble_eq_true rfl) dL_lots_498 ⟨Nat.le_of_ble_eq_true rfl, Nat.le_of_ble_eq_true rfl⟩ (fun r H locs hW => ?_)
      refine cr_ldc C k2 dL_lots_501 ?_
      refine lv_icmp_ne (tgt := 510) hx hb dL_lots_503 (by decide) (fun c32 => ?_) (fun c32 => ?_)
      · rw [if_neg c32] at hE
        refine lv_iconst (v := 0) hx hb dL_lots_510 (by decide) ?_
        exact cr_retWz C (w := (fun u : (Nat → Nat → Nat → Nat) × cr_V × cr_V × cr_XT => cr_wN ct 17 bg u.2.1 ++ (cr_wN ct 52 bl u.2.2.1 ++ cr_wXt ct a u.1 u.2.2.2))) (r, wg, wl, (cl_uX q31.2 vX)) hW rfl (Option.some.inj hE) dL_lots_511
      · rw [if_pos c32] at hE
        refine lv_iconst (v := 1) hx hb dL_lots_506 (by decide) ?_
        refine lv_goto (tgt := 511) hx hb dL_lots_507 (by decide) ?_
        exact cr_retWz C (w := (fun u : (Nat → Nat → Nat → Nat) × cr_V × cr_V × cr_XT => cr_wN ct 17 bg u.2.1 ++ (cr_wN ct 52 bl u.2.2.1 ++ cr_wXt ct a u.1 u.2.2.2))) (r, wg, wl, (cl_uX q31.2 vX)) hW rfl (Option.some.inj hE) dL_lots_511
  have n445 :  ∀ (wg : cr_V) (wl : cr_V) (vX : cr_XT) (x4 : Int32) (x5 : Int32) (x6 : Int32) (x7 : Int32) (x8 : Int32) (s0 : Int32) (s1 : Int32) (s2 : Int32) (s3 : Int32) (hE : f_L_lots_445  wg wl vX x4 x5 x6 x7 x8 s0 s1 s2 s3 = some out) (r : Nat → Nat → Nat → Nat) (H : Heap) (locs : List Loc) (ls : Array Slot) (hW : cr_wd D A s (cr_wN ct 17 bg wg ++ (cr_wN ct 52 bl wl ++ cr_wXt ct a r vX)) H locs) (hl : lv_has ls 13 [(0, .ref (a 0 0)), (1, .ref (bg 0)), (2, .ref (bl 0)), (4, .int x4), (5, .int x5), (6, .int x6), (7, .int x7), (8, .int x8)]), W p L e ({ frames := 5, cells := 0, slots := 0, locals := 110 } : Room) s m args below meth c H locs 0 0 (MQ below (va_Qi (fun r (u : (Nat → Nat → Nat → Nat) × cr_V × cr_V × cr_XT) => (r, u.2) = out) (fun u t => cr_at D A ((fun u : (Nat → Nat → Nat → Nat) × cr_V × cr_V × cr_XT => cr_wN ct 17 bg u.2.1 ++ (cr_wN ct 52 bl u.2.2.1 ++ cr_wXt ct a u.1 u.2.2.2)) u) t) A) args s 0 0 A) (F0 m 445 ls [.int s0, .int s1, .int s2, .int s3]) := by
    intro  wg wl vX x4 x5 x6 x7 x8 s0 s1 s2 s3 hE r H locs ls hW hl
    replace hE : (if (s1 + s0) = 0 then none else if cr_in ((4 * x7) + 1) 52 = true then if (x4 - x4 / 7 * 7) = 0 then (f_L_lots_477 wg wl vX x5 x6 x7 x8 (s3 + (s2 - s2 / (s1 + s0) * (s1 + s0))) 1 (wl 0 (cr_x ((4 * x7) + 1))) (x4 / 31) 1) else (f_L_lots_477 wg wl vX x5 x6 x7 x8 (s3 + (s2 - s2 / (s1 + s0) * (s1 + s0))) 0 (wl 0 (cr_x ((4 * x7) + 1))) (x4 / 31) 1) else none) = some out := hE
    refine lv_iadd hx hb dL_lots_445 ?_
    obtain ⟨z33, hE⟩ := cr_ifz hE
    refine lv_irem hx hb dL_lots_446 z33 ?_
    refine lv_iadd hx hb dL_lots_447 ?_
    refine lv_istore (lv' := [(9, .int (s3 + (s2 - s2 / (s1 + s0) * (s1 + s0)))), (0, .ref (a 0 0)), (1, .ref (bg 0)), (2, .ref (bl 0)), (4, .int x4), (5, .int x5), (6, .int x6), (7, .int x7), (8, .int x8)]) hx hb dL_lots_448 hl (by decide) rfl (fun ls hl => ?_)
    refine lv_iconst (v := 1) hx hb dL_lots_450 (by decide) ?_
    refine lv_iload hx hb dL_lots_451 (lv_at hl 4 rfl) ?_
    refine lv_bipush (v := 31) hx hb dL_lots_453 (by decide) ?_
    refine lv_idiv hx hb dL_lots_455 (by decide) ?_
    refine lv_aload_n hx hb dL_lots_456 rfl (lv_at hl 3 rfl) ?_
    refine lv_iconst (v := 4) hx hb dL_lots_457 (by decide) ?_
    refine lv_iload hx hb dL_lots_458 (lv_at hl 7 rfl) ?_
    refine lv_imul hx hb dL_lots_460 ?_
    refine lv_iconst (v := 1) hx hb dL_lots_461 (by decide) ?_
    refine lv_iadd hx hb dL_lots_462 ?_
    obtain ⟨i34, hE⟩ := cr_ifn hE
    refine cr_ald C hW.1 1 (f := wl 0) (k := cr_x ((4 * x7) + 1)) rfl i34 (cr_xe _) dL_lots_463 ?_
    refine lv_iload hx hb dL_lots_464 (lv_at hl 4 rfl) ?_
    refine lv_bipush (v := 7) hx hb dL_lots_466 (by decide) ?_
    refine lv_irem hx hb dL_lots_468 (by decide) ?_
    refine lv_if_ne (tgt := 476) hx hb dL_lots_469 (by decide) (fun c35 => ?_) (fun c35 => ?_)
    · rw [if_neg c35] at hE
      refine lv_iconst (v := 0) hx hb dL_lots_476 (by decide) ?_
      exact n477 wg wl vX x5 x6 x7 x8 (s3 + (s2 - s2 / (s1 + s0) * (s1 + s0))) 0 (wl 0 (cr_x ((4 * x7) + 1))) (x4 / 31) 1 hE _ _ _ _ hW (lv_sub hl [1, 2, 3, 5, 6, 7, 8, 0] rfl)
    · rw [if_pos c35] at hE
      refine lv_iconst (v := 1) hx hb dL_lots_472 (by decide) ?_
      refine lv_goto (tgt := 477) hx hb dL_lots_473 (by decide) ?_
      exact n477 wg wl vX x5 x6 x7 x8 (s3 + (s2 - s2 / (s1 + s0) * (s1 + s0))) 1 (wl 0 (cr_x ((4 * x7) + 1))) (x4 / 31) 1 hE _ _ _ _ hW (lv_sub hl [1, 2, 3, 5, 6, 7, 8, 0] rfl)
  replace hE : (if x3 = 0 then (if (x4 - x4 / 3 * 3) = 0 then (f_L_lots_22 wg wl vX x4 999 x4 1) else (f_L_lots_22 wg wl vX x4 120 x4 1)) else (if (wg 0 6) = 0 then ((f_X6_part vX.1 vX.2.1 vX.2.2.1 vX.2.2.2.1 vX.2.2.2.2.1 vX.2.2.2.2.2.1 vX.2.2.2.2.2.2.1 vX.2.2.2.2.2.2.2.1 vX.2.2.2.2.2.2.2.2.1 vX.2.2.2.2.2.2.2.2.2 (wg 0 5) 1).bind fun q69 => if q69.1 = (-2000000001) then ((f_X6_cup (cl_uX q69.2 vX).1 (cl_uX q69.2 vX).2.1 (cl_uX q69.2 vX).2.2.1 (cl_uX q69.2 vX).2.2.2.1 (cl_uX q69.2 vX).2.2.2.2.1 (cl_uX q69.2 vX).2.2.2.2.2.1 (cl_uX q69.2 vX).2.2.2.2.2.2.1 (cl_uX q69.2 vX).2.2.2.2.2.2.2.1 (cl_uX q69.2 vX).2.2.2.2.2.2.2.2.1 (cl_uX q69.2 vX).2.2.2.2.2.2.2.2.2 (wg 0 5)).bind fun q71 => if q71.1 = (-2000000001) then ((f_X6_blend (cl_uX q71.2 (cl_uX q69.2 vX)).1 (cl_uX q71.2 (cl_uX q69.2 vX)).2.1 (cl_uX q71.2 (cl_uX q69.2 vX)).2.2.1 (cl_uX q71.2 (cl_uX q69.2 vX)).2.2.2.1 (cl_uX q71.2 (cl_uX q69.2 vX)).2.2.2.2.1 (cl_uX q71.2 (cl_uX q69.2 vX)).2.2.2.2.2.1 (cl_uX q71.2 (cl_uX q69.2 vX)).2.2.2.2.2.2.1 (cl_uX q71.2 (cl_uX q69.2 vX)).2.2.2.2.2.2.2.1 (cl_uX q71.2 (cl_uX q69.2 vX)).2.2.2.2.2.2.2.2.1 (cl_uX q71.2 (cl_uX q69.2 vX)).2.2.2.2.2.2.2.2.2 (wg 0 5) 1 0 1).bind fun q73 => if q73.1 = (-2000000001) then (some (1, wg, wl, (cl_uX q73.2 (cl_uX q71.2 (cl_uX q69.2 vX))))) else (some (0, wg, wl, (cl_uX q73.2 (cl_uX q71.2 (cl_uX q69.2 vX)))))) else (some (0, wg, wl, (cl_uX q71.2 (cl_uX q69.2 vX))))) else (some (0, wg, wl, (cl_uX q69.2 vX)))) else (if (wg 0 6) = 0 then none else if cr_in (4 * (x4 - x4 / (wg 0 6) * (wg 0 6))) 52 = true then if x3 = 1 then (if cr_in ((4 * (x4 - x4 / (wg 0 6) * (wg 0 6))) + 1) 52 = true then if ((wl 0 (cr_x ((4 * (x4 - x4 / (wg 0 6) * (wg 0 6))) + 1))) + 1) = 0 then none else if (1 + ((x4 / 12) - (x4 / 12) / ((wl 0 (cr_x ((4 * (x4 - x4 / (wg 0 6) * (wg 0 6))) + 1))) + 1) * ((wl 0 (cr_x ((4 * (x4 - x4 / (wg 0 6) * (wg 0 6))) + 1))) + 1))) < (wl 0 (cr_x ((4 * (x4 - x4 / (wg 0 6) * (wg 0 6))) + 1))) then (if (wg 0 6) = 12 then ((f_X6_part vX.1 vX.2.1 vX.2.2.1 vX.2.2.2.1 vX.2.2.2.2.1 vX.2.2.2.2.2.1 vX.2.2.2.2.2.2.1 vX.2.2.2.2.2.2.2.1 vX.2.2.2.2.2.2.2.2.1 vX.2.2.2.2.2.2.2.2.2 (wl 0 (cr_x (4 * (x4 - x4 / (wg 0 6) * (wg 0 6))))) (1 + ((x4 / 12) - (x4 / 12) / ((wl 0 (cr_x ((4 * (x4 - x4 / (wg 0 6) * (wg 0 6))) + 1))) + 1) * ((wl 0 (cr_x ((4 * (x4 - x4 / (wg 0 6) * (wg 0 6))) + 1))) + 1)))).bind fun q65 => if q65.1 = (-2000000003) then (some (1, wg, wl, (cl_uX q65.2 vX))) else (some (0, wg, wl, (cl_uX q65.2 vX)))) else ((f_L_takes wg wl (wl 0 (cr_x (4 * (x4 - x4 / (wg 0 6) * (wg 0 6))))) (1 + ((x4 / 12) - (x4 / 12) / ((wl 0 (cr_x ((4 * (x4 - x4 / (wg 0 6) * (wg 0 6))) + 1))) + 1) * ((wl 0 (cr_x ((4 * (x4 - x4 / (wg 0 6) * (wg 0 6))) + 1))) + 1)))).bind fun q59 => (f_X6_part vX.1 vX.2.1 vX.2.2.1 vX.2.2.2.1 vX.2.2.2.2.1 vX.2.2.2.2.2.1 vX.2.2.2.2.2.2.1 vX.2.2.2.2.2.2.2.1 vX.2.2.2.2.2.2.2.2.1 vX.2.2.2.2.2.2.2.2.2 (wl 0 (cr_x (4 * (x4 - x4 / (wg 0 6) * (wg 0 6))))) (1 + ((x4 / 12) - (x4 / 12) / ((wl 0 (cr_x ((4 * (x4 - x4 / (wg 0 6) * (wg 0 6))) + 1))) + 1) * ((wl 0 (cr_x ((4 * (x4 - x4 / (wg 0 6) * (wg 0 6))) + 1))) + 1)))).bind fun q60 => if cr_in ((4 * (x4 - x4 / (wg 0 6) * (wg 0 6))) + 2) 52 = true then if cr_in ((4 * (x4 - x4 / (wg 0 6) * (wg 0 6))) + 3) 52 = true then (f_L_makes q59.1 q59.2 (1 + ((x4 / 12) - (x4 / 12) / ((wl 0 (cr_x ((4 * (x4 - x4 / (wg 0 6) * (wg 0 6))) + 1))) + 1) * ((wl 0 (cr_x ((4 * (x4 - x4 / (wg 0 6) * (wg 0 6))) + 1))) + 1))) (q59.2 0 (cr_x ((4 * (x4 - x4 / (wg 0 6) * (wg 0 6))) + 2))) (q59.2 0 (cr_x ((4 * (x4 - x4 / (wg 0 6) * (wg 0 6))) + 3)))).bind fun q63 => if q60.1 = q63.1 then (some (1, q63.2.1, q63.2.2, (cl_uX q60.2 vX))) else (some (0, q63.2.1, q63.2.2, (cl_uX q60.2 vX))) else none else none)) else ((f_X6_part vX.1 vX.2.1 vX.2.2.1 vX.2.2.2.1 vX.2.2.2.2.1 vX.2.2.2.2.2.1 vX.2.2.2.2.2.2.1 vX.2.2.2.2.2.2.2.1 vX.2.2.2.2.2.2.2.2.1 vX.2.2.2.2.2.2.2.2.2 (wl 0 (cr_x (4 * (x4 - x4 / (wg 0 6) * (wg 0 6))))) (1 + ((x4 / 12) - (x4 / 12) / ((wl 0 (cr_x ((4 * (x4 - x4 / (wg 0 6) * (wg 0 6))) + 1))) + 1) * ((wl 0 (cr_x ((4 * (x4 - x4 / (wg 0 6) * (wg 0 6))) + 1))) + 1)))).bind fun q67 => if q67.1 = (-2000000002) then (some (1, wg, wl, (cl_uX q67.2 vX))) else (some (0, wg, wl, (cl_uX q67.2 vX)))) else none) else (if x3 = 2 then (if cr_in ((4 * (x4 - x4 / (wg 0 6) * (wg 0 6))) + 1) 52 = true then if (wl 0 (cr_x ((4 * (x4 - x4 / (wg 0 6) * (wg 0 6))) + 1))) = 1 then ((f_X6_cup vX.1 vX.2.1 vX.2.2.1 vX.2.2.2.1 vX.2.2.2.2.1 vX.2.2.2.2.2.1 vX.2.2.2.2.2.2.1 vX.2.2.2.2.2.2.2.1 vX.2.2.2.2.2.2.2.2.1 vX.2.2.2.2.2.2.2.2.2 (wl 0 (cr_x (4 * (x4 - x4 / (wg 0 6) * (wg 0 6)))))).bind fun q53 => if q53.1 = (-2000000002) then (some (1, wg, wl, (cl_uX q53.2 vX))) else (some (0, wg, wl, (cl_uX q53.2 vX)))) else ((f_L_cup (cr_a wl 0 (cr_x ((4 * (x4 - x4 / (wg 0 6) * (wg 0 6))) + 1)) ((wl 0 (cr_x ((4 * (x4 - x4 / (wg 0 6) * (wg 0 6))) + 1))) - 1)) (x4 - x4 / (wg 0 6) * (wg 0 6)) (wg 0 0)).bind fun q48 => if cr_in ((4 * (x4 - x4 / (wg 0 6) * (wg 0 6))) + 2) 52 = true then if cr_in ((4 * (x4 - x4 / (wg 0 6) * (wg 0 6))) + 3) 52 = true then (f_X6_cup vX.1 vX.2.1 vX.2.2.1 vX.2.2.2.1 vX.2.2.2.2.1 vX.2.2.2.2.2.1 vX.2.2.2.2.2.2.1 vX.2.2.2.2.2.2.2.1 vX.2.2.2.2.2.2.2.2.1 vX.2.2.2.2.2.2.2.2.2 (wl 0 (cr_x (4 * (x4 - x4 / (wg 0 6) * (wg 0 6)))))).bind fun q51 => if q51.1 = ((cr_a (cr_a (cr_a wl 0 (cr_x ((4 * (x4 - x4 / (wg 0 6) * (wg 0 6))) + 1)) ((wl 0 (cr_x ((4 * (x4 - x4 / (wg 0 6) * (wg 0 6))) + 1))) - 1)) 0 (cr_x ((4 * (x4 - x4 / (wg 0 6) * (wg 0 6))) + 2)) q48) 0 (cr_x ((4 * (x4 - x4 / (wg 0 6) * (wg 0 6))) + 3)) (wg 0 0)) 0 (cr_x ((4 * (x4 - x4 / (wg 0 6) * (wg 0 6))) + 2))) then (some (1, wg, cr_a (cr_a (cr_a wl 0 (cr_x ((4 * (x4 - x4 / (wg 0 6) * (wg 0 6))) + 1)) ((wl 0 (cr_x ((4 * (x4 - x4 / (wg 0 6) * (wg 0 6))) + 1))) - 1)) 0 (cr_x ((4 * (x4 - x4 / (wg 0 6) * (wg 0 6))) + 2)) q48) 0 (cr_x ((4 * (x4 - x4 / (wg 0 6) * (wg 0 6))) + 3)) (wg 0 0), (cl_uX q51.2 vX))) else (some (0, wg, cr_a (cr_a (cr_a wl 0 (cr_x ((4 * (x4 - x4 / (wg 0 6) * (wg 0 6))) + 1)) ((wl 0 (cr_x ((4 * (x4 - x4 / (wg 0 6) * (wg 0 6))) + 1))) - 1)) 0 (cr_x ((4 * (x4 - x4 / (wg 0 6) * (wg 0 6))) + 2)) q48) 0 (cr_x ((4 * (x4 - x4 / (wg 0 6) * (wg 0 6))) + 3)) (wg 0 0), (cl_uX q51.2 vX))) else none else none) else none) else (if (wg 0 6) = 0 then none else if cr_in (4 * ((x4 / 12) - (x4 / 12) / (wg 0 6) * (wg 0 6))) 52 = true then if cr_in ((4 * (x4 - x4 / (wg 0 6) * (wg 0 6))) + 1) 52 = true then if (x4 - x4 / 5 * 5) = 0 then (f_L_lots_445 wg wl vX x4 (x4 - x4 / (wg 0 6) * (wg 0 6)) (wl 0 (cr_x (4 * (x4 - x4 / (wg 0 6) * (wg 0 6))))) ((x4 / 12) - (x4 / 12) / (wg 0 6) * (wg 0 6)) (wl 0 (cr_x (4 * ((x4 / 12) - (x4 / 12) / (wg 0 6) * (wg 0 6))))) 1 (wl 0 (cr_x ((4 * (x4 - x4 / (wg 0 6) * (wg 0 6))) + 1))) (x4 / 144) 1) else (f_L_lots_445 wg wl vX x4 (x4 - x4 / (wg 0 6) * (wg 0 6)) (wl 0 (cr_x (4 * (x4 - x4 / (wg 0 6) * (wg 0 6))))) ((x4 / 12) - (x4 / 12) / (wg 0 6) * (wg 0 6)) (wl 0 (cr_x (4 * ((x4 / 12) - (x4 / 12) / (wg 0 6) * (wg 0 6))))) 0 (wl 0 (cr_x ((4 * (x4 - x4 / (wg 0 6) * (wg 0 6))) + 1))) (x4 / 144) 1) else none else none)) else none))) = some out := hE
  refine lv_iload_n hx hb dL_lots_0 rfl (lv_at hl 3 rfl) ?_
  refine lv_if_ne (tgt := 97) hx hb dL_lots_1 (by decide) (fun c36 => ?_) (fun c36 => ?_)
  · rw [if_neg c36] at hE
    refine lv_aload_n hx hb dL_lots_97 rfl (lv_at hl 1 rfl) ?_
    refine lv_bipush (v := 6) hx hb dL_lots_98 (by decide) ?_
    refine cr_ald C hW.1 0 (f := wg 0) (k := 6) rfl (by decide) (by decide) dL_lots_100 ?_
    refine lv_if_ne (tgt := 150) hx hb dL_lots_101 (by decide) (fun c37 => ?_) (fun c37 => ?_)
    · rw [if_neg c37] at hE
      refine lv_iload hx hb dL_lots_150 (lv_at hl 4 rfl) ?_
      refine lv_aload_n hx hb dL_lots_152 rfl (lv_at hl 1 rfl) ?_
      refine lv_bipush (v := 6) hx hb dL_lots_153 (by decide) ?_
      refine cr_ald C hW.1 0 (f := wg 0) (k := 6) rfl (by decide) (by decide) dL_lots_155 ?_
      obtain ⟨z38, hE⟩ := cr_ifz hE
      refine lv_irem hx hb dL_lots_156 z38 ?_
      refine lv_istore (lv' := [(5, .int (x4 - x4 / (wg 0 6) * (wg 0 6))), (0, .ref (a 0 0)), (1, .ref (bg 0)), (2, .ref (bl 0)), (3, .int x3), (4, .int x4)]) hx hb dL_lots_157 hl (by decide) rfl (fun ls hl => ?_)
      refine lv_aload_n hx hb dL_lots_159 rfl (lv_at hl 3 rfl) ?_
      refine lv_iconst (v := 4) hx hb dL_lots_160 (by decide) ?_
      refine lv_iload hx hb dL_lots_161 (lv_at hl 0 rfl) ?_
      refine lv_imul hx hb dL_lots_163 ?_
      obtain ⟨i39, hE⟩ := cr_ifn hE
      refine cr_ald C hW.1 1 (f := wl 0) (k := cr_x (4 * (x4 - x4 / (wg 0 6) * (wg 0 6)))) rfl i39 (cr_xe _) dL_lots_164 ?_
      refine lv_istore (lv' := [(6, .int (wl 0 (cr_x (4 * (x4 - x4 / (wg 0 6) * (wg 0 6)))))), (5, .int (x4 - x4 / (wg 0 6) * (wg 0 6))), (0, .ref (a 0 0)), (1, .ref (bg 0)), (2, .ref (bl 0)), (3, .int x3), (4, .int x4)]) hx hb dL_lots_165 hl (by decide) rfl (fun ls hl => ?_)
      refine lv_iload_n hx hb dL_lots_167 rfl (lv_at hl 5 rfl) ?_
      refine lv_iconst (v := 1) hx hb dL_lots_168 (by decide) ?_
      refine lv_icmp_ne (tgt := 301) hx hb dL_lots_169 (by decide) (fun c40 => ?_) (fun c40 => ?_)
      · rw [if_neg c40] at hE
        refine lv_iload_n hx hb dL_lots_301 rfl (lv_at hl 5 rfl) ?_
        refine lv_iconst (v := 2) hx hb dL_lots_302 (by decide) ?_
        refine lv_icmp_ne (tgt := 398) hx hb dL_lots_303 (by decide) (fun c41 => ?_) (fun c41 => ?_)
        · rw [if_neg c41] at hE
          refine lv_iload hx hb dL_lots_398 (lv_at hl 6 rfl) ?_
          refine lv_bipush (v := 12) hx hb dL_lots_400 (by decide) ?_
          refine lv_idiv hx hb dL_lots_402 (by decide) ?_
          refine lv_aload_n hx hb dL_lots_403 rfl (lv_at hl 3 rfl) ?_
          refine lv_bipush (v := 6) hx hb dL_lots_404 (by decide) ?_
          refine cr_ald C hW.1 0 (f := wg 0) (k := 6) rfl (by decide) (by decide) dL_lots_406 ?_
          obtain ⟨z42, hE⟩ := cr_ifz hE
          refine lv_irem hx hb dL_lots_407 z42 ?_
          refine lv_istore (lv' := [(7, .int ((x4 / 12) - (x4 / 12) / (wg 0 6) * (wg 0 6))), (6, .int (wl 0 (cr_x (4 * (x4 - x4 / (wg 0 6) * (wg 0 6)))))), (5, .int (x4 - x4 / (wg 0 6) * (wg 0 6))), (0, .ref (a 0 0)), (1, .ref (bg 0)), (2, .ref (bl 0)), (3, .int x3), (4, .int x4)]) hx hb dL_lots_408 hl (by decide) rfl (fun ls hl => ?_)
          refine lv_aload_n hx hb dL_lots_410 rfl (lv_at hl 5 rfl) ?_
          refine lv_iconst (v := 4) hx hb dL_lots_411 (by decide) ?_
          refine lv_iload hx hb dL_lots_412 (lv_at hl 0 rfl) ?_
          refine lv_imul hx hb dL_lots_414 ?_
          obtain ⟨i43, hE⟩ := cr_ifn hE
          refine cr_ald C hW.1 1 (f := wl 0) (k := cr_x (4 * ((x4 / 12) - (x4 / 12) / (wg 0 6) * (wg 0 6)))) rfl i43 (cr_xe _) dL_lots_415 ?_
          refine lv_istore (lv' := [(8, .int (wl 0 (cr_x (4 * ((x4 / 12) - (x4 / 12) / (wg 0 6) * (wg 0 6)))))), (7, .int ((x4 / 12) - (x4 / 12) / (wg 0 6) * (wg 0 6))), (6, .int (wl 0 (cr_x (4 * (x4 - x4 / (wg 0 6) * (wg 0 6)))))), (5, .int (x4 - x4 / (wg 0 6) * (wg 0 6))), (0, .ref (a 0 0)), (1, .ref (bg 0)), (2, .ref (bl 0)), (3, .int x3), (4, .int x4)]) hx hb dL_lots_416 hl (by decide) rfl (fun ls hl => ?_)
          refine lv_iconst (v := 1) hx hb dL_lots_418 (by decide) ?_
          refine lv_iload hx hb dL_lots_419 (lv_at hl 8 rfl) ?_
          refine lv_sipush (v := 144) hx hb dL_lots_421 (by decide) ?_
          refine lv_idiv hx hb dL_lots_424 (by decide) ?_
          refine lv_aload_n hx hb dL_lots_425 rfl (lv_at hl 6 rfl) ?_
          refine lv_iconst (v := 4) hx hb dL_lots_426 (by decide) ?_
          refine lv_iload hx hb dL_lots_427 (lv_at hl 3 rfl) ?_
          refine lv_imul hx hb dL_lots_429 ?_
          refine lv_iconst (v := 1) hx hb dL_lots_430 (by decide) ?_
          refine lv_iadd hx hb dL_lots_431 ?_
          obtain ⟨i44, hE⟩ := cr_ifn hE
          refine cr_ald C hW.1 1 (f := wl 0) (k := cr_x ((4 * (x4 - x4 / (wg 0 6) * (wg 0 6))) + 1)) rfl i44 (cr_xe _) dL_lots_432 ?_
          refine lv_iload hx hb dL_lots_433 (lv_at hl 8 rfl) ?_
          refine lv_iconst (v := 5) hx hb dL_lots_435 (by decide) ?_
          refine lv_irem hx hb dL_lots_436 (by decide) ?_
          refine lv_if_ne (tgt := 444) hx hb dL_lots_437 (by decide) (fun c45 => ?_) (fun c45 => ?_)
          · rw [if_neg c45] at hE
            refine lv_iconst (v := 0) hx hb dL_lots_444 (by decide) ?_
            exact n445 wg wl vX x4 (x4 - x4 / (wg 0 6) * (wg 0 6)) (wl 0 (cr_x (4 * (x4 - x4 / (wg 0 6) * (wg 0 6))))) ((x4 / 12) - (x4 / 12) / (wg 0 6) * (wg 0 6)) (wl 0 (cr_x (4 * ((x4 / 12) - (x4 / 12) / (wg 0 6) * (wg 0 6))))) 0 (wl 0 (cr_x ((4 * (x4 - x4 / (wg 0 6) * (wg 0 6))) + 1))) (x4 / 144) 1 hE _ _ _ _ hW (lv_sub hl [4, 5, 6, 8, 3, 2, 1, 0] rfl)
          · rw [if_pos c45] at hE
            refine lv_iconst (v := 1) hx hb dL_lots_440 (by decide) ?_
            refine lv_goto (tgt := 445) hx hb dL_lots_441 (by decide) ?_
            exact n445 wg wl vX x4 (x4 - x4 / (wg 0 6) * (wg 0 6)) (wl 0 (cr_x (4 * (x4 - x4 / (wg 0 6) * (wg 0 6))))) ((x4 / 12) - (x4 / 12) / (wg 0 6) * (wg 0 6)) (wl 0 (cr_x (4 * ((x4 / 12) - (x4 / 12) / (wg 0 6) * (wg 0 6))))) 1 (wl 0 (cr_x ((4 * (x4 - x4 / (wg 0 6) * (wg 0 6))) + 1))) (x4 / 144) 1 hE _ _ _ _ hW (lv_sub hl [4, 5, 6, 8, 3, 2, 1, 0] rfl)
        · rw [if_pos c41] at hE
          refine lv_aload_n hx hb dL_lots_306 rfl (lv_at hl 4 rfl) ?_
          refine lv_iconst (v := 4) hx hb dL_lots_307 (by decide) ?_
          refine lv_iload hx hb dL_lots_308 (lv_at hl 1 rfl) ?_
          refine lv_imul hx hb dL_lots_310 ?_
          refine lv_iconst (v := 1) hx hb dL_lots_311 (by decide) ?_
          refine lv_iadd hx hb dL_lots_312 ?_
          obtain ⟨i46, hE⟩ := cr_ifn hE
          refine cr_ald C hW.1 1 (f := wl 0) (k := cr_x ((4 * (x4 - x4 / (wg 0 6) * (wg 0 6))) + 1)) rfl i46 (cr_xe _) dL_lots_313 ?_
          refine lv_iconst (v := 1) hx hb dL_lots_314 (by decide) ?_
          refine lv_icmp_ne (tgt := 335) hx hb dL_lots_315 (by decide) (fun c47 => ?_) (fun c47 => ?_)
          · rw [if_neg c47] at hE
            refine lv_aload_n hx hb dL_lots_335 rfl (lv_at hl 4 rfl) ?_
            refine lv_iconst (v := 4) hx hb dL_lots_336 (by decide) ?_
            refine lv_iload hx hb dL_lots_337 (lv_at hl 1 rfl) ?_
            refine lv_imul hx hb dL_lots_339 ?_
            refine lv_iconst (v := 1) hx hb dL_lots_340 (by decide) ?_
            refine lv_iadd hx hb dL_lots_341 ?_
            refine lv_dup2_11 hx hb dL_lots_342 rfl rfl ?_
            refine cr_ald C hW.1 1 (f := wl 0) (k := cr_x ((4 * (x4 - x4 / (wg 0 6) * (wg 0 6))) + 1)) rfl i46 (cr_xe _) dL_lots_343 ?_
            refine lv_iconst (v := 1) hx hb dL_lots_344 (by decide) ?_
            refine lv_isub hx hb dL_lots_345 ?_
            refine cr_ast C hW 1 rfl (k := (cr_x ((4 * (x4 - x4 / (wg 0 6) * (wg 0 6))) + 1))) i46 (cr_xe _) (w' := cr_wN ct 17 bg wg ++ (cr_wN ct 52 bl (cr_a wl 0 (cr_x ((4 * (x4 - x4 / (wg 0 6) * (wg 0 6))) + 1)) ((wl 0 (cr_x ((4 * (x4 - x4 / (wg 0 6) * (wg 0 6))) + 1))) - 1)) ++ cr_wXt ct a r vX)) rfl dL_lots_346 (fun H locs hW => ?_)
            refine lv_aload_n hx hb dL_lots_347 rfl (lv_at hl 4 rfl) ?_
            refine lv_iconst (v := 4) hx hb dL_lots_348 (by decide) ?_
            refine lv_iload hx hb dL_lots_349 (lv_at hl 1 rfl) ?_
            refine lv_imul hx hb dL_lots_351 ?_
            refine lv_iconst (v := 2) hx hb dL_lots_352 (by decide) ?_
            refine lv_iadd hx hb dL_lots_353 ?_
            refine lv_aload_n hx hb dL_lots_354 rfl (lv_at hl 4 rfl) ?_
            refine lv_iload hx hb dL_lots_355 (lv_at hl 1 rfl) ?_
            refine lv_aload_n hx hb dL_lots_357 rfl (lv_at hl 3 rfl) ?_
            refine lv_iconst (v := 0) hx hb dL_lots_358 (by decide) ?_
            refine cr_ald C hW.1 0 (f := wg 0) (k := 0) rfl (by decide) (by decide) dL_lots_359 ?_
            obtain ⟨q48, hq48, hE⟩ := cr_bind hE
            refine cl_sRw (nb := 3) (n := 3) (As := [.ref (bl 0), .int (x4 - x4 / (wg 0 6) * (wg 0 6)), .int (wg 0 0)]) (rest := [.int ((4 * (x4 - x4 / (wg 0 6) * (wg 0 6))) + 2), .ref (bl 0)]) C hW (m_L_cup L D ct bl (cr_a wl 0 (cr_x ((4 * (x4 - x4 / (wg 0 6) * (wg 0 6))) + 1)) ((wl 0 (cr_x ((4 * (x4 - x4 / (wg 0 6) * (wg 0 6))) + 1))) - 1)) (x4 - x4 / (wg 0 6) * (wg 0 6)) (wg 0 0) q48 hq48) (va_cwS 3 hts gL_lots_L_cup rfl rfl rfl (by decide +kernel) ⟨Nat.le_of_ble_eq_true rfl, Nat.le_of_ble_eq_true rfl⟩) [1] [cr_wN ct 17 bg wg, cr_wN ct 52 bl (cr_a wl 0 (cr_x ((4 * (x4 - x4 / (wg 0 6) * (wg 0 6))) + 1)) ((wl 0 (cr_x ((4 * (x4 - x4 / (wg 0 6) * (wg 0 6))) + 1))) - 1)), cr_wXt ct a r vX] ⟨rfl, rfl⟩ rfl rfl hl.1 rfl (Nat.le_of_ble_eq_true rfl) dL_lots_360 ⟨Nat.le_of_ble_eq_true rfl, Nat.le_of_ble_eq_true rfl⟩ (fun H locs hW => ?_)
            obtain ⟨i49, hE⟩ := cr_ifn hE
            refine cr_ast C hW 1 rfl (k := (cr_x ((4 * (x4 - x4 / (wg 0 6) * (wg 0 6))) + 2))) i49 (cr_xe _) (w' := cr_wN ct 17 bg wg ++ (cr_wN ct 52 bl (cr_a (cr_a wl 0 (cr_x ((4 * (x4 - x4 / (wg 0 6) * (wg 0 6))) + 1)) ((wl 0 (cr_x ((4 * (x4 - x4 / (wg 0 6) * (wg 0 6))) + 1))) - 1)) 0 (cr_x ((4 * (x4 - x4 / (wg 0 6) * (wg 0 6))) + 2)) q48) ++ cr_wXt ct a r vX)) rfl dL_lots_363 (fun H locs hW => ?_)
            refine lv_aload_n hx hb dL_lots_364 rfl (lv_at hl 4 rfl) ?_
            refine lv_iconst (v := 4) hx hb dL_lots_365 (by decide) ?_
            refine lv_iload hx hb dL_lots_366 (lv_at hl 1 rfl) ?_
            refine lv_imul hx hb dL_lots_368 ?_
            refine lv_iconst (v := 3) hx hb dL_lots_369 (by decide) ?_
            refine lv_iadd hx hb dL_lots_370 ?_
            refine lv_aload_n hx hb dL_lots_371 rfl (lv_at hl 3 rfl) ?_
            refine lv_iconst (v := 0) hx hb dL_lots_372 (by decide) ?_
            refine cr_ald C hW.1 0 (f := wg 0) (k := 0) rfl (by decide) (by decide) dL_lots_373 ?_
            obtain ⟨i50, hE⟩ := cr_ifn hE
            refine cr_ast C hW 1 rfl (k := (cr_x ((4 * (x4 - x4 / (wg 0 6) * (wg 0 6))) + 3))) i50 (cr_xe _) (w' := cr_wN ct 17 bg wg ++ (cr_wN ct 52 bl (cr_a (cr_a (cr_a wl 0 (cr_x ((4 * (x4 - x4 / (wg 0 6) * (wg 0 6))) + 1)) ((wl 0 (cr_x ((4 * (x4 - x4 / (wg 0 6) * (wg 0 6))) + 1))) - 1)) 0 (cr_x ((4 * (x4 - x4 / (wg 0 6) * (wg 0 6))) + 2)) q48) 0 (cr_x ((4 * (x4 - x4 / (wg 0 6) * (wg 0 6))) + 3)) (wg 0 0)) ++ cr_wXt ct a r vX)) rfl dL_lots_374 (fun H locs hW => ?_)
            refine lv_aload_n hx hb dL_lots_375 rfl (lv_at hl 2 rfl) ?_
            refine lv_iload hx hb dL_lots_376 (lv_at hl 0 rfl) ?_
            obtain ⟨q51, hq51, hE⟩ := cr_bind hE
            refine cl_vWBr (nb := 3) (n := 1) (As := [.int (wl 0 (cr_x (4 * (x4 - x4 / (wg 0 6) * (wg 0 6)))))]) (rest := []) C hW (m_X6_cup L D ct a r vX.1 vX.2.1 vX.2.2.1 vX.2.2.2.1 vX.2.2.2.2.1 vX.2.2.2.2.2.1 vX.2.2.2.2.2.2.1 vX.2.2.2.2.2.2.2.1 vX.2.2.2.2.2.2.2.2.1 vX.2.2.2.2.2.2.2.2.2 (wl 0 (cr_x (4 * (x4 - x4 / (wg 0 6) * (wg 0 6))))) _ q51 hq51) (cwV 1 hts gL_lots_X6_cup rfl rfl rfl (by decide +kernel) ⟨Nat.le_of_ble_eq_true rfl, Nat.le_of_ble_eq_true rfl⟩) [2] [0, 1] [cr_wN ct 17 bg wg, cr_wN ct 52 bl (cr_a (cr_a (cr_a wl 0 (cr_x ((4 * (x4 - x4 / (wg 0 6) * (wg 0 6))) + 1)) ((wl 0 (cr_x ((4 * (x4 - x4 / (wg 0 6) * (wg 0 6))) + 1))) - 1)) 0 (cr_x ((4 * (x4 - x4 / (wg 0 6) * (wg 0 6))) + 2)) q48) 0 (cr_x ((4 * (x4 - x4 / (wg 0 6) * (wg 0 6))) + 3)) (wg 0 0)), cr_wXt ct a r vX] (fun r => cr_wN ct 17 bg wg ++ (cr_wN ct 52 bl (cr_a (cr_a (cr_a wl 0 (cr_x ((4 * (x4 - x4 / (wg 0 6) * (wg 0 6))) + 1)) ((wl 0 (cr_x ((4 * (x4 - x4 / (wg 0 6) * (wg 0 6))) + 1))) - 1)) 0 (cr_x ((4 * (x4 - x4 / (wg 0 6) * (wg 0 6))) + 2)) q48) 0 (cr_x ((4 * (x4 - x4 / (wg 0 6) * (wg 0 6))) + 3)) (wg 0 0)) ++ cr_wXt ct a r (cl_uX q51.2 vX))) (fun r => [cr_wN ct 17 bg wg, cr_wN ct 52 bl (cr_a (cr_a (cr_a wl 0 (cr_x ((4 * (x4 - x4 / (wg 0 6) * (wg 0 6))) + 1)) ((wl 0 (cr_x ((4 * (x4 - x4 / (wg 0 6) * (wg 0 6))) + 1))) - 1)) 0 (cr_x ((4 * (x4 - x4 / (wg 0 6) * (wg 0 6))) + 2)) q48) 0 (cr_x ((4 * (x4 - x4 / (wg 0 6) * (wg 0 6))) + 3)) (wg 0 0)), cr_wXt ct a r (cl_uX q51.2 vX)]) ⟨rfl, rfl⟩ (fun _ => ⟨rfl, rfl⟩) rfl (fun _ => rfl) (fun _ => rfl) (by decide) 2 rfl rfl rfl hl.1 rfl (Nat.le_of_ble_eq_true rfl) dL_lots_378 ⟨Nat.le_of_ble_eq_true rfl, Nat.le_of_ble_eq_true rfl⟩ (fun r H locs hW => ?_)
            refine lv_aload_n hx hb dL_lots_381 rfl (lv_at hl 4 rfl) ?_
            refine lv_iconst (v := 4) hx hb dL_lots_382 (by decide) ?_
            refine lv_iload hx hb dL_lots_383 (lv_at hl 1 rfl) ?_
            refine lv_imul hx hb dL_lots_385 ?_
            refine lv_iconst (v := 2) hx hb dL_lots_386 (by decide) ?_
            refine lv_iadd hx hb dL_lots_387 ?_
            refine cr_ald C hW.1 1 (f := (cr_a (cr_a (cr_a wl 0 (cr_x ((4 * (x4 - x4 / (wg 0 6) * (wg 0 6))) + 1)) ((wl 0 (cr_x ((4 * (x4 - x4 / (wg 0 6) * (wg 0 6))) + 1))) - 1)) 0 (cr_x ((4 * (x4 - x4 / (wg 0 6) * (wg 0 6))) + 2)) q48) 0 (cr_x ((4 * (x4 - x4 / (wg 0 6) * (wg 0 6))) + 3)) (wg 0 0)) 0) (k := cr_x ((4 * (x4 - x4 / (wg 0 6) * (wg 0 6))) + 2)) rfl i49 (cr_xe _) dL_lots_388 ?_
            refine lv_icmp_ne (tgt := 396) hx hb dL_lots_389 (by decide) (fun c52 => ?_) (fun c52 => ?_)
            · rw [if_neg c52] at hE
              refine lv_iconst (v := 0) hx hb dL_lots_396 (by decide) ?_
              exact cr_retWz C (w := (fun u : (Nat → Nat → Nat → Nat) × cr_V × cr_V × cr_XT => cr_wN ct 17 bg u.2.1 ++ (cr_wN ct 52 bl u.2.2.1 ++ cr_wXt ct a u.1 u.2.2.2))) (r, wg, cr_a (cr_a (cr_a wl 0 (cr_x ((4 * (x4 - x4 / (wg 0 6) * (wg 0 6))) + 1)) ((wl 0 (cr_x ((4 * (x4 - x4 / (wg 0 6) * (wg 0 6))) + 1))) - 1)) 0 (cr_x ((4 * (x4 - x4 / (wg 0 6) * (wg 0 6))) + 2)) q48) 0 (cr_x ((4 * (x4 - x4 / (wg 0 6) * (wg 0 6))) + 3)) (wg 0 0), (cl_uX q51.2 vX)) hW rfl (Option.some.inj hE) dL_lots_397
            · rw [if_pos c52] at hE
              refine lv_iconst (v := 1) hx hb dL_lots_392 (by decide) ?_
              refine lv_goto (tgt := 397) hx hb dL_lots_393 (by decide) ?_
              exact cr_retWz C (w := (fun u : (Nat → Nat → Nat → Nat) × cr_V × cr_V × cr_XT => cr_wN ct 17 bg u.2.1 ++ (cr_wN ct 52 bl u.2.2.1 ++ cr_wXt ct a u.1 u.2.2.2))) (r, wg, cr_a (cr_a (cr_a wl 0 (cr_x ((4 * (x4 - x4 / (wg 0 6) * (wg 0 6))) + 1)) ((wl 0 (cr_x ((4 * (x4 - x4 / (wg 0 6) * (wg 0 6))) + 1))) - 1)) 0 (cr_x ((4 * (x4 - x4 / (wg 0 6) * (wg 0 6))) + 2)) q48) 0 (cr_x ((4 * (x4 - x4 / (wg 0 6) * (wg 0 6))) + 3)) (wg 0 0), (cl_uX q51.2 vX)) hW rfl (Option.some.inj hE) dL_lots_397
          · rw [if_pos c47] at hE
            refine lv_aload_n hx hb dL_lots_318 rfl (lv_at hl 2 rfl) ?_
            refine lv_iload hx hb dL_lots_319 (lv_at hl 0 rfl) ?_
            obtain ⟨q53, hq53, hE⟩ := cr_bind hE
            refine cl_vWBr (nb := 3) (n := 1) (As := [.int (wl 0 (cr_x (4 * (x4 - x4 / (wg 0 6) * (wg 0 6)))))]) (rest := []) C hW (m_X6_cup L D ct a r vX.1 vX.2.1 vX.2.2.1 vX.2.2.2.1 vX.2.2.2.2.1 vX.2.2.2.2.2.1 vX.2.2.2.2.2.2.1 vX.2.2.2.2.2.2.2.1 vX.2.2.2.2.2.2.2.2.1 vX.2.2.2.2.2.2.2.2.2 (wl 0 (cr_x (4 * (x4 - x4 / (wg 0 6) * (wg 0 6))))) _ q53 hq53) (cwV 1 hts gL_lots_X6_cup rfl rfl rfl (by decide +kernel) ⟨Nat.le_of_ble_eq_true rfl, Nat.le_of_ble_eq_true rfl⟩) [2] [0, 1] [cr_wN ct 17 bg wg, cr_wN ct 52 bl wl, cr_wXt ct a r vX] (fun r => cr_wN ct 17 bg wg ++ (cr_wN ct 52 bl wl ++ cr_wXt ct a r (cl_uX q53.2 vX))) (fun r => [cr_wN ct 17 bg wg, cr_wN ct 52 bl wl, cr_wXt ct a r (cl_uX q53.2 vX)]) ⟨rfl, rfl⟩ (fun _ => ⟨rfl, rfl⟩) rfl (fun _ => rfl) (fun _ => rfl) (by decide) 2 rfl rfl rfl hl.1 rfl (Nat.le_of_ble_eq_true rfl) dL_lots_321 ⟨Nat.le_of_ble_eq_true rfl, Nat.le_of_ble_eq_true rfl⟩ (fun r H locs hW => ?_)
            refine cr_ldc C k1 dL_lots_324 ?_
            refine lv_icmp_ne (tgt := 333) hx hb dL_lots_326 (by decide) (fun c54 => ?_) (fun c54 => ?_)
            · rw [if_neg c54] at hE
              refine lv_iconst (v := 0) hx hb dL_lots_333 (by decide) ?_
              exact cr_retWz C (w := (fun u : (Nat → Nat → Nat → Nat) × cr_V × cr_V × cr_XT => cr_wN ct 17 bg u.2.1 ++ (cr_wN ct 52 bl u.2.2.1 ++ cr_wXt ct a u.1 u.2.2.2))) (r, wg, wl, (cl_uX q53.2 vX)) hW rfl (Option.some.inj hE) dL_lots_334
            · rw [if_pos c54] at hE
              refine lv_iconst (v := 1) hx hb dL_lots_329 (by decide) ?_
              refine lv_goto (tgt := 334) hx hb dL_lots_330 (by decide) ?_
              exact cr_retWz C (w := (fun u : (Nat → Nat → Nat → Nat) × cr_V × cr_V × cr_XT => cr_wN ct 17 bg u.2.1 ++ (cr_wN ct 52 bl u.2.2.1 ++ cr_wXt ct a u.1 u.2.2.2))) (r, wg, wl, (cl_uX q53.2 vX)) hW rfl (Option.some.inj hE) dL_lots_334
      · rw [if_pos c40] at hE
        refine lv_iconst (v := 1) hx hb dL_lots_172 (by decide) ?_
        refine lv_iload hx hb dL_lots_173 (lv_at hl 6 rfl) ?_
        refine lv_bipush (v := 12) hx hb dL_lots_175 (by decide) ?_
        refine lv_idiv hx hb dL_lots_177 (by decide) ?_
        refine lv_aload_n hx hb dL_lots_178 rfl (lv_at hl 4 rfl) ?_
        refine lv_iconst (v := 4) hx hb dL_lots_179 (by decide) ?_
        refine lv_iload hx hb dL_lots_180 (lv_at hl 1 rfl) ?_
        refine lv_imul hx hb dL_lots_182 ?_
        refine lv_iconst (v := 1) hx hb dL_lots_183 (by decide) ?_
        refine lv_iadd hx hb dL_lots_184 ?_
        obtain ⟨i55, hE⟩ := cr_ifn hE
        refine cr_ald C hW.1 1 (f := wl 0) (k := cr_x ((4 * (x4 - x4 / (wg 0 6) * (wg 0 6))) + 1)) rfl i55 (cr_xe _) dL_lots_185 ?_
        refine lv_iconst (v := 1) hx hb dL_lots_186 (by decide) ?_
        refine lv_iadd hx hb dL_lots_187 ?_
        obtain ⟨z56, hE⟩ := cr_ifz hE
        refine lv_irem hx hb dL_lots_188 z56 ?_
        refine lv_iadd hx hb dL_lots_189 ?_
        refine lv_istore (lv' := [(7, .int (1 + ((x4 / 12) - (x4 / 12) / ((wl 0 (cr_x ((4 * (x4 - x4 / (wg 0 6) * (wg 0 6))) + 1))) + 1) * ((wl 0 (cr_x ((4 * (x4 - x4 / (wg 0 6) * (wg 0 6))) + 1))) + 1)))), (6, .int (wl 0 (cr_x (4 * (x4 - x4 / (wg 0 6) * (wg 0 6)))))), (5, .int (x4 - x4 / (wg 0 6) * (wg 0 6))), (0, .ref (a 0 0)), (1, .ref (bg 0)), (2, .ref (bl 0)), (3, .int x3), (4, .int x4)]) hx hb dL_lots_190 hl (by decide) rfl (fun ls hl => ?_)
        refine lv_iload hx hb dL_lots_192 (lv_at hl 0 rfl) ?_
        refine lv_aload_n hx hb dL_lots_194 rfl (lv_at hl 5 rfl) ?_
        refine lv_iconst (v := 4) hx hb dL_lots_195 (by decide) ?_
        refine lv_iload hx hb dL_lots_196 (lv_at hl 2 rfl) ?_
        refine lv_imul hx hb dL_lots_198 ?_
        refine lv_iconst (v := 1) hx hb dL_lots_199 (by decide) ?_
        refine lv_iadd hx hb dL_lots_200 ?_
        refine cr_ald C hW.1 1 (f := wl 0) (k := cr_x ((4 * (x4 - x4 / (wg 0 6) * (wg 0 6))) + 1)) rfl i55 (cr_xe _) dL_lots_201 ?_
        refine lv_icmp_lt (tgt := 224) hx hb dL_lots_202 (by decide) (fun c57 => ?_) (fun c57 => ?_)
        · rw [if_pos c57] at hE
          refine lv_aload_n hx hb dL_lots_224 rfl (lv_at hl 4 rfl) ?_
          refine lv_bipush (v := 6) hx hb dL_lots_225 (by decide) ?_
          refine cr_ald C hW.1 0 (f := wg 0) (k := 6) rfl (by decide) (by decide) dL_lots_227 ?_
          refine lv_bipush (v := 12) hx hb dL_lots_228 (by decide) ?_
          refine lv_icmp_ne (tgt := 252) hx hb dL_lots_230 (by decide) (fun c58 => ?_) (fun c58 => ?_)
          · rw [if_neg c58] at hE
            refine lv_aload_n hx hb dL_lots_252 rfl (lv_at hl 4 rfl) ?_
            refine lv_aload_n hx hb dL_lots_253 rfl (lv_at hl 5 rfl) ?_
            refine lv_iload hx hb dL_lots_254 (lv_at hl 1 rfl) ?_
            refine lv_iload hx hb dL_lots_256 (lv_at hl 0 rfl) ?_
            obtain ⟨q59, hq59, hE⟩ := cr_bind hE
            refine cl_sVB (nb := 3) (n := 4) (As := [.ref (bg 0), .ref (bl 0), .int (wl 0 (cr_x (4 * (x4 - x4 / (wg 0 6) * (wg 0 6))))), .int (1 + ((x4 / 12) - (x4 / 12) / ((wl 0 (cr_x ((4 * (x4 - x4 / (wg 0 6) * (wg 0 6))) + 1))) + 1) * ((wl 0 (cr_x ((4 * (x4 - x4 / (wg 0 6) * (wg 0 6))) + 1))) + 1)))]) (rest := []) C hW (m_L_takes L D ct bg bl wg wl (wl 0 (cr_x (4 * (x4 - x4 / (wg 0 6) * (wg 0 6))))) (1 + ((x4 / 12) - (x4 / 12) / ((wl 0 (cr_x ((4 * (x4 - x4 / (wg 0 6) * (wg 0 6))) + 1))) + 1) * ((wl 0 (cr_x ((4 * (x4 - x4 / (wg 0 6) * (wg 0 6))) + 1))) + 1))) _ q59 hq59) (va_cwS 4 hts gL_lots_L_takes rfl rfl rfl (by decide +kernel) ⟨Nat.le_of_ble_eq_true rfl, Nat.le_of_ble_eq_true rfl⟩) [0, 1] [2] [cr_wN ct 17 bg wg, cr_wN ct 52 bl wl, cr_wXt ct a r vX] (cr_wN ct 17 bg q59.1 ++ (cr_wN ct 52 bl q59.2 ++ cr_wXt ct a r vX)) [cr_wN ct 17 bg q59.1, cr_wN ct 52 bl q59.2, cr_wXt ct a r vX] ⟨rfl, rfl⟩ ⟨rfl, rfl⟩ rfl rfl rfl (by decide) rfl hl.1 rfl (Nat.le_of_ble_eq_true rfl) dL_lots_258 ⟨Nat.le_of_ble_eq_true rfl, Nat.le_of_ble_eq_true rfl⟩ (fun H locs hW => ?_)
            refine lv_aload_n hx hb dL_lots_261 rfl (lv_at hl 3 rfl) ?_
            refine lv_iload hx hb dL_lots_262 (lv_at hl 1 rfl) ?_
            refine lv_iload hx hb dL_lots_264 (lv_at hl 0 rfl) ?_
            obtain ⟨q60, hq60, hE⟩ := cr_bind hE
            refine cl_vWBr (nb := 3) (n := 2) (As := [.int (wl 0 (cr_x (4 * (x4 - x4 / (wg 0 6) * (wg 0 6))))), .int (1 + ((x4 / 12) - (x4 / 12) / ((wl 0 (cr_x ((4 * (x4 - x4 / (wg 0 6) * (wg 0 6))) + 1))) + 1) * ((wl 0 (cr_x ((4 * (x4 - x4 / (wg 0 6) * (wg 0 6))) + 1))) + 1)))]) (rest := []) C hW (m_X6_part L D ct a r vX.1 vX.2.1 vX.2.2.1 vX.2.2.2.1 vX.2.2.2.2.1 vX.2.2.2.2.2.1 vX.2.2.2.2.2.2.1 vX.2.2.2.2.2.2.2.1 vX.2.2.2.2.2.2.2.2.1 vX.2.2.2.2.2.2.2.2.2 (wl 0 (cr_x (4 * (x4 - x4 / (wg 0 6) * (wg 0 6))))) (1 + ((x4 / 12) - (x4 / 12) / ((wl 0 (cr_x ((4 * (x4 - x4 / (wg 0 6) * (wg 0 6))) + 1))) + 1) * ((wl 0 (cr_x ((4 * (x4 - x4 / (wg 0 6) * (wg 0 6))) + 1))) + 1))) _ q60 hq60) (cwV 2 hts gL_lots_X6_part rfl rfl rfl (by decide +kernel) ⟨Nat.le_of_ble_eq_true rfl, Nat.le_of_ble_eq_true rfl⟩) [2] [0, 1] [cr_wN ct 17 bg q59.1, cr_wN ct 52 bl q59.2, cr_wXt ct a r vX] (fun r => cr_wN ct 17 bg q59.1 ++ (cr_wN ct 52 bl q59.2 ++ cr_wXt ct a r (cl_uX q60.2 vX))) (fun r => [cr_wN ct 17 bg q59.1, cr_wN ct 52 bl q59.2, cr_wXt ct a r (cl_uX q60.2 vX)]) ⟨rfl, rfl⟩ (fun _ => ⟨rfl, rfl⟩) rfl (fun _ => rfl) (fun _ => rfl) (by decide) 2 rfl rfl rfl hl.1 rfl (Nat.le_of_ble_eq_true rfl) dL_lots_266 ⟨Nat.le_of_ble_eq_true rfl, Nat.le_of_ble_eq_true rfl⟩ (fun r H locs hW => ?_)
            refine lv_aload_n hx hb dL_lots_269 rfl (lv_at hl 4 rfl) ?_
            refine lv_aload_n hx hb dL_lots_270 rfl (lv_at hl 5 rfl) ?_
            refine lv_iload hx hb dL_lots_271 (lv_at hl 0 rfl) ?_
            refine lv_aload_n hx hb dL_lots_273 rfl (lv_at hl 5 rfl) ?_
            refine lv_iconst (v := 4) hx hb dL_lots_274 (by decide) ?_
            refine lv_iload hx hb dL_lots_275 (lv_at hl 2 rfl) ?_
            refine lv_imul hx hb dL_lots_277 ?_
            refine lv_iconst (v := 2) hx hb dL_lots_278 (by decide) ?_
            refine lv_iadd hx hb dL_lots_279 ?_
            obtain ⟨i61, hE⟩ := cr_ifn hE
            refine cr_ald C hW.1 1 (f := q59.2 0) (k := cr_x ((4 * (x4 - x4 / (wg 0 6) * (wg 0 6))) + 2)) rfl i61 (cr_xe _) dL_lots_280 ?_
            refine lv_aload_n hx hb dL_lots_281 rfl (lv_at hl 5 rfl) ?_
            refine lv_iconst (v := 4) hx hb dL_lots_282 (by decide) ?_
            refine lv_iload hx hb dL_lots_283 (lv_at hl 2 rfl) ?_
            refine lv_imul hx hb dL_lots_285 ?_
            refine lv_iconst (v := 3) hx hb dL_lots_286 (by decide) ?_
            refine lv_iadd hx hb dL_lots_287 ?_
            obtain ⟨i62, hE⟩ := cr_ifn hE
            refine cr_ald C hW.1 1 (f := q59.2 0) (k := cr_x ((4 * (x4 - x4 / (wg 0 6) * (wg 0 6))) + 3)) rfl i62 (cr_xe _) dL_lots_288 ?_
            obtain ⟨q63, hq63, hE⟩ := cr_bind hE
            refine cl_sWB (nb := 3) (n := 5) (As := [.ref (bg 0), .ref (bl 0), .int (1 + ((x4 / 12) - (x4 / 12) / ((wl 0 (cr_x ((4 * (x4 - x4 / (wg 0 6) * (wg 0 6))) + 1))) + 1) * ((wl 0 (cr_x ((4 * (x4 - x4 / (wg 0 6) * (wg 0 6))) + 1))) + 1))), .int (q59.2 0 (cr_x ((4 * (x4 - x4 / (wg 0 6) * (wg 0 6))) + 2))), .int (q59.2 0 (cr_x ((4 * (x4 - x4 / (wg 0 6) * (wg 0 6))) + 3)))]) (rest := [.int q60.1]) C hW (m_L_makes L D ct bg bl q59.1 q59.2 (1 + ((x4 / 12) - (x4 / 12) / ((wl 0 (cr_x ((4 * (x4 - x4 / (wg 0 6) * (wg 0 6))) + 1))) + 1) * ((wl 0 (cr_x ((4 * (x4 - x4 / (wg 0 6) * (wg 0 6))) + 1))) + 1))) (q59.2 0 (cr_x ((4 * (x4 - x4 / (wg 0 6) * (wg 0 6))) + 2))) (q59.2 0 (cr_x ((4 * (x4 - x4 / (wg 0 6) * (wg 0 6))) + 3))) _ q63 hq63) (va_cwS 5 hts gL_lots_L_makes rfl rfl rfl (by decide +kernel) ⟨Nat.le_of_ble_eq_true rfl, Nat.le_of_ble_eq_true rfl⟩) [0, 1] [2] [cr_wN ct 17 bg q59.1, cr_wN ct 52 bl q59.2, cr_wXt ct a r (cl_uX q60.2 vX)] (cr_wN ct 17 bg q63.2.1 ++ (cr_wN ct 52 bl q63.2.2 ++ cr_wXt ct a r (cl_uX q60.2 vX))) [cr_wN ct 17 bg q63.2.1, cr_wN ct 52 bl q63.2.2, cr_wXt ct a r (cl_uX q60.2 vX)] ⟨rfl, rfl⟩ ⟨rfl, rfl⟩ rfl rfl rfl (by decide) rfl hl.1 rfl (Nat.le_of_ble_eq_true rfl) dL_lots_289 ⟨Nat.le_of_ble_eq_true rfl, Nat.le_of_ble_eq_true rfl⟩ (fun H locs hW => ?_)
            refine lv_icmp_ne (tgt := 299) hx hb dL_lots_292 (by decide) (fun c64 => ?_) (fun c64 => ?_)
            · rw [if_neg c64] at hE
              refine lv_iconst (v := 0) hx hb dL_lots_299 (by decide) ?_
              exact cr_retWz C (w := (fun u : (Nat → Nat → Nat → Nat) × cr_V × cr_V × cr_XT => cr_wN ct 17 bg u.2.1 ++ (cr_wN ct 52 bl u.2.2.1 ++ cr_wXt ct a u.1 u.2.2.2))) (r, q63.2.1, q63.2.2, (cl_uX q60.2 vX)) hW rfl (Option.some.inj hE) dL_lots_300
            · rw [if_pos c64] at hE
              refine lv_iconst (v := 1) hx hb dL_lots_295 (by decide) ?_
              refine lv_goto (tgt := 300) hx hb dL_lots_296 (by decide) ?_
              exact cr_retWz C (w := (fun u : (Nat → Nat → Nat → Nat) × cr_V × cr_V × cr_XT => cr_wN ct 17 bg u.2.1 ++ (cr_wN ct 52 bl u.2.2.1 ++ cr_wXt ct a u.1 u.2.2.2))) (r, q63.2.1, q63.2.2, (cl_uX q60.2 vX)) hW rfl (Option.some.inj hE) dL_lots_300
          · rw [if_pos c58] at hE
            refine lv_aload_n hx hb dL_lots_233 rfl (lv_at hl 3 rfl) ?_
            refine lv_iload hx hb dL_lots_234 (lv_at hl 1 rfl) ?_
            refine lv_iload hx hb dL_lots_236 (lv_at hl 0 rfl) ?_
            obtain ⟨q65, hq65, hE⟩ := cr_bind hE
            refine cl_vWBr (nb := 3) (n := 2) (As := [.int (wl 0 (cr_x (4 * (x4 - x4 / (wg 0 6) * (wg 0 6))))), .int (1 + ((x4 / 12) - (x4 / 12) / ((wl 0 (cr_x ((4 * (x4 - x4 / (wg 0 6) * (wg 0 6))) + 1))) + 1) * ((wl 0 (cr_x ((4 * (x4 - x4 / (wg 0 6) * (wg 0 6))) + 1))) + 1)))]) (rest := []) C hW (m_X6_part L D ct a r vX.1 vX.2.1 vX.2.2.1 vX.2.2.2.1 vX.2.2.2.2.1 vX.2.2.2.2.2.1 vX.2.2.2.2.2.2.1 vX.2.2.2.2.2.2.2.1 vX.2.2.2.2.2.2.2.2.1 vX.2.2.2.2.2.2.2.2.2 (wl 0 (cr_x (4 * (x4 - x4 / (wg 0 6) * (wg 0 6))))) (1 + ((x4 / 12) - (x4 / 12) / ((wl 0 (cr_x ((4 * (x4 - x4 / (wg 0 6) * (wg 0 6))) + 1))) + 1) * ((wl 0 (cr_x ((4 * (x4 - x4 / (wg 0 6) * (wg 0 6))) + 1))) + 1))) _ q65 hq65) (cwV 2 hts gL_lots_X6_part rfl rfl rfl (by decide +kernel) ⟨Nat.le_of_ble_eq_true rfl, Nat.le_of_ble_eq_true rfl⟩) [2] [0, 1] [cr_wN ct 17 bg wg, cr_wN ct 52 bl wl, cr_wXt ct a r vX] (fun r => cr_wN ct 17 bg wg ++ (cr_wN ct 52 bl wl ++ cr_wXt ct a r (cl_uX q65.2 vX))) (fun r => [cr_wN ct 17 bg wg, cr_wN ct 52 bl wl, cr_wXt ct a r (cl_uX q65.2 vX)]) ⟨rfl, rfl⟩ (fun _ => ⟨rfl, rfl⟩) rfl (fun _ => rfl) (fun _ => rfl) (by decide) 2 rfl rfl rfl hl.1 rfl (Nat.le_of_ble_eq_true rfl) dL_lots_238 ⟨Nat.le_of_ble_eq_true rfl, Nat.le_of_ble_eq_true rfl⟩ (fun r H locs hW => ?_)
            refine cr_ldc C k0 dL_lots_241 ?_
            refine lv_icmp_ne (tgt := 250) hx hb dL_lots_243 (by decide) (fun c66 => ?_) (fun c66 => ?_)
            · rw [if_neg c66] at hE
              refine lv_iconst (v := 0) hx hb dL_lots_250 (by decide) ?_
              exact cr_retWz C (w := (fun u : (Nat → Nat → Nat → Nat) × cr_V × cr_V × cr_XT => cr_wN ct 17 bg u.2.1 ++ (cr_wN ct 52 bl u.2.2.1 ++ cr_wXt ct a u.1 u.2.2.2))) (r, wg, wl, (cl_uX q65.2 vX)) hW rfl (Option.some.inj hE) dL_lots_251
            · rw [if_pos c66] at hE
              refine lv_iconst (v := 1) hx hb dL_lots_246 (by decide) ?_
              refine lv_goto (tgt := 251) hx hb dL_lots_247 (by decide) ?_
              exact cr_retWz C (w := (fun u : (Nat → Nat → Nat → Nat) × cr_V × cr_V × cr_XT => cr_wN ct 17 bg u.2.1 ++ (cr_wN ct 52 bl u.2.2.1 ++ cr_wXt ct a u.1 u.2.2.2))) (r, wg, wl, (cl_uX q65.2 vX)) hW rfl (Option.some.inj hE) dL_lots_251
        · rw [if_neg c57] at hE
          refine lv_aload_n hx hb dL_lots_205 rfl (lv_at hl 3 rfl) ?_
          refine lv_iload hx hb dL_lots_206 (lv_at hl 1 rfl) ?_
          refine lv_iload hx hb dL_lots_208 (lv_at hl 0 rfl) ?_
          obtain ⟨q67, hq67, hE⟩ := cr_bind hE
          refine cl_vWBr (nb := 3) (n := 2) (As := [.int (wl 0 (cr_x (4 * (x4 - x4 / (wg 0 6) * (wg 0 6))))), .int (1 + ((x4 / 12) - (x4 / 12) / ((wl 0 (cr_x ((4 * (x4 - x4 / (wg 0 6) * (wg 0 6))) + 1))) + 1) * ((wl 0 (cr_x ((4 * (x4 - x4 / (wg 0 6) * (wg 0 6))) + 1))) + 1)))]) (rest := []) C hW (m_X6_part L D ct a r vX.1 vX.2.1 vX.2.2.1 vX.2.2.2.1 vX.2.2.2.2.1 vX.2.2.2.2.2.1 vX.2.2.2.2.2.2.1 vX.2.2.2.2.2.2.2.1 vX.2.2.2.2.2.2.2.2.1 vX.2.2.2.2.2.2.2.2.2 (wl 0 (cr_x (4 * (x4 - x4 / (wg 0 6) * (wg 0 6))))) (1 + ((x4 / 12) - (x4 / 12) / ((wl 0 (cr_x ((4 * (x4 - x4 / (wg 0 6) * (wg 0 6))) + 1))) + 1) * ((wl 0 (cr_x ((4 * (x4 - x4 / (wg 0 6) * (wg 0 6))) + 1))) + 1))) _ q67 hq67) (cwV 2 hts gL_lots_X6_part rfl rfl rfl (by decide +kernel) ⟨Nat.le_of_ble_eq_true rfl, Nat.le_of_ble_eq_true rfl⟩) [2] [0, 1] [cr_wN ct 17 bg wg, cr_wN ct 52 bl wl, cr_wXt ct a r vX] (fun r => cr_wN ct 17 bg wg ++ (cr_wN ct 52 bl wl ++ cr_wXt ct a r (cl_uX q67.2 vX))) (fun r => [cr_wN ct 17 bg wg, cr_wN ct 52 bl wl, cr_wXt ct a r (cl_uX q67.2 vX)]) ⟨rfl, rfl⟩ (fun _ => ⟨rfl, rfl⟩) rfl (fun _ => rfl) (fun _ => rfl) (by decide) 2 rfl rfl rfl hl.1 rfl (Nat.le_of_ble_eq_true rfl) dL_lots_210 ⟨Nat.le_of_ble_eq_true rfl, Nat.le_of_ble_eq_true rfl⟩ (fun r H locs hW => ?_)
          refine cr_ldc C k1 dL_lots_213 ?_
          refine lv_icmp_ne (tgt := 222) hx hb dL_lots_215 (by decide) (fun c68 => ?_) (fun c68 => ?_)
          · rw [if_neg c68] at hE
            refine lv_iconst (v := 0) hx hb dL_lots_222 (by decide) ?_
            exact cr_retWz C (w := (fun u : (Nat → Nat → Nat → Nat) × cr_V × cr_V × cr_XT => cr_wN ct 17 bg u.2.1 ++ (cr_wN ct 52 bl u.2.2.1 ++ cr_wXt ct a u.1 u.2.2.2))) (r, wg, wl, (cl_uX q67.2 vX)) hW rfl (Option.some.inj hE) dL_lots_223
          · rw [if_pos c68] at hE
            refine lv_iconst (v := 1) hx hb dL_lots_218 (by decide) ?_
            refine lv_goto (tgt := 223) hx hb dL_lots_219 (by decide) ?_
            exact cr_retWz C (w := (fun u : (Nat → Nat → Nat → Nat) × cr_V × cr_V × cr_XT => cr_wN ct 17 bg u.2.1 ++ (cr_wN ct 52 bl u.2.2.1 ++ cr_wXt ct a u.1 u.2.2.2))) (r, wg, wl, (cl_uX q67.2 vX)) hW rfl (Option.some.inj hE) dL_lots_223
    · rw [if_pos c37] at hE
      refine lv_aload_n hx hb dL_lots_104 rfl (lv_at hl 0 rfl) ?_
      refine lv_aload_n hx hb dL_lots_105 rfl (lv_at hl 1 rfl) ?_
      refine lv_iconst (v := 5) hx hb dL_lots_106 (by decide) ?_
      refine cr_ald C hW.1 0 (f := wg 0) (k := 5) rfl (by decide) (by decide) dL_lots_107 ?_
      refine lv_iconst (v := 1) hx hb dL_lots_108 (by decide) ?_
      obtain ⟨q69, hq69, hE⟩ := cr_bind hE
      refine cl_vWBr (nb := 3) (n := 2) (As := [.int (wg 0 5), .int 1]) (rest := []) C hW (m_X6_part L D ct a r vX.1 vX.2.1 vX.2.2.1 vX.2.2.2.1 vX.2.2.2.2.1 vX.2.2.2.2.2.1 vX.2.2.2.2.2.2.1 vX.2.2.2.2.2.2.2.1 vX.2.2.2.2.2.2.2.2.1 vX.2.2.2.2.2.2.2.2.2 (wg 0 5) 1 _ q69 hq69) (cwV 2 hts gL_lots_X6_part rfl rfl rfl (by decide +kernel) ⟨Nat.le_of_ble_eq_true rfl, Nat.le_of_ble_eq_true rfl⟩) [2] [0, 1] [cr_wN ct 17 bg wg, cr_wN ct 52 bl wl, cr_wXt ct a r vX] (fun r => cr_wN ct 17 bg wg ++ (cr_wN ct 52 bl wl ++ cr_wXt ct a r (cl_uX q69.2 vX))) (fun r => [cr_wN ct 17 bg wg, cr_wN ct 52 bl wl, cr_wXt ct a r (cl_uX q69.2 vX)]) ⟨rfl, rfl⟩ (fun _ => ⟨rfl, rfl⟩) rfl (fun _ => rfl) (fun _ => rfl) (by decide) 2 rfl rfl rfl hl.1 rfl (Nat.le_of_ble_eq_true rfl) dL_lots_109 ⟨Nat.le_of_ble_eq_true rfl, Nat.le_of_ble_eq_true rfl⟩ (fun r H locs hW => ?_)
      refine cr_ldc C k2 dL_lots_112 ?_
      refine lv_icmp_ne (tgt := 148) hx hb dL_lots_114 (by decide) (fun c70 => ?_) (fun c70 => ?_)
      · rw [if_neg c70] at hE
        refine lv_iconst (v := 0) hx hb dL_lots_148 (by decide) ?_
        exact cr_retWz C (w := (fun u : (Nat → Nat → Nat → Nat) × cr_V × cr_V × cr_XT => cr_wN ct 17 bg u.2.1 ++ (cr_wN ct 52 bl u.2.2.1 ++ cr_wXt ct a u.1 u.2.2.2))) (r, wg, wl, (cl_uX q69.2 vX)) hW rfl (Option.some.inj hE) dL_lots_149
      · rw [if_pos c70] at hE
        refine lv_aload_n hx hb dL_lots_117 rfl (lv_at hl 0 rfl) ?_
        refine lv_aload_n hx hb dL_lots_118 rfl (lv_at hl 1 rfl) ?_
        refine lv_iconst (v := 5) hx hb dL_lots_119 (by decide) ?_
        refine cr_ald C hW.1 0 (f := wg 0) (k := 5) rfl (by decide) (by decide) dL_lots_120 ?_
        obtain ⟨q71, hq71, hE⟩ := cr_bind hE
        refine cl_vWBr (nb := 3) (n := 1) (As := [.int (wg 0 5)]) (rest := []) C hW (m_X6_cup L D ct a r (cl_uX q69.2 vX).1 (cl_uX q69.2 vX).2.1 (cl_uX q69.2 vX).2.2.1 (cl_uX q69.2 vX).2.2.2.1 (cl_uX q69.2 vX).2.2.2.2.1 (cl_uX q69.2 vX).2.2.2.2.2.1 (cl_uX q69.2 vX).2.2.2.2.2.2.1 (cl_uX q69.2 vX).2.2.2.2.2.2.2.1 (cl_uX q69.2 vX).2.2.2.2.2.2.2.2.1 (cl_uX q69.2 vX).2.2.2.2.2.2.2.2.2 (wg 0 5) _ q71 hq71) (cwV 1 hts gL_lots_X6_cup rfl rfl rfl (by decide +kernel) ⟨Nat.le_of_ble_eq_true rfl, Nat.le_of_ble_eq_true rfl⟩) [2] [0, 1] [cr_wN ct 17 bg wg, cr_wN ct 52 bl wl, cr_wXt ct a r (cl_uX q69.2 vX)] (fun r => cr_wN ct 17 bg wg ++ (cr_wN ct 52 bl wl ++ cr_wXt ct a r (cl_uX q71.2 (cl_uX q69.2 vX)))) (fun r => [cr_wN ct 17 bg wg, cr_wN ct 52 bl wl, cr_wXt ct a r (cl_uX q71.2 (cl_uX q69.2 vX))]) ⟨rfl, rfl⟩ (fun _ => ⟨rfl, rfl⟩) rfl (fun _ => rfl) (fun _ => rfl) (by decide) 2 rfl rfl rfl hl.1 rfl (Nat.le_of_ble_eq_true rfl) dL_lots_121 ⟨Nat.le_of_ble_eq_true rfl, Nat.le_of_ble_eq_true rfl⟩ (fun r H locs hW => ?_)
        refine cr_ldc C k2 dL_lots_124 ?_
        refine lv_icmp_ne (tgt := 148) hx hb dL_lots_126 (by decide) (fun c72 => ?_) (fun c72 => ?_)
        · rw [if_neg c72] at hE
          refine lv_iconst (v := 0) hx hb dL_lots_148 (by decide) ?_
          exact cr_retWz C (w := (fun u : (Nat → Nat → Nat → Nat) × cr_V × cr_V × cr_XT => cr_wN ct 17 bg u.2.1 ++ (cr_wN ct 52 bl u.2.2.1 ++ cr_wXt ct a u.1 u.2.2.2))) (r, wg, wl, (cl_uX q71.2 (cl_uX q69.2 vX))) hW rfl (Option.some.inj hE) dL_lots_149
        · rw [if_pos c72] at hE
          refine lv_aload_n hx hb dL_lots_129 rfl (lv_at hl 0 rfl) ?_
          refine lv_aload_n hx hb dL_lots_130 rfl (lv_at hl 1 rfl) ?_
          refine lv_iconst (v := 5) hx hb dL_lots_131 (by decide) ?_
          refine cr_ald C hW.1 0 (f := wg 0) (k := 5) rfl (by decide) (by decide) dL_lots_132 ?_
          refine lv_iconst (v := 1) hx hb dL_lots_133 (by decide) ?_
          refine lv_iconst (v := 0) hx hb dL_lots_134 (by decide) ?_
          refine lv_iconst (v := 1) hx hb dL_lots_135 (by decide) ?_
          obtain ⟨q73, hq73, hE⟩ := cr_bind hE
          refine cl_vWBr (nb := 3) (n := 4) (As := [.int (wg 0 5), .int 1, .int 0, .int 1]) (rest := []) C hW (m_X6_blend L D ct a r (cl_uX q71.2 (cl_uX q69.2 vX)).1 (cl_uX q71.2 (cl_uX q69.2 vX)).2.1 (cl_uX q71.2 (cl_uX q69.2 vX)).2.2.1 (cl_uX q71.2 (cl_uX q69.2 vX)).2.2.2.1 (cl_uX q71.2 (cl_uX q69.2 vX)).2.2.2.2.1 (cl_uX q71.2 (cl_uX q69.2 vX)).2.2.2.2.2.1 (cl_uX q71.2 (cl_uX q69.2 vX)).2.2.2.2.2.2.1 (cl_uX q71.2 (cl_uX q69.2 vX)).2.2.2.2.2.2.2.1 (cl_uX q71.2 (cl_uX q69.2 vX)).2.2.2.2.2.2.2.2.1 (cl_uX q71.2 (cl_uX q69.2 vX)).2.2.2.2.2.2.2.2.2 (wg 0 5) 1 0 1 _ q73 hq73) (cwV 4 hts gL_lots_X6_blend rfl rfl rfl (by decide +kernel) ⟨Nat.le_of_ble_eq_true rfl, Nat.le_of_ble_eq_true rfl⟩) [2] [0, 1] [cr_wN ct 17 bg wg, cr_wN ct 52 bl wl, cr_wXt ct a r (cl_uX q71.2 (cl_uX q69.2 vX))] (fun r => cr_wN ct 17 bg wg ++ (cr_wN ct 52 bl wl ++ cr_wXt ct a r (cl_uX q73.2 (cl_uX q71.2 (cl_uX q69.2 vX))))) (fun r => [cr_wN ct 17 bg wg, cr_wN ct 52 bl wl, cr_wXt ct a r (cl_uX q73.2 (cl_uX q71.2 (cl_uX q69.2 vX)))]) ⟨rfl, rfl⟩ (fun _ => ⟨rfl, rfl⟩) rfl (fun _ => rfl) (fun _ => rfl) (by decide) 2 rfl rfl rfl hl.1 rfl (Nat.le_of_ble_eq_true rfl) dL_lots_136 ⟨Nat.le_of_ble_eq_true rfl, Nat.le_of_ble_eq_true rfl⟩ (fun r H locs hW => ?_)
          refine cr_ldc C k2 dL_lots_139 ?_
          refine lv_icmp_ne (tgt := 148) hx hb dL_lots_141 (by decide) (fun c74 => ?_) (fun c74 => ?_)
          · rw [if_neg c74] at hE
            refine lv_iconst (v := 0) hx hb dL_lots_148 (by decide) ?_
            exact cr_retWz C (w := (fun u : (Nat → Nat → Nat → Nat) × cr_V × cr_V × cr_XT => cr_wN ct 17 bg u.2.1 ++ (cr_wN ct 52 bl u.2.2.1 ++ cr_wXt ct a u.1 u.2.2.2))) (r, wg, wl, (cl_uX q73.2 (cl_uX q71.2 (cl_uX q69.2 vX)))) hW rfl (Option.some.inj hE) dL_lots_149
          · rw [if_pos c74] at hE
            refine lv_iconst (v := 1) hx hb dL_lots_144 (by decide) ?_
            refine lv_goto (tgt := 149) hx hb dL_lots_145 (by decide) ?_
            exact cr_retWz C (w := (fun u : (Nat → Nat → Nat → Nat) × cr_V × cr_V × cr_XT => cr_wN ct 17 bg u.2.1 ++ (cr_wN ct 52 bl u.2.2.1 ++ cr_wXt ct a u.1 u.2.2.2))) (r, wg, wl, (cl_uX q73.2 (cl_uX q71.2 (cl_uX q69.2 vX)))) hW rfl (Option.some.inj hE) dL_lots_149
  · rw [if_pos c36] at hE
    refine lv_iconst (v := 1) hx hb dL_lots_4 (by decide) ?_
    refine lv_iload hx hb dL_lots_5 (lv_at hl 4 rfl) ?_
    refine lv_iload hx hb dL_lots_7 (lv_at hl 4 rfl) ?_
    refine lv_iconst (v := 3) hx hb dL_lots_9 (by decide) ?_
    refine lv_irem hx hb dL_lots_10 (by decide) ?_
    refine lv_if_ne (tgt := 20) hx hb dL_lots_11 (by decide) (fun c75 => ?_) (fun c75 => ?_)
    · rw [if_neg c75] at hE
      refine lv_bipush (v := 120) hx hb dL_lots_20 (by decide) ?_
      exact n22 wg wl vX x4 120 x4 1 hE _ _ _ _ hW (lv_sub hl [0, 1, 2, 4] rfl)
    · rw [if_pos c75] at hE
      refine lv_sipush (v := 999) hx hb dL_lots_14 (by decide) ?_
      refine lv_goto (tgt := 22) hx hb dL_lots_17 (by decide) ?_
      exact n22 wg wl vX x4 999 x4 1 hE _ _ _ _ hW (lv_sub hl [0, 1, 2, 4] rfl)
