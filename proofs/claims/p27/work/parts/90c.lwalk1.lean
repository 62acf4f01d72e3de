set_option maxHeartbeats 4000000 in
set_option maxRecDepth 100000 in
theorem m_L_low (L : Launch) (D : va_G) (ct : Nat → ClassId)   (x0 : Int32) (x1 : Int32) (out : Int32) (hE : f_L_low x0 x1 = some out) : Met L yL_low wsL_low ({ frames := 0, cells := 0, slots := 0, locals := 0 } : Room) (cr_pR D ct ([]) [.int x0, .int x1]) (cr_QR (fun r => r = out)) 0 0 cr_no := by
  have k0 : (Cond.constant RL 8 (2147483647)) ∈ wsL_low := List.mem_of_getElem? (i := 1) rfl
  refine cr_metR (by decide) rfl rfl (Nat.le_of_ble_eq_true rfl) ?_
  intro p e s m args below meth c ls C hP hS hl
  obtain ⟨hx, hb, hml, hown, hts, hr, hlocks, hK, hN⟩ := id C
  have hl : lv_has ls 2 [(0, .int x0), (1, .int x1)] := hl
  replace hE : (if x1 = 0 then none else some ((x0 &&& 2147483647) - (x0 &&& 2147483647) / x1 * x1)) = some out := hE
  refine lv_iload_n hx hb dL_low_0 rfl (lv_at hl 0 rfl) ?_
  refine cr_ldc C k0 dL_low_1 ?_
  refine lv_iand hx hb dL_low_3 ?_
  refine lv_iload_n hx hb dL_low_4 rfl (lv_at hl 1 rfl) ?_
  obtain ⟨z1, hE⟩ := cr_ifz hE
  refine lv_irem hx hb dL_low_5 z1 ?_
  exact cr_retR C hS (Option.some.inj hE) dL_low_6

set_option maxHeartbeats 4000000 in
set_option maxRecDepth 100000 in
theorem m_L_find (L : Launch) (D : va_G) (ct : Nat → ClassId) (bg : Nat → Nat) (bl : Nat → Nat) (wg : cr_V) (wl : cr_V) (x2 : Int32) (out : Int32) (hE : f_L_find wg wl x2 = some out) : Met L yL_find wsL_find ({ frames := 0, cells := 0, slots := 0, locals := 0 } : Room) (cr_pR D ct (cr_wN ct 17 bg wg ++ cr_wN ct 52 bl wl) [.ref (bg 0), .ref (bl 0), .int x2]) (cr_QR (fun r => r = out)) 0 0 cr_no := by
  refine cr_metR (by decide) rfl rfl (Nat.le_of_ble_eq_true rfl) ?_
  intro p e s m args below meth c ls C hP hS hl
  obtain ⟨hx, hb, hml, hown, hts, hr, hlocks, hK, hN⟩ := id C
  have hl : lv_has ls 4 [(0, .ref (bg 0)), (1, .ref (bl 0)), (2, .int x2)] := hl
  have n25 :  ∀ (wg : cr_V) (wl : cr_V) (x3 : Int32) (hE : f_L_find_25  wg wl x3 = some out) (H : Heap) (locs : List Loc) (ls : Array Slot) (hP : va_P D vwCl (cr_wN ct 17 bg wg ++ cr_wN ct 52 bl wl) H) (hS : va_S cr_no s.heap H locs) (hl : lv_has ls 4 [(0, .ref (bg 0)), (3, .int x3)]), W p L e ({ frames := 0, cells := 0, slots := 0, locals := 0 } : Room) s m args below meth c H locs 0 0 (MQ below (cr_QR (fun r => r = out)) args s 0 0 cr_no) (F0 m 25 ls []) := by
    intro  wg wl x3 hE H locs ls hP hS hl
    replace hE : (if (wg 0 6) ≤ x3 then (some (-1)) else (some x3)) = some out := hE
    refine lv_iload_n hx hb dL_find_25 rfl (lv_at hl 1 rfl) ?_
    refine lv_aload_n hx hb dL_find_26 rfl (lv_at hl 0 rfl) ?_
    refine lv_bipush (v := 6) hx hb dL_find_27 (by decide) ?_
    refine cr_ald C hP 0 (f := wg 0) (k := 6) rfl (by decide) (by decide) dL_find_29 ?_
    refine lv_icmp_ge (tgt := 37) hx hb dL_find_30 (by decide) (fun c1 => ?_) (fun c1 => ?_)
    · rw [if_pos c1] at hE
      refine lv_iconst (v := (-1)) hx hb dL_find_37 (by decide) ?_
      exact cr_retR C hS (Option.some.inj hE) dL_find_38
    · rw [if_neg c1] at hE
      refine lv_iload_n hx hb dL_find_33 rfl (lv_at hl 1 rfl) ?_
      refine lv_goto (tgt := 38) hx hb dL_find_34 (by decide) ?_
      exact cr_retR C hS (Option.some.inj hE) dL_find_38
  have n2 :  ∀ (n : Nat), ∀ (wg : cr_V) (wl : cr_V) (x2 : Int32) (x3 : Int32) (hE : f_L_find_2  n wg wl x2 x3 = some out) (H : Heap) (locs : List Loc) (ls : Array Slot) (hP : va_P D vwCl (cr_wN ct 17 bg wg ++ cr_wN ct 52 bl wl) H) (hS : va_S cr_no s.heap H locs) (hl : lv_has ls 4 [(0, .ref (bg 0)), (1, .ref (bl 0)), (2, .int x2), (3, .int x3)]), W p L e ({ frames := 0, cells := 0, slots := 0, locals := 0 } : Room) s m args below meth c H locs 0 0 (MQ below (cr_QR (fun r => r = out)) args s 0 0 cr_no) (F0 m 2 ls []) := by
    intro  n
    induction n with
    | zero =>
      intro wg wl x2 x3 hE
      cases hE
    | succ n ih =>
      intro wg wl x2 x3 hE H locs ls hP hS hl
      replace hE : (if (wg 0 6) ≤ x3 then (f_L_find_25 wg wl x3) else (if cr_in (4 * x3) 52 = true then if (wl 0 (cr_x (4 * x3))) = x2 then (f_L_find_25 wg wl x3) else (f_L_find_2 n wg wl x2 (x3 + 1)) else none)) = some out := hE
      refine lv_iload_n hx hb dL_find_2 rfl (lv_at hl 3 rfl) ?_
      refine lv_aload_n hx hb dL_find_3 rfl (lv_at hl 0 rfl) ?_
      refine lv_bipush (v := 6) hx hb dL_find_4 (by decide) ?_
      refine cr_ald C hP 0 (f := wg 0) (k := 6) rfl (by decide) (by decide) dL_find_6 ?_
      refine lv_icmp_ge (tgt := 25) hx hb dL_find_7 (by decide) (fun c2 => ?_) (fun c2 => ?_)
      · rw [if_pos c2] at hE
        exact n25 wg wl x3 hE _ _ _ hP hS (lv_sub hl [0, 3] rfl)
      · rw [if_neg c2] at hE
        refine lv_aload_n hx hb dL_find_10 rfl (lv_at hl 1 rfl) ?_
        refine lv_iconst (v := 4) hx hb dL_find_11 (by decide) ?_
        refine lv_iload_n hx hb dL_find_12 rfl (lv_at hl 3 rfl) ?_
        refine lv_imul hx hb dL_find_13 ?_
        obtain ⟨i3, hE⟩ := cr_ifn hE
        refine cr_ald C hP 1 (f := wl 0) (k := cr_x (4 * x3)) rfl i3 (cr_xe _) dL_find_14 ?_
        refine lv_iload_n hx hb dL_find_15 rfl (lv_at hl 2 rfl) ?_
        refine lv_icmp_eq (tgt := 25) hx hb dL_find_16 (by decide) (fun c4 => ?_) (fun c4 => ?_)
        · rw [if_pos c4] at hE
          exact n25 wg wl x3 hE _ _ _ hP hS (lv_sub hl [0, 3] rfl)
        · rw [if_neg c4] at hE
          refine lv_iinc (v := x3 + 1) (lv' := [(3, .int (x3 + 1)), (0, .ref (bg 0)), (1, .ref (bl 0)), (2, .int x2)]) hx hb dL_find_19 hl (k := 3) rfl (by first | rfl | decide) (by decide) rfl (fun ls hl => ?_)
          refine lv_goto (tgt := 2) hx hb dL_find_22 (by decide) ?_
          exact ih wg wl x2 (x3 + 1) hE _ _ _ hP hS (lv_sub hl [1, 2, 3, 0] rfl)
  replace hE : (f_L_find_2 10100 wg wl x2 0) = some out := hE
  refine lv_iconst (v := 0) hx hb dL_find_0 (by decide) ?_
  refine lv_istore_n (lv' := [(3, .int 0), (0, .ref (bg 0)), (1, .ref (bl 0)), (2, .int x2)]) hx hb dL_find_1 rfl hl (by decide) rfl (fun ls hl => ?_)
  exact n2 10100 wg wl x2 0 hE _ _ _ hP hS (lv_sub hl [1, 2, 3, 0] rfl)

set_option maxHeartbeats 4000000 in
set_option maxRecDepth 100000 in
theorem m_L_cup (L : Launch) (D : va_G) (ct : Nat → ClassId) (bl : Nat → Nat) (wl : cr_V) (x1 : Int32) (x2 : Int32) (out : Int32) (hE : f_L_cup wl x1 x2 = some out) : Met L yL_cup wsL_cup ({ frames := 0, cells := 0, slots := 0, locals := 0 } : Room) (cr_pR D ct (cr_wN ct 52 bl wl) [.ref (bl 0), .int x1, .int x2]) (cr_QR (fun r => r = out)) 0 0 cr_no := by
  refine cr_metR (by decide) rfl rfl (Nat.le_of_ble_eq_true rfl) ?_
  intro p e s m args below meth c ls C hP hS hl
  obtain ⟨hx, hb, hml, hown, hts, hr, hlocks, hK, hN⟩ := id C
  have hl : lv_has ls 4 [(0, .ref (bl 0)), (1, .int x1), (2, .int x2)] := hl
  replace hE : (if cr_in ((4 * x1) + 2) 52 = true then if cr_in ((4 * x1) + 3) 52 = true then if ((wl 0 (cr_x ((4 * x1) + 2))) - ((x2 - (wl 0 (cr_x ((4 * x1) + 3)))) / 4)) ≤ 60 then (some 60) else (some ((wl 0 (cr_x ((4 * x1) + 2))) - ((x2 - (wl 0 (cr_x ((4 * x1) + 3)))) / 4))) else none else none) = some out := hE
  refine lv_aload_n hx hb dL_cup_0 rfl (lv_at hl 0 rfl) ?_
  refine lv_iconst (v := 4) hx hb dL_cup_1 (by decide) ?_
  refine lv_iload_n hx hb dL_cup_2 rfl (lv_at hl 1 rfl) ?_
  refine lv_imul hx hb dL_cup_3 ?_
  refine lv_iconst (v := 2) hx hb dL_cup_4 (by decide) ?_
  refine lv_iadd hx hb dL_cup_5 ?_
  obtain ⟨i1, hE⟩ := cr_ifn hE
  refine cr_ald C hP 0 (f := wl 0) (k := cr_x ((4 * x1) + 2)) rfl i1 (cr_xe _) dL_cup_6 ?_
  refine lv_iload_n hx hb dL_cup_7 rfl (lv_at hl 2 rfl) ?_
  refine lv_aload_n hx hb dL_cup_8 rfl (lv_at hl 0 rfl) ?_
  refine lv_iconst (v := 4) hx hb dL_cup_9 (by decide) ?_
  refine lv_iload_n hx hb dL_cup_10 rfl (lv_at hl 1 rfl) ?_
  refine lv_imul hx hb dL_cup_11 ?_
  refine lv_iconst (v := 3) hx hb dL_cup_12 (by decide) ?_
  refine lv_iadd hx hb dL_cup_13 ?_
  obtain ⟨i2, hE⟩ := cr_ifn hE
  refine cr_ald C hP 0 (f := wl 0) (k := cr_x ((4 * x1) + 3)) rfl i2 (cr_xe _) dL_cup_14 ?_
  refine lv_isub hx hb dL_cup_15 ?_
  refine lv_iconst (v := 4) hx hb dL_cup_16 (by decide) ?_
  refine lv_idiv hx hb dL_cup_17 (by decide) ?_
  refine lv_isub hx hb dL_cup_18 ?_
  refine lv_istore_n (lv' := [(3, .int ((wl 0 (cr_x ((4 * x1) + 2))) - ((x2 - (wl 0 (cr_x ((4 * x1) + 3)))) / 4))), (0, .ref (bl 0)), (1, .int x1), (2, .int x2)]) hx hb dL_cup_19 rfl hl (by decide) rfl (fun ls hl => ?_)
  refine lv_iload_n hx hb dL_cup_20 rfl (lv_at hl 0 rfl) ?_
  refine lv_bipush (v := 60) hx hb dL_cup_21 (by decide) ?_
  refine lv_icmp_le (tgt := 30) hx hb dL_cup_23 (by decide) (fun c3 => ?_) (fun c3 => ?_)
  · rw [if_pos c3] at hE
    refine lv_bipush (v := 60) hx hb dL_cup_30 (by decide) ?_
    exact cr_retR C hS (Option.some.inj hE) dL_cup_32
  · rw [if_neg c3] at hE
    refine lv_iload_n hx hb dL_cup_26 rfl (lv_at hl 0 rfl) ?_
    refine lv_goto (tgt := 32) hx hb dL_cup_27 (by decide) ?_
    exact cr_retR C hS (Option.some.inj hE) dL_cup_32

set_option maxHeartbeats 4000000 in
set_option maxRecDepth 100000 in
theorem m_L_band (L : Launch) (D : va_G) (ct : Nat → ClassId)   (x0 : Int32) (out : Int32) (hE : f_L_band x0 = some out) : Met L yL_band wsL_band ({ frames := 0, cells := 0, slots := 0, locals := 0 } : Room) (cr_pR D ct ([]) [.int x0]) (cr_QR (fun r => r = out)) 0 0 cr_no := by
  refine cr_metR (by decide) rfl rfl (Nat.le_of_ble_eq_true rfl) ?_
  intro p e s m args below meth c ls C hP hS hl
  obtain ⟨hx, hb, hml, hown, hts, hr, hlocks, hK, hN⟩ := id C
  have hl : lv_has ls 1 [(0, .int x0)] := hl
  replace hE : (if x0 ≤ 89 then (if x0 ≤ 79 then (if x0 ≤ 69 then (some 0) else (some 1)) else (some 2)) else (some 3)) = some out := hE
  refine lv_iload_n hx hb dL_band_0 rfl (lv_at hl 0 rfl) ?_
  refine lv_bipush (v := 89) hx hb dL_band_1 (by decide) ?_
  refine lv_icmp_le (tgt := 10) hx hb dL_band_3 (by decide) (fun c1 => ?_) (fun c1 => ?_)
  · rw [if_pos c1] at hE
    refine lv_iload_n hx hb dL_band_10 rfl (lv_at hl 0 rfl) ?_
    refine lv_bipush (v := 79) hx hb dL_band_11 (by decide) ?_
    refine lv_icmp_le (tgt := 20) hx hb dL_band_13 (by decide) (fun c2 => ?_) (fun c2 => ?_)
    · rw [if_pos c2] at hE
      refine lv_iload_n hx hb dL_band_20 rfl (lv_at hl 0 rfl) ?_
      refine lv_bipush (v := 69) hx hb dL_band_21 (by decide) ?_
      refine lv_icmp_le (tgt := 30) hx hb dL_band_23 (by decide) (fun c3 => ?_) (fun c3 => ?_)
      · rw [if_pos c3] at hE
        refine lv_iconst (v := 0) hx hb dL_band_30 (by decide) ?_
        exact cr_retR C hS (Option.some.inj hE) dL_band_31
      · rw [if_neg c3] at hE
        refine lv_iconst (v := 1) hx hb dL_band_26 (by decide) ?_
        refine lv_goto (tgt := 31) hx hb dL_band_27 (by decide) ?_
        exact cr_retR C hS (Option.some.inj hE) dL_band_31
    · rw [if_neg c2] at hE
      refine lv_iconst (v := 2) hx hb dL_band_16 (by decide) ?_
      refine lv_goto (tgt := 31) hx hb dL_band_17 (by decide) ?_
      exact cr_retR C hS (Option.some.inj hE) dL_band_31
  · rw [if_neg c1] at hE
    refine lv_iconst (v := 3) hx hb dL_band_6 (by decide) ?_
    refine lv_goto (tgt := 31) hx hb dL_band_7 (by decide) ?_
    exact cr_retR C hS (Option.some.inj hE) dL_band_31

set_option maxHeartbeats 4000000 in
set_option maxRecDepth 100000 in
theorem m_L_paid (L : Launch) (D : va_G) (ct : Nat → ClassId) (bg : Nat → Nat) (bl : Nat → Nat) (wg : cr_V) (wl : cr_V) (x2 : Int32) (x3 : Int32) (x4 : Int32) (out : Int32) (hE : f_L_paid wg wl x2 x3 x4 = some out) : Met L yL_paid wsL_paid ({ frames := 1, cells := 0, slots := 0, locals := 23 } : Room) (cr_pR D ct (cr_wN ct 17 bg wg ++ cr_wN ct 52 bl wl) [.ref (bg 0), .ref (bl 0), .int x2, .int x3, .int x4]) (cr_QR (fun r => r = out)) 0 0 cr_no := by
  refine cr_metR (by decide) rfl rfl (Nat.le_of_ble_eq_true rfl) ?_
  intro p e s m args below meth c ls C hP hS hl
  obtain ⟨hx, hb, hml, hown, hts, hr, hlocks, hK, hN⟩ := id C
  have hl : lv_has ls 7 [(0, .ref (bg 0)), (1, .ref (bl 0)), (2, .int x2), (3, .int x3), (4, .int x4)] := hl
  have n30 :  ∀ (wg : cr_V) (wl : cr_V) (x2 : Int32) (x3 : Int32) (x4 : Int32) (s0 : Int32) (hE : f_L_paid_30  wg wl x2 x3 x4 s0 = some out) (H : Heap) (locs : List Loc) (ls : Array Slot) (hP : va_P D vwCl (cr_wN ct 17 bg wg ++ cr_wN ct 52 bl wl) H) (hS : va_S cr_no s.heap H locs) (hl : lv_has ls 7 [(0, .ref (bg 0)), (1, .ref (bl 0)), (2, .int x2), (3, .int x3), (4, .int x4)]), W p L e ({ frames := 1, cells := 0, slots := 0, locals := 23 } : Room) s m args below meth c H locs 0 0 (MQ below (cr_QR (fun r => r = out)) args s 0 0 cr_no) (F0 m 30 ls [.int s0]) := by
    intro  wg wl x2 x3 x4 s0 hE H locs ls hP hS hl
    replace hE : ((f_L_cup wl x2 x4).bind fun q1 => if (((x3 + (q1 * (wg 0 10))) - (80 * (wg 0 10))) - (s0 * (wg 0 11))) ≤ 1 then (some 1) else (some (((x3 + (q1 * (wg 0 10))) - (80 * (wg 0 10))) - (s0 * (wg 0 11))))) = some out := hE
    refine lv_istore (lv' := [(5, .int s0), (0, .ref (bg 0)), (1, .ref (bl 0)), (2, .int x2), (3, .int x3), (4, .int x4)]) hx hb dL_paid_30 hl (by decide) rfl (fun ls hl => ?_)
    refine lv_iload_n hx hb dL_paid_32 rfl (lv_at hl 4 rfl) ?_
    refine lv_aload_n hx hb dL_paid_33 rfl (lv_at hl 2 rfl) ?_
    refine lv_iload_n hx hb dL_paid_34 rfl (lv_at hl 3 rfl) ?_
    refine lv_iload hx hb dL_paid_35 (lv_at hl 5 rfl) ?_
    obtain ⟨q1, hq1, hE⟩ := cr_bind hE
    refine cl_sR (nb := 2) (n := 3) (As := [.ref (bl 0), .int x2, .int x4]) (rest := [.int x3]) C hP hS (m_L_cup L D ct bl wl x2 x4 q1 hq1) (va_cwS 3 hts gL_paid_L_cup rfl rfl rfl (by decide +kernel) ⟨Nat.le_of_ble_eq_true rfl, Nat.le_of_ble_eq_true rfl⟩) [1] [cr_wN ct 17 bg wg, cr_wN ct 52 bl wl] ⟨rfl, rfl⟩ rfl rfl hl.1 rfl (Nat.le_of_ble_eq_true rfl) dL_paid_37 ⟨Nat.le_of_ble_eq_true rfl, Nat.le_of_ble_eq_true rfl⟩ (fun H locs hP hS => ?_)
    refine lv_aload_n hx hb dL_paid_40 rfl (lv_at hl 1 rfl) ?_
    refine lv_bipush (v := 10) hx hb dL_paid_41 (by decide) ?_
    refine cr_ald C hP 0 (f := wg 0) (k := 10) rfl (by decide) (by decide) dL_paid_43 ?_
    refine lv_imul hx hb dL_paid_44 ?_
    refine lv_iadd hx hb dL_paid_45 ?_
    refine lv_bipush (v := 80) hx hb dL_paid_46 (by decide) ?_
    refine lv_aload_n hx hb dL_paid_48 rfl (lv_at hl 1 rfl) ?_
    refine lv_bipush (v := 10) hx hb dL_paid_49 (by decide) ?_
    refine cr_ald C hP 0 (f := wg 0) (k := 10) rfl (by decide) (by decide) dL_paid_51 ?_
    refine lv_imul hx hb dL_paid_52 ?_
    refine lv_isub hx hb dL_paid_53 ?_
    refine lv_iload hx hb dL_paid_54 (lv_at hl 0 rfl) ?_
    refine lv_aload_n hx hb dL_paid_56 rfl (lv_at hl 1 rfl) ?_
    refine lv_bipush (v := 11) hx hb dL_paid_57 (by decide) ?_
    refine cr_ald C hP 0 (f := wg 0) (k := 11) rfl (by decide) (by decide) dL_paid_59 ?_
    refine lv_imul hx hb dL_paid_60 ?_
    refine lv_isub hx hb dL_paid_61 ?_
    refine lv_istore (lv' := [(6, .int (((x3 + (q1 * (wg 0 10))) - (80 * (wg 0 10))) - (s0 * (wg 0 11)))), (5, .int s0), (0, .ref (bg 0)), (1, .ref (bl 0)), (2, .int x2), (3, .int x3), (4, .int x4)]) hx hb dL_paid_62 hl (by decide) rfl (fun ls hl => ?_)
    refine lv_iload hx hb dL_paid_64 (lv_at hl 0 rfl) ?_
    refine lv_iconst (v := 1) hx hb dL_paid_66 (by decide) ?_
    refine lv_icmp_le (tgt := 75) hx hb dL_paid_67 (by decide) (fun c2 => ?_) (fun c2 => ?_)
    · rw [if_pos c2] at hE
      refine lv_iconst (v := 1) hx hb dL_paid_75 (by decide) ?_
      exact cr_retR C hS (Option.some.inj hE) dL_paid_76
    · rw [if_neg c2] at hE
      refine lv_iload hx hb dL_paid_70 (lv_at hl 0 rfl) ?_
      refine lv_goto (tgt := 76) hx hb dL_paid_72 (by decide) ?_
      exact cr_retR C hS (Option.some.inj hE) dL_paid_76
  replace hE : (if cr_in ((4 * x2) + 3) 52 = true then if (x4 - (wl 0 (cr_x ((4 * x2) + 3)))) ≤ 3 then (f_L_paid_30 wg wl x2 x3 x4 0) else (f_L_paid_30 wg wl x2 x3 x4 ((x4 - (wl 0 (cr_x ((4 * x2) + 3)))) - 3)) else none) = some out := hE
  refine lv_iload hx hb dL_paid_0 (lv_at hl 4 rfl) ?_
  refine lv_aload_n hx hb dL_paid_2 rfl (lv_at hl 1 rfl) ?_
  refine lv_iconst (v := 4) hx hb dL_paid_3 (by decide) ?_
  refine lv_iload_n hx hb dL_paid_4 rfl (lv_at hl 2 rfl) ?_
  refine lv_imul hx hb dL_paid_5 ?_
  refine lv_iconst (v := 3) hx hb dL_paid_6 (by decide) ?_
  refine lv_iadd hx hb dL_paid_7 ?_
  obtain ⟨i3, hE⟩ := cr_ifn hE
  refine cr_ald C hP 1 (f := wl 0) (k := cr_x ((4 * x2) + 3)) rfl i3 (cr_xe _) dL_paid_8 ?_
  refine lv_isub hx hb dL_paid_9 ?_
  refine lv_iconst (v := 3) hx hb dL_paid_10 (by decide) ?_
  refine lv_icmp_le (tgt := 29) hx hb dL_paid_11 (by decide) (fun c4 => ?_) (fun c4 => ?_)
  · rw [if_pos c4] at hE
    refine lv_iconst (v := 0) hx hb dL_paid_29 (by decide) ?_
    exact n30 wg wl x2 x3 x4 0 hE _ _ _ hP hS (lv_sub hl [0, 1, 2, 3, 4] rfl)
  · rw [if_neg c4] at hE
    refine lv_iload hx hb dL_paid_14 (lv_at hl 4 rfl) ?_
    refine lv_aload_n hx hb dL_paid_16 rfl (lv_at hl 1 rfl) ?_
    refine lv_iconst (v := 4) hx hb dL_paid_17 (by decide) ?_
    refine lv_iload_n hx hb dL_paid_18 rfl (lv_at hl 2 rfl) ?_
    refine lv_imul hx hb dL_paid_19 ?_
    refine lv_iconst (v := 3) hx hb dL_paid_20 (by decide) ?_
    refine lv_iadd hx hb dL_paid_21 ?_
    refine cr_ald C hP 1 (f := wl 0) (k := cr_x ((4 * x2) + 3)) rfl i3 (cr_xe _) dL_paid_22 ?_
    refine lv_isub hx hb dL_paid_23 ?_
    refine lv_iconst (v := 3) hx hb dL_paid_24 (by decide) ?_
    refine lv_isub hx hb dL_paid_25 ?_
    refine lv_goto (tgt := 30) hx hb dL_paid_26 (by decide) ?_
    exact n30 wg wl x2 x3 x4 ((x4 - (wl 0 (cr_x ((4 * x2) + 3)))) - 3) hE _ _ _ hP hS (lv_sub hl [0, 1, 2, 3, 4] rfl)

set_option maxHeartbeats 4000000 in
set_option maxRecDepth 100000 in
theorem m_L_gain (L : Launch) (D : va_G) (ct : Nat → ClassId) (bg : Nat → Nat) (bl : Nat → Nat) (wg : cr_V) (wl : cr_V) (x2 : Int32) (x3 : Int32) (x4 : Int32) (out : Int32) (hE : f_L_gain wg wl x2 x3 x4 = some out) : Met L yL_gain wsL_gain ({ frames := 2, cells := 0, slots := 0, locals := 49 } : Room) (cr_pR D ct (cr_wN ct 17 bg wg ++ cr_wN ct 52 bl wl) [.ref (bg 0), .ref (bl 0), .int x2, .int x3, .int x4]) (cr_QR (fun r => r = out)) 0 0 cr_no := by
  refine cr_metR (by decide) rfl rfl (Nat.le_of_ble_eq_true rfl) ?_
  intro p e s m args below meth c ls C hP hS hl
  obtain ⟨hx, hb, hml, hown, hts, hr, hlocks, hK, hN⟩ := id C
  have hl : lv_has ls 5 [(0, .ref (bg 0)), (1, .ref (bl 0)), (2, .int x2), (3, .int x3), (4, .int x4)] := hl
  replace hE : ((f_L_paid wg wl x2 x3 x4).bind fun q1 => (f_L_cup wl x2 x4).bind fun q2 => (f_L_band q2).bind fun q3 => if cr_in (13 + q3) 17 = true then some (q1 - (wg 0 (cr_x (13 + q3)))) else none) = some out := hE
  refine lv_aload_n hx hb dL_gain_0 rfl (lv_at hl 0 rfl) ?_
  refine lv_aload_n hx hb dL_gain_1 rfl (lv_at hl 1 rfl) ?_
  refine lv_iload_n hx hb dL_gain_2 rfl (lv_at hl 2 rfl) ?_
  refine lv_iload_n hx hb dL_gain_3 rfl (lv_at hl 3 rfl) ?_
  refine lv_iload hx hb dL_gain_4 (lv_at hl 4 rfl) ?_
  obtain ⟨q1, hq1, hE⟩ := cr_bind hE
  refine cl_sR (nb := 2) (n := 5) (As := [.ref (bg 0), .ref (bl 0), .int x2, .int x3, .int x4]) (rest := []) C hP hS (m_L_paid L D ct bg bl wg wl x2 x3 x4 q1 hq1) (va_cwS 5 hts gL_gain_L_paid rfl rfl rfl (by decide +kernel) ⟨Nat.le_of_ble_eq_true rfl, Nat.le_of_ble_eq_true rfl⟩) [0, 1] [cr_wN ct 17 bg wg, cr_wN ct 52 bl wl] ⟨rfl, rfl⟩ rfl rfl hl.1 rfl (Nat.le_of_ble_eq_true rfl) dL_gain_6 ⟨Nat.le_of_ble_eq_true rfl, Nat.le_of_ble_eq_true rfl⟩ (fun H locs hP hS => ?_)
  refine lv_aload_n hx hb dL_gain_9 rfl (lv_at hl 0 rfl) ?_
  refine lv_bipush (v := 13) hx hb dL_gain_10 (by decide) ?_
  refine lv_aload_n hx hb dL_gain_12 rfl (lv_at hl 1 rfl) ?_
  refine lv_iload_n hx hb dL_gain_13 rfl (lv_at hl 2 rfl) ?_
  refine lv_iload hx hb dL_gain_14 (lv_at hl 4 rfl) ?_
  obtain ⟨q2, hq2, hE⟩ := cr_bind hE
  refine cl_sR (nb := 2) (n := 3) (As := [.ref (bl 0), .int x2, .int x4]) (rest := [.int 13, .ref (bg 0), .int q1]) C hP hS (m_L_cup L D ct bl wl x2 x4 q2 hq2) (va_cwS 3 hts gL_gain_L_cup rfl rfl rfl (by decide +kernel) ⟨Nat.le_of_ble_eq_true rfl, Nat.le_of_ble_eq_true rfl⟩) [1] [cr_wN ct 17 bg wg, cr_wN ct 52 bl wl] ⟨rfl, rfl⟩ rfl rfl hl.1 rfl (Nat.le_of_ble_eq_true rfl) dL_gain_16 ⟨Nat.le_of_ble_eq_true rfl, Nat.le_of_ble_eq_true rfl⟩ (fun H locs hP hS => ?_)
  obtain ⟨q3, hq3, hE⟩ := cr_bind hE
  refine cr_sRq (n := 1) (As := [.int q2]) (rest := [.int 13, .ref (bg 0), .int q1]) C hP hS (m_L_band L D ct q2 q3 hq3) (va_cwS 1 hts gL_gain_L_band rfl rfl rfl (by decide +kernel) ⟨Nat.le_of_ble_eq_true rfl, Nat.le_of_ble_eq_true rfl⟩) rfl hl.1 rfl (Nat.le_of_ble_eq_true rfl) dL_gain_19 ⟨Nat.le_of_ble_eq_true rfl, Nat.le_of_ble_eq_true rfl⟩ (fun H locs hP hS => ?_)
  refine lv_iadd hx hb dL_gain_22 ?_
  obtain ⟨i4, hE⟩ := cr_ifn hE
  refine cr_ald C hP 0 (f := wg 0) (k := cr_x (13 + q3)) rfl i4 (cr_xe _) dL_gain_23 ?_
  refine lv_isub hx hb dL_gain_24 ?_
  exact cr_retR C hS (Option.some.inj hE) dL_gain_25

set_option maxHeartbeats 4000000 in
set_option maxRecDepth 100000 in
theorem m_L_makes (L : Launch) (D : va_G) (ct : Nat → ClassId) (bg : Nat → Nat) (bl : Nat → Nat) (wg : cr_V) (wl : cr_V) (x2 : Int32) (x3 : Int32) (x4 : Int32) (sz : Nat) (out : Int32 × cr_V × cr_V) (hE : f_L_makes wg wl x2 x3 x4 = some out) : Met L yL_makes wsL_makes ({ frames := 0, cells := 0, slots := 0, locals := 0 } : Room) (cr_pW D ct (cr_wN ct 17 bg wg ++ cr_wN ct 52 bl wl) sz [.ref (bg 0), .ref (bl 0), .int x2, .int x3, .int x4]) (cr_QW D (cr_wN ct 17 bg wg ++ cr_wN ct 52 bl wl) sz (fun r (u : cr_V × cr_V) => (r, u) = out) (fun u : cr_V × cr_V => cr_wN ct 17 bg u.1 ++ cr_wN ct 52 bl u.2)) 0 0 (va_A (cr_wN ct 17 bg wg ++ cr_wN ct 52 bl wl) sz) := by
  refine cr_metW (Qc := fun A => va_Qi (fun r (u : cr_V × cr_V) => (r, u) = out) (fun u t => cr_at D A ((fun u : cr_V × cr_V => cr_wN ct 17 bg u.1 ++ cr_wN ct 52 bl u.2) u) t) A) (by decide) rfl rfl (Nat.le_of_ble_eq_true rfl) ?_
  intro p e s m args below meth c ls A C hW hl
  obtain ⟨hx, hb, hml, hown, hts, hr, hlocks, hK, hN⟩ := id C
  have hl : lv_has ls 6 [(0, .ref (bg 0)), (1, .ref (bl 0)), (2, .int x2), (3, .int x3), (4, .int x4)] := hl
  replace hE : (if cr_in (4 * (wg 0 6)) 52 = true then if cr_in ((4 * (wg 0 6)) + 1) 52 = true then if cr_in ((4 * (wg 0 6)) + 2) 52 = true then if cr_in ((4 * (wg 0 6)) + 3) 52 = true then some ((((cr_a (cr_a wg 0 5 ((wg 0 5) + 1)) 0 6 (((cr_a wg 0 5 ((wg 0 5) + 1)) 0 6) + 1)) 0 5) - 1), cr_a (cr_a wg 0 5 ((wg 0 5) + 1)) 0 6 (((cr_a wg 0 5 ((wg 0 5) + 1)) 0 6) + 1), cr_a (cr_a (cr_a (cr_a wl 0 (cr_x (4 * (wg 0 6))) (wg 0 5)) 0 (cr_x ((4 * (wg 0 6)) + 1)) x2) 0 (cr_x ((4 * (wg 0 6)) + 2)) x3) 0 (cr_x ((4 * (wg 0 6)) + 3)) x4) else none else none else none else none) = some out := hE
  refine lv_iconst (v := 4) hx hb dL_makes_0 (by decide) ?_
  refine lv_aload_n hx hb dL_makes_1 rfl (lv_at hl 0 rfl) ?_
  refine lv_bipush (v := 6) hx hb dL_makes_2 (by decide) ?_
  refine cr_ald C hW.1 0 (f := wg 0) (k := 6) rfl (by decide) (by decide) dL_makes_4 ?_
  refine lv_imul hx hb dL_makes_5 ?_
  refine lv_istore (lv' := [(5, .int (4 * (wg 0 6))), (0, .ref (bg 0)), (1, .ref (bl 0)), (2, .int x2), (3, .int x3), (4, .int x4)]) hx hb dL_makes_6 hl (by decide) rfl (fun ls hl => ?_)
  refine lv_aload_n hx hb dL_makes_8 rfl (lv_at hl 2 rfl) ?_
  refine lv_iload hx hb dL_makes_9 (lv_at hl 0 rfl) ?_
  refine lv_aload_n hx hb dL_makes_11 rfl (lv_at hl 1 rfl) ?_
  refine lv_iconst (v := 5) hx hb dL_makes_12 (by decide) ?_
  refine cr_ald C hW.1 0 (f := wg 0) (k := 5) rfl (by decide) (by decide) dL_makes_13 ?_
  obtain ⟨i1, hE⟩ := cr_ifn hE
  refine cr_ast C hW 1 rfl (k := (cr_x (4 * (wg 0 6)))) i1 (cr_xe _) (w' := cr_wN ct 17 bg wg ++ cr_wN ct 52 bl (cr_a wl 0 (cr_x (4 * (wg 0 6))) (wg 0 5))) rfl dL_makes_14 (fun H locs hW => ?_)
  refine lv_aload_n hx hb dL_makes_15 rfl (lv_at hl 2 rfl) ?_
  refine lv_iload hx hb dL_makes_16 (lv_at hl 0 rfl) ?_
  refine lv_iconst (v := 1) hx hb dL_makes_18 (by decide) ?_
  refine lv_iadd hx hb dL_makes_19 ?_
  refine lv_iload_n hx hb dL_makes_20 rfl (lv_at hl 3 rfl) ?_
  obtain ⟨i2, hE⟩ := cr_ifn hE
  refine cr_ast C hW 1 rfl (k := (cr_x ((4 * (wg 0 6)) + 1))) i2 (cr_xe _) (w' := cr_wN ct 17 bg wg ++ cr_wN ct 52 bl (cr_a (cr_a wl 0 (cr_x (4 * (wg 0 6))) (wg 0 5)) 0 (cr_x ((4 * (wg 0 6)) + 1)) x2)) rfl dL_makes_21 (fun H locs hW => ?_)
  refine lv_aload_n hx hb dL_makes_22 rfl (lv_at hl 2 rfl) ?_
  refine lv_iload hx hb dL_makes_23 (lv_at hl 0 rfl) ?_
  refine lv_iconst (v := 2) hx hb dL_makes_25 (by decide) ?_
  refine lv_iadd hx hb dL_makes_26 ?_
  refine lv_iload_n hx hb dL_makes_27 rfl (lv_at hl 4 rfl) ?_
  obtain ⟨i3, hE⟩ := cr_ifn hE
  refine cr_ast C hW 1 rfl (k := (cr_x ((4 * (wg 0 6)) + 2))) i3 (cr_xe _) (w' := cr_wN ct 17 bg wg ++ cr_wN ct 52 bl (cr_a (cr_a (cr_a wl 0 (cr_x (4 * (wg 0 6))) (wg 0 5)) 0 (cr_x ((4 * (wg 0 6)) + 1)) x2) 0 (cr_x ((4 * (wg 0 6)) + 2)) x3)) rfl dL_makes_28 (fun H locs hW => ?_)
  refine lv_aload_n hx hb dL_makes_29 rfl (lv_at hl 2 rfl) ?_
  refine lv_iload hx hb dL_makes_30 (lv_at hl 0 rfl) ?_
  refine lv_iconst (v := 3) hx hb dL_makes_32 (by decide) ?_
  refine lv_iadd hx hb dL_makes_33 ?_
  refine lv_iload hx hb dL_makes_34 (lv_at hl 5 rfl) ?_
  obtain ⟨i4, hE⟩ := cr_ifn hE
  refine cr_ast C hW 1 rfl (k := (cr_x ((4 * (wg 0 6)) + 3))) i4 (cr_xe _) (w' := cr_wN ct 17 bg wg ++ cr_wN ct 52 bl (cr_a (cr_a (cr_a (cr_a wl 0 (cr_x (4 * (wg 0 6))) (wg 0 5)) 0 (cr_x ((4 * (wg 0 6)) + 1)) x2) 0 (cr_x ((4 * (wg 0 6)) + 2)) x3) 0 (cr_x ((4 * (wg 0 6)) + 3)) x4)) rfl dL_makes_36 (fun H locs hW => ?_)
  refine lv_aload_n hx hb dL_makes_37 rfl (lv_at hl 1 rfl) ?_
  refine lv_iconst (v := 5) hx hb dL_makes_38 (by decide) ?_
  refine lv_dup2_11 hx hb dL_makes_39 rfl rfl ?_
  refine cr_ald C hW.1 0 (f := wg 0) (k := 5) rfl (by decide) (by decide) dL_makes_40 ?_
  refine lv_iconst (v := 1) hx hb dL_makes_41 (by decide) ?_
  refine lv_iadd hx hb dL_makes_42 ?_
  refine cr_ast C hW 0 rfl (k := 5) (by decide) (by decide) (w' := cr_wN ct 17 bg (cr_a wg 0 5 ((wg 0 5) + 1)) ++ cr_wN ct 52 bl (cr_a (cr_a (cr_a (cr_a wl 0 (cr_x (4 * (wg 0 6))) (wg 0 5)) 0 (cr_x ((4 * (wg 0 6)) + 1)) x2) 0 (cr_x ((4 * (wg 0 6)) + 2)) x3) 0 (cr_x ((4 * (wg 0 6)) + 3)) x4)) rfl dL_makes_43 (fun H locs hW => ?_)
  refine lv_aload_n hx hb dL_makes_44 rfl (lv_at hl 1 rfl) ?_
  refine lv_bipush (v := 6) hx hb dL_makes_45 (by decide) ?_
  refine lv_dup2_11 hx hb dL_makes_47 rfl rfl ?_
  refine cr_ald C hW.1 0 (f := (cr_a wg 0 5 ((wg 0 5) + 1)) 0) (k := 6) rfl (by decide) (by decide) dL_makes_48 ?_
  refine lv_iconst (v := 1) hx hb dL_makes_49 (by decide) ?_
  refine lv_iadd hx hb dL_makes_50 ?_
  refine cr_ast C hW 0 rfl (k := 6) (by decide) (by decide) (w' := cr_wN ct 17 bg (cr_a (cr_a wg 0 5 ((wg 0 5) + 1)) 0 6 (((cr_a wg 0 5 ((wg 0 5) + 1)) 0 6) + 1)) ++ cr_wN ct 52 bl (cr_a (cr_a (cr_a (cr_a wl 0 (cr_x (4 * (wg 0 6))) (wg 0 5)) 0 (cr_x ((4 * (wg 0 6)) + 1)) x2) 0 (cr_x ((4 * (wg 0 6)) + 2)) x3) 0 (cr_x ((4 * (wg 0 6)) + 3)) x4)) rfl dL_makes_51 (fun H locs hW => ?_)
  refine lv_aload_n hx hb dL_makes_52 rfl (lv_at hl 1 rfl) ?_
  refine lv_iconst (v := 5) hx hb dL_makes_53 (by decide) ?_
  refine cr_ald C hW.1 0 (f := (cr_a (cr_a wg 0 5 ((wg 0 5) + 1)) 0 6 (((cr_a wg 0 5 ((wg 0 5) + 1)) 0 6) + 1)) 0) (k := 5) rfl (by decide) (by decide) dL_makes_54 ?_
  refine lv_iconst (v := 1) hx hb dL_makes_55 (by decide) ?_
  refine lv_isub hx hb dL_makes_56 ?_
  exact cr_retW C (w := (fun u : cr_V × cr_V => cr_wN ct 17 bg u.1 ++ cr_wN ct 52 bl u.2)) (cr_a (cr_a wg 0 5 ((wg 0 5) + 1)) 0 6 (((cr_a wg 0 5 ((wg 0 5) + 1)) 0 6) + 1), cr_a (cr_a (cr_a (cr_a wl 0 (cr_x (4 * (wg 0 6))) (wg 0 5)) 0 (cr_x ((4 * (wg 0 6)) + 1)) x2) 0 (cr_x ((4 * (wg 0 6)) + 2)) x3) 0 (cr_x ((4 * (wg 0 6)) + 3)) x4) hW (Option.some.inj hE) dL_makes_57

set_option maxHeartbeats 4000000 in
set_option maxRecDepth 100000 in
theorem m_L_takes (L : Launch) (D : va_G) (ct : Nat → ClassId) (bg : Nat → Nat) (bl : Nat → Nat) (wg : cr_V) (wl : cr_V) (x2 : Int32) (x3 : Int32) (sz : Nat) (out : cr_V × cr_V) (hE : f_L_takes wg wl x2 x3 = some out) : Met L yL_takes wsL_takes ({ frames := 1, cells := 0, slots := 0, locals := 23 } : Room) (cr_pW D ct (cr_wN ct 17 bg wg ++ cr_wN ct 52 bl wl) sz [.ref (bg 0), .ref (bl 0), .int x2, .int x3]) (cr_QV D (cr_wN ct 17 bg wg ++ cr_wN ct 52 bl wl) sz (fun u : cr_V × cr_V => u = out) (fun u : cr_V × cr_V => cr_wN ct 17 bg u.1 ++ cr_wN ct 52 bl u.2)) 0 0 (va_A (cr_wN ct 17 bg wg ++ cr_wN ct 52 bl wl) sz) := by
  refine cr_metW (Qc := fun A => va_Qv (fun u : cr_V × cr_V => u = out) (fun u t => cr_at D A ((fun u : cr_V × cr_V => cr_wN ct 17 bg u.1 ++ cr_wN ct 52 bl u.2) u) t) A) (by decide) rfl rfl (Nat.le_of_ble_eq_true rfl) ?_
  intro p e s m args below meth c ls A C hW hl
  obtain ⟨hx, hb, hml, hown, hts, hr, hlocks, hK, hN⟩ := id C
  have hl : lv_has ls 6 [(0, .ref (bg 0)), (1, .ref (bl 0)), (2, .int x2), (3, .int x3)] := hl
  have n46 :  ∀ (n : Nat), ∀ (wg : cr_V) (wl : cr_V) (x5 : Int32) (hE : f_L_takes_46  n wg wl x5 = some out) (H : Heap) (locs : List Loc) (ls : Array Slot) (hW : cr_wd D A s (cr_wN ct 17 bg wg ++ cr_wN ct 52 bl wl) H locs) (hl : lv_has ls 6 [(0, .ref (bg 0)), (1, .ref (bl 0)), (5, .int x5)]), W p L e ({ frames := 1, cells := 0, slots := 0, locals := 23 } : Room) s m args below meth c H locs 0 0 (MQ below (va_Qv (fun u : cr_V × cr_V => u = out) (fun u t => cr_at D A ((fun u : cr_V × cr_V => cr_wN ct 17 bg u.1 ++ cr_wN ct 52 bl u.2) u) t) A) args s 0 0 A) (F0 m 46 ls []) := by
    intro  n
    induction n with
    | zero =>
      intro wg wl x5 hE
      cases hE
    | succ n ih =>
      intro wg wl x5 hE H locs ls hW hl
      replace hE : (if (4 * (wg 0 6)) ≤ x5 then (some (wg, wl)) else (if cr_in (x5 + 4) 52 = true then if cr_in x5 52 = true then f_L_takes_46 n wg (cr_a wl 0 (cr_x x5) (wl 0 (cr_x (x5 + 4)))) (x5 + 1) else none else none)) = some out := hE
      refine lv_iload hx hb dL_takes_46 (lv_at hl 2 rfl) ?_
      refine lv_iconst (v := 4) hx hb dL_takes_48 (by decide) ?_
      refine lv_aload_n hx hb dL_takes_49 rfl (lv_at hl 0 rfl) ?_
      refine lv_bipush (v := 6) hx hb dL_takes_50 (by decide) ?_
      refine cr_ald C hW.1 0 (f := wg 0) (k := 6) rfl (by decide) (by decide) dL_takes_52 ?_
      refine lv_imul hx hb dL_takes_53 ?_
      refine lv_icmp_ge (tgt := 73) hx hb dL_takes_54 (by decide) (fun c1 => ?_) (fun c1 => ?_)
      · rw [if_pos c1] at hE
        exact cr_retV C (w := (fun u : cr_V × cr_V => cr_wN ct 17 bg u.1 ++ cr_wN ct 52 bl u.2)) (wg, wl) hW (Option.some.inj hE) dL_takes_73
      · rw [if_neg c1] at hE
        refine lv_aload_n hx hb dL_takes_57 rfl (lv_at hl 1 rfl) ?_
        refine lv_iload hx hb dL_takes_58 (lv_at hl 2 rfl) ?_
        refine lv_aload_n hx hb dL_takes_60 rfl (lv_at hl 1 rfl) ?_
        refine lv_iload hx hb dL_takes_61 (lv_at hl 2 rfl) ?_
        refine lv_iconst (v := 4) hx hb dL_takes_63 (by decide) ?_
        refine lv_iadd hx hb dL_takes_64 ?_
        obtain ⟨i2, hE⟩ := cr_ifn hE
        refine cr_ald C hW.1 1 (f := wl 0) (k := cr_x (x5 + 4)) rfl i2 (cr_xe _) dL_takes_65 ?_
        obtain ⟨i3, hE⟩ := cr_ifn hE
        refine cr_ast C hW 1 rfl (k := (cr_x x5)) i3 (cr_xe _) (w' := cr_wN ct 17 bg wg ++ cr_wN ct 52 bl (cr_a wl 0 (cr_x x5) (wl 0 (cr_x (x5 + 4))))) rfl dL_takes_66 (fun H locs hW => ?_)
        refine lv_iinc (v := x5 + 1) (lv' := [(5, .int (x5 + 1)), (0, .ref (bg 0)), (1, .ref (bl 0))]) hx hb dL_takes_67 hl (k := 2) rfl (by first | rfl | decide) (by decide) rfl (fun ls hl => ?_)
        refine lv_goto (tgt := 46) hx hb dL_takes_70 (by decide) ?_
        exact ih wg (cr_a wl 0 (cr_x x5) (wl 0 (cr_x (x5 + 4)))) (x5 + 1) hE _ _ _ hW (lv_sub hl [1, 2, 0] rfl)
  replace hE : ((f_L_find wg wl x2).bind fun q4 => if cr_in ((4 * q4) + 1) 52 = true then if ((cr_a wl 0 (cr_x ((4 * q4) + 1)) ((wl 0 (cr_x ((4 * q4) + 1))) - x3)) 0 (cr_x ((4 * q4) + 1))) ≤ 0 then (f_L_takes_46 10100 (cr_a wg 0 6 ((wg 0 6) - 1)) (cr_a wl 0 (cr_x ((4 * q4) + 1)) ((wl 0 (cr_x ((4 * q4) + 1))) - x3)) (4 * q4)) else (some (wg, cr_a wl 0 (cr_x ((4 * q4) + 1)) ((wl 0 (cr_x ((4 * q4) + 1))) - x3))) else none) = some out := hE
  refine lv_aload_n hx hb dL_takes_0 rfl (lv_at hl 0 rfl) ?_
  refine lv_aload_n hx hb dL_takes_1 rfl (lv_at hl 1 rfl) ?_
  refine lv_iload_n hx hb dL_takes_2 rfl (lv_at hl 2 rfl) ?_
  obtain ⟨q4, hq4, hE⟩ := cr_bind hE
  refine cl_sRw (nb := 2) (n := 3) (As := [.ref (bg 0), .ref (bl 0), .int x2]) (rest := []) C hW (m_L_find L D ct bg bl wg wl x2 q4 hq4) (va_cwS 3 hts gL_takes_L_find rfl rfl rfl (by decide +kernel) ⟨Nat.le_of_ble_eq_true rfl, Nat.le_of_ble_eq_true rfl⟩) [0, 1] [cr_wN ct 17 bg wg, cr_wN ct 52 bl wl] ⟨rfl, rfl⟩ rfl rfl hl.1 rfl (Nat.le_of_ble_eq_true rfl) dL_takes_3 ⟨Nat.le_of_ble_eq_true rfl, Nat.le_of_ble_eq_true rfl⟩ (fun H locs hW => ?_)
  refine lv_istore (lv' := [(4, .int q4), (0, .ref (bg 0)), (1, .ref (bl 0)), (2, .int x2), (3, .int x3)]) hx hb dL_takes_6 hl (by decide) rfl (fun ls hl => ?_)
  refine lv_aload_n hx hb dL_takes_8 rfl (lv_at hl 2 rfl) ?_
  refine lv_iconst (v := 4) hx hb dL_takes_9 (by decide) ?_
  refine lv_iload hx hb dL_takes_10 (lv_at hl 0 rfl) ?_
  refine lv_imul hx hb dL_takes_12 ?_
  refine lv_iconst (v := 1) hx hb dL_takes_13 (by decide) ?_
  refine lv_iadd hx hb dL_takes_14 ?_
  refine lv_dup2_11 hx hb dL_takes_15 rfl rfl ?_
  obtain ⟨i5, hE⟩ := cr_ifn hE
  refine cr_ald C hW.1 1 (f := wl 0) (k := cr_x ((4 * q4) + 1)) rfl i5 (cr_xe _) dL_takes_16 ?_
  refine lv_iload_n hx hb dL_takes_17 rfl (lv_at hl 4 rfl) ?_
  refine lv_isub hx hb dL_takes_18 ?_
  refine cr_ast C hW 1 rfl (k := (cr_x ((4 * q4) + 1))) i5 (cr_xe _) (w' := cr_wN ct 17 bg wg ++ cr_wN ct 52 bl (cr_a wl 0 (cr_x ((4 * q4) + 1)) ((wl 0 (cr_x ((4 * q4) + 1))) - x3))) rfl dL_takes_19 (fun H locs hW => ?_)
  refine lv_aload_n hx hb dL_takes_20 rfl (lv_at hl 2 rfl) ?_
  refine lv_iconst (v := 4) hx hb dL_takes_21 (by decide) ?_
  refine lv_iload hx hb dL_takes_22 (lv_at hl 0 rfl) ?_
  refine lv_imul hx hb dL_takes_24 ?_
  refine lv_iconst (v := 1) hx hb dL_takes_25 (by decide) ?_
  refine lv_iadd hx hb dL_takes_26 ?_
  refine cr_ald C hW.1 1 (f := (cr_a wl 0 (cr_x ((4 * q4) + 1)) ((wl 0 (cr_x ((4 * q4) + 1))) - x3)) 0) (k := cr_x ((4 * q4) + 1)) rfl i5 (cr_xe _) dL_takes_27 ?_
  refine lv_if_le (tgt := 32) hx hb dL_takes_28 (by decide) (fun c6 => ?_) (fun c6 => ?_)
  · rw [if_pos c6] at hE
    refine lv_aload_n hx hb dL_takes_32 rfl (lv_at hl 1 rfl) ?_
    refine lv_bipush (v := 6) hx hb dL_takes_33 (by decide) ?_
    refine lv_dup2_11 hx hb dL_takes_35 rfl rfl ?_
    refine cr_ald C hW.1 0 (f := wg 0) (k := 6) rfl (by decide) (by decide) dL_takes_36 ?_
    refine lv_iconst (v := 1) hx hb dL_takes_37 (by decide) ?_
    refine lv_isub hx hb dL_takes_38 ?_
    refine cr_ast C hW 0 rfl (k := 6) (by decide) (by decide) (w' := cr_wN ct 17 bg (cr_a wg 0 6 ((wg 0 6) - 1)) ++ cr_wN ct 52 bl (cr_a wl 0 (cr_x ((4 * q4) + 1)) ((wl 0 (cr_x ((4 * q4) + 1))) - x3))) rfl dL_takes_39 (fun H locs hW => ?_)
    refine lv_iconst (v := 4) hx hb dL_takes_40 (by decide) ?_
    refine lv_iload hx hb dL_takes_41 (lv_at hl 0 rfl) ?_
    refine lv_imul hx hb dL_takes_43 ?_
    refine lv_istore (lv' := [(5, .int (4 * q4)), (4, .int q4), (0, .ref (bg 0)), (1, .ref (bl 0)), (2, .int x2), (3, .int x3)]) hx hb dL_takes_44 hl (by decide) rfl (fun ls hl => ?_)
    exact n46 10100 (cr_a wg 0 6 ((wg 0 6) - 1)) (cr_a wl 0 (cr_x ((4 * q4) + 1)) ((wl 0 (cr_x ((4 * q4) + 1))) - x3)) (4 * q4) hE _ _ _ hW (lv_sub hl [2, 3, 0] rfl)
  · rw [if_neg c6] at hE
    exact cr_retV C (w := (fun u : cr_V × cr_V => cr_wN ct 17 bg u.1 ++ cr_wN ct 52 bl u.2)) (wg, cr_a wl 0 (cr_x ((4 * q4) + 1)) ((wl 0 (cr_x ((4 * q4) + 1))) - x3)) hW (Option.some.inj hE) dL_takes_31

set_option maxHeartbeats 4000000 in
set_option maxRecDepth 100000 in
theorem m_L_gives (L : Launch) (D : va_G) (ct : Nat → ClassId) (bg : Nat → Nat) (bl : Nat → Nat) (bv : Nat → Nat) (wg : cr_V) (wl : cr_V) (wv : cr_V) (x2 : Int32) (x3 : Int32) (sz : Nat) (out : Int32 × cr_V) (hE : f_L_gives wg wl wv x2 x3 = some out) : Met L yL_gives wsL_gives ({ frames := 3, cells := 0, slots := 0, locals := 73 } : Room) (cr_pW D ct (cr_wN ct 17 bg wg ++ (cr_wN ct 52 bl wl ++ cr_wN ct 25 bv wv)) sz [.ref (bg 0), .ref (bl 0), .int x2, .int x3, .ref (bv 0)]) (cr_QW D (cr_wN ct 17 bg wg ++ (cr_wN ct 52 bl wl ++ cr_wN ct 25 bv wv)) sz (fun r (u : cr_V) => (r, u) = out) (fun u : cr_V => cr_wN ct 17 bg wg ++ (cr_wN ct 52 bl wl ++ cr_wN ct 25 bv u))) 0 0 (va_A (cr_wN ct 17 bg wg ++ (cr_wN ct 52 bl wl ++ cr_wN ct 25 bv wv)) sz) := by
  have k0 : (Cond.constant RL 27 (2000000)) ∈ wsL_gives := List.mem_of_getElem? (i := 1) rfl
  refine cr_metW (Qc := fun A => va_Qi (fun r (u : cr_V) => (r, u) = out) (fun u t => cr_at D A ((fun u : cr_V => cr_wN ct 17 bg wg ++ (cr_wN ct 52 bl wl ++ cr_wN ct 25 bv u)) u) t) A) (by decide) rfl rfl (Nat.le_of_ble_eq_true rfl) ?_
  intro p e s m args below meth c ls A C hW hl
  obtain ⟨hx, hb, hml, hown, hts, hr, hlocks, hK, hN⟩ := id C
  have hl : lv_has ls 13 [(0, .ref (bg 0)), (1, .ref (bl 0)), (2, .int x2), (3, .int x3), (4, .ref (bv 0))] := hl
  have n118 : ∀ (k16_ : cr_V → cr_V → cr_V → Int32 → Int32 → Int32 → Int32 → Int32 → Int32 → Option (Int32 × cr_V)) (ih16_ : ∀ (wg : cr_V) (wl : cr_V) (wv : cr_V) (x2 : Int32) (x3 : Int32) (x5 : Int32) (x6 : Int32) (x7 : Int32) (x8 : Int32) (hE : k16_ wg wl wv x2 x3 x5 x6 x7 x8 = some out) (H : Heap) (locs : List Loc) (ls : Array Slot) (hW : cr_wd D A s (cr_wN ct 17 bg wg ++ (cr_wN ct 52 bl wl ++ cr_wN ct 25 bv wv)) H locs) (hl : lv_has ls 13 [(0, .ref (bg 0)), (1, .ref (bl 0)), (2, .int x2), (3, .int x3), (4, .ref (bv 0)), (5, .int x5), (6, .int x6), (7, .int x7), (8, .int x8)]), W p L e ({ frames := 3, cells := 0, slots := 0, locals := 73 } : Room) s m args below meth c H locs 0 0 (MQ below (va_Qi (fun r (u : cr_V) => (r, u) = out) (fun u t => cr_at D A ((fun u : cr_V => cr_wN ct 17 bg wg ++ (cr_wN ct 52 bl wl ++ cr_wN ct 25 bv u)) u) t) A) args s 0 0 A) (F0 m 16 ls [])), ∀ (k27_ : cr_V → cr_V → cr_V → Int32 → Int32 → Int32 → Int32 → Int32 → Int32 → Int32 → Int32 → Option (Int32 × cr_V)) (ih27_ : ∀ (wg : cr_V) (wl : cr_V) (wv : cr_V) (x2 : Int32) (x3 : Int32) (x5 : Int32) (x6 : Int32) (x7 : Int32) (x8 : Int32) (x9 : Int32) (x10 : Int32) (hE : k27_ wg wl wv x2 x3 x5 x6 x7 x8 x9 x10 = some out) (H : Heap) (locs : List Loc) (ls : Array Slot) (hW : cr_wd D A s (cr_wN ct 17 bg wg ++ (cr_wN ct 52 bl wl ++ cr_wN ct 25 bv wv)) H locs) (hl : lv_has ls 13 [(0, .ref (bg 0)), (1, .ref (bl 0)), (2, .int x2), (3, .int x3), (4, .ref (bv 0)), (5, .int x5), (6, .int x6), (7, .int x7), (8, .int x8), (9, .int x9), (10, .int x10)]), W p L e ({ frames := 3, cells := 0, slots := 0, locals := 73 } : Room) s m args below meth c H locs 0 0 (MQ below (va_Qi (fun r (u : cr_V) => (r, u) = out) (fun u t => cr_at D A ((fun u : cr_V => cr_wN ct 17 bg wg ++ (cr_wN ct 52 bl wl ++ cr_wN ct 25 bv u)) u) t) A) args s 0 0 A) (F0 m 27 ls [])), ∀ (wg : cr_V) (wl : cr_V) (wv : cr_V) (x2 : Int32) (x3 : Int32) (x5 : Int32) (x6 : Int32) (x7 : Int32) (x8 : Int32) (x10 : Int32) (s0 : Int32) (hE : f_L_gives_118 k16_ k27_ wg wl wv x2 x3 x5 x6 x7 x8 x10 s0 = some out) (H : Heap) (locs : List Loc) (ls : Array Slot) (hW : cr_wd D A s (cr_wN ct 17 bg wg ++ (cr_wN ct 52 bl wl ++ cr_wN ct 25 bv wv)) H locs) (hl : lv_has ls 13 [(0, .ref (bg 0)), (1, .ref (bl 0)), (2, .int x2), (3, .int x3), (4, .ref (bv 0)), (5, .int x5), (6, .int x6), (7, .int x7), (8, .int x8), (10, .int x10)]), W p L e ({ frames := 3, cells := 0, slots := 0, locals := 73 } : Room) s m args below meth c H locs 0 0 (MQ below (va_Qi (fun r (u : cr_V) => (r, u) = out) (fun u t => cr_at D A ((fun u : cr_V => cr_wN ct 17 bg wg ++ (cr_wN ct 52 bl wl ++ cr_wN ct 25 bv u)) u) t) A) args s 0 0 A) (F0 m 118 ls [.int s0]) := by
    intro k16_ ih16_ k27_ ih27_ wg wl wv x2 x3 x5 x6 x7 x8 x10 s0 hE H locs ls hW hl
    replace hE : (k27_ wg wl wv x2 x3 x5 x6 x7 x8 s0 (x10 + 1)) = some out := hE
    refine lv_istore (lv' := [(9, .int s0), (0, .ref (bg 0)), (1, .ref (bl 0)), (2, .int x2), (3, .int x3), (4, .ref (bv 0)), (5, .int x5), (6, .int x6), (7, .int x7), (8, .int x8), (10, .int x10)]) hx hb dL_gives_118 hl (by decide) rfl (fun ls hl => ?_)
    refine lv_iinc (v := x10 + 1) (lv' := [(10, .int (x10 + 1)), (9, .int s0), (0, .ref (bg 0)), (1, .ref (bl 0)), (2, .int x2), (3, .int x3), (4, .ref (bv 0)), (5, .int x5), (6, .int x6), (7, .int x7), (8, .int x8)]) hx hb dL_gives_120 hl (k := 10) rfl (by first | rfl | decide) (by decide) rfl (fun ls hl => ?_)
    refine lv_goto (tgt := 27) hx hb dL_gives_123 (by decide) ?_
    exact ih27_ wg wl wv x2 x3 x5 x6 x7 x8 s0 (x10 + 1) hE _ _ _ hW (lv_sub hl [2, 3, 4, 5, 6, 7, 8, 9, 10, 1, 0] rfl)
  have n111 : ∀ (k16_ : cr_V → cr_V → cr_V → Int32 → Int32 → Int32 → Int32 → Int32 → Int32 → Option (Int32 × cr_V)) (ih16_ : ∀ (wg : cr_V) (wl : cr_V) (wv : cr_V) (x2 : Int32) (x3 : Int32) (x5 : Int32) (x6 : Int32) (x7 : Int32) (x8 : Int32) (hE : k16_ wg wl wv x2 x3 x5 x6 x7 x8 = some out) (H : Heap) (locs : List Loc) (ls : Array Slot) (hW : cr_wd D A s (cr_wN ct 17 bg wg ++ (cr_wN ct 52 bl wl ++ cr_wN ct 25 bv wv)) H locs) (hl : lv_has ls 13 [(0, .ref (bg 0)), (1, .ref (bl 0)), (2, .int x2), (3, .int x3), (4, .ref (bv 0)), (5, .int x5), (6, .int x6), (7, .int x7), (8, .int x8)]), W p L e ({ frames := 3, cells := 0, slots := 0, locals := 73 } : Room) s m args below meth c H locs 0 0 (MQ below (va_Qi (fun r (u : cr_V) => (r, u) = out) (fun u t => cr_at D A ((fun u : cr_V => cr_wN ct 17 bg wg ++ (cr_wN ct 52 bl wl ++ cr_wN ct 25 bv u)) u) t) A) args s 0 0 A) (F0 m 16 ls [])), ∀ (k27_ : cr_V → cr_V → cr_V → Int32 → Int32 → Int32 → Int32 → Int32 → Int32 → Int32 → Int32 → Option (Int32 × cr_V)) (ih27_ : ∀ (wg : cr_V) (wl : cr_V) (wv : cr_V) (x2 : Int32) (x3 : Int32) (x5 : Int32) (x6 : Int32) (x7 : Int32) (x8 : Int32) (x9 : Int32) (x10 : Int32) (hE : k27_ wg wl wv x2 x3 x5 x6 x7 x8 x9 x10 = some out) (H : Heap) (locs : List Loc) (ls : Array Slot) (hW : cr_wd D A s (cr_wN ct 17 bg wg ++ (cr_wN ct 52 bl wl ++ cr_wN ct 25 bv wv)) H locs) (hl : lv_has ls 13 [(0, .ref (bg 0)), (1, .ref (bl 0)), (2, .int x2), (3, .int x3), (4, .ref (bv 0)), (5, .int x5), (6, .int x6), (7, .int x7), (8, .int x8), (9, .int x9), (10, .int x10)]), W p L e ({ frames := 3, cells := 0, slots := 0, locals := 73 } : Room) s m args below meth c H locs 0 0 (MQ below (va_Qi (fun r (u : cr_V) => (r, u) = out) (fun u t => cr_at D A ((fun u : cr_V => cr_wN ct 17 bg wg ++ (cr_wN ct 52 bl wl ++ cr_wN ct 25 bv u)) u) t) A) args s 0 0 A) (F0 m 27 ls [])), ∀ (wg : cr_V) (wl : cr_V) (wv : cr_V) (x2 : Int32) (x3 : Int32) (x5 : Int32) (x6 : Int32) (x7 : Int32) (x8 : Int32) (x10 : Int32) (hE : f_L_gives_111 k16_ k27_ wg wl wv x2 x3 x5 x6 x7 x8 x10 = some out) (H : Heap) (locs : List Loc) (ls : Array Slot) (hW : cr_wd D A s (cr_wN ct 17 bg wg ++ (cr_wN ct 52 bl wl ++ cr_wN ct 25 bv wv)) H locs) (hl : lv_has ls 13 [(0, .ref (bg 0)), (1, .ref (bl 0)), (2, .int x2), (3, .int x3), (4, .ref (bv 0)), (5, .int x5), (6, .int x6), (7, .int x7), (8, .int x8), (10, .int x10)]), W p L e ({ frames := 3, cells := 0, slots := 0, locals := 73 } : Room) s m args below meth c H locs 0 0 (MQ below (va_Qi (fun r (u : cr_V) => (r, u) = out) (fun u t => cr_at D A ((fun u : cr_V => cr_wN ct 17 bg wg ++ (cr_wN ct 52 bl wl ++ cr_wN ct 25 bv u)) u) t) A) args s 0 0 A) (F0 m 111 ls []) := by
    intro k16_ ih16_ k27_ ih27_ wg wl wv x2 x3 x5 x6 x7 x8 x10 hE H locs ls hW hl
    replace hE : (f_L_gives_118 k16_ k27_ wg wl wv x2 x3 x5 x6 x7 x8 x10 x10) = some out := hE
    refine lv_iload hx hb dL_gives_111 (lv_at hl 9 rfl) ?_
    refine lv_goto (tgt := 118) hx hb dL_gives_113 (by decide) ?_
    exact n118 k16_ ih16_ k27_ ih27_ wg wl wv x2 x3 x5 x6 x7 x8 x10 x10 hE _ _ _ hW (lv_sub hl [0, 1, 2, 3, 4, 5, 6, 7, 8, 9] rfl)
  have n116 : ∀ (k16_ : cr_V → cr_V → cr_V → Int32 → Int32 → Int32 → Int32 → Int32 → Int32 → Option (Int32 × cr_V)) (ih16_ : ∀ (wg : cr_V) (wl : cr_V) (wv : cr_V) (x2 : Int32) (x3 : Int32) (x5 : Int32) (x6 : Int32) (x7 : Int32) (x8 : Int32) (hE : k16_ wg wl wv x2 x3 x5 x6 x7 x8 = some out) (H : Heap) (locs : List Loc) (ls : Array Slot) (hW : cr_wd D A s (cr_wN ct 17 bg wg ++ (cr_wN ct 52 bl wl ++ cr_wN ct 25 bv wv)) H locs) (hl : lv_has ls 13 [(0, .ref (bg 0)), (1, .ref (bl 0)), (2, .int x2), (3, .int x3), (4, .ref (bv 0)), (5, .int x5), (6, .int x6), (7, .int x7), (8, .int x8)]), W p L e ({ frames := 3, cells := 0, slots := 0, locals := 73 } : Room) s m args below meth c H locs 0 0 (MQ below (va_Qi (fun r (u : cr_V) => (r, u) = out) (fun u t => cr_at D A ((fun u : cr_V => cr_wN ct 17 bg wg ++ (cr_wN ct 52 bl wl ++ cr_wN ct 25 bv u)) u) t) A) args s 0 0 A) (F0 m 16 ls [])), ∀ (k27_ : cr_V → cr_V → cr_V → Int32 → Int32 → Int32 → Int32 → Int32 → Int32 → Int32 → Int32 → Option (Int32 × cr_V)) (ih27_ : ∀ (wg : cr_V) (wl : cr_V) (wv : cr_V) (x2 : Int32) (x3 : Int32) (x5 : Int32) (x6 : Int32) (x7 : Int32) (x8 : Int32) (x9 : Int32) (x10 : Int32) (hE : k27_ wg wl wv x2 x3 x5 x6 x7 x8 x9 x10 = some out) (H : Heap) (locs : List Loc) (ls : Array Slot) (hW : cr_wd D A s (cr_wN ct 17 bg wg ++ (cr_wN ct 52 bl wl ++ cr_wN ct 25 bv wv)) H locs) (hl : lv_has ls 13 [(0, .ref (bg 0)), (1, .ref (bl 0)), (2, .int x2), (3, .int x3), (4, .ref (bv 0)), (5, .int x5), (6, .int x6), (7, .int x7), (8, .int x8), (9, .int x9), (10, .int x10)]), W p L e ({ frames := 3, cells := 0, slots := 0, locals := 73 } : Room) s m args below meth c H locs 0 0 (MQ below (va_Qi (fun r (u : cr_V) => (r, u) = out) (fun u t => cr_at D A ((fun u : cr_V => cr_wN ct 17 bg wg ++ (cr_wN ct 52 bl wl ++ cr_wN ct 25 bv u)) u) t) A) args s 0 0 A) (F0 m 27 ls [])), ∀ (wg : cr_V) (wl : cr_V) (wv : cr_V) (x2 : Int32) (x3 : Int32) (x5 : Int32) (x6 : Int32) (x7 : Int32) (x8 : Int32) (x9 : Int32) (x10 : Int32) (hE : f_L_gives_116 k16_ k27_ wg wl wv x2 x3 x5 x6 x7 x8 x9 x10 = some out) (H : Heap) (locs : List Loc) (ls : Array Slot) (hW : cr_wd D A s (cr_wN ct 17 bg wg ++ (cr_wN ct 52 bl wl ++ cr_wN ct 25 bv wv)) H locs) (hl : lv_has ls 13 [(0, .ref (bg 0)), (1, .ref (bl 0)), (2, .int x2), (3, .int x3), (4, .ref (bv 0)), (5, .int x5), (6, .int x6), (7, .int x7), (8, .int x8), (9, .int x9), (10, .int x10)]), W p L e ({ frames := 3, cells := 0, slots := 0, locals := 73 } : Room) s m args below meth c H locs 0 0 (MQ below (va_Qi (fun r (u : cr_V) => (r, u) = out) (fun u t => cr_at D A ((fun u : cr_V => cr_wN ct 17 bg wg ++ (cr_wN ct 52 bl wl ++ cr_wN ct 25 bv u)) u) t) A) args s 0 0 A) (F0 m 116 ls []) := by
    intro k16_ ih16_ k27_ ih27_ wg wl wv x2 x3 x5 x6 x7 x8 x9 x10 hE H locs ls hW hl
    replace hE : (f_L_gives_118 k16_ k27_ wg wl wv x2 x3 x5 x6 x7 x8 x10 x9) = some out := hE
    refine lv_iload hx hb dL_gives_116 (lv_at hl 9 rfl) ?_
    exact n118 k16_ ih16_ k27_ ih27_ wg wl wv x2 x3 x5 x6 x7 x8 x10 x9 hE _ _ _ hW (lv_sub hl [0, 1, 2, 3, 4, 5, 6, 7, 8, 10] rfl)
  have n73 : ∀ (k16_ : cr_V → cr_V → cr_V → Int32 → Int32 → Int32 → Int32 → Int32 → Int32 → Option (Int32 × cr_V)) (ih16_ : ∀ (wg : cr_V) (wl : cr_V) (wv : cr_V) (x2 : Int32) (x3 : Int32) (x5 : Int32) (x6 : Int32) (x7 : Int32) (x8 : Int32) (hE : k16_ wg wl wv x2 x3 x5 x6 x7 x8 = some out) (H : Heap) (locs : List Loc) (ls : Array Slot) (hW : cr_wd D A s (cr_wN ct 17 bg wg ++ (cr_wN ct 52 bl wl ++ cr_wN ct 25 bv wv)) H locs) (hl : lv_has ls 13 [(0, .ref (bg 0)), (1, .ref (bl 0)), (2, .int x2), (3, .int x3), (4, .ref (bv 0)), (5, .int x5), (6, .int x6), (7, .int x7), (8, .int x8)]), W p L e ({ frames := 3, cells := 0, slots := 0, locals := 73 } : Room) s m args below meth c H locs 0 0 (MQ below (va_Qi (fun r (u : cr_V) => (r, u) = out) (fun u t => cr_at D A ((fun u : cr_V => cr_wN ct 17 bg wg ++ (cr_wN ct 52 bl wl ++ cr_wN ct 25 bv u)) u) t) A) args s 0 0 A) (F0 m 16 ls [])), ∀ (k27_ : cr_V → cr_V → cr_V → Int32 → Int32 → Int32 → Int32 → Int32 → Int32 → Int32 → Int32 → Option (Int32 × cr_V)) (ih27_ : ∀ (wg : cr_V) (wl : cr_V) (wv : cr_V) (x2 : Int32) (x3 : Int32) (x5 : Int32) (x6 : Int32) (x7 : Int32) (x8 : Int32) (x9 : Int32) (x10 : Int32) (hE : k27_ wg wl wv x2 x3 x5 x6 x7 x8 x9 x10 = some out) (H : Heap) (locs : List Loc) (ls : Array Slot) (hW : cr_wd D A s (cr_wN ct 17 bg wg ++ (cr_wN ct 52 bl wl ++ cr_wN ct 25 bv wv)) H locs) (hl : lv_has ls 13 [(0, .ref (bg 0)), (1, .ref (bl 0)), (2, .int x2), (3, .int x3), (4, .ref (bv 0)), (5, .int x5), (6, .int x6), (7, .int x7), (8, .int x8), (9, .int x9), (10, .int x10)]), W p L e ({ frames := 3, cells := 0, slots := 0, locals := 73 } : Room) s m args below meth c H locs 0 0 (MQ below (va_Qi (fun r (u : cr_V) => (r, u) = out) (fun u t => cr_at D A ((fun u : cr_V => cr_wN ct 17 bg wg ++ (cr_wN ct 52 bl wl ++ cr_wN ct 25 bv u)) u) t) A) args s 0 0 A) (F0 m 27 ls [])), ∀ (wg : cr_V) (wl : cr_V) (wv : cr_V) (x2 : Int32) (x3 : Int32) (x5 : Int32) (x6 : Int32) (x7 : Int32) (x8 : Int32) (x9 : Int32) (x10 : Int32) (x11 : Int32) (s0 : Int32) (hE : f_L_gives_73 k16_ k27_ wg wl wv x2 x3 x5 x6 x7 x8 x9 x10 x11 s0 = some out) (H : Heap) (locs : List Loc) (ls : Array Slot) (hW : cr_wd D A s (cr_wN ct 17 bg wg ++ (cr_wN ct 52 bl wl ++ cr_wN ct 25 bv wv)) H locs) (hl : lv_has ls 13 [(0, .ref (bg 0)), (1, .ref (bl 0)), (2, .int x2), (3, .int x3), (4, .ref (bv 0)), (5, .int x5), (6, .int x6), (7, .int x7), (8, .int x8), (9, .int x9), (10, .int x10), (11, .int x11)]), W p L e ({ frames := 3, cells := 0, slots := 0, locals := 73 } : Room) s m args below meth c H locs 0 0 (MQ below (va_Qi (fun r (u : cr_V) => (r, u) = out) (fun u t => cr_at D A ((fun u : cr_V => cr_wN ct 17 bg wg ++ (cr_wN ct 52 bl wl ++ cr_wN ct 25 bv u)) u) t) A) args s 0 0 A) (F0 m 73 ls [.int s0]) := by
    intro k16_ ih16_ k27_ ih27_ wg wl wv x2 x3 x5 x6 x7 x8 x9 x10 x11 s0 hE H locs ls hW hl
    replace hE : (if s0 = 0 then (f_L_gives_116 k16_ k27_ wg wl wv x2 x3 x5 x6 x7 x8 x9 x10) else ((f_L_cup wl x10 x3).bind fun q2 => if q2 ≤ 69 then (f_L_gives_116 k16_ k27_ wg wl wv x2 x3 x5 x6 x7 x8 x9 x10) else (if x9 < 0 then (f_L_gives_111 k16_ k27_ wg wl wv x2 x3 x5 x6 x7 x8 x10) else ((f_L_gain wg wl x9 x2 x3).bind fun q5 => if x11 ≤ q5 then (f_L_gives_116 k16_ k27_ wg wl wv x2 x3 x5 x6 x7 x8 x9 x10) else (f_L_gives_111 k16_ k27_ wg wl wv x2 x3 x5 x6 x7 x8 x10))))) = some out := hE
    refine lv_istore (lv' := [(12, .int s0), (0, .ref (bg 0)), (1, .ref (bl 0)), (2, .int x2), (3, .int x3), (4, .ref (bv 0)), (5, .int x5), (6, .int x6), (7, .int x7), (8, .int x8), (9, .int x9), (10, .int x10), (11, .int x11)]) hx hb dL_gives_73 hl (by decide) rfl (fun ls hl => ?_)
    refine lv_iload hx hb dL_gives_75 (lv_at hl 0 rfl) ?_
    refine lv_if_eq (tgt := 116) hx hb dL_gives_77 (by decide) (fun c1 => ?_) (fun c1 => ?_)
    · rw [if_pos c1] at hE
      exact n116 k16_ ih16_ k27_ ih27_ wg wl wv x2 x3 x5 x6 x7 x8 x9 x10 hE _ _ _ hW (lv_sub hl [1, 2, 3, 4, 5, 6, 7, 8, 9, 10, 11] rfl)
    · rw [if_neg c1] at hE
      refine lv_aload_n hx hb dL_gives_80 rfl (lv_at hl 2 rfl) ?_
      refine lv_iload hx hb dL_gives_81 (lv_at hl 11 rfl) ?_
      refine lv_iload_n hx hb dL_gives_83 rfl (lv_at hl 4 rfl) ?_
      obtain ⟨q2, hq2, hE⟩ := cr_bind hE
      refine cl_sRw (nb := 3) (n := 3) (As := [.ref (bl 0), .int x10, .int x3]) (rest := []) C hW (m_L_cup L D ct bl wl x10 x3 q2 hq2) (va_cwS 3 hts gL_gives_L_cup rfl rfl rfl (by decide +kernel) ⟨Nat.le_of_ble_eq_true rfl, Nat.le_of_ble_eq_true rfl⟩) [1] [cr_wN ct 17 bg wg, cr_wN ct 52 bl wl, cr_wN ct 25 bv wv] ⟨rfl, rfl⟩ rfl rfl hl.1 rfl (Nat.le_of_ble_eq_true rfl) dL_gives_84 ⟨Nat.le_of_ble_eq_true rfl, Nat.le_of_ble_eq_true rfl⟩ (fun H locs hW => ?_)
      refine lv_bipush (v := 69) hx hb dL_gives_87 (by decide) ?_
      refine lv_icmp_le (tgt := 116) hx hb dL_gives_89 (by decide) (fun c3 => ?_) (fun c3 => ?_)
      · rw [if_pos c3] at hE
        exact n116 k16_ ih16_ k27_ ih27_ wg wl wv x2 x3 x5 x6 x7 x8 x9 x10 hE _ _ _ hW (lv_sub hl [1, 2, 3, 4, 5, 6, 7, 8, 9, 10, 11] rfl)
      · rw [if_neg c3] at hE
        refine lv_iload hx hb dL_gives_92 (lv_at hl 10 rfl) ?_
        refine lv_if_lt (tgt := 111) hx hb dL_gives_94 (by decide) (fun c4 => ?_) (fun c4 => ?_)
        · rw [if_pos c4] at hE
          exact n111 k16_ ih16_ k27_ ih27_ wg wl wv x2 x3 x5 x6 x7 x8 x10 hE _ _ _ hW (lv_sub hl [1, 2, 3, 4, 5, 6, 7, 8, 9, 11] rfl)
        · rw [if_neg c4] at hE
          refine lv_iload hx hb dL_gives_97 (lv_at hl 12 rfl) ?_
          refine lv_aload_n hx hb dL_gives_99 rfl (lv_at hl 1 rfl) ?_
          refine lv_aload_n hx hb dL_gives_100 rfl (lv_at hl 2 rfl) ?_
          refine lv_iload hx hb dL_gives_101 (lv_at hl 10 rfl) ?_
          refine lv_iload_n hx hb dL_gives_103 rfl (lv_at hl 3 rfl) ?_
          refine lv_iload_n hx hb dL_gives_104 rfl (lv_at hl 4 rfl) ?_
          obtain ⟨q5, hq5, hE⟩ := cr_bind hE
          refine cl_sRw (nb := 3) (n := 5) (As := [.ref (bg 0), .ref (bl 0), .int x9, .int x2, .int x3]) (rest := [.int x11]) C hW (m_L_gain L D ct bg bl wg wl x9 x2 x3 q5 hq5) (va_cwS 5 hts gL_gives_L_gain rfl rfl rfl (by decide +kernel) ⟨Nat.le_of_ble_eq_true rfl, Nat.le_of_ble_eq_true rfl⟩) [0, 1] [cr_wN ct 17 bg wg, cr_wN ct 52 bl wl, cr_wN ct 25 bv wv] ⟨rfl, rfl⟩ rfl rfl hl.1 rfl (Nat.le_of_ble_eq_true rfl) dL_gives_105 ⟨Nat.le_of_ble_eq_true rfl, Nat.le_of_ble_eq_true rfl⟩ (fun H locs hW => ?_)
          refine lv_icmp_le (tgt := 116) hx hb dL_gives_108 (by decide) (fun c6 => ?_) (fun c6 => ?_)
          · rw [if_pos c6] at hE
            exact n116 k16_ ih16_ k27_ ih27_ wg wl wv x2 x3 x5 x6 x7 x8 x9 x10 hE _ _ _ hW (lv_sub hl [1, 2, 3, 4, 5, 6, 7, 8, 9, 10, 11] rfl)
          · rw [if_neg c6] at hE
            exact n111 k16_ ih16_ k27_ ih27_ wg wl wv x2 x3 x5 x6 x7 x8 x10 hE _ _ _ hW (lv_sub hl [1, 2, 3, 4, 5, 6, 7, 8, 9, 11] rfl)
  have n72 : ∀ (k16_ : cr_V → cr_V → cr_V → Int32 → Int32 → Int32 → Int32 → Int32 → Int32 → Option (Int32 × cr_V)) (ih16_ : ∀ (wg : cr_V) (wl : cr_V) (wv : cr_V) (x2 : Int32) (x3 : Int32) (x5 : Int32) (x6 : Int32) (x7 : Int32) (x8 : Int32) (hE : k16_ wg wl wv x2 x3 x5 x6 x7 x8 = some out) (H : Heap) (locs : List Loc) (ls : Array Slot) (hW : cr_wd D A s (cr_wN ct 17 bg wg ++ (cr_wN ct 52 bl wl ++ cr_wN ct 25 bv wv)) H locs) (hl : lv_has ls 13 [(0, .ref (bg 0)), (1, .ref (bl 0)), (2, .int x2), (3, .int x3), (4, .ref (bv 0)), (5, .int x5), (6, .int x6), (7, .int x7), (8, .int x8)]), W p L e ({ frames := 3, cells := 0, slots := 0, locals := 73 } : Room) s m args below meth c H locs 0 0 (MQ below (va_Qi (fun r (u : cr_V) => (r, u) = out) (fun u t => cr_at D A ((fun u : cr_V => cr_wN ct 17 bg wg ++ (cr_wN ct 52 bl wl ++ cr_wN ct 25 bv u)) u) t) A) args s 0 0 A) (F0 m 16 ls [])), ∀ (k27_ : cr_V → cr_V → cr_V → Int32 → Int32 → Int32 → Int32 → Int32 → Int32 → Int32 → Int32 → Option (Int32 × cr_V)) (ih27_ : ∀ (wg : cr_V) (wl : cr_V) (wv : cr_V) (x2 : Int32) (x3 : Int32) (x5 : Int32) (x6 : Int32) (x7 : Int32) (x8 : Int32) (x9 : Int32) (x10 : Int32) (hE : k27_ wg wl wv x2 x3 x5 x6 x7 x8 x9 x10 = some out) (H : Heap) (locs : List Loc) (ls : Array Slot) (hW : cr_wd D A s (cr_wN ct 17 bg wg ++ (cr_wN ct 52 bl wl ++ cr_wN ct 25 bv wv)) H locs) (hl : lv_has ls 13 [(0, .ref (bg 0)), (1, .ref (bl 0)), (2, .int x2), (3, .int x3), (4, .ref (bv 0)), (5, .int x5), (6, .int x6), (7, .int x7), (8, .int x8), (9, .int x9), (10, .int x10)]), W p L e ({ frames := 3, cells := 0, slots := 0, locals := 73 } : Room) s m args below meth c H locs 0 0 (MQ below (va_Qi (fun r (u : cr_V) => (r, u) = out) (fun u t => cr_at D A ((fun u : cr_V => cr_wN ct 17 bg wg ++ (cr_wN ct 52 bl wl ++ cr_wN ct 25 bv u)) u) t) A) args s 0 0 A) (F0 m 27 ls [])), ∀ (wg : cr_V) (wl : cr_V) (wv : cr_V) (x2 : Int32) (x3 : Int32) (x5 : Int32) (x6 : Int32) (x7 : Int32) (x8 : Int32) (x9 : Int32) (x10 : Int32) (x11 : Int32) (hE : f_L_gives_72 k16_ k27_ wg wl wv x2 x3 x5 x6 x7 x8 x9 x10 x11 = some out) (H : Heap) (locs : List Loc) (ls : Array Slot) (hW : cr_wd D A s (cr_wN ct 17 bg wg ++ (cr_wN ct 52 bl wl ++ cr_wN ct 25 bv wv)) H locs) (hl : lv_has ls 13 [(0, .ref (bg 0)), (1, .ref (bl 0)), (2, .int x2), (3, .int x3), (4, .ref (bv 0)), (5, .int x5), (6, .int x6), (7, .int x7), (8, .int x8), (9, .int x9), (10, .int x10), (11, .int x11)]), W p L e ({ frames := 3, cells := 0, slots := 0, locals := 73 } : Room) s m args below meth c H locs 0 0 (MQ below (va_Qi (fun r (u : cr_V) => (r, u) = out) (fun u t => cr_at D A ((fun u : cr_V => cr_wN ct 17 bg wg ++ (cr_wN ct 52 bl wl ++ cr_wN ct 25 bv u)) u) t) A) args s 0 0 A) (F0 m 72 ls []) := by
    intro k16_ ih16_ k27_ ih27_ wg wl wv x2 x3 x5 x6 x7 x8 x9 x10 x11 hE H locs ls hW hl
    replace hE : (f_L_gives_73 k16_ k27_ wg wl wv x2 x3 x5 x6 x7 x8 x9 x10 x11 0) = some out := hE
    refine lv_iconst (v := 0) hx hb dL_gives_72 (by decide) ?_
    exact n73 k16_ ih16_ k27_ ih27_ wg wl wv x2 x3 x5 x6 x7 x8 x9 x10 x11 0 hE _ _ _ hW (lv_sub hl [0, 1, 2, 3, 4, 5, 6, 7, 8, 9, 10, 11] rfl)
  have n68 : ∀ (k16_ : cr_V → cr_V → cr_V → Int32 → Int32 → Int32 → Int32 → Int32 → Int32 → Option (Int32 × cr_V)) (ih16_ : ∀ (wg : cr_V) (wl : cr_V) (wv : cr_V) (x2 : Int32) (x3 : Int32) (x5 : Int32) (x6 : Int32) (x7 : Int32) (x8 : Int32) (hE : k16_ wg wl wv x2 x3 x5 x6 x7 x8 = some out) (H : Heap) (locs : List Loc) (ls : Array Slot) (hW : cr_wd D A s (cr_wN ct 17 bg wg ++ (cr_wN ct 52 bl wl ++ cr_wN ct 25 bv wv)) H locs) (hl : lv_has ls 13 [(0, .ref (bg 0)), (1, .ref (bl 0)), (2, .int x2), (3, .int x3), (4, .ref (bv 0)), (5, .int x5), (6, .int x6), (7, .int x7), (8, .int x8)]), W p L e ({ frames := 3, cells := 0, slots := 0, locals := 73 } : Room) s m args below meth c H locs 0 0 (MQ below (va_Qi (fun r (u : cr_V) => (r, u) = out) (fun u t => cr_at D A ((fun u : cr_V => cr_wN ct 17 bg wg ++ (cr_wN ct 52 bl wl ++ cr_wN ct 25 bv u)) u) t) A) args s 0 0 A) (F0 m 16 ls [])), ∀ (k27_ : cr_V → cr_V → cr_V → Int32 → Int32 → Int32 → Int32 → Int32 → Int32 → Int32 → Int32 → Option (Int32 × cr_V)) (ih27_ : ∀ (wg : cr_V) (wl : cr_V) (wv : cr_V) (x2 : Int32) (x3 : Int32) (x5 : Int32) (x6 : Int32) (x7 : Int32) (x8 : Int32) (x9 : Int32) (x10 : Int32) (hE : k27_ wg wl wv x2 x3 x5 x6 x7 x8 x9 x10 = some out) (H : Heap) (locs : List Loc) (ls : Array Slot) (hW : cr_wd D A s (cr_wN ct 17 bg wg ++ (cr_wN ct 52 bl wl ++ cr_wN ct 25 bv wv)) H locs) (hl : lv_has ls 13 [(0, .ref (bg 0)), (1, .ref (bl 0)), (2, .int x2), (3, .int x3), (4, .ref (bv 0)), (5, .int x5), (6, .int x6), (7, .int x7), (8, .int x8), (9, .int x9), (10, .int x10)]), W p L e ({ frames := 3, cells := 0, slots := 0, locals := 73 } : Room) s m args below meth c H locs 0 0 (MQ below (va_Qi (fun r (u : cr_V) => (r, u) = out) (fun u t => cr_at D A ((fun u : cr_V => cr_wN ct 17 bg wg ++ (cr_wN ct 52 bl wl ++ cr_wN ct 25 bv u)) u) t) A) args s 0 0 A) (F0 m 27 ls [])), ∀ (wg : cr_V) (wl : cr_V) (wv : cr_V) (x2 : Int32) (x3 : Int32) (x5 : Int32) (x6 : Int32) (x7 : Int32) (x8 : Int32) (x9 : Int32) (x10 : Int32) (x11 : Int32) (hE : f_L_gives_68 k16_ k27_ wg wl wv x2 x3 x5 x6 x7 x8 x9 x10 x11 = some out) (H : Heap) (locs : List Loc) (ls : Array Slot) (hW : cr_wd D A s (cr_wN ct 17 bg wg ++ (cr_wN ct 52 bl wl ++ cr_wN ct 25 bv wv)) H locs) (hl : lv_has ls 13 [(0, .ref (bg 0)), (1, .ref (bl 0)), (2, .int x2), (3, .int x3), (4, .ref (bv 0)), (5, .int x5), (6, .int x6), (7, .int x7), (8, .int x8), (9, .int x9), (10, .int x10), (11, .int x11)]), W p L e ({ frames := 3, cells := 0, slots := 0, locals := 73 } : Room) s m args below meth c H locs 0 0 (MQ below (va_Qi (fun r (u : cr_V) => (r, u) = out) (fun u t => cr_at D A ((fun u : cr_V => cr_wN ct 17 bg wg ++ (cr_wN ct 52 bl wl ++ cr_wN ct 25 bv u)) u) t) A) args s 0 0 A) (F0 m 68 ls []) := by
    intro k16_ ih16_ k27_ ih27_ wg wl wv x2 x3 x5 x6 x7 x8 x9 x10 x11 hE H locs ls hW hl
    replace hE : (f_L_gives_73 k16_ k27_ wg wl wv x2 x3 x5 x6 x7 x8 x9 x10 x11 1) = some out := hE
    refine lv_iconst (v := 1) hx hb dL_gives_68 (by decide) ?_
    refine lv_goto (tgt := 73) hx hb dL_gives_69 (by decide) ?_
    exact n73 k16_ ih16_ k27_ ih27_ wg wl wv x2 x3 x5 x6 x7 x8 x9 x10 x11 1 hE _ _ _ hW (lv_sub hl [0, 1, 2, 3, 4, 5, 6, 7, 8, 9, 10, 11] rfl)
  have n203 : ∀ (k16_ : cr_V → cr_V → cr_V → Int32 → Int32 → Int32 → Int32 → Int32 → Int32 → Option (Int32 × cr_V)) (ih16_ : ∀ (wg : cr_V) (wl : cr_V) (wv : cr_V) (x2 : Int32) (x3 : Int32) (x5 : Int32) (x6 : Int32) (x7 : Int32) (x8 : Int32) (hE : k16_ wg wl wv x2 x3 x5 x6 x7 x8 = some out) (H : Heap) (locs : List Loc) (ls : Array Slot) (hW : cr_wd D A s (cr_wN ct 17 bg wg ++ (cr_wN ct 52 bl wl ++ cr_wN ct 25 bv wv)) H locs) (hl : lv_has ls 13 [(0, .ref (bg 0)), (1, .ref (bl 0)), (2, .int x2), (3, .int x3), (4, .ref (bv 0)), (5, .int x5), (6, .int x6), (7, .int x7), (8, .int x8)]), W p L e ({ frames := 3, cells := 0, slots := 0, locals := 73 } : Room) s m args below meth c H locs 0 0 (MQ below (va_Qi (fun r (u : cr_V) => (r, u) = out) (fun u t => cr_at D A ((fun u : cr_V => cr_wN ct 17 bg wg ++ (cr_wN ct 52 bl wl ++ cr_wN ct 25 bv u)) u) t) A) args s 0 0 A) (F0 m 16 ls [])), ∀ (wg : cr_V) (wl : cr_V) (wv : cr_V) (x2 : Int32) (x3 : Int32) (x5 : Int32) (x6 : Int32) (x7 : Int32) (x8 : Int32) (s0 : Int32) (s1 : Int32) (hE : f_L_gives_203 k16_ wg wl wv x2 x3 x5 x6 x7 x8 s0 s1 = some out) (H : Heap) (locs : List Loc) (ls : Array Slot) (hW : cr_wd D A s (cr_wN ct 17 bg wg ++ (cr_wN ct 52 bl wl ++ cr_wN ct 25 bv wv)) H locs) (hl : lv_has ls 13 [(0, .ref (bg 0)), (1, .ref (bl 0)), (2, .int x2), (3, .int x3), (4, .ref (bv 0)), (5, .int x5), (6, .int x6), (7, .int x7), (8, .int x8)]), W p L e ({ frames := 3, cells := 0, slots := 0, locals := 73 } : Room) s m args below meth c H locs 0 0 (MQ below (va_Qi (fun r (u : cr_V) => (r, u) = out) (fun u t => cr_at D A ((fun u : cr_V => cr_wN ct 17 bg wg ++ (cr_wN ct 52 bl wl ++ cr_wN ct 25 bv u)) u) t) A) args s 0 0 A) (F0 m 203 ls [.int s0, .int s1, .ref (bv 0)]) := by
    intro k16_ ih16_ wg wl wv x2 x3 x5 x6 x7 x8 s0 s1 hE H locs ls hW hl
    replace hE : (if cr_in s1 25 = true then if cr_in ((2 * x5) + 1) 25 = true then k16_ wg wl (cr_a wv 0 (cr_x s1) s0) x2 x3 (x5 + 1) (x6 - ((cr_a wv 0 (cr_x s1) s0) 0 (cr_x ((2 * x5) + 1)))) x7 x8 else none else none) = some out := hE
    obtain ⟨i7, hE⟩ := cr_ifn hE
    refine cr_ast C hW 2 rfl (k := (cr_x s1)) i7 (cr_xe _) (w' := cr_wN ct 17 bg wg ++ (cr_wN ct 52 bl wl ++ cr_wN ct 25 bv (cr_a wv 0 (cr_x s1) s0))) rfl dL_gives_203 (fun H locs hW => ?_)
    refine lv_iload hx hb dL_gives_204 (lv_at hl 6 rfl) ?_
    refine lv_aload hx hb dL_gives_206 (lv_at hl 4 rfl) ?_
    refine lv_iconst (v := 2) hx hb dL_gives_208 (by decide) ?_
    refine lv_iload hx hb dL_gives_209 (lv_at hl 5 rfl) ?_
    refine lv_imul hx hb dL_gives_211 ?_
    refine lv_iconst (v := 1) hx hb dL_gives_212 (by decide) ?_
    refine lv_iadd hx hb dL_gives_213 ?_
    obtain ⟨i8, hE⟩ := cr_ifn hE
    refine cr_ald C hW.1 2 (f := (cr_a wv 0 (cr_x s1) s0) 0) (k := cr_x ((2 * x5) + 1)) rfl i8 (cr_xe _) dL_gives_214 ?_
    refine lv_isub hx hb dL_gives_215 ?_
    refine lv_istore (lv' := [(6, .int (x6 - ((cr_a wv 0 (cr_x s1) s0) 0 (cr_x ((2 * x5) + 1))))), (0, .ref (bg 0)), (1, .ref (bl 0)), (2, .int x2), (3, .int x3), (4, .ref (bv 0)), (5, .int x5), (7, .int x7), (8, .int x8)]) hx hb dL_gives_216 hl (by decide) rfl (fun ls hl => ?_)
    refine lv_iinc (v := x5 + 1) (lv' := [(5, .int (x5 + 1)), (6, .int (x6 - ((cr_a wv 0 (cr_x s1) s0) 0 (cr_x ((2 * x5) + 1))))), (0, .ref (bg 0)), (1, .ref (bl 0)), (2, .int x2), (3, .int x3), (4, .ref (bv 0)), (7, .int x7), (8, .int x8)]) hx hb dL_gives_218 hl (k := 6) rfl (by first | rfl | decide) (by decide) rfl (fun ls hl => ?_)
    refine lv_goto (tgt := 16) hx hb dL_gives_221 (by decide) ?_
    exact ih16_ wg wl (cr_a wv 0 (cr_x s1) s0) x2 x3 (x5 + 1) (x6 - ((cr_a wv 0 (cr_x s1) s0) 0 (cr_x ((2 * x5) + 1)))) x7 x8 hE _ _ _ hW (lv_sub hl [2, 3, 4, 5, 6, 0, 1, 7, 8] rfl)
  have n27 : ∀ (k16_ : cr_V → cr_V → cr_V → Int32 → Int32 → Int32 → Int32 → Int32 → Int32 → Option (Int32 × cr_V)) (ih16_ : ∀ (wg : cr_V) (wl : cr_V) (wv : cr_V) (x2 : Int32) (x3 : Int32) (x5 : Int32) (x6 : Int32) (x7 : Int32) (x8 : Int32) (hE : k16_ wg wl wv x2 x3 x5 x6 x7 x8 = some out) (H : Heap) (locs : List Loc) (ls : Array Slot) (hW : cr_wd D A s (cr_wN ct 17 bg wg ++ (cr_wN ct 52 bl wl ++ cr_wN ct 25 bv wv)) H locs) (hl : lv_has ls 13 [(0, .ref (bg 0)), (1, .ref (bl 0)), (2, .int x2), (3, .int x3), (4, .ref (bv 0)), (5, .int x5), (6, .int x6), (7, .int x7), (8, .int x8)]), W p L e ({ frames := 3, cells := 0, slots := 0, locals := 73 } : Room) s m args below meth c H locs 0 0 (MQ below (va_Qi (fun r (u : cr_V) => (r, u) = out) (fun u t => cr_at D A ((fun u : cr_V => cr_wN ct 17 bg wg ++ (cr_wN ct 52 bl wl ++ cr_wN ct 25 bv u)) u) t) A) args s 0 0 A) (F0 m 16 ls [])), ∀ (n : Nat), ∀ (wg : cr_V) (wl : cr_V) (wv : cr_V) (x2 : Int32) (x3 : Int32) (x5 : Int32) (x6 : Int32) (x7 : Int32) (x8 : Int32) (x9 : Int32) (x10 : Int32) (hE : f_L_gives_27 k16_ n wg wl wv x2 x3 x5 x6 x7 x8 x9 x10 = some out) (H : Heap) (locs : List Loc) (ls : Array Slot) (hW : cr_wd D A s (cr_wN ct 17 bg wg ++ (cr_wN ct 52 bl wl ++ cr_wN ct 25 bv wv)) H locs) (hl : lv_has ls 13 [(0, .ref (bg 0)), (1, .ref (bl 0)), (2, .int x2), (3, .int x3), (4, .ref (bv 0)), (5, .int x5), (6, .int x6), (7, .int x7), (8, .int x8), (9, .int x9), (10, .int x10)]), W p L e ({ frames := 3, cells := 0, slots := 0, locals := 73 } : Room) s m args below meth c H locs 0 0 (MQ below (va_Qi (fun r (u : cr_V) => (r, u) = out) (fun u t => cr_at D A ((fun u : cr_V => cr_wN ct 17 bg wg ++ (cr_wN ct 52 bl wl ++ cr_wN ct 25 bv u)) u) t) A) args s 0 0 A) (F0 m 27 ls []) := by
    intro k16_ ih16_ n
    induction n with
    | zero =>
      intro wg wl wv x2 x3 x5 x6 x7 x8 x9 x10 hE
      cases hE
    | succ n ih =>
      intro wg wl wv x2 x3 x5 x6 x7 x8 x9 x10 hE H locs ls hW hl
      replace hE : (if (wg 0 6) ≤ x10 then (if 0 ≤ x9 then ((f_L_gain wg wl x9 x2 x3).bind fun q11 => if cr_in (4 * x9) 52 = true then if cr_in (2 * x5) 25 = true then if cr_in ((4 * x9) + 1) 52 = true then if x6 ≤ (wl 0 (cr_x ((4 * x9) + 1))) then (f_L_gives_203 k16_ wg wl (cr_a wv 0 (cr_x (2 * x5)) (wl 0 (cr_x (4 * x9)))) x2 x3 x5 x6 q11 x9 x6 ((2 * x5) + 1)) else (f_L_gives_203 k16_ wg wl (cr_a wv 0 (cr_x (2 * x5)) (wl 0 (cr_x (4 * x9)))) x2 x3 x5 x6 q11 x9 (wl 0 (cr_x ((4 * x9) + 1))) ((2 * x5) + 1)) else none else none else none) else (some (x5, (cr_a wv 0 24 x6)))) else ((f_L_gain wg wl x10 x2 x3).bind fun q16 => if q16 < x7 then (f_L_gives_68 k16_ (f_L_gives_27 k16_ n) wg wl wv x2 x3 x5 x6 x7 x8 x9 x10 q16) else (if q16 = x7 then (if x10 ≤ x8 then (f_L_gives_72 k16_ (f_L_gives_27 k16_ n) wg wl wv x2 x3 x5 x6 x7 x8 x9 x10 q16) else (f_L_gives_68 k16_ (f_L_gives_27 k16_ n) wg wl wv x2 x3 x5 x6 x7 x8 x9 x10 q16)) else (f_L_gives_72 k16_ (f_L_gives_27 k16_ n) wg wl wv x2 x3 x5 x6 x7 x8 x9 x10 q16)))) = some out := hE
      refine lv_iload hx hb dL_gives_27 (lv_at hl 10 rfl) ?_
      refine lv_aload_n hx hb dL_gives_29 rfl (lv_at hl 0 rfl) ?_
      refine lv_bipush (v := 6) hx hb dL_gives_30 (by decide) ?_
      refine cr_ald C hW.1 0 (f := wg 0) (k := 6) rfl (by decide) (by decide) dL_gives_32 ?_
      refine lv_icmp_ge (tgt := 126) hx hb dL_gives_33 (by decide) (fun c9 => ?_) (fun c9 => ?_)
      · rw [if_pos c9] at hE
        refine lv_iload hx hb dL_gives_126 (lv_at hl 9 rfl) ?_
        refine lv_if_ge (tgt := 141) hx hb dL_gives_128 (by decide) (fun c10 => ?_) (fun c10 => ?_)
        · rw [if_pos c10] at hE
          refine lv_aload_n hx hb dL_gives_141 rfl (lv_at hl 0 rfl) ?_
          refine lv_aload_n hx hb dL_gives_142 rfl (lv_at hl 1 rfl) ?_
          refine lv_iload hx hb dL_gives_143 (lv_at hl 9 rfl) ?_
          refine lv_iload_n hx hb dL_gives_145 rfl (lv_at hl 2 rfl) ?_
          refine lv_iload_n hx hb dL_gives_146 rfl (lv_at hl 3 rfl) ?_
          obtain ⟨q11, hq11, hE⟩ := cr_bind hE
          refine cl_sRw (nb := 3) (n := 5) (As := [.ref (bg 0), .ref (bl 0), .int x9, .int x2, .int x3]) (rest := []) C hW (m_L_gain L D ct bg bl wg wl x9 x2 x3 q11 hq11) (va_cwS 5 hts gL_gives_L_gain rfl rfl rfl (by decide +kernel) ⟨Nat.le_of_ble_eq_true rfl, Nat.le_of_ble_eq_true rfl⟩) [0, 1] [cr_wN ct 17 bg wg, cr_wN ct 52 bl wl, cr_wN ct 25 bv wv] ⟨rfl, rfl⟩ rfl rfl hl.1 rfl (Nat.le_of_ble_eq_true rfl) dL_gives_147 ⟨Nat.le_of_ble_eq_true rfl, Nat.le_of_ble_eq_true rfl⟩ (fun H locs hW => ?_)
          refine lv_istore (lv' := [(7, .int q11), (0, .ref (bg 0)), (1, .ref (bl 0)), (2, .int x2), (3, .int x3), (4, .ref (bv 0)), (5, .int x5), (6, .int x6), (8, .int x8), (9, .int x9), (10, .int x10)]) hx hb dL_gives_150 hl (by decide) rfl (fun ls hl => ?_)
          refine lv_iload hx hb dL_gives_152 (lv_at hl 9 rfl) ?_
          refine lv_istore (lv' := [(8, .int x9), (7, .int q11), (0, .ref (bg 0)), (1, .ref (bl 0)), (2, .int x2), (3, .int x3), (4, .ref (bv 0)), (5, .int x5), (6, .int x6), (9, .int x9), (10, .int x10)]) hx hb dL_gives_154 hl (by decide) rfl (fun ls hl => ?_)
          refine lv_aload hx hb dL_gives_156 (lv_at hl 6 rfl) ?_
          refine lv_iconst (v := 2) hx hb dL_gives_158 (by decide) ?_
          refine lv_iload hx hb dL_gives_159 (lv_at hl 7 rfl) ?_
          refine lv_imul hx hb dL_gives_161 ?_
          refine lv_aload_n hx hb dL_gives_162 rfl (lv_at hl 3 rfl) ?_
          refine lv_iconst (v := 4) hx hb dL_gives_163 (by decide) ?_
          refine lv_iload hx hb dL_gives_164 (lv_at hl 9 rfl) ?_
          refine lv_imul hx hb dL_gives_166 ?_
          obtain ⟨i12, hE⟩ := cr_ifn hE
          refine cr_ald C hW.1 1 (f := wl 0) (k := cr_x (4 * x9)) rfl i12 (cr_xe _) dL_gives_167 ?_
          obtain ⟨i13, hE⟩ := cr_ifn hE
          refine cr_ast C hW 2 rfl (k := (cr_x (2 * x5))) i13 (cr_xe _) (w' := cr_wN ct 17 bg wg ++ (cr_wN ct 52 bl wl ++ cr_wN ct 25 bv (cr_a wv 0 (cr_x (2 * x5)) (wl 0 (cr_x (4 * x9)))))) rfl dL_gives_168 (fun H locs hW => ?_)
          refine lv_aload hx hb dL_gives_169 (lv_at hl 6 rfl) ?_
          refine lv_iconst (v := 2) hx hb dL_gives_171 (by decide) ?_
          refine lv_iload hx hb dL_gives_172 (lv_at hl 7 rfl) ?_
          refine lv_imul hx hb dL_gives_174 ?_
          refine lv_iconst (v := 1) hx hb dL_gives_175 (by decide) ?_
          refine lv_iadd hx hb dL_gives_176 ?_
          refine lv_aload_n hx hb dL_gives_177 rfl (lv_at hl 3 rfl) ?_
          refine lv_iconst (v := 4) hx hb dL_gives_178 (by decide) ?_
          refine lv_iload hx hb dL_gives_179 (lv_at hl 9 rfl) ?_
          refine lv_imul hx hb dL_gives_181 ?_
          refine lv_iconst (v := 1) hx hb dL_gives_182 (by decide) ?_
          refine lv_iadd hx hb dL_gives_183 ?_
          obtain ⟨i14, hE⟩ := cr_ifn hE
          refine cr_ald C hW.1 1 (f := wl 0) (k := cr_x ((4 * x9) + 1)) rfl i14 (cr_xe _) dL_gives_184 ?_
          refine lv_iload hx hb dL_gives_185 (lv_at hl 8 rfl) ?_
          refine lv_icmp_ge (tgt := 201) hx hb dL_gives_187 (by decide) (fun c15 => ?_) (fun c15 => ?_)
          · rw [if_pos c15] at hE
            refine lv_iload hx hb dL_gives_201 (lv_at hl 8 rfl) ?_
            exact n203 k16_ ih16_ wg wl (cr_a wv 0 (cr_x (2 * x5)) (wl 0 (cr_x (4 * x9)))) x2 x3 x5 x6 q11 x9 x6 ((2 * x5) + 1) hE _ _ _ hW (lv_sub hl [2, 3, 4, 5, 6, 7, 8, 1, 0] rfl)
          · rw [if_neg c15] at hE
            refine lv_aload_n hx hb dL_gives_190 rfl (lv_at hl 3 rfl) ?_
            refine lv_iconst (v := 4) hx hb dL_gives_191 (by decide) ?_
            refine lv_iload hx hb dL_gives_192 (lv_at hl 9 rfl) ?_
            refine lv_imul hx hb dL_gives_194 ?_
            refine lv_iconst (v := 1) hx hb dL_gives_195 (by decide) ?_
            refine lv_iadd hx hb dL_gives_196 ?_
            refine cr_ald C hW.1 1 (f := wl 0) (k := cr_x ((4 * x9) + 1)) rfl i14 (cr_xe _) dL_gives_197 ?_
            refine lv_goto (tgt := 203) hx hb dL_gives_198 (by decide) ?_
            exact n203 k16_ ih16_ wg wl (cr_a wv 0 (cr_x (2 * x5)) (wl 0 (cr_x (4 * x9)))) x2 x3 x5 x6 q11 x9 (wl 0 (cr_x ((4 * x9) + 1))) ((2 * x5) + 1) hE _ _ _ hW (lv_sub hl [2, 3, 4, 5, 6, 7, 8, 1, 0] rfl)
        · rw [if_neg c10] at hE
          refine lv_aload hx hb dL_gives_131 (lv_at hl 4 rfl) ?_
          refine lv_bipush (v := 24) hx hb dL_gives_133 (by decide) ?_
          refine lv_iload hx hb dL_gives_135 (lv_at hl 6 rfl) ?_
          refine cr_ast C hW 2 rfl (k := 24) (by decide) (by decide) (w' := cr_wN ct 17 bg wg ++ (cr_wN ct 52 bl wl ++ cr_wN ct 25 bv (cr_a wv 0 24 x6))) rfl dL_gives_137 (fun H locs hW => ?_)
          refine lv_iload hx hb dL_gives_138 (lv_at hl 5 rfl) ?_
          exact cr_retW C (w := (fun u : cr_V => cr_wN ct 17 bg wg ++ (cr_wN ct 52 bl wl ++ cr_wN ct 25 bv u))) (cr_a wv 0 24 x6) hW (Option.some.inj hE) dL_gives_140
      · rw [if_neg c9] at hE
        refine lv_aload_n hx hb dL_gives_36 rfl (lv_at hl 0 rfl) ?_
        refine lv_aload_n hx hb dL_gives_37 rfl (lv_at hl 1 rfl) ?_
        refine lv_iload hx hb dL_gives_38 (lv_at hl 10 rfl) ?_
        refine lv_iload_n hx hb dL_gives_40 rfl (lv_at hl 2 rfl) ?_
        refine lv_iload_n hx hb dL_gives_41 rfl (lv_at hl 3 rfl) ?_
        obtain ⟨q16, hq16, hE⟩ := cr_bind hE
        refine cl_sRw (nb := 3) (n := 5) (As := [.ref (bg 0), .ref (bl 0), .int x10, .int x2, .int x3]) (rest := []) C hW (m_L_gain L D ct bg bl wg wl x10 x2 x3 q16 hq16) (va_cwS 5 hts gL_gives_L_gain rfl rfl rfl (by decide +kernel) ⟨Nat.le_of_ble_eq_true rfl, Nat.le_of_ble_eq_true rfl⟩) [0, 1] [cr_wN ct 17 bg wg, cr_wN ct 52 bl wl, cr_wN ct 25 bv wv] ⟨rfl, rfl⟩ rfl rfl hl.1 rfl (Nat.le_of_ble_eq_true rfl) dL_gives_42 ⟨Nat.le_of_ble_eq_true rfl, Nat.le_of_ble_eq_true rfl⟩ (fun H locs hW => ?_)
        refine lv_istore (lv' := [(11, .int q16), (0, .ref (bg 0)), (1, .ref (bl 0)), (2, .int x2), (3, .int x3), (4, .ref (bv 0)), (5, .int x5), (6, .int x6), (7, .int x7), (8, .int x8), (9, .int x9), (10, .int x10)]) hx hb dL_gives_45 hl (by decide) rfl (fun ls hl => ?_)
        refine lv_iload hx hb dL_gives_47 (lv_at hl 0 rfl) ?_
        refine lv_iload hx hb dL_gives_49 (lv_at hl 8 rfl) ?_
        refine lv_icmp_lt (tgt := 68) hx hb dL_gives_51 (by decide) (fun c17 => ?_) (fun c17 => ?_)
        · rw [if_pos c17] at hE
          exact n68 k16_ ih16_ (f_L_gives_27 k16_ n) ih wg wl wv x2 x3 x5 x6 x7 x8 x9 x10 q16 hE _ _ _ hW (lv_sub hl [1, 2, 3, 4, 5, 6, 7, 8, 9, 10, 11, 0] rfl)
        · rw [if_neg c17] at hE
          refine lv_iload hx hb dL_gives_54 (lv_at hl 0 rfl) ?_
          refine lv_iload hx hb dL_gives_56 (lv_at hl 8 rfl) ?_
          refine lv_icmp_ne (tgt := 72) hx hb dL_gives_58 (by decide) (fun c18 => ?_) (fun c18 => ?_)
          · rw [if_neg c18] at hE
            exact n72 k16_ ih16_ (f_L_gives_27 k16_ n) ih wg wl wv x2 x3 x5 x6 x7 x8 x9 x10 q16 hE _ _ _ hW (lv_sub hl [1, 2, 3, 4, 5, 6, 7, 8, 9, 10, 11, 0] rfl)
          · rw [if_pos c18] at hE
            refine lv_iload hx hb dL_gives_61 (lv_at hl 11 rfl) ?_
            refine lv_iload hx hb dL_gives_63 (lv_at hl 9 rfl) ?_
            refine lv_icmp_le (tgt := 72) hx hb dL_gives_65 (by decide) (fun c19 => ?_) (fun c19 => ?_)
            · rw [if_pos c19] at hE
              exact n72 k16_ ih16_ (f_L_gives_27 k16_ n) ih wg wl wv x2 x3 x5 x6 x7 x8 x9 x10 q16 hE _ _ _ hW (lv_sub hl [1, 2, 3, 4, 5, 6, 7, 8, 9, 10, 11, 0] rfl)
            · rw [if_neg c19] at hE
              exact n68 k16_ ih16_ (f_L_gives_27 k16_ n) ih wg wl wv x2 x3 x5 x6 x7 x8 x9 x10 q16 hE _ _ _ hW (lv_sub hl [1, 2, 3, 4, 5, 6, 7, 8, 9, 10, 11, 0] rfl)
  have n16 :  ∀ (n : Nat), ∀ (wg : cr_V) (wl : cr_V) (wv : cr_V) (x2 : Int32) (x3 : Int32) (x5 : Int32) (x6 : Int32) (x7 : Int32) (x8 : Int32) (hE : f_L_gives_16  n wg wl wv x2 x3 x5 x6 x7 x8 = some out) (H : Heap) (locs : List Loc) (ls : Array Slot) (hW : cr_wd D A s (cr_wN ct 17 bg wg ++ (cr_wN ct 52 bl wl ++ cr_wN ct 25 bv wv)) H locs) (hl : lv_has ls 13 [(0, .ref (bg 0)), (1, .ref (bl 0)), (2, .int x2), (3, .int x3), (4, .ref (bv 0)), (5, .int x5), (6, .int x6), (7, .int x7), (8, .int x8)]), W p L e ({ frames := 3, cells := 0, slots := 0, locals := 73 } : Room) s m args below meth c H locs 0 0 (MQ below (va_Qi (fun r (u : cr_V) => (r, u) = out) (fun u t => cr_at D A ((fun u : cr_V => cr_wN ct 17 bg wg ++ (cr_wN ct 52 bl wl ++ cr_wN ct 25 bv u)) u) t) A) args s 0 0 A) (F0 m 16 ls []) := by
    intro  n
    induction n with
    | zero =>
      intro wg wl wv x2 x3 x5 x6 x7 x8 hE
      cases hE
    | succ n ih =>
      intro wg wl wv x2 x3 x5 x6 x7 x8 hE H locs ls hW hl
      replace hE : (if x6 ≤ 0 then (some (x5, (cr_a wv 0 24 0))) else (f_L_gives_27 (f_L_gives_16 n) 10100 wg wl wv x2 x3 x5 x6 x7 x8 (-1) 0)) = some out := hE
      refine lv_iload hx hb dL_gives_16 (lv_at hl 6 rfl) ?_
      refine lv_if_le (tgt := 224) hx hb dL_gives_18 (by decide) (fun c20 => ?_) (fun c20 => ?_)
      · rw [if_pos c20] at hE
        refine lv_aload hx hb dL_gives_224 (lv_at hl 4 rfl) ?_
        refine lv_bipush (v := 24) hx hb dL_gives_226 (by decide) ?_
        refine lv_iconst (v := 0) hx hb dL_gives_228 (by decide) ?_
        refine cr_ast C hW 2 rfl (k := 24) (by decide) (by decide) (w' := cr_wN ct 17 bg wg ++ (cr_wN ct 52 bl wl ++ cr_wN ct 25 bv (cr_a wv 0 24 0))) rfl dL_gives_229 (fun H locs hW => ?_)
        refine lv_iload hx hb dL_gives_230 (lv_at hl 5 rfl) ?_
        exact cr_retW C (w := (fun u : cr_V => cr_wN ct 17 bg wg ++ (cr_wN ct 52 bl wl ++ cr_wN ct 25 bv u))) (cr_a wv 0 24 0) hW (Option.some.inj hE) dL_gives_232
      · rw [if_neg c20] at hE
        refine lv_iconst (v := (-1)) hx hb dL_gives_21 (by decide) ?_
        refine lv_istore (lv' := [(9, .int (-1)), (0, .ref (bg 0)), (1, .ref (bl 0)), (2, .int x2), (3, .int x3), (4, .ref (bv 0)), (5, .int x5), (6, .int x6), (7, .int x7), (8, .int x8)]) hx hb dL_gives_22 hl (by decide) rfl (fun ls hl => ?_)
        refine lv_iconst (v := 0) hx hb dL_gives_24 (by decide) ?_
        refine lv_istore (lv' := [(10, .int 0), (9, .int (-1)), (0, .ref (bg 0)), (1, .ref (bl 0)), (2, .int x2), (3, .int x3), (4, .ref (bv 0)), (5, .int x5), (6, .int x6), (7, .int x7), (8, .int x8)]) hx hb dL_gives_25 hl (by decide) rfl (fun ls hl => ?_)
        exact n27 (f_L_gives_16 n) ih 10100 wg wl wv x2 x3 x5 x6 x7 x8 (-1) 0 hE _ _ _ hW (lv_sub hl [2, 3, 4, 5, 6, 7, 8, 9, 10, 1, 0] rfl)
  replace hE : (f_L_gives_16 10100 wg wl wv x2 x3 0 (wg 0 8) 2000000 (-1)) = some out := hE
  refine lv_iconst (v := 0) hx hb dL_gives_0 (by decide) ?_
  refine lv_istore (lv' := [(5, .int 0), (0, .ref (bg 0)), (1, .ref (bl 0)), (2, .int x2), (3, .int x3), (4, .ref (bv 0))]) hx hb dL_gives_1 hl (by decide) rfl (fun ls hl => ?_)
  refine lv_aload_n hx hb dL_gives_3 rfl (lv_at hl 1 rfl) ?_
  refine lv_bipush (v := 8) hx hb dL_gives_4 (by decide) ?_
  refine cr_ald C hW.1 0 (f := wg 0) (k := 8) rfl (by decide) (by decide) dL_gives_6 ?_
  refine lv_istore (lv' := [(6, .int (wg 0 8)), (5, .int 0), (0, .ref (bg 0)), (1, .ref (bl 0)), (2, .int x2), (3, .int x3), (4, .ref (bv 0))]) hx hb dL_gives_7 hl (by decide) rfl (fun ls hl => ?_)
  refine cr_ldc C k0 dL_gives_9 ?_
  refine lv_istore (lv' := [(7, .int 2000000), (6, .int (wg 0 8)), (5, .int 0), (0, .ref (bg 0)), (1, .ref (bl 0)), (2, .int x2), (3, .int x3), (4, .ref (bv 0))]) hx hb dL_gives_11 hl (by decide) rfl (fun ls hl => ?_)
  refine lv_iconst (v := (-1)) hx hb dL_gives_13 (by decide) ?_
  refine lv_istore (lv' := [(8, .int (-1)), (7, .int 2000000), (6, .int (wg 0 8)), (5, .int 0), (0, .ref (bg 0)), (1, .ref (bl 0)), (2, .int x2), (3, .int x3), (4, .ref (bv 0))]) hx hb dL_gives_14 hl (by decide) rfl (fun ls hl => ?_)
  exact n16 10100 wg wl wv x2 x3 0 (wg 0 8) 2000000 (-1) hE _ _ _ hW (lv_sub hl [4, 5, 6, 7, 8, 3, 2, 1, 0] rfl)

set_option maxHeartbeats 4000000 in
set_option maxRecDepth 100000 in
theorem m_L_paidAll (L : Launch) (D : va_G) (ct : Nat → ClassId) (bg : Nat → Nat) (bl : Nat → Nat) (bv : Nat → Nat) (wg : cr_V) (wl : cr_V) (wv : cr_V) (x2 : Int32) (x3 : Int32) (x5 : Int32) (x6 : Int32) (out : Int32) (hE : f_L_paidAll wg wl wv x2 x3 x5 x6 = some out) : Met L yL_paidAll wsL_paidAll ({ frames := 3, cells := 0, slots := 0, locals := 73 } : Room) (cr_pR D ct (cr_wN ct 17 bg wg ++ (cr_wN ct 52 bl wl ++ cr_wN ct 25 bv wv)) [.ref (bg 0), .ref (bl 0), .int x2, .int x3, .ref (bv 0), .int x5, .int x6]) (cr_QR (fun r => r = out)) 0 0 cr_no := by
  refine cr_metR (by decide) rfl rfl (Nat.le_of_ble_eq_true rfl) ?_
  intro p e s m args below meth c ls C hP hS hl
  obtain ⟨hx, hb, hml, hown, hts, hr, hlocks, hK, hN⟩ := id C
  have hl : lv_has ls 10 [(0, .ref (bg 0)), (1, .ref (bl 0)), (2, .int x2), (3, .int x3), (4, .ref (bv 0)), (5, .int x5), (6, .int x6)] := hl
  have n64 : ∀ (k6_ : cr_V → cr_V → cr_V → Int32 → Int32 → Int32 → Int32 → Int32 → Int32 → Option (Int32)) (ih6_ : ∀ (wg : cr_V) (wl : cr_V) (wv : cr_V) (x2 : Int32) (x3 : Int32) (x5 : Int32) (x6 : Int32) (x7 : Int32) (x8 : Int32) (hE : k6_ wg wl wv x2 x3 x5 x6 x7 x8 = some out) (H : Heap) (locs : List Loc) (ls : Array Slot) (hP : va_P D vwCl (cr_wN ct 17 bg wg ++ (cr_wN ct 52 bl wl ++ cr_wN ct 25 bv wv)) H) (hS : va_S cr_no s.heap H locs) (hl : lv_has ls 10 [(0, .ref (bg 0)), (1, .ref (bl 0)), (2, .int x2), (3, .int x3), (4, .ref (bv 0)), (5, .int x5), (6, .int x6), (7, .int x7), (8, .int x8)]), W p L e ({ frames := 3, cells := 0, slots := 0, locals := 73 } : Room) s m args below meth c H locs 0 0 (MQ below (cr_QR (fun r => r = out)) args s 0 0 cr_no) (F0 m 6 ls [])), ∀ (wg : cr_V) (wl : cr_V) (wv : cr_V) (x2 : Int32) (x3 : Int32) (x5 : Int32) (x6 : Int32) (x8 : Int32) (s0 : Int32) (s1 : Int32) (s2 : Int32) (hE : f_L_paidAll_64 k6_ wg wl wv x2 x3 x5 x6 x8 s0 s1 s2 = some out) (H : Heap) (locs : List Loc) (ls : Array Slot) (hP : va_P D vwCl (cr_wN ct 17 bg wg ++ (cr_wN ct 52 bl wl ++ cr_wN ct 25 bv wv)) H) (hS : va_S cr_no s.heap H locs) (hl : lv_has ls 10 [(0, .ref (bg 0)), (1, .ref (bl 0)), (2, .int x2), (3, .int x3), (4, .ref (bv 0)), (5, .int x5), (6, .int x6), (8, .int x8)]), W p L e ({ frames := 3, cells := 0, slots := 0, locals := 73 } : Room) s m args below meth c H locs 0 0 (MQ below (cr_QR (fun r => r = out)) args s 0 0 cr_no) (F0 m 64 ls [.int s0, .int s1, .int s2]) := by
    intro k6_ ih6_ wg wl wv x2 x3 x5 x6 x8 s0 s1 s2 hE H locs ls hP hS hl
    replace hE : (k6_ wg wl wv x2 x3 x5 x6 (s2 + (s1 * s0)) (x8 + 1)) = some out := hE
    refine lv_imul hx hb dL_paidAll_64 ?_
    refine lv_iadd hx hb dL_paidAll_65 ?_
    refine lv_istore (lv' := [(7, .int (s2 + (s1 * s0))), (0, .ref (bg 0)), (1, .ref (bl 0)), (2, .int x2), (3, .int x3), (4, .ref (bv 0)), (5, .int x5), (6, .int x6), (8, .int x8)]) hx hb dL_paidAll_66 hl (by decide) rfl (fun ls hl => ?_)
    refine lv_iinc (v := x8 + 1) (lv' := [(8, .int (x8 + 1)), (7, .int (s2 + (s1 * s0))), (0, .ref (bg 0)), (1, .ref (bl 0)), (2, .int x2), (3, .int x3), (4, .ref (bv 0)), (5, .int x5), (6, .int x6)]) hx hb dL_paidAll_68 hl (k := 8) rfl (by first | rfl | decide) (by decide) rfl (fun ls hl => ?_)
    refine lv_goto (tgt := 6) hx hb dL_paidAll_71 (by decide) ?_
    exact ih6_ wg wl wv x2 x3 x5 x6 (s2 + (s1 * s0)) (x8 + 1) hE _ _ _ hP hS (lv_sub hl [2, 3, 4, 5, 6, 7, 8, 1, 0] rfl)
  have n6 :  ∀ (n : Nat), ∀ (wg : cr_V) (wl : cr_V) (wv : cr_V) (x2 : Int32) (x3 : Int32) (x5 : Int32) (x6 : Int32) (x7 : Int32) (x8 : Int32) (hE : f_L_paidAll_6  n wg wl wv x2 x3 x5 x6 x7 x8 = some out) (H : Heap) (locs : List Loc) (ls : Array Slot) (hP : va_P D vwCl (cr_wN ct 17 bg wg ++ (cr_wN ct 52 bl wl ++ cr_wN ct 25 bv wv)) H) (hS : va_S cr_no s.heap H locs) (hl : lv_has ls 10 [(0, .ref (bg 0)), (1, .ref (bl 0)), (2, .int x2), (3, .int x3), (4, .ref (bv 0)), (5, .int x5), (6, .int x6), (7, .int x7), (8, .int x8)]), W p L e ({ frames := 3, cells := 0, slots := 0, locals := 73 } : Room) s m args below meth c H locs 0 0 (MQ below (cr_QR (fun r => r = out)) args s 0 0 cr_no) (F0 m 6 ls []) := by
    intro  n
    induction n with
    | zero =>
      intro wg wl wv x2 x3 x5 x6 x7 x8 hE
      cases hE
    | succ n ih =>
      intro wg wl wv x2 x3 x5 x6 x7 x8 hE H locs ls hP hS hl
      replace hE : (if x5 ≤ x8 then (some x7) else (if cr_in (2 * x8) 25 = true then (f_L_find wg wl (wv 0 (cr_x (2 * x8)))).bind fun q3 => if cr_in ((2 * x8) + 1) 25 = true then if x6 = 0 then ((f_L_paid wg wl q3 x2 x3).bind fun q6 => f_L_paidAll_64 (f_L_paidAll_6 n) wg wl wv x2 x3 x5 x6 x8 q6 (wv 0 (cr_x ((2 * x8) + 1))) x7) else ((f_L_gain wg wl q3 x2 x3).bind fun q7 => f_L_paidAll_64 (f_L_paidAll_6 n) wg wl wv x2 x3 x5 x6 x8 q7 (wv 0 (cr_x ((2 * x8) + 1))) x7) else none else none)) = some out := hE
      refine lv_iload hx hb dL_paidAll_6 (lv_at hl 8 rfl) ?_
      refine lv_iload hx hb dL_paidAll_8 (lv_at hl 5 rfl) ?_
      refine lv_icmp_ge (tgt := 74) hx hb dL_paidAll_10 (by decide) (fun c1 => ?_) (fun c1 => ?_)
      · rw [if_pos c1] at hE
        refine lv_iload hx hb dL_paidAll_74 (lv_at hl 7 rfl) ?_
        exact cr_retR C hS (Option.some.inj hE) dL_paidAll_76
      · rw [if_neg c1] at hE
        refine lv_aload_n hx hb dL_paidAll_13 rfl (lv_at hl 0 rfl) ?_
        refine lv_aload_n hx hb dL_paidAll_14 rfl (lv_at hl 1 rfl) ?_
        refine lv_aload hx hb dL_paidAll_15 (lv_at hl 4 rfl) ?_
        refine lv_iconst (v := 2) hx hb dL_paidAll_17 (by decide) ?_
        refine lv_iload hx hb dL_paidAll_18 (lv_at hl 8 rfl) ?_
        refine lv_imul hx hb dL_paidAll_20 ?_
        obtain ⟨i2, hE⟩ := cr_ifn hE
        refine cr_ald C hP 2 (f := wv 0) (k := cr_x (2 * x8)) rfl i2 (cr_xe _) dL_paidAll_21 ?_
        obtain ⟨q3, hq3, hE⟩ := cr_bind hE
        refine cl_sR (nb := 3) (n := 3) (As := [.ref (bg 0), .ref (bl 0), .int (wv 0 (cr_x (2 * x8)))]) (rest := []) C hP hS (m_L_find L D ct bg bl wg wl (wv 0 (cr_x (2 * x8))) q3 hq3) (va_cwS 3 hts gL_paidAll_L_find rfl rfl rfl (by decide +kernel) ⟨Nat.le_of_ble_eq_true rfl, Nat.le_of_ble_eq_true rfl⟩) [0, 1] [cr_wN ct 17 bg wg, cr_wN ct 52 bl wl, cr_wN ct 25 bv wv] ⟨rfl, rfl⟩ rfl rfl hl.1 rfl (Nat.le_of_ble_eq_true rfl) dL_paidAll_22 ⟨Nat.le_of_ble_eq_true rfl, Nat.le_of_ble_eq_true rfl⟩ (fun H locs hP hS => ?_)
        refine lv_istore (lv' := [(9, .int q3), (0, .ref (bg 0)), (1, .ref (bl 0)), (2, .int x2), (3, .int x3), (4, .ref (bv 0)), (5, .int x5), (6, .int x6), (7, .int x7), (8, .int x8)]) hx hb dL_paidAll_25 hl (by decide) rfl (fun ls hl => ?_)
        refine lv_iload hx hb dL_paidAll_27 (lv_at hl 8 rfl) ?_
        refine lv_aload hx hb dL_paidAll_29 (lv_at hl 5 rfl) ?_
        refine lv_iconst (v := 2) hx hb dL_paidAll_31 (by decide) ?_
        refine lv_iload hx hb dL_paidAll_32 (lv_at hl 9 rfl) ?_
        refine lv_imul hx hb dL_paidAll_34 ?_
        refine lv_iconst (v := 1) hx hb dL_paidAll_35 (by decide) ?_
        refine lv_iadd hx hb dL_paidAll_36 ?_
        obtain ⟨i4, hE⟩ := cr_ifn hE
        refine cr_ald C hP 2 (f := wv 0) (k := cr_x ((2 * x8) + 1)) rfl i4 (cr_xe _) dL_paidAll_37 ?_
        refine lv_iload hx hb dL_paidAll_38 (lv_at hl 7 rfl) ?_
        refine lv_if_eq (tgt := 55) hx hb dL_paidAll_40 (by decide) (fun c5 => ?_) (fun c5 => ?_)
        · rw [if_pos c5] at hE
          refine lv_aload_n hx hb dL_paidAll_55 rfl (lv_at hl 1 rfl) ?_
          refine lv_aload_n hx hb dL_paidAll_56 rfl (lv_at hl 2 rfl) ?_
          refine lv_iload hx hb dL_paidAll_57 (lv_at hl 0 rfl) ?_
          refine lv_iload_n hx hb dL_paidAll_59 rfl (lv_at hl 3 rfl) ?_
          refine lv_iload_n hx hb dL_paidAll_60 rfl (lv_at hl 4 rfl) ?_
          obtain ⟨q6, hq6, hE⟩ := cr_bind hE
          refine cl_sR (nb := 3) (n := 5) (As := [.ref (bg 0), .ref (bl 0), .int q3, .int x2, .int x3]) (rest := [.int (wv 0 (cr_x ((2 * x8) + 1))), .int x7]) C hP hS (m_L_paid L D ct bg bl wg wl q3 x2 x3 q6 hq6) (va_cwS 5 hts gL_paidAll_L_paid rfl rfl rfl (by decide +kernel) ⟨Nat.le_of_ble_eq_true rfl, Nat.le_of_ble_eq_true rfl⟩) [0, 1] [cr_wN ct 17 bg wg, cr_wN ct 52 bl wl, cr_wN ct 25 bv wv] ⟨rfl, rfl⟩ rfl rfl hl.1 rfl (Nat.le_of_ble_eq_true rfl) dL_paidAll_61 ⟨Nat.le_of_ble_eq_true rfl, Nat.le_of_ble_eq_true rfl⟩ (fun H locs hP hS => ?_)
          exact n64 (f_L_paidAll_6 n) ih wg wl wv x2 x3 x5 x6 x8 q6 (wv 0 (cr_x ((2 * x8) + 1))) x7 hE _ _ _ hP hS (lv_sub hl [1, 2, 3, 4, 5, 6, 7, 9] rfl)
        · rw [if_neg c5] at hE
          refine lv_aload_n hx hb dL_paidAll_43 rfl (lv_at hl 1 rfl) ?_
          refine lv_aload_n hx hb dL_paidAll_44 rfl (lv_at hl 2 rfl) ?_
          refine lv_iload hx hb dL_paidAll_45 (lv_at hl 0 rfl) ?_
          refine lv_iload_n hx hb dL_paidAll_47 rfl (lv_at hl 3 rfl) ?_
          refine lv_iload_n hx hb dL_paidAll_48 rfl (lv_at hl 4 rfl) ?_
          obtain ⟨q7, hq7, hE⟩ := cr_bind hE
          refine cl_sR (nb := 3) (n := 5) (As := [.ref (bg 0), .ref (bl 0), .int q3, .int x2, .int x3]) (rest := [.int (wv 0 (cr_x ((2 * x8) + 1))), .int x7]) C hP hS (m_L_gain L D ct bg bl wg wl q3 x2 x3 q7 hq7) (va_cwS 5 hts gL_paidAll_L_gain rfl rfl rfl (by decide +kernel) ⟨Nat.le_of_ble_eq_true rfl, Nat.le_of_ble_eq_true rfl⟩) [0, 1] [cr_wN ct 17 bg wg, cr_wN ct 52 bl wl, cr_wN ct 25 bv wv] ⟨rfl, rfl⟩ rfl rfl hl.1 rfl (Nat.le_of_ble_eq_true rfl) dL_paidAll_49 ⟨Nat.le_of_ble_eq_true rfl, Nat.le_of_ble_eq_true rfl⟩ (fun H locs hP hS => ?_)
          refine lv_goto (tgt := 64) hx hb dL_paidAll_52 (by decide) ?_
          exact n64 (f_L_paidAll_6 n) ih wg wl wv x2 x3 x5 x6 x8 q7 (wv 0 (cr_x ((2 * x8) + 1))) x7 hE _ _ _ hP hS (lv_sub hl [1, 2, 3, 4, 5, 6, 7, 9] rfl)
  replace hE : (f_L_paidAll_6 10100 wg wl wv x2 x3 x5 x6 0 0) = some out := hE
  refine lv_iconst (v := 0) hx hb dL_paidAll_0 (by decide) ?_
  refine lv_istore (lv' := [(7, .int 0), (0, .ref (bg 0)), (1, .ref (bl 0)), (2, .int x2), (3, .int x3), (4, .ref (bv 0)), (5, .int x5), (6, .int x6)]) hx hb dL_paidAll_1 hl (by decide) rfl (fun ls hl => ?_)
  refine lv_iconst (v := 0) hx hb dL_paidAll_3 (by decide) ?_
  refine lv_istore (lv' := [(8, .int 0), (7, .int 0), (0, .ref (bg 0)), (1, .ref (bl 0)), (2, .int x2), (3, .int x3), (4, .ref (bv 0)), (5, .int x5), (6, .int x6)]) hx hb dL_paidAll_4 hl (by decide) rfl (fun ls hl => ?_)
  exact n6 10100 wg wl wv x2 x3 x5 x6 0 0 hE _ _ _ hP hS (lv_sub hl [2, 3, 4, 5, 6, 7, 8, 1, 0] rfl)

set_option maxHeartbeats 4000000 in
set_option maxRecDepth 100000 in
theorem m_L_close (L : Launch) (D : va_G) (ct : Nat → ClassId) (bg : Nat → Nat) (bc : Nat → Nat) (wg : cr_V) (wc : cr_V) (x2 : Int32) (sz : Nat) (out : cr_V × cr_V) (hE : f_L_close wg wc x2 = some out) : Met L yL_close wsL_close ({ frames := 0, cells := 0, slots := 0, locals := 0 } : Room) (cr_pW D ct (cr_wN ct 17 bg wg ++ cr_wN ct 12 bc wc) sz [.ref (bg 0), .ref (bc 0), .int x2]) (cr_QV D (cr_wN ct 17 bg wg ++ cr_wN ct 12 bc wc) sz (fun u : cr_V × cr_V => u = out) (fun u : cr_V × cr_V => cr_wN ct 17 bg u.1 ++ cr_wN ct 12 bc u.2)) 0 0 (va_A (cr_wN ct 17 bg wg ++ cr_wN ct 12 bc wc) sz) := by
  refine cr_metW (Qc := fun A => va_Qv (fun u : cr_V × cr_V => u = out) (fun u t => cr_at D A ((fun u : cr_V × cr_V => cr_wN ct 17 bg u.1 ++ cr_wN ct 12 bc u.2) u) t) A) (by decide) rfl rfl (Nat.le_of_ble_eq_true rfl) ?_
  intro p e s m args below meth c ls A C hW hl
  obtain ⟨hx, hb, hml, hown, hts, hr, hlocks, hK, hN⟩ := id C
  have hl : lv_has ls 4 [(0, .ref (bg 0)), (1, .ref (bc 0)), (2, .int x2)] := hl
  have n12 :  ∀ (n : Nat), ∀ (wg : cr_V) (wc : cr_V) (x3 : Int32) (hE : f_L_close_12  n wg wc x3 = some out) (H : Heap) (locs : List Loc) (ls : Array Slot) (hW : cr_wd D A s (cr_wN ct 17 bg wg ++ cr_wN ct 12 bc wc) H locs) (hl : lv_has ls 4 [(0, .ref (bg 0)), (1, .ref (bc 0)), (3, .int x3)]), W p L e ({ frames := 0, cells := 0, slots := 0, locals := 0 } : Room) s m args below meth c H locs 0 0 (MQ below (va_Qv (fun u : cr_V × cr_V => u = out) (fun u t => cr_at D A ((fun u : cr_V × cr_V => cr_wN ct 17 bg u.1 ++ cr_wN ct 12 bc u.2) u) t) A) args s 0 0 A) (F0 m 12 ls []) := by
    intro  n
    induction n with
    | zero =>
      intro wg wc x3 hE
      cases hE
    | succ n ih =>
      intro wg wc x3 hE H locs ls hW hl
      replace hE : (if (2 * (wg 0 7)) ≤ x3 then (some (wg, wc)) else (if cr_in (x3 + 2) 12 = true then if cr_in x3 12 = true then f_L_close_12 n wg (cr_a wc 0 (cr_x x3) (wc 0 (cr_x (x3 + 2)))) (x3 + 1) else none else none)) = some out := hE
      refine lv_iload_n hx hb dL_close_12 rfl (lv_at hl 2 rfl) ?_
      refine lv_iconst (v := 2) hx hb dL_close_13 (by decide) ?_
      refine lv_aload_n hx hb dL_close_14 rfl (lv_at hl 0 rfl) ?_
      refine lv_bipush (v := 7) hx hb dL_close_15 (by decide) ?_
      refine cr_ald C hW.1 0 (f := wg 0) (k := 7) rfl (by decide) (by decide) dL_close_17 ?_
      refine lv_imul hx hb dL_close_18 ?_
      refine lv_icmp_ge (tgt := 36) hx hb dL_close_19 (by decide) (fun c1 => ?_) (fun c1 => ?_)
      · rw [if_pos c1] at hE
        exact cr_retV C (w := (fun u : cr_V × cr_V => cr_wN ct 17 bg u.1 ++ cr_wN ct 12 bc u.2)) (wg, wc) hW (Option.some.inj hE) dL_close_36
      · rw [if_neg c1] at hE
        refine lv_aload_n hx hb dL_close_22 rfl (lv_at hl 1 rfl) ?_
        refine lv_iload_n hx hb dL_close_23 rfl (lv_at hl 2 rfl) ?_
        refine lv_aload_n hx hb dL_close_24 rfl (lv_at hl 1 rfl) ?_
        refine lv_iload_n hx hb dL_close_25 rfl (lv_at hl 2 rfl) ?_
        refine lv_iconst (v := 2) hx hb dL_close_26 (by decide) ?_
        refine lv_iadd hx hb dL_close_27 ?_
        obtain ⟨i2, hE⟩ := cr_ifn hE
        refine cr_ald C hW.1 1 (f := wc 0) (k := cr_x (x3 + 2)) rfl i2 (cr_xe _) dL_close_28 ?_
        obtain ⟨i3, hE⟩ := cr_ifn hE
        refine cr_ast C hW 1 rfl (k := (cr_x x3)) i3 (cr_xe _) (w' := cr_wN ct 17 bg wg ++ cr_wN ct 12 bc (cr_a wc 0 (cr_x x3) (wc 0 (cr_x (x3 + 2))))) rfl dL_close_29 (fun H locs hW => ?_)
        refine lv_iinc (v := x3 + 1) (lv' := [(3, .int (x3 + 1)), (0, .ref (bg 0)), (1, .ref (bc 0))]) hx hb dL_close_30 hl (k := 2) rfl (by first | rfl | decide) (by decide) rfl (fun ls hl => ?_)
        refine lv_goto (tgt := 12) hx hb dL_close_33 (by decide) ?_
        exact ih wg (cr_a wc 0 (cr_x x3) (wc 0 (cr_x (x3 + 2)))) (x3 + 1) hE _ _ _ hW (lv_sub hl [1, 2, 0] rfl)
  replace hE : (f_L_close_12 10100 (cr_a wg 0 7 ((wg 0 7) - 1)) wc (2 * x2)) = some out := hE
  refine lv_aload_n hx hb dL_close_0 rfl (lv_at hl 0 rfl) ?_
  refine lv_bipush (v := 7) hx hb dL_close_1 (by decide) ?_
  refine lv_dup2_11 hx hb dL_close_3 rfl rfl ?_
  refine cr_ald C hW.1 0 (f := wg 0) (k := 7) rfl (by decide) (by decide) dL_close_4 ?_
  refine lv_iconst (v := 1) hx hb dL_close_5 (by decide) ?_
  refine lv_isub hx hb dL_close_6 ?_
  refine cr_ast C hW 0 rfl (k := 7) (by decide) (by decide) (w' := cr_wN ct 17 bg (cr_a wg 0 7 ((wg 0 7) - 1)) ++ cr_wN ct 12 bc wc) rfl dL_close_7 (fun H locs hW => ?_)
  refine lv_iconst (v := 2) hx hb dL_close_8 (by decide) ?_
  refine lv_iload_n hx hb dL_close_9 rfl (lv_at hl 2 rfl) ?_
  refine lv_imul hx hb dL_close_10 ?_
  refine lv_istore_n (lv' := [(3, .int (2 * x2)), (0, .ref (bg 0)), (1, .ref (bc 0)), (2, .int x2)]) hx hb dL_close_11 rfl hl (by decide) rfl (fun ls hl => ?_)
  exact n12 10100 (cr_a wg 0 7 ((wg 0 7) - 1)) wc (2 * x2) hE _ _ _ hW (lv_sub hl [1, 2, 0] rfl)
