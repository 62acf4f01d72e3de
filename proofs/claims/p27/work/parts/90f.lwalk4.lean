set_option maxHeartbeats 4000000 in
set_option maxRecDepth 100000 in
theorem m_L_isSo (L : Launch) (D : va_G) (ct : Nat → ClassId) (bg : Nat → Nat) (bl : Nat → Nat) (bc : Nat → Nat) (a : Nat → Nat → Nat) (r : Nat → Nat → Nat → Nat) (wg : cr_V) (wl : cr_V) (wc : cr_V) (vX : cr_XT)  (out : Int32) (hE : f_L_isSo wg wl wc vX = some out) : Met L yL_isSo wsL_isSo ({ frames := 4, cells := 0, slots := 0, locals := 88 } : Room) (cr_pR D ct (cr_wN ct 17 bg wg ++ (cr_wN ct 52 bl wl ++ (cr_wN ct 12 bc wc ++ cr_wXt ct a r vX))) [.ref (a 0 0), .ref (bg 0), .ref (bl 0), .ref (bc 0)]) (cr_QR (fun r => r = out)) 0 0 cr_no := by
  have k0 : (Cond.constant RL 44 (-2000000001)) ∈ wsL_isSo := List.mem_of_getElem? (i := 1) rfl
  have k1 : (Cond.constant RL 106 (-2000000004)) ∈ wsL_isSo := List.mem_of_getElem? (i := 2) rfl
  refine cr_metR (by decide) rfl rfl (Nat.le_of_ble_eq_true rfl) ?_
  intro p e s m args below meth c ls C hP hS hl
  obtain ⟨hx, hb, hml, hown, hts, hr, hlocks, hK, hN⟩ := id C
  have hl : lv_has ls 11 [(0, .ref (a 0 0)), (1, .ref (bg 0)), (2, .ref (bl 0)), (3, .ref (bc 0))] := hl
  have n308 : ∀ (k12_ : cr_V → cr_V → cr_V → cr_XT → Int32 → Int32 → Int32 → Int32 → Option (Int32)) (ih12_ : ∀ (wg : cr_V) (wl : cr_V) (wc : cr_V) (vX : cr_XT) (x4 : Int32) (x5 : Int32) (x6 : Int32) (x7 : Int32) (hE : k12_ wg wl wc vX x4 x5 x6 x7 = some out) (H : Heap) (locs : List Loc) (ls : Array Slot) (hP : va_P D vwCl (cr_wN ct 17 bg wg ++ (cr_wN ct 52 bl wl ++ (cr_wN ct 12 bc wc ++ cr_wXt ct a r vX))) H) (hS : va_S cr_no s.heap H locs) (hl : lv_has ls 11 [(0, .ref (a 0 0)), (1, .ref (bg 0)), (2, .ref (bl 0)), (3, .ref (bc 0)), (4, .int x4), (5, .int x5), (6, .int x6), (7, .int x7)]), W p L e ({ frames := 4, cells := 0, slots := 0, locals := 88 } : Room) s m args below meth c H locs 0 0 (MQ below (cr_QR (fun r => r = out)) args s 0 0 cr_no) (F0 m 12 ls [])), ∀ (wg : cr_V) (wl : cr_V) (wc : cr_V) (vX : cr_XT) (x5 : Int32) (x6 : Int32) (x7 : Int32) (s0 : Int32) (hE : f_L_isSo_308 k12_ wg wl wc vX x5 x6 x7 s0 = some out) (H : Heap) (locs : List Loc) (ls : Array Slot) (hP : va_P D vwCl (cr_wN ct 17 bg wg ++ (cr_wN ct 52 bl wl ++ (cr_wN ct 12 bc wc ++ cr_wXt ct a r vX))) H) (hS : va_S cr_no s.heap H locs) (hl : lv_has ls 11 [(0, .ref (a 0 0)), (1, .ref (bg 0)), (2, .ref (bl 0)), (3, .ref (bc 0)), (5, .int x5), (6, .int x6), (7, .int x7)]), W p L e ({ frames := 4, cells := 0, slots := 0, locals := 88 } : Room) s m args below meth c H locs 0 0 (MQ below (cr_QR (fun r => r = out)) args s 0 0 cr_no) (F0 m 308 ls [.int s0]) := by
    intro k12_ ih12_ wg wl wc vX x5 x6 x7 s0 hE H locs ls hP hS hl
    replace hE : (k12_ wg wl wc vX s0 x5 x6 (x7 + 1)) = some out := hE
    refine lv_istore (lv' := [(4, .int s0), (0, .ref (a 0 0)), (1, .ref (bg 0)), (2, .ref (bl 0)), (3, .ref (bc 0)), (5, .int x5), (6, .int x6), (7, .int x7)]) hx hb dL_isSo_308 hl (by decide) rfl (fun ls hl => ?_)
    refine lv_iinc (v := x7 + 1) (lv' := [(7, .int (x7 + 1)), (4, .int s0), (0, .ref (a 0 0)), (1, .ref (bg 0)), (2, .ref (bl 0)), (3, .ref (bc 0)), (5, .int x5), (6, .int x6)]) hx hb dL_isSo_310 hl (k := 7) rfl (by first | rfl | decide) (by decide) rfl (fun ls hl => ?_)
    refine lv_goto (tgt := 12) hx hb dL_isSo_313 (by decide) ?_
    exact ih12_ wg wl wc vX s0 x5 x6 (x7 + 1) hE _ _ _ hP hS (lv_sub hl [2, 3, 4, 5, 1, 6, 7, 0] rfl)
  have n307 : ∀ (k12_ : cr_V → cr_V → cr_V → cr_XT → Int32 → Int32 → Int32 → Int32 → Option (Int32)) (ih12_ : ∀ (wg : cr_V) (wl : cr_V) (wc : cr_V) (vX : cr_XT) (x4 : Int32) (x5 : Int32) (x6 : Int32) (x7 : Int32) (hE : k12_ wg wl wc vX x4 x5 x6 x7 = some out) (H : Heap) (locs : List Loc) (ls : Array Slot) (hP : va_P D vwCl (cr_wN ct 17 bg wg ++ (cr_wN ct 52 bl wl ++ (cr_wN ct 12 bc wc ++ cr_wXt ct a r vX))) H) (hS : va_S cr_no s.heap H locs) (hl : lv_has ls 11 [(0, .ref (a 0 0)), (1, .ref (bg 0)), (2, .ref (bl 0)), (3, .ref (bc 0)), (4, .int x4), (5, .int x5), (6, .int x6), (7, .int x7)]), W p L e ({ frames := 4, cells := 0, slots := 0, locals := 88 } : Room) s m args below meth c H locs 0 0 (MQ below (cr_QR (fun r => r = out)) args s 0 0 cr_no) (F0 m 12 ls [])), ∀ (wg : cr_V) (wl : cr_V) (wc : cr_V) (vX : cr_XT) (x5 : Int32) (x6 : Int32) (x7 : Int32) (hE : f_L_isSo_307 k12_ wg wl wc vX x5 x6 x7 = some out) (H : Heap) (locs : List Loc) (ls : Array Slot) (hP : va_P D vwCl (cr_wN ct 17 bg wg ++ (cr_wN ct 52 bl wl ++ (cr_wN ct 12 bc wc ++ cr_wXt ct a r vX))) H) (hS : va_S cr_no s.heap H locs) (hl : lv_has ls 11 [(0, .ref (a 0 0)), (1, .ref (bg 0)), (2, .ref (bl 0)), (3, .ref (bc 0)), (5, .int x5), (6, .int x6), (7, .int x7)]), W p L e ({ frames := 4, cells := 0, slots := 0, locals := 88 } : Room) s m args below meth c H locs 0 0 (MQ below (cr_QR (fun r => r = out)) args s 0 0 cr_no) (F0 m 307 ls []) := by
    intro k12_ ih12_ wg wl wc vX x5 x6 x7 hE H locs ls hP hS hl
    replace hE : (f_L_isSo_308 k12_ wg wl wc vX x5 x6 x7 0) = some out := hE
    refine lv_iconst (v := 0) hx hb dL_isSo_307 (by decide) ?_
    exact n308 k12_ ih12_ wg wl wc vX x5 x6 x7 0 hE _ _ _ hP hS (lv_sub hl [0, 1, 2, 3, 4, 5, 6] rfl)
  have n286 : ∀ (k12_ : cr_V → cr_V → cr_V → cr_XT → Int32 → Int32 → Int32 → Int32 → Option (Int32)) (ih12_ : ∀ (wg : cr_V) (wl : cr_V) (wc : cr_V) (vX : cr_XT) (x4 : Int32) (x5 : Int32) (x6 : Int32) (x7 : Int32) (hE : k12_ wg wl wc vX x4 x5 x6 x7 = some out) (H : Heap) (locs : List Loc) (ls : Array Slot) (hP : va_P D vwCl (cr_wN ct 17 bg wg ++ (cr_wN ct 52 bl wl ++ (cr_wN ct 12 bc wc ++ cr_wXt ct a r vX))) H) (hS : va_S cr_no s.heap H locs) (hl : lv_has ls 11 [(0, .ref (a 0 0)), (1, .ref (bg 0)), (2, .ref (bl 0)), (3, .ref (bc 0)), (4, .int x4), (5, .int x5), (6, .int x6), (7, .int x7)]), W p L e ({ frames := 4, cells := 0, slots := 0, locals := 88 } : Room) s m args below meth c H locs 0 0 (MQ below (cr_QR (fun r => r = out)) args s 0 0 cr_no) (F0 m 12 ls [])), ∀ (wg : cr_V) (wl : cr_V) (wc : cr_V) (vX : cr_XT) (x5 : Int32) (x6 : Int32) (x7 : Int32) (x8 : Int32) (hE : f_L_isSo_286 k12_ wg wl wc vX x5 x6 x7 x8 = some out) (H : Heap) (locs : List Loc) (ls : Array Slot) (hP : va_P D vwCl (cr_wN ct 17 bg wg ++ (cr_wN ct 52 bl wl ++ (cr_wN ct 12 bc wc ++ cr_wXt ct a r vX))) H) (hS : va_S cr_no s.heap H locs) (hl : lv_has ls 11 [(0, .ref (a 0 0)), (1, .ref (bg 0)), (2, .ref (bl 0)), (3, .ref (bc 0)), (5, .int x5), (6, .int x6), (7, .int x7), (8, .int x8)]), W p L e ({ frames := 4, cells := 0, slots := 0, locals := 88 } : Room) s m args below meth c H locs 0 0 (MQ below (cr_QR (fun r => r = out)) args s 0 0 cr_no) (F0 m 286 ls []) := by
    intro k12_ ih12_ wg wl wc vX x5 x6 x7 x8 hE H locs ls hP hS hl
    replace hE : ((f_X6_lotOf vX.1 vX.2.1 vX.2.2.1 vX.2.2.2.1 vX.2.2.2.2.1 vX.2.2.2.2.2.1 vX.2.2.2.2.2.2.1 vX.2.2.2.2.2.2.2.1 vX.2.2.2.2.2.2.2.2.1 vX.2.2.2.2.2.2.2.2.2 x8 1).bind fun q1 => (f_X6_lotOf vX.1 vX.2.1 vX.2.2.1 vX.2.2.2.1 vX.2.2.2.2.1 vX.2.2.2.2.2.1 vX.2.2.2.2.2.2.1 vX.2.2.2.2.2.2.2.1 vX.2.2.2.2.2.2.2.2.1 vX.2.2.2.2.2.2.2.2.2 x8 3).bind fun q2 => if q1 < q2 then (f_L_isSo_307 k12_ wg wl wc vX x5 x6 x7) else (f_L_isSo_308 k12_ wg wl wc vX x5 x6 x7 1)) = some out := hE
    refine lv_aload_n hx hb dL_isSo_286 rfl (lv_at hl 0 rfl) ?_
    refine lv_iload hx hb dL_isSo_287 (lv_at hl 7 rfl) ?_
    refine lv_iconst (v := 1) hx hb dL_isSo_289 (by decide) ?_
    obtain ⟨q1, hq1, hE⟩ := cr_bind hE
    refine cl_vR (nb := 4) (n := 2) (As := [.int x8, .int 1]) (rest := []) C hP hS (m_X6_lotOf L D ct a r vX.1 vX.2.1 vX.2.2.1 vX.2.2.2.1 vX.2.2.2.2.1 vX.2.2.2.2.2.1 vX.2.2.2.2.2.2.1 vX.2.2.2.2.2.2.2.1 vX.2.2.2.2.2.2.2.2.1 vX.2.2.2.2.2.2.2.2.2 x8 1 q1 hq1) (cwV 2 hts gL_isSo_X6_lotOf rfl rfl rfl (by decide +kernel) ⟨Nat.le_of_ble_eq_true rfl, Nat.le_of_ble_eq_true rfl⟩) [3] [cr_wN ct 17 bg wg, cr_wN ct 52 bl wl, cr_wN ct 12 bc wc, cr_wXt ct a r vX] ⟨rfl, rfl⟩ rfl 3 rfl rfl rfl hl.1 rfl (Nat.le_of_ble_eq_true rfl) dL_isSo_290 ⟨Nat.le_of_ble_eq_true rfl, Nat.le_of_ble_eq_true rfl⟩ (fun H locs hP hS => ?_)
    refine lv_aload_n hx hb dL_isSo_293 rfl (lv_at hl 0 rfl) ?_
    refine lv_iload hx hb dL_isSo_294 (lv_at hl 7 rfl) ?_
    refine lv_iconst (v := 3) hx hb dL_isSo_296 (by decide) ?_
    obtain ⟨q2, hq2, hE⟩ := cr_bind hE
    refine cl_vR (nb := 4) (n := 2) (As := [.int x8, .int 3]) (rest := [.int q1]) C hP hS (m_X6_lotOf L D ct a r vX.1 vX.2.1 vX.2.2.1 vX.2.2.2.1 vX.2.2.2.2.1 vX.2.2.2.2.2.1 vX.2.2.2.2.2.2.1 vX.2.2.2.2.2.2.2.1 vX.2.2.2.2.2.2.2.2.1 vX.2.2.2.2.2.2.2.2.2 x8 3 q2 hq2) (cwV 2 hts gL_isSo_X6_lotOf rfl rfl rfl (by decide +kernel) ⟨Nat.le_of_ble_eq_true rfl, Nat.le_of_ble_eq_true rfl⟩) [3] [cr_wN ct 17 bg wg, cr_wN ct 52 bl wl, cr_wN ct 12 bc wc, cr_wXt ct a r vX] ⟨rfl, rfl⟩ rfl 3 rfl rfl rfl hl.1 rfl (Nat.le_of_ble_eq_true rfl) dL_isSo_297 ⟨Nat.le_of_ble_eq_true rfl, Nat.le_of_ble_eq_true rfl⟩ (fun H locs hP hS => ?_)
    refine lv_icmp_lt (tgt := 307) hx hb dL_isSo_300 (by decide) (fun c3 => ?_) (fun c3 => ?_)
    · rw [if_pos c3] at hE
      exact n307 k12_ ih12_ wg wl wc vX x5 x6 x7 hE _ _ _ hP hS (lv_sub hl [0, 1, 2, 3, 4, 5, 6] rfl)
    · rw [if_neg c3] at hE
      refine lv_iconst (v := 1) hx hb dL_isSo_303 (by decide) ?_
      refine lv_goto (tgt := 308) hx hb dL_isSo_304 (by decide) ?_
      exact n308 k12_ ih12_ wg wl wc vX x5 x6 x7 1 hE _ _ _ hP hS (lv_sub hl [0, 1, 2, 3, 4, 5, 6] rfl)
  have n250 : ∀ (k12_ : cr_V → cr_V → cr_V → cr_XT → Int32 → Int32 → Int32 → Int32 → Option (Int32)) (ih12_ : ∀ (wg : cr_V) (wl : cr_V) (wc : cr_V) (vX : cr_XT) (x4 : Int32) (x5 : Int32) (x6 : Int32) (x7 : Int32) (hE : k12_ wg wl wc vX x4 x5 x6 x7 = some out) (H : Heap) (locs : List Loc) (ls : Array Slot) (hP : va_P D vwCl (cr_wN ct 17 bg wg ++ (cr_wN ct 52 bl wl ++ (cr_wN ct 12 bc wc ++ cr_wXt ct a r vX))) H) (hS : va_S cr_no s.heap H locs) (hl : lv_has ls 11 [(0, .ref (a 0 0)), (1, .ref (bg 0)), (2, .ref (bl 0)), (3, .ref (bc 0)), (4, .int x4), (5, .int x5), (6, .int x6), (7, .int x7)]), W p L e ({ frames := 4, cells := 0, slots := 0, locals := 88 } : Room) s m args below meth c H locs 0 0 (MQ below (cr_QR (fun r => r = out)) args s 0 0 cr_no) (F0 m 12 ls [])), ∀ (wg : cr_V) (wl : cr_V) (wc : cr_V) (vX : cr_XT) (x5 : Int32) (x6 : Int32) (x7 : Int32) (x8 : Int32) (s0 : Int32) (hE : f_L_isSo_250 k12_ wg wl wc vX x5 x6 x7 x8 s0 = some out) (H : Heap) (locs : List Loc) (ls : Array Slot) (hP : va_P D vwCl (cr_wN ct 17 bg wg ++ (cr_wN ct 52 bl wl ++ (cr_wN ct 12 bc wc ++ cr_wXt ct a r vX))) H) (hS : va_S cr_no s.heap H locs) (hl : lv_has ls 11 [(0, .ref (a 0 0)), (1, .ref (bg 0)), (2, .ref (bl 0)), (3, .ref (bc 0)), (5, .int x5), (6, .int x6), (7, .int x7), (8, .int x8)]), W p L e ({ frames := 4, cells := 0, slots := 0, locals := 88 } : Room) s m args below meth c H locs 0 0 (MQ below (cr_QR (fun r => r = out)) args s 0 0 cr_no) (F0 m 250 ls [.int s0]) := by
    intro k12_ ih12_ wg wl wc vX x5 x6 x7 x8 s0 hE H locs ls hP hS hl
    replace hE : (if s0 = 0 then (f_L_isSo_307 k12_ wg wl wc vX x5 x6 x7) else ((f_X6_count vX.1 vX.2.1 vX.2.2.1 vX.2.2.2.1 vX.2.2.2.2.1 vX.2.2.2.2.2.1 vX.2.2.2.2.2.2.1 vX.2.2.2.2.2.2.2.1 vX.2.2.2.2.2.2.2.2.1 vX.2.2.2.2.2.2.2.2.2 9).bind fun q5 => if q5 ≤ x8 then (f_L_isSo_307 k12_ wg wl wc vX x5 x6 x7) else (if x7 = 0 then (f_L_isSo_286 k12_ wg wl wc vX x5 x6 x7 x8) else ((f_X6_numberOf vX.1 vX.2.1 vX.2.2.1 vX.2.2.2.1 vX.2.2.2.2.1 vX.2.2.2.2.2.1 vX.2.2.2.2.2.2.1 vX.2.2.2.2.2.2.2.1 vX.2.2.2.2.2.2.2.2.1 vX.2.2.2.2.2.2.2.2.2 (x7 - 1)).bind fun q8 => if x8 ≤ q8 then (f_L_isSo_307 k12_ wg wl wc vX x5 x6 x7) else (f_L_isSo_286 k12_ wg wl wc vX x5 x6 x7 x8))))) = some out := hE
    refine lv_istore (lv' := [(4, .int s0), (0, .ref (a 0 0)), (1, .ref (bg 0)), (2, .ref (bl 0)), (3, .ref (bc 0)), (5, .int x5), (6, .int x6), (7, .int x7), (8, .int x8)]) hx hb dL_isSo_250 hl (by decide) rfl (fun ls hl => ?_)
    refine lv_iload hx hb dL_isSo_252 (lv_at hl 0 rfl) ?_
    refine lv_if_eq (tgt := 307) hx hb dL_isSo_254 (by decide) (fun c4 => ?_) (fun c4 => ?_)
    · rw [if_pos c4] at hE
      exact n307 k12_ ih12_ wg wl wc vX x5 x6 x7 hE _ _ _ hP hS (lv_sub hl [1, 2, 3, 4, 5, 6, 7] rfl)
    · rw [if_neg c4] at hE
      refine lv_iload hx hb dL_isSo_257 (lv_at hl 8 rfl) ?_
      refine lv_aload_n hx hb dL_isSo_259 rfl (lv_at hl 1 rfl) ?_
      refine lv_bipush (v := 9) hx hb dL_isSo_260 (by decide) ?_
      obtain ⟨q5, hq5, hE⟩ := cr_bind hE
      refine cl_vR (nb := 4) (n := 1) (As := [.int 9]) (rest := [.int x8]) C hP hS (m_X6_count L D ct a r vX.1 vX.2.1 vX.2.2.1 vX.2.2.2.1 vX.2.2.2.2.1 vX.2.2.2.2.2.1 vX.2.2.2.2.2.2.1 vX.2.2.2.2.2.2.2.1 vX.2.2.2.2.2.2.2.2.1 vX.2.2.2.2.2.2.2.2.2 9 q5 hq5) (cwV 1 hts gL_isSo_X6_count rfl rfl rfl (by decide +kernel) ⟨Nat.le_of_ble_eq_true rfl, Nat.le_of_ble_eq_true rfl⟩) [3] [cr_wN ct 17 bg wg, cr_wN ct 52 bl wl, cr_wN ct 12 bc wc, cr_wXt ct a r vX] ⟨rfl, rfl⟩ rfl 3 rfl rfl rfl hl.1 rfl (Nat.le_of_ble_eq_true rfl) dL_isSo_262 ⟨Nat.le_of_ble_eq_true rfl, Nat.le_of_ble_eq_true rfl⟩ (fun H locs hP hS => ?_)
      refine lv_icmp_ge (tgt := 307) hx hb dL_isSo_265 (by decide) (fun c6 => ?_) (fun c6 => ?_)
      · rw [if_pos c6] at hE
        exact n307 k12_ ih12_ wg wl wc vX x5 x6 x7 hE _ _ _ hP hS (lv_sub hl [1, 2, 3, 4, 5, 6, 7] rfl)
      · rw [if_neg c6] at hE
        refine lv_iload hx hb dL_isSo_268 (lv_at hl 7 rfl) ?_
        refine lv_if_eq (tgt := 286) hx hb dL_isSo_270 (by decide) (fun c7 => ?_) (fun c7 => ?_)
        · rw [if_pos c7] at hE
          exact n286 k12_ ih12_ wg wl wc vX x5 x6 x7 x8 hE _ _ _ hP hS (lv_sub hl [1, 2, 3, 4, 5, 6, 7, 8] rfl)
        · rw [if_neg c7] at hE
          refine lv_iload hx hb dL_isSo_273 (lv_at hl 8 rfl) ?_
          refine lv_aload_n hx hb dL_isSo_275 rfl (lv_at hl 1 rfl) ?_
          refine lv_iload hx hb dL_isSo_276 (lv_at hl 7 rfl) ?_
          refine lv_iconst (v := 1) hx hb dL_isSo_278 (by decide) ?_
          refine lv_isub hx hb dL_isSo_279 ?_
          obtain ⟨q8, hq8, hE⟩ := cr_bind hE
          refine cl_vR (nb := 4) (n := 1) (As := [.int (x7 - 1)]) (rest := [.int x8]) C hP hS (m_X6_numberOf L D ct a r vX.1 vX.2.1 vX.2.2.1 vX.2.2.2.1 vX.2.2.2.2.1 vX.2.2.2.2.2.1 vX.2.2.2.2.2.2.1 vX.2.2.2.2.2.2.2.1 vX.2.2.2.2.2.2.2.2.1 vX.2.2.2.2.2.2.2.2.2 (x7 - 1) q8 hq8) (cwV 1 hts gL_isSo_X6_numberOf rfl rfl rfl (by decide +kernel) ⟨Nat.le_of_ble_eq_true rfl, Nat.le_of_ble_eq_true rfl⟩) [3] [cr_wN ct 17 bg wg, cr_wN ct 52 bl wl, cr_wN ct 12 bc wc, cr_wXt ct a r vX] ⟨rfl, rfl⟩ rfl 3 rfl rfl rfl hl.1 rfl (Nat.le_of_ble_eq_true rfl) dL_isSo_280 ⟨Nat.le_of_ble_eq_true rfl, Nat.le_of_ble_eq_true rfl⟩ (fun H locs hP hS => ?_)
          refine lv_icmp_le (tgt := 307) hx hb dL_isSo_283 (by decide) (fun c9 => ?_) (fun c9 => ?_)
          · rw [if_pos c9] at hE
            exact n307 k12_ ih12_ wg wl wc vX x5 x6 x7 hE _ _ _ hP hS (lv_sub hl [1, 2, 3, 4, 5, 6, 7] rfl)
          · rw [if_neg c9] at hE
            exact n286 k12_ ih12_ wg wl wc vX x5 x6 x7 x8 hE _ _ _ hP hS (lv_sub hl [1, 2, 3, 4, 5, 6, 7, 8] rfl)
  have n249 : ∀ (k12_ : cr_V → cr_V → cr_V → cr_XT → Int32 → Int32 → Int32 → Int32 → Option (Int32)) (ih12_ : ∀ (wg : cr_V) (wl : cr_V) (wc : cr_V) (vX : cr_XT) (x4 : Int32) (x5 : Int32) (x6 : Int32) (x7 : Int32) (hE : k12_ wg wl wc vX x4 x5 x6 x7 = some out) (H : Heap) (locs : List Loc) (ls : Array Slot) (hP : va_P D vwCl (cr_wN ct 17 bg wg ++ (cr_wN ct 52 bl wl ++ (cr_wN ct 12 bc wc ++ cr_wXt ct a r vX))) H) (hS : va_S cr_no s.heap H locs) (hl : lv_has ls 11 [(0, .ref (a 0 0)), (1, .ref (bg 0)), (2, .ref (bl 0)), (3, .ref (bc 0)), (4, .int x4), (5, .int x5), (6, .int x6), (7, .int x7)]), W p L e ({ frames := 4, cells := 0, slots := 0, locals := 88 } : Room) s m args below meth c H locs 0 0 (MQ below (cr_QR (fun r => r = out)) args s 0 0 cr_no) (F0 m 12 ls [])), ∀ (wg : cr_V) (wl : cr_V) (wc : cr_V) (vX : cr_XT) (x5 : Int32) (x6 : Int32) (x7 : Int32) (x8 : Int32) (hE : f_L_isSo_249 k12_ wg wl wc vX x5 x6 x7 x8 = some out) (H : Heap) (locs : List Loc) (ls : Array Slot) (hP : va_P D vwCl (cr_wN ct 17 bg wg ++ (cr_wN ct 52 bl wl ++ (cr_wN ct 12 bc wc ++ cr_wXt ct a r vX))) H) (hS : va_S cr_no s.heap H locs) (hl : lv_has ls 11 [(0, .ref (a 0 0)), (1, .ref (bg 0)), (2, .ref (bl 0)), (3, .ref (bc 0)), (5, .int x5), (6, .int x6), (7, .int x7), (8, .int x8)]), W p L e ({ frames := 4, cells := 0, slots := 0, locals := 88 } : Room) s m args below meth c H locs 0 0 (MQ below (cr_QR (fun r => r = out)) args s 0 0 cr_no) (F0 m 249 ls []) := by
    intro k12_ ih12_ wg wl wc vX x5 x6 x7 x8 hE H locs ls hP hS hl
    replace hE : (f_L_isSo_250 k12_ wg wl wc vX x5 x6 x7 x8 0) = some out := hE
    refine lv_iconst (v := 0) hx hb dL_isSo_249 (by decide) ?_
    exact n250 k12_ ih12_ wg wl wc vX x5 x6 x7 x8 0 hE _ _ _ hP hS (lv_sub hl [0, 1, 2, 3, 4, 5, 6, 7] rfl)
  have n213 : ∀ (k12_ : cr_V → cr_V → cr_V → cr_XT → Int32 → Int32 → Int32 → Int32 → Option (Int32)) (ih12_ : ∀ (wg : cr_V) (wl : cr_V) (wc : cr_V) (vX : cr_XT) (x4 : Int32) (x5 : Int32) (x6 : Int32) (x7 : Int32) (hE : k12_ wg wl wc vX x4 x5 x6 x7 = some out) (H : Heap) (locs : List Loc) (ls : Array Slot) (hP : va_P D vwCl (cr_wN ct 17 bg wg ++ (cr_wN ct 52 bl wl ++ (cr_wN ct 12 bc wc ++ cr_wXt ct a r vX))) H) (hS : va_S cr_no s.heap H locs) (hl : lv_has ls 11 [(0, .ref (a 0 0)), (1, .ref (bg 0)), (2, .ref (bl 0)), (3, .ref (bc 0)), (4, .int x4), (5, .int x5), (6, .int x6), (7, .int x7)]), W p L e ({ frames := 4, cells := 0, slots := 0, locals := 88 } : Room) s m args below meth c H locs 0 0 (MQ below (cr_QR (fun r => r = out)) args s 0 0 cr_no) (F0 m 12 ls [])), ∀ (wg : cr_V) (wl : cr_V) (wc : cr_V) (vX : cr_XT) (x5 : Int32) (x6 : Int32) (x7 : Int32) (x8 : Int32) (x9 : Int32) (s0 : Int32) (s1 : Int32) (hE : f_L_isSo_213 k12_ wg wl wc vX x5 x6 x7 x8 x9 s0 s1 = some out) (H : Heap) (locs : List Loc) (ls : Array Slot) (hP : va_P D vwCl (cr_wN ct 17 bg wg ++ (cr_wN ct 52 bl wl ++ (cr_wN ct 12 bc wc ++ cr_wXt ct a r vX))) H) (hS : va_S cr_no s.heap H locs) (hl : lv_has ls 11 [(0, .ref (a 0 0)), (1, .ref (bg 0)), (2, .ref (bl 0)), (3, .ref (bc 0)), (5, .int x5), (6, .int x6), (7, .int x7), (8, .int x8), (9, .int x9)]), W p L e ({ frames := 4, cells := 0, slots := 0, locals := 88 } : Room) s m args below meth c H locs 0 0 (MQ below (cr_QR (fun r => r = out)) args s 0 0 cr_no) (F0 m 213 ls [.int s0, .int s1]) := by
    intro k12_ ih12_ wg wl wc vX x5 x6 x7 x8 x9 s0 s1 hE H locs ls hP hS hl
    replace hE : (if s1 = s0 then ((f_X6_lotOf vX.1 vX.2.1 vX.2.2.1 vX.2.2.2.1 vX.2.2.2.2.1 vX.2.2.2.2.2.1 vX.2.2.2.2.2.2.1 vX.2.2.2.2.2.2.2.1 vX.2.2.2.2.2.2.2.2.1 vX.2.2.2.2.2.2.2.2.2 x8 6).bind fun q11 => (f_L_band x9).bind fun q12 => if q11 = q12 then ((f_X6_lotOf vX.1 vX.2.1 vX.2.2.1 vX.2.2.2.1 vX.2.2.2.2.1 vX.2.2.2.2.2.1 vX.2.2.2.2.2.2.1 vX.2.2.2.2.2.2.2.1 vX.2.2.2.2.2.2.2.2.1 vX.2.2.2.2.2.2.2.2.2 x8 7).bind fun q14 => if q14 = (-2000000001) then (f_L_isSo_250 k12_ wg wl wc vX x5 x6 x7 x8 1) else (f_L_isSo_249 k12_ wg wl wc vX x5 x6 x7 x8)) else (f_L_isSo_249 k12_ wg wl wc vX x5 x6 x7 x8)) else (f_L_isSo_249 k12_ wg wl wc vX x5 x6 x7 x8)) = some out := hE
    refine lv_icmp_ne (tgt := 249) hx hb dL_isSo_213 (by decide) (fun c10 => ?_) (fun c10 => ?_)
    · rw [if_neg c10] at hE
      exact n249 k12_ ih12_ wg wl wc vX x5 x6 x7 x8 hE _ _ _ hP hS (lv_sub hl [0, 1, 2, 3, 4, 5, 6, 7] rfl)
    · rw [if_pos c10] at hE
      refine lv_aload_n hx hb dL_isSo_216 rfl (lv_at hl 0 rfl) ?_
      refine lv_iload hx hb dL_isSo_217 (lv_at hl 7 rfl) ?_
      refine lv_bipush (v := 6) hx hb dL_isSo_219 (by decide) ?_
      obtain ⟨q11, hq11, hE⟩ := cr_bind hE
      refine cl_vR (nb := 4) (n := 2) (As := [.int x8, .int 6]) (rest := []) C hP hS (m_X6_lotOf L D ct a r vX.1 vX.2.1 vX.2.2.1 vX.2.2.2.1 vX.2.2.2.2.1 vX.2.2.2.2.2.1 vX.2.2.2.2.2.2.1 vX.2.2.2.2.2.2.2.1 vX.2.2.2.2.2.2.2.2.1 vX.2.2.2.2.2.2.2.2.2 x8 6 q11 hq11) (cwV 2 hts gL_isSo_X6_lotOf rfl rfl rfl (by decide +kernel) ⟨Nat.le_of_ble_eq_true rfl, Nat.le_of_ble_eq_true rfl⟩) [3] [cr_wN ct 17 bg wg, cr_wN ct 52 bl wl, cr_wN ct 12 bc wc, cr_wXt ct a r vX] ⟨rfl, rfl⟩ rfl 3 rfl rfl rfl hl.1 rfl (Nat.le_of_ble_eq_true rfl) dL_isSo_221 ⟨Nat.le_of_ble_eq_true rfl, Nat.le_of_ble_eq_true rfl⟩ (fun H locs hP hS => ?_)
      refine lv_iload hx hb dL_isSo_224 (lv_at hl 8 rfl) ?_
      obtain ⟨q12, hq12, hE⟩ := cr_bind hE
      refine cr_sRq (n := 1) (As := [.int x9]) (rest := [.int q11]) C hP hS (m_L_band L D ct x9 q12 hq12) (va_cwS 1 hts gL_isSo_L_band rfl rfl rfl (by decide +kernel) ⟨Nat.le_of_ble_eq_true rfl, Nat.le_of_ble_eq_true rfl⟩) rfl hl.1 rfl (Nat.le_of_ble_eq_true rfl) dL_isSo_226 ⟨Nat.le_of_ble_eq_true rfl, Nat.le_of_ble_eq_true rfl⟩ (fun H locs hP hS => ?_)
      refine lv_icmp_ne (tgt := 249) hx hb dL_isSo_229 (by decide) (fun c13 => ?_) (fun c13 => ?_)
      · rw [if_neg c13] at hE
        exact n249 k12_ ih12_ wg wl wc vX x5 x6 x7 x8 hE _ _ _ hP hS (lv_sub hl [0, 1, 2, 3, 4, 5, 6, 7] rfl)
      · rw [if_pos c13] at hE
        refine lv_aload_n hx hb dL_isSo_232 rfl (lv_at hl 0 rfl) ?_
        refine lv_iload hx hb dL_isSo_233 (lv_at hl 7 rfl) ?_
        refine lv_bipush (v := 7) hx hb dL_isSo_235 (by decide) ?_
        obtain ⟨q14, hq14, hE⟩ := cr_bind hE
        refine cl_vR (nb := 4) (n := 2) (As := [.int x8, .int 7]) (rest := []) C hP hS (m_X6_lotOf L D ct a r vX.1 vX.2.1 vX.2.2.1 vX.2.2.2.1 vX.2.2.2.2.1 vX.2.2.2.2.2.1 vX.2.2.2.2.2.2.1 vX.2.2.2.2.2.2.2.1 vX.2.2.2.2.2.2.2.2.1 vX.2.2.2.2.2.2.2.2.2 x8 7 q14 hq14) (cwV 2 hts gL_isSo_X6_lotOf rfl rfl rfl (by decide +kernel) ⟨Nat.le_of_ble_eq_true rfl, Nat.le_of_ble_eq_true rfl⟩) [3] [cr_wN ct 17 bg wg, cr_wN ct 52 bl wl, cr_wN ct 12 bc wc, cr_wXt ct a r vX] ⟨rfl, rfl⟩ rfl 3 rfl rfl rfl hl.1 rfl (Nat.le_of_ble_eq_true rfl) dL_isSo_237 ⟨Nat.le_of_ble_eq_true rfl, Nat.le_of_ble_eq_true rfl⟩ (fun H locs hP hS => ?_)
        refine cr_ldc C k0 dL_isSo_240 ?_
        refine lv_icmp_ne (tgt := 249) hx hb dL_isSo_242 (by decide) (fun c15 => ?_) (fun c15 => ?_)
        · rw [if_neg c15] at hE
          exact n249 k12_ ih12_ wg wl wc vX x5 x6 x7 x8 hE _ _ _ hP hS (lv_sub hl [0, 1, 2, 3, 4, 5, 6, 7] rfl)
        · rw [if_pos c15] at hE
          refine lv_iconst (v := 1) hx hb dL_isSo_245 (by decide) ?_
          refine lv_goto (tgt := 250) hx hb dL_isSo_246 (by decide) ?_
          exact n250 k12_ ih12_ wg wl wc vX x5 x6 x7 x8 1 hE _ _ _ hP hS (lv_sub hl [0, 1, 2, 3, 4, 5, 6, 7] rfl)
  have n95 : ∀ (k12_ : cr_V → cr_V → cr_V → cr_XT → Int32 → Int32 → Int32 → Int32 → Option (Int32)) (ih12_ : ∀ (wg : cr_V) (wl : cr_V) (wc : cr_V) (vX : cr_XT) (x4 : Int32) (x5 : Int32) (x6 : Int32) (x7 : Int32) (hE : k12_ wg wl wc vX x4 x5 x6 x7 = some out) (H : Heap) (locs : List Loc) (ls : Array Slot) (hP : va_P D vwCl (cr_wN ct 17 bg wg ++ (cr_wN ct 52 bl wl ++ (cr_wN ct 12 bc wc ++ cr_wXt ct a r vX))) H) (hS : va_S cr_no s.heap H locs) (hl : lv_has ls 11 [(0, .ref (a 0 0)), (1, .ref (bg 0)), (2, .ref (bl 0)), (3, .ref (bc 0)), (4, .int x4), (5, .int x5), (6, .int x6), (7, .int x7)]), W p L e ({ frames := 4, cells := 0, slots := 0, locals := 88 } : Room) s m args below meth c H locs 0 0 (MQ below (cr_QR (fun r => r = out)) args s 0 0 cr_no) (F0 m 12 ls [])), ∀ (wg : cr_V) (wl : cr_V) (wc : cr_V) (vX : cr_XT) (x5 : Int32) (x7 : Int32) (x8 : Int32) (x9 : Int32) (x10 : Int32) (s0 : Int32) (s1 : Int32) (hE : f_L_isSo_95 k12_ wg wl wc vX x5 x7 x8 x9 x10 s0 s1 = some out) (H : Heap) (locs : List Loc) (ls : Array Slot) (hP : va_P D vwCl (cr_wN ct 17 bg wg ++ (cr_wN ct 52 bl wl ++ (cr_wN ct 12 bc wc ++ cr_wXt ct a r vX))) H) (hS : va_S cr_no s.heap H locs) (hl : lv_has ls 11 [(0, .ref (a 0 0)), (1, .ref (bg 0)), (2, .ref (bl 0)), (3, .ref (bc 0)), (5, .int x5), (7, .int x7), (8, .int x8), (9, .int x9), (10, .int x10)]), W p L e ({ frames := 4, cells := 0, slots := 0, locals := 88 } : Room) s m args below meth c H locs 0 0 (MQ below (cr_QR (fun r => r = out)) args s 0 0 cr_no) (F0 m 95 ls [.int s0, .int s1]) := by
    intro k12_ ih12_ wg wl wc vX x5 x7 x8 x9 x10 s0 s1 hE H locs ls hP hS hl
    replace hE : ((f_X6_numberOf vX.1 vX.2.1 vX.2.2.1 vX.2.2.2.1 vX.2.2.2.2.1 vX.2.2.2.2.2.1 vX.2.2.2.2.2.2.1 vX.2.2.2.2.2.2.2.1 vX.2.2.2.2.2.2.2.2.1 vX.2.2.2.2.2.2.2.2.2 x7).bind fun q16 => if q16 = x8 then ((f_X6_lotOf vX.1 vX.2.1 vX.2.2.1 vX.2.2.2.1 vX.2.2.2.2.1 vX.2.2.2.2.2.1 vX.2.2.2.2.2.2.1 vX.2.2.2.2.2.2.2.1 vX.2.2.2.2.2.2.2.2.1 vX.2.2.2.2.2.2.2.2.2 x8 0).bind fun q18 => if cr_in ((4 * x7) + 1) 52 = true then if q18 = (wl 0 (cr_x ((4 * x7) + 1))) then ((f_X6_lotOf vX.1 vX.2.1 vX.2.2.1 vX.2.2.2.1 vX.2.2.2.2.1 vX.2.2.2.2.2.1 vX.2.2.2.2.2.2.1 vX.2.2.2.2.2.2.2.1 vX.2.2.2.2.2.2.2.2.1 vX.2.2.2.2.2.2.2.2.2 x8 1).bind fun q21 => if cr_in ((4 * x7) + 2) 52 = true then if q21 = (wl 0 (cr_x ((4 * x7) + 2))) then ((f_X6_lotOf vX.1 vX.2.1 vX.2.2.1 vX.2.2.2.1 vX.2.2.2.2.1 vX.2.2.2.2.2.1 vX.2.2.2.2.2.2.1 vX.2.2.2.2.2.2.2.1 vX.2.2.2.2.2.2.2.2.1 vX.2.2.2.2.2.2.2.2.2 x8 2).bind fun q24 => if cr_in ((4 * x7) + 3) 52 = true then if q24 = (wl 0 (cr_x ((4 * x7) + 3))) then ((f_X6_lotOf vX.1 vX.2.1 vX.2.2.1 vX.2.2.2.1 vX.2.2.2.2.1 vX.2.2.2.2.2.1 vX.2.2.2.2.2.2.1 vX.2.2.2.2.2.2.2.1 vX.2.2.2.2.2.2.2.2.1 vX.2.2.2.2.2.2.2.2.2 x8 3).bind fun q27 => if q27 = x9 then ((f_X6_lotOf vX.1 vX.2.1 vX.2.2.1 vX.2.2.2.1 vX.2.2.2.2.1 vX.2.2.2.2.2.1 vX.2.2.2.2.2.2.1 vX.2.2.2.2.2.2.2.1 vX.2.2.2.2.2.2.2.2.1 vX.2.2.2.2.2.2.2.2.2 x8 4).bind fun q29 => (f_L_band x9).bind fun q30 => if cr_in (13 + q30) 17 = true then if q29 = (wg 0 (cr_x (13 + q30))) then ((f_X6_lotOf vX.1 vX.2.1 vX.2.2.1 vX.2.2.2.1 vX.2.2.2.2.1 vX.2.2.2.2.2.1 vX.2.2.2.2.2.2.1 vX.2.2.2.2.2.2.2.1 vX.2.2.2.2.2.2.2.2.1 vX.2.2.2.2.2.2.2.2.2 x8 5).bind fun q33 => if x10 ≤ 0 then (f_L_isSo_213 k12_ wg wl wc vX x5 (s1 + s0) x7 x8 x9 0 q33) else (f_L_isSo_213 k12_ wg wl wc vX x5 (s1 + s0) x7 x8 x9 x10 q33)) else (f_L_isSo_249 k12_ wg wl wc vX x5 (s1 + s0) x7 x8) else none) else (f_L_isSo_249 k12_ wg wl wc vX x5 (s1 + s0) x7 x8)) else (f_L_isSo_249 k12_ wg wl wc vX x5 (s1 + s0) x7 x8) else none) else (f_L_isSo_249 k12_ wg wl wc vX x5 (s1 + s0) x7 x8) else none) else (f_L_isSo_249 k12_ wg wl wc vX x5 (s1 + s0) x7 x8) else none) else (f_L_isSo_249 k12_ wg wl wc vX x5 (s1 + s0) x7 x8)) = some out := hE
    refine lv_iadd hx hb dL_isSo_95 ?_
    refine lv_istore (lv' := [(6, .int (s1 + s0)), (0, .ref (a 0 0)), (1, .ref (bg 0)), (2, .ref (bl 0)), (3, .ref (bc 0)), (5, .int x5), (7, .int x7), (8, .int x8), (9, .int x9), (10, .int x10)]) hx hb dL_isSo_96 hl (by decide) rfl (fun ls hl => ?_)
    refine lv_aload_n hx hb dL_isSo_98 rfl (lv_at hl 1 rfl) ?_
    refine lv_iload hx hb dL_isSo_99 (lv_at hl 6 rfl) ?_
    obtain ⟨q16, hq16, hE⟩ := cr_bind hE
    refine cl_vR (nb := 4) (n := 1) (As := [.int x7]) (rest := []) C hP hS (m_X6_numberOf L D ct a r vX.1 vX.2.1 vX.2.2.1 vX.2.2.2.1 vX.2.2.2.2.1 vX.2.2.2.2.2.1 vX.2.2.2.2.2.2.1 vX.2.2.2.2.2.2.2.1 vX.2.2.2.2.2.2.2.2.1 vX.2.2.2.2.2.2.2.2.2 x7 q16 hq16) (cwV 1 hts gL_isSo_X6_numberOf rfl rfl rfl (by decide +kernel) ⟨Nat.le_of_ble_eq_true rfl, Nat.le_of_ble_eq_true rfl⟩) [3] [cr_wN ct 17 bg wg, cr_wN ct 52 bl wl, cr_wN ct 12 bc wc, cr_wXt ct a r vX] ⟨rfl, rfl⟩ rfl 3 rfl rfl rfl hl.1 rfl (Nat.le_of_ble_eq_true rfl) dL_isSo_101 ⟨Nat.le_of_ble_eq_true rfl, Nat.le_of_ble_eq_true rfl⟩ (fun H locs hP hS => ?_)
    refine lv_iload hx hb dL_isSo_104 (lv_at hl 7 rfl) ?_
    refine lv_icmp_ne (tgt := 249) hx hb dL_isSo_106 (by decide) (fun c17 => ?_) (fun c17 => ?_)
    · rw [if_neg c17] at hE
      exact n249 k12_ ih12_ wg wl wc vX x5 (s1 + s0) x7 x8 hE _ _ _ hP hS (lv_sub hl [1, 2, 3, 4, 5, 0, 6, 7] rfl)
    · rw [if_pos c17] at hE
      refine lv_aload_n hx hb dL_isSo_109 rfl (lv_at hl 1 rfl) ?_
      refine lv_iload hx hb dL_isSo_110 (lv_at hl 7 rfl) ?_
      refine lv_iconst (v := 0) hx hb dL_isSo_112 (by decide) ?_
      obtain ⟨q18, hq18, hE⟩ := cr_bind hE
      refine cl_vR (nb := 4) (n := 2) (As := [.int x8, .int 0]) (rest := []) C hP hS (m_X6_lotOf L D ct a r vX.1 vX.2.1 vX.2.2.1 vX.2.2.2.1 vX.2.2.2.2.1 vX.2.2.2.2.2.1 vX.2.2.2.2.2.2.1 vX.2.2.2.2.2.2.2.1 vX.2.2.2.2.2.2.2.2.1 vX.2.2.2.2.2.2.2.2.2 x8 0 q18 hq18) (cwV 2 hts gL_isSo_X6_lotOf rfl rfl rfl (by decide +kernel) ⟨Nat.le_of_ble_eq_true rfl, Nat.le_of_ble_eq_true rfl⟩) [3] [cr_wN ct 17 bg wg, cr_wN ct 52 bl wl, cr_wN ct 12 bc wc, cr_wXt ct a r vX] ⟨rfl, rfl⟩ rfl 3 rfl rfl rfl hl.1 rfl (Nat.le_of_ble_eq_true rfl) dL_isSo_113 ⟨Nat.le_of_ble_eq_true rfl, Nat.le_of_ble_eq_true rfl⟩ (fun H locs hP hS => ?_)
      refine lv_aload_n hx hb dL_isSo_116 rfl (lv_at hl 3 rfl) ?_
      refine lv_iconst (v := 4) hx hb dL_isSo_117 (by decide) ?_
      refine lv_iload hx hb dL_isSo_118 (lv_at hl 6 rfl) ?_
      refine lv_imul hx hb dL_isSo_120 ?_
      refine lv_iconst (v := 1) hx hb dL_isSo_121 (by decide) ?_
      refine lv_iadd hx hb dL_isSo_122 ?_
      obtain ⟨i19, hE⟩ := cr_ifn hE
      refine cr_ald C hP 1 (f := wl 0) (k := cr_x ((4 * x7) + 1)) rfl i19 (cr_xe _) dL_isSo_123 ?_
      refine lv_icmp_ne (tgt := 249) hx hb dL_isSo_124 (by decide) (fun c20 => ?_) (fun c20 => ?_)
      · rw [if_neg c20] at hE
        exact n249 k12_ ih12_ wg wl wc vX x5 (s1 + s0) x7 x8 hE _ _ _ hP hS (lv_sub hl [1, 2, 3, 4, 5, 0, 6, 7] rfl)
      · rw [if_pos c20] at hE
        refine lv_aload_n hx hb dL_isSo_127 rfl (lv_at hl 1 rfl) ?_
        refine lv_iload hx hb dL_isSo_128 (lv_at hl 7 rfl) ?_
        refine lv_iconst (v := 1) hx hb dL_isSo_130 (by decide) ?_
        obtain ⟨q21, hq21, hE⟩ := cr_bind hE
        refine cl_vR (nb := 4) (n := 2) (As := [.int x8, .int 1]) (rest := []) C hP hS (m_X6_lotOf L D ct a r vX.1 vX.2.1 vX.2.2.1 vX.2.2.2.1 vX.2.2.2.2.1 vX.2.2.2.2.2.1 vX.2.2.2.2.2.2.1 vX.2.2.2.2.2.2.2.1 vX.2.2.2.2.2.2.2.2.1 vX.2.2.2.2.2.2.2.2.2 x8 1 q21 hq21) (cwV 2 hts gL_isSo_X6_lotOf rfl rfl rfl (by decide +kernel) ⟨Nat.le_of_ble_eq_true rfl, Nat.le_of_ble_eq_true rfl⟩) [3] [cr_wN ct 17 bg wg, cr_wN ct 52 bl wl, cr_wN ct 12 bc wc, cr_wXt ct a r vX] ⟨rfl, rfl⟩ rfl 3 rfl rfl rfl hl.1 rfl (Nat.le_of_ble_eq_true rfl) dL_isSo_131 ⟨Nat.le_of_ble_eq_true rfl, Nat.le_of_ble_eq_true rfl⟩ (fun H locs hP hS => ?_)
        refine lv_aload_n hx hb dL_isSo_134 rfl (lv_at hl 3 rfl) ?_
        refine lv_iconst (v := 4) hx hb dL_isSo_135 (by decide) ?_
        refine lv_iload hx hb dL_isSo_136 (lv_at hl 6 rfl) ?_
        refine lv_imul hx hb dL_isSo_138 ?_
        refine lv_iconst (v := 2) hx hb dL_isSo_139 (by decide) ?_
        refine lv_iadd hx hb dL_isSo_140 ?_
        obtain ⟨i22, hE⟩ := cr_ifn hE
        refine cr_ald C hP 1 (f := wl 0) (k := cr_x ((4 * x7) + 2)) rfl i22 (cr_xe _) dL_isSo_141 ?_
        refine lv_icmp_ne (tgt := 249) hx hb dL_isSo_142 (by decide) (fun c23 => ?_) (fun c23 => ?_)
        · rw [if_neg c23] at hE
          exact n249 k12_ ih12_ wg wl wc vX x5 (s1 + s0) x7 x8 hE _ _ _ hP hS (lv_sub hl [1, 2, 3, 4, 5, 0, 6, 7] rfl)
        · rw [if_pos c23] at hE
          refine lv_aload_n hx hb dL_isSo_145 rfl (lv_at hl 1 rfl) ?_
          refine lv_iload hx hb dL_isSo_146 (lv_at hl 7 rfl) ?_
          refine lv_iconst (v := 2) hx hb dL_isSo_148 (by decide) ?_
          obtain ⟨q24, hq24, hE⟩ := cr_bind hE
          refine cl_vR (nb := 4) (n := 2) (As := [.int x8, .int 2]) (rest := []) C hP hS (m_X6_lotOf L D ct a r vX.1 vX.2.1 vX.2.2.1 vX.2.2.2.1 vX.2.2.2.2.1 vX.2.2.2.2.2.1 vX.2.2.2.2.2.2.1 vX.2.2.2.2.2.2.2.1 vX.2.2.2.2.2.2.2.2.1 vX.2.2.2.2.2.2.2.2.2 x8 2 q24 hq24) (cwV 2 hts gL_isSo_X6_lotOf rfl rfl rfl (by decide +kernel) ⟨Nat.le_of_ble_eq_true rfl, Nat.le_of_ble_eq_true rfl⟩) [3] [cr_wN ct 17 bg wg, cr_wN ct 52 bl wl, cr_wN ct 12 bc wc, cr_wXt ct a r vX] ⟨rfl, rfl⟩ rfl 3 rfl rfl rfl hl.1 rfl (Nat.le_of_ble_eq_true rfl) dL_isSo_149 ⟨Nat.le_of_ble_eq_true rfl, Nat.le_of_ble_eq_true rfl⟩ (fun H locs hP hS => ?_)
          refine lv_aload_n hx hb dL_isSo_152 rfl (lv_at hl 3 rfl) ?_
          refine lv_iconst (v := 4) hx hb dL_isSo_153 (by decide) ?_
          refine lv_iload hx hb dL_isSo_154 (lv_at hl 6 rfl) ?_
          refine lv_imul hx hb dL_isSo_156 ?_
          refine lv_iconst (v := 3) hx hb dL_isSo_157 (by decide) ?_
          refine lv_iadd hx hb dL_isSo_158 ?_
          obtain ⟨i25, hE⟩ := cr_ifn hE
          refine cr_ald C hP 1 (f := wl 0) (k := cr_x ((4 * x7) + 3)) rfl i25 (cr_xe _) dL_isSo_159 ?_
          refine lv_icmp_ne (tgt := 249) hx hb dL_isSo_160 (by decide) (fun c26 => ?_) (fun c26 => ?_)
          · rw [if_neg c26] at hE
            exact n249 k12_ ih12_ wg wl wc vX x5 (s1 + s0) x7 x8 hE _ _ _ hP hS (lv_sub hl [1, 2, 3, 4, 5, 0, 6, 7] rfl)
          · rw [if_pos c26] at hE
            refine lv_aload_n hx hb dL_isSo_163 rfl (lv_at hl 1 rfl) ?_
            refine lv_iload hx hb dL_isSo_164 (lv_at hl 7 rfl) ?_
            refine lv_iconst (v := 3) hx hb dL_isSo_166 (by decide) ?_
            obtain ⟨q27, hq27, hE⟩ := cr_bind hE
            refine cl_vR (nb := 4) (n := 2) (As := [.int x8, .int 3]) (rest := []) C hP hS (m_X6_lotOf L D ct a r vX.1 vX.2.1 vX.2.2.1 vX.2.2.2.1 vX.2.2.2.2.1 vX.2.2.2.2.2.1 vX.2.2.2.2.2.2.1 vX.2.2.2.2.2.2.2.1 vX.2.2.2.2.2.2.2.2.1 vX.2.2.2.2.2.2.2.2.2 x8 3 q27 hq27) (cwV 2 hts gL_isSo_X6_lotOf rfl rfl rfl (by decide +kernel) ⟨Nat.le_of_ble_eq_true rfl, Nat.le_of_ble_eq_true rfl⟩) [3] [cr_wN ct 17 bg wg, cr_wN ct 52 bl wl, cr_wN ct 12 bc wc, cr_wXt ct a r vX] ⟨rfl, rfl⟩ rfl 3 rfl rfl rfl hl.1 rfl (Nat.le_of_ble_eq_true rfl) dL_isSo_167 ⟨Nat.le_of_ble_eq_true rfl, Nat.le_of_ble_eq_true rfl⟩ (fun H locs hP hS => ?_)
            refine lv_iload hx hb dL_isSo_170 (lv_at hl 8 rfl) ?_
            refine lv_icmp_ne (tgt := 249) hx hb dL_isSo_172 (by decide) (fun c28 => ?_) (fun c28 => ?_)
            · rw [if_neg c28] at hE
              exact n249 k12_ ih12_ wg wl wc vX x5 (s1 + s0) x7 x8 hE _ _ _ hP hS (lv_sub hl [1, 2, 3, 4, 5, 0, 6, 7] rfl)
            · rw [if_pos c28] at hE
              refine lv_aload_n hx hb dL_isSo_175 rfl (lv_at hl 1 rfl) ?_
              refine lv_iload hx hb dL_isSo_176 (lv_at hl 7 rfl) ?_
              refine lv_iconst (v := 4) hx hb dL_isSo_178 (by decide) ?_
              obtain ⟨q29, hq29, hE⟩ := cr_bind hE
              refine cl_vR (nb := 4) (n := 2) (As := [.int x8, .int 4]) (rest := []) C hP hS (m_X6_lotOf L D ct a r vX.1 vX.2.1 vX.2.2.1 vX.2.2.2.1 vX.2.2.2.2.1 vX.2.2.2.2.2.1 vX.2.2.2.2.2.2.1 vX.2.2.2.2.2.2.2.1 vX.2.2.2.2.2.2.2.2.1 vX.2.2.2.2.2.2.2.2.2 x8 4 q29 hq29) (cwV 2 hts gL_isSo_X6_lotOf rfl rfl rfl (by decide +kernel) ⟨Nat.le_of_ble_eq_true rfl, Nat.le_of_ble_eq_true rfl⟩) [3] [cr_wN ct 17 bg wg, cr_wN ct 52 bl wl, cr_wN ct 12 bc wc, cr_wXt ct a r vX] ⟨rfl, rfl⟩ rfl 3 rfl rfl rfl hl.1 rfl (Nat.le_of_ble_eq_true rfl) dL_isSo_179 ⟨Nat.le_of_ble_eq_true rfl, Nat.le_of_ble_eq_true rfl⟩ (fun H locs hP hS => ?_)
              refine lv_aload_n hx hb dL_isSo_182 rfl (lv_at hl 2 rfl) ?_
              refine lv_bipush (v := 13) hx hb dL_isSo_183 (by decide) ?_
              refine lv_iload hx hb dL_isSo_185 (lv_at hl 8 rfl) ?_
              obtain ⟨q30, hq30, hE⟩ := cr_bind hE
              refine cr_sRq (n := 1) (As := [.int x9]) (rest := [.int 13, .ref (bg 0), .int q29]) C hP hS (m_L_band L D ct x9 q30 hq30) (va_cwS 1 hts gL_isSo_L_band rfl rfl rfl (by decide +kernel) ⟨Nat.le_of_ble_eq_true rfl, Nat.le_of_ble_eq_true rfl⟩) rfl hl.1 rfl (Nat.le_of_ble_eq_true rfl) dL_isSo_187 ⟨Nat.le_of_ble_eq_true rfl, Nat.le_of_ble_eq_true rfl⟩ (fun H locs hP hS => ?_)
              refine lv_iadd hx hb dL_isSo_190 ?_
              obtain ⟨i31, hE⟩ := cr_ifn hE
              refine cr_ald C hP 0 (f := wg 0) (k := cr_x (13 + q30)) rfl i31 (cr_xe _) dL_isSo_191 ?_
              refine lv_icmp_ne (tgt := 249) hx hb dL_isSo_192 (by decide) (fun c32 => ?_) (fun c32 => ?_)
              · rw [if_neg c32] at hE
                exact n249 k12_ ih12_ wg wl wc vX x5 (s1 + s0) x7 x8 hE _ _ _ hP hS (lv_sub hl [1, 2, 3, 4, 5, 0, 6, 7] rfl)
              · rw [if_pos c32] at hE
                refine lv_aload_n hx hb dL_isSo_195 rfl (lv_at hl 1 rfl) ?_
                refine lv_iload hx hb dL_isSo_196 (lv_at hl 7 rfl) ?_
                refine lv_iconst (v := 5) hx hb dL_isSo_198 (by decide) ?_
                obtain ⟨q33, hq33, hE⟩ := cr_bind hE
                refine cl_vR (nb := 4) (n := 2) (As := [.int x8, .int 5]) (rest := []) C hP hS (m_X6_lotOf L D ct a r vX.1 vX.2.1 vX.2.2.1 vX.2.2.2.1 vX.2.2.2.2.1 vX.2.2.2.2.2.1 vX.2.2.2.2.2.2.1 vX.2.2.2.2.2.2.2.1 vX.2.2.2.2.2.2.2.2.1 vX.2.2.2.2.2.2.2.2.2 x8 5 q33 hq33) (cwV 2 hts gL_isSo_X6_lotOf rfl rfl rfl (by decide +kernel) ⟨Nat.le_of_ble_eq_true rfl, Nat.le_of_ble_eq_true rfl⟩) [3] [cr_wN ct 17 bg wg, cr_wN ct 52 bl wl, cr_wN ct 12 bc wc, cr_wXt ct a r vX] ⟨rfl, rfl⟩ rfl 3 rfl rfl rfl hl.1 rfl (Nat.le_of_ble_eq_true rfl) dL_isSo_199 ⟨Nat.le_of_ble_eq_true rfl, Nat.le_of_ble_eq_true rfl⟩ (fun H locs hP hS => ?_)
                refine lv_iload hx hb dL_isSo_202 (lv_at hl 9 rfl) ?_
                refine lv_if_le (tgt := 212) hx hb dL_isSo_204 (by decide) (fun c34 => ?_) (fun c34 => ?_)
                · rw [if_pos c34] at hE
                  refine lv_iconst (v := 0) hx hb dL_isSo_212 (by decide) ?_
                  exact n213 k12_ ih12_ wg wl wc vX x5 (s1 + s0) x7 x8 x9 0 q33 hE _ _ _ hP hS (lv_sub hl [1, 2, 3, 4, 5, 0, 6, 7, 8] rfl)
                · rw [if_neg c34] at hE
                  refine lv_iload hx hb dL_isSo_207 (lv_at hl 9 rfl) ?_
                  refine lv_goto (tgt := 213) hx hb dL_isSo_209 (by decide) ?_
                  exact n213 k12_ ih12_ wg wl wc vX x5 (s1 + s0) x7 x8 x9 x10 q33 hE _ _ _ hP hS (lv_sub hl [1, 2, 3, 4, 5, 0, 6, 7, 8] rfl)
  have n418 : ∀ (k319_ : cr_V → cr_V → cr_V → cr_XT → Int32 → Int32 → Int32 → Int32 → Option (Int32)) (ih319_ : ∀ (wg : cr_V) (wl : cr_V) (wc : cr_V) (vX : cr_XT) (x4 : Int32) (x5 : Int32) (x6 : Int32) (x7 : Int32) (hE : k319_ wg wl wc vX x4 x5 x6 x7 = some out) (H : Heap) (locs : List Loc) (ls : Array Slot) (hP : va_P D vwCl (cr_wN ct 17 bg wg ++ (cr_wN ct 52 bl wl ++ (cr_wN ct 12 bc wc ++ cr_wXt ct a r vX))) H) (hS : va_S cr_no s.heap H locs) (hl : lv_has ls 11 [(0, .ref (a 0 0)), (1, .ref (bg 0)), (3, .ref (bc 0)), (4, .int x4), (5, .int x5), (6, .int x6), (7, .int x7)]), W p L e ({ frames := 4, cells := 0, slots := 0, locals := 88 } : Room) s m args below meth c H locs 0 0 (MQ below (cr_QR (fun r => r = out)) args s 0 0 cr_no) (F0 m 319 ls [])), ∀ (wg : cr_V) (wl : cr_V) (wc : cr_V) (vX : cr_XT) (x5 : Int32) (x6 : Int32) (x7 : Int32) (s0 : Int32) (hE : f_L_isSo_418 k319_ wg wl wc vX x5 x6 x7 s0 = some out) (H : Heap) (locs : List Loc) (ls : Array Slot) (hP : va_P D vwCl (cr_wN ct 17 bg wg ++ (cr_wN ct 52 bl wl ++ (cr_wN ct 12 bc wc ++ cr_wXt ct a r vX))) H) (hS : va_S cr_no s.heap H locs) (hl : lv_has ls 11 [(0, .ref (a 0 0)), (1, .ref (bg 0)), (3, .ref (bc 0)), (5, .int x5), (6, .int x6), (7, .int x7)]), W p L e ({ frames := 4, cells := 0, slots := 0, locals := 88 } : Room) s m args below meth c H locs 0 0 (MQ below (cr_QR (fun r => r = out)) args s 0 0 cr_no) (F0 m 418 ls [.int s0]) := by
    intro k319_ ih319_ wg wl wc vX x5 x6 x7 s0 hE H locs ls hP hS hl
    replace hE : (k319_ wg wl wc vX s0 x5 x6 (x7 + 1)) = some out := hE
    refine lv_istore (lv' := [(4, .int s0), (0, .ref (a 0 0)), (1, .ref (bg 0)), (3, .ref (bc 0)), (5, .int x5), (6, .int x6), (7, .int x7)]) hx hb dL_isSo_418 hl (by decide) rfl (fun ls hl => ?_)
    refine lv_iinc (v := x7 + 1) (lv' := [(7, .int (x7 + 1)), (4, .int s0), (0, .ref (a 0 0)), (1, .ref (bg 0)), (3, .ref (bc 0)), (5, .int x5), (6, .int x6)]) hx hb dL_isSo_420 hl (k := 6) rfl (by first | rfl | decide) (by decide) rfl (fun ls hl => ?_)
    refine lv_goto (tgt := 319) hx hb dL_isSo_423 (by decide) ?_
    exact ih319_ wg wl wc vX s0 x5 x6 (x7 + 1) hE _ _ _ hP hS (lv_sub hl [2, 3, 4, 1, 5, 6, 0] rfl)
  have n417 : ∀ (k319_ : cr_V → cr_V → cr_V → cr_XT → Int32 → Int32 → Int32 → Int32 → Option (Int32)) (ih319_ : ∀ (wg : cr_V) (wl : cr_V) (wc : cr_V) (vX : cr_XT) (x4 : Int32) (x5 : Int32) (x6 : Int32) (x7 : Int32) (hE : k319_ wg wl wc vX x4 x5 x6 x7 = some out) (H : Heap) (locs : List Loc) (ls : Array Slot) (hP : va_P D vwCl (cr_wN ct 17 bg wg ++ (cr_wN ct 52 bl wl ++ (cr_wN ct 12 bc wc ++ cr_wXt ct a r vX))) H) (hS : va_S cr_no s.heap H locs) (hl : lv_has ls 11 [(0, .ref (a 0 0)), (1, .ref (bg 0)), (3, .ref (bc 0)), (4, .int x4), (5, .int x5), (6, .int x6), (7, .int x7)]), W p L e ({ frames := 4, cells := 0, slots := 0, locals := 88 } : Room) s m args below meth c H locs 0 0 (MQ below (cr_QR (fun r => r = out)) args s 0 0 cr_no) (F0 m 319 ls [])), ∀ (wg : cr_V) (wl : cr_V) (wc : cr_V) (vX : cr_XT) (x5 : Int32) (x6 : Int32) (x7 : Int32) (hE : f_L_isSo_417 k319_ wg wl wc vX x5 x6 x7 = some out) (H : Heap) (locs : List Loc) (ls : Array Slot) (hP : va_P D vwCl (cr_wN ct 17 bg wg ++ (cr_wN ct 52 bl wl ++ (cr_wN ct 12 bc wc ++ cr_wXt ct a r vX))) H) (hS : va_S cr_no s.heap H locs) (hl : lv_has ls 11 [(0, .ref (a 0 0)), (1, .ref (bg 0)), (3, .ref (bc 0)), (5, .int x5), (6, .int x6), (7, .int x7)]), W p L e ({ frames := 4, cells := 0, slots := 0, locals := 88 } : Room) s m args below meth c H locs 0 0 (MQ below (cr_QR (fun r => r = out)) args s 0 0 cr_no) (F0 m 417 ls []) := by
    intro k319_ ih319_ wg wl wc vX x5 x6 x7 hE H locs ls hP hS hl
    replace hE : (f_L_isSo_418 k319_ wg wl wc vX x5 x6 x7 0) = some out := hE
    refine lv_iconst (v := 0) hx hb dL_isSo_417 (by decide) ?_
    exact n418 k319_ ih319_ wg wl wc vX x5 x6 x7 0 hE _ _ _ hP hS (lv_sub hl [0, 1, 2, 3, 4, 5] rfl)
  have n464 : ∀ (k429_ : cr_V → cr_V → cr_V → cr_XT → Int32 → Int32 → Int32 → Int32 → Option (Int32)) (ih429_ : ∀ (wg : cr_V) (wl : cr_V) (wc : cr_V) (vX : cr_XT) (x4 : Int32) (x5 : Int32) (x6 : Int32) (x7 : Int32) (hE : k429_ wg wl wc vX x4 x5 x6 x7 = some out) (H : Heap) (locs : List Loc) (ls : Array Slot) (hP : va_P D vwCl (cr_wN ct 17 bg wg ++ (cr_wN ct 52 bl wl ++ (cr_wN ct 12 bc wc ++ cr_wXt ct a r vX))) H) (hS : va_S cr_no s.heap H locs) (hl : lv_has ls 11 [(0, .ref (a 0 0)), (1, .ref (bg 0)), (4, .int x4), (5, .int x5), (6, .int x6), (7, .int x7)]), W p L e ({ frames := 4, cells := 0, slots := 0, locals := 88 } : Room) s m args below meth c H locs 0 0 (MQ below (cr_QR (fun r => r = out)) args s 0 0 cr_no) (F0 m 429 ls [])), ∀ (wg : cr_V) (wl : cr_V) (wc : cr_V) (vX : cr_XT) (x5 : Int32) (x6 : Int32) (x7 : Int32) (s0 : Int32) (hE : f_L_isSo_464 k429_ wg wl wc vX x5 x6 x7 s0 = some out) (H : Heap) (locs : List Loc) (ls : Array Slot) (hP : va_P D vwCl (cr_wN ct 17 bg wg ++ (cr_wN ct 52 bl wl ++ (cr_wN ct 12 bc wc ++ cr_wXt ct a r vX))) H) (hS : va_S cr_no s.heap H locs) (hl : lv_has ls 11 [(0, .ref (a 0 0)), (1, .ref (bg 0)), (5, .int x5), (6, .int x6), (7, .int x7)]), W p L e ({ frames := 4, cells := 0, slots := 0, locals := 88 } : Room) s m args below meth c H locs 0 0 (MQ below (cr_QR (fun r => r = out)) args s 0 0 cr_no) (F0 m 464 ls [.int s0]) := by
    intro k429_ ih429_ wg wl wc vX x5 x6 x7 s0 hE H locs ls hP hS hl
    replace hE : (k429_ wg wl wc vX s0 x5 x6 (x7 + 1)) = some out := hE
    refine lv_istore (lv' := [(4, .int s0), (0, .ref (a 0 0)), (1, .ref (bg 0)), (5, .int x5), (6, .int x6), (7, .int x7)]) hx hb dL_isSo_464 hl (by decide) rfl (fun ls hl => ?_)
    refine lv_iinc (v := x7 + 1) (lv' := [(7, .int (x7 + 1)), (4, .int s0), (0, .ref (a 0 0)), (1, .ref (bg 0)), (5, .int x5), (6, .int x6)]) hx hb dL_isSo_466 hl (k := 5) rfl (by first | rfl | decide) (by decide) rfl (fun ls hl => ?_)
    refine lv_goto (tgt := 429) hx hb dL_isSo_469 (by decide) ?_
    exact ih429_ wg wl wc vX s0 x5 x6 (x7 + 1) hE _ _ _ hP hS (lv_sub hl [2, 3, 1, 4, 5, 0] rfl)
  have n532 :  ∀ (wg : cr_V) (wl : cr_V) (wc : cr_V) (vX : cr_XT) (x5 : Int32) (x6 : Int32) (s0 : Int32) (hE : f_L_isSo_532  wg wl wc vX x5 x6 s0 = some out) (H : Heap) (locs : List Loc) (ls : Array Slot) (hP : va_P D vwCl (cr_wN ct 17 bg wg ++ (cr_wN ct 52 bl wl ++ (cr_wN ct 12 bc wc ++ cr_wXt ct a r vX))) H) (hS : va_S cr_no s.heap H locs) (hl : lv_has ls 11 [(0, .ref (a 0 0)), (1, .ref (bg 0)), (5, .int x5), (6, .int x6)]), W p L e ({ frames := 4, cells := 0, slots := 0, locals := 88 } : Room) s m args below meth c H locs 0 0 (MQ below (cr_QR (fun r => r = out)) args s 0 0 cr_no) (F0 m 532 ls [.int s0]) := by
    intro  wg wl wc vX x5 x6 s0 hE H locs ls hP hS hl
    replace hE : (if s0 = 0 then (some 0) else ((f_X6_count vX.1 vX.2.1 vX.2.2.1 vX.2.2.2.1 vX.2.2.2.2.1 vX.2.2.2.2.2.1 vX.2.2.2.2.2.2.1 vX.2.2.2.2.2.2.2.1 vX.2.2.2.2.2.2.2.2.1 vX.2.2.2.2.2.2.2.2.2 0).bind fun q36 => if q36 = (wg 0 6) then ((f_X6_count vX.1 vX.2.1 vX.2.2.1 vX.2.2.2.1 vX.2.2.2.2.1 vX.2.2.2.2.2.1 vX.2.2.2.2.2.2.1 vX.2.2.2.2.2.2.2.1 vX.2.2.2.2.2.2.2.2.1 vX.2.2.2.2.2.2.2.2.2 1).bind fun q38 => if q38 = x5 then ((f_X6_count vX.1 vX.2.1 vX.2.2.1 vX.2.2.2.1 vX.2.2.2.2.1 vX.2.2.2.2.2.1 vX.2.2.2.2.2.2.1 vX.2.2.2.2.2.2.2.1 vX.2.2.2.2.2.2.2.2.1 vX.2.2.2.2.2.2.2.2.2 2).bind fun q40 => if q40 = (wg 0 0) then ((f_X6_count vX.1 vX.2.1 vX.2.2.1 vX.2.2.2.1 vX.2.2.2.2.1 vX.2.2.2.2.2.1 vX.2.2.2.2.2.2.1 vX.2.2.2.2.2.2.2.1 vX.2.2.2.2.2.2.2.2.1 vX.2.2.2.2.2.2.2.2.2 3).bind fun q42 => if q42 = (wg 0 7) then ((f_X6_count vX.1 vX.2.1 vX.2.2.1 vX.2.2.2.1 vX.2.2.2.2.1 vX.2.2.2.2.2.1 vX.2.2.2.2.2.2.1 vX.2.2.2.2.2.2.2.1 vX.2.2.2.2.2.2.2.2.1 vX.2.2.2.2.2.2.2.2.2 4).bind fun q44 => if q44 = (wg 0 1) then ((f_X6_count vX.1 vX.2.1 vX.2.2.1 vX.2.2.2.1 vX.2.2.2.2.1 vX.2.2.2.2.2.1 vX.2.2.2.2.2.2.1 vX.2.2.2.2.2.2.2.1 vX.2.2.2.2.2.2.2.2.1 vX.2.2.2.2.2.2.2.2.2 5).bind fun q46 => if q46 = (wg 0 2) then ((f_X6_count vX.1 vX.2.1 vX.2.2.1 vX.2.2.2.1 vX.2.2.2.2.1 vX.2.2.2.2.2.1 vX.2.2.2.2.2.2.1 vX.2.2.2.2.2.2.2.1 vX.2.2.2.2.2.2.2.2.1 vX.2.2.2.2.2.2.2.2.2 6).bind fun q48 => if q48 = (wg 0 3) then ((f_X6_count vX.1 vX.2.1 vX.2.2.1 vX.2.2.2.1 vX.2.2.2.2.1 vX.2.2.2.2.2.1 vX.2.2.2.2.2.2.1 vX.2.2.2.2.2.2.2.1 vX.2.2.2.2.2.2.2.2.1 vX.2.2.2.2.2.2.2.2.2 7).bind fun q50 => if q50 = (wg 0 4) then ((f_X6_count vX.1 vX.2.1 vX.2.2.1 vX.2.2.2.1 vX.2.2.2.2.1 vX.2.2.2.2.2.1 vX.2.2.2.2.2.2.1 vX.2.2.2.2.2.2.2.1 vX.2.2.2.2.2.2.2.2.1 vX.2.2.2.2.2.2.2.2.2 8).bind fun q52 => if q52 = x6 then ((f_X6_count vX.1 vX.2.1 vX.2.2.1 vX.2.2.2.1 vX.2.2.2.2.1 vX.2.2.2.2.2.1 vX.2.2.2.2.2.2.1 vX.2.2.2.2.2.2.2.1 vX.2.2.2.2.2.2.2.2.1 vX.2.2.2.2.2.2.2.2.2 9).bind fun q54 => if q54 = (wg 0 5) then ((f_X6_count vX.1 vX.2.1 vX.2.2.1 vX.2.2.2.1 vX.2.2.2.2.1 vX.2.2.2.2.2.1 vX.2.2.2.2.2.2.1 vX.2.2.2.2.2.2.2.1 vX.2.2.2.2.2.2.2.2.1 vX.2.2.2.2.2.2.2.2.2 11).bind fun q56 => if q56 = 0 then (some 1) else (some 0)) else (some 0)) else (some 0)) else (some 0)) else (some 0)) else (some 0)) else (some 0)) else (some 0)) else (some 0)) else (some 0)) else (some 0))) = some out := hE
    refine lv_istore (lv' := [(4, .int s0), (0, .ref (a 0 0)), (1, .ref (bg 0)), (5, .int x5), (6, .int x6)]) hx hb dL_isSo_532 hl (by decide) rfl (fun ls hl => ?_)
    refine lv_iload hx hb dL_isSo_534 (lv_at hl 0 rfl) ?_
    refine lv_if_eq (tgt := 666) hx hb dL_isSo_536 (by decide) (fun c35 => ?_) (fun c35 => ?_)
    · rw [if_pos c35] at hE
      refine lv_iconst (v := 0) hx hb dL_isSo_666 (by decide) ?_
      exact cr_retRz C hS rfl (Option.some.inj hE) dL_isSo_667
    · rw [if_neg c35] at hE
      refine lv_aload_n hx hb dL_isSo_539 rfl (lv_at hl 1 rfl) ?_
      refine lv_iconst (v := 0) hx hb dL_isSo_540 (by decide) ?_
      obtain ⟨q36, hq36, hE⟩ := cr_bind hE
      refine cl_vR (nb := 4) (n := 1) (As := [.int 0]) (rest := []) C hP hS (m_X6_count L D ct a r vX.1 vX.2.1 vX.2.2.1 vX.2.2.2.1 vX.2.2.2.2.1 vX.2.2.2.2.2.1 vX.2.2.2.2.2.2.1 vX.2.2.2.2.2.2.2.1 vX.2.2.2.2.2.2.2.2.1 vX.2.2.2.2.2.2.2.2.2 0 q36 hq36) (cwV 1 hts gL_isSo_X6_count rfl rfl rfl (by decide +kernel) ⟨Nat.le_of_ble_eq_true rfl, Nat.le_of_ble_eq_true rfl⟩) [3] [cr_wN ct 17 bg wg, cr_wN ct 52 bl wl, cr_wN ct 12 bc wc, cr_wXt ct a r vX] ⟨rfl, rfl⟩ rfl 3 rfl rfl rfl hl.1 rfl (Nat.le_of_ble_eq_true rfl) dL_isSo_541 ⟨Nat.le_of_ble_eq_true rfl, Nat.le_of_ble_eq_true rfl⟩ (fun H locs hP hS => ?_)
      refine lv_aload_n hx hb dL_isSo_544 rfl (lv_at hl 2 rfl) ?_
      refine lv_bipush (v := 6) hx hb dL_isSo_545 (by decide) ?_
      refine cr_ald C hP 0 (f := wg 0) (k := 6) rfl (by decide) (by decide) dL_isSo_547 ?_
      refine lv_icmp_ne (tgt := 666) hx hb dL_isSo_548 (by decide) (fun c37 => ?_) (fun c37 => ?_)
      · rw [if_neg c37] at hE
        refine lv_iconst (v := 0) hx hb dL_isSo_666 (by decide) ?_
        exact cr_retRz C hS rfl (Option.some.inj hE) dL_isSo_667
      · rw [if_pos c37] at hE
        refine lv_aload_n hx hb dL_isSo_551 rfl (lv_at hl 1 rfl) ?_
        refine lv_iconst (v := 1) hx hb dL_isSo_552 (by decide) ?_
        obtain ⟨q38, hq38, hE⟩ := cr_bind hE
        refine cl_vR (nb := 4) (n := 1) (As := [.int 1]) (rest := []) C hP hS (m_X6_count L D ct a r vX.1 vX.2.1 vX.2.2.1 vX.2.2.2.1 vX.2.2.2.2.1 vX.2.2.2.2.2.1 vX.2.2.2.2.2.2.1 vX.2.2.2.2.2.2.2.1 vX.2.2.2.2.2.2.2.2.1 vX.2.2.2.2.2.2.2.2.2 1 q38 hq38) (cwV 1 hts gL_isSo_X6_count rfl rfl rfl (by decide +kernel) ⟨Nat.le_of_ble_eq_true rfl, Nat.le_of_ble_eq_true rfl⟩) [3] [cr_wN ct 17 bg wg, cr_wN ct 52 bl wl, cr_wN ct 12 bc wc, cr_wXt ct a r vX] ⟨rfl, rfl⟩ rfl 3 rfl rfl rfl hl.1 rfl (Nat.le_of_ble_eq_true rfl) dL_isSo_553 ⟨Nat.le_of_ble_eq_true rfl, Nat.le_of_ble_eq_true rfl⟩ (fun H locs hP hS => ?_)
        refine lv_iload hx hb dL_isSo_556 (lv_at hl 3 rfl) ?_
        refine lv_icmp_ne (tgt := 666) hx hb dL_isSo_558 (by decide) (fun c39 => ?_) (fun c39 => ?_)
        · rw [if_neg c39] at hE
          refine lv_iconst (v := 0) hx hb dL_isSo_666 (by decide) ?_
          exact cr_retRz C hS rfl (Option.some.inj hE) dL_isSo_667
        · rw [if_pos c39] at hE
          refine lv_aload_n hx hb dL_isSo_561 rfl (lv_at hl 1 rfl) ?_
          refine lv_iconst (v := 2) hx hb dL_isSo_562 (by decide) ?_
          obtain ⟨q40, hq40, hE⟩ := cr_bind hE
          refine cl_vR (nb := 4) (n := 1) (As := [.int 2]) (rest := []) C hP hS (m_X6_count L D ct a r vX.1 vX.2.1 vX.2.2.1 vX.2.2.2.1 vX.2.2.2.2.1 vX.2.2.2.2.2.1 vX.2.2.2.2.2.2.1 vX.2.2.2.2.2.2.2.1 vX.2.2.2.2.2.2.2.2.1 vX.2.2.2.2.2.2.2.2.2 2 q40 hq40) (cwV 1 hts gL_isSo_X6_count rfl rfl rfl (by decide +kernel) ⟨Nat.le_of_ble_eq_true rfl, Nat.le_of_ble_eq_true rfl⟩) [3] [cr_wN ct 17 bg wg, cr_wN ct 52 bl wl, cr_wN ct 12 bc wc, cr_wXt ct a r vX] ⟨rfl, rfl⟩ rfl 3 rfl rfl rfl hl.1 rfl (Nat.le_of_ble_eq_true rfl) dL_isSo_563 ⟨Nat.le_of_ble_eq_true rfl, Nat.le_of_ble_eq_true rfl⟩ (fun H locs hP hS => ?_)
          refine lv_aload_n hx hb dL_isSo_566 rfl (lv_at hl 2 rfl) ?_
          refine lv_iconst (v := 0) hx hb dL_isSo_567 (by decide) ?_
          refine cr_ald C hP 0 (f := wg 0) (k := 0) rfl (by decide) (by decide) dL_isSo_568 ?_
          refine lv_icmp_ne (tgt := 666) hx hb dL_isSo_569 (by decide) (fun c41 => ?_) (fun c41 => ?_)
          · rw [if_neg c41] at hE
            refine lv_iconst (v := 0) hx hb dL_isSo_666 (by decide) ?_
            exact cr_retRz C hS rfl (Option.some.inj hE) dL_isSo_667
          · rw [if_pos c41] at hE
            refine lv_aload_n hx hb dL_isSo_572 rfl (lv_at hl 1 rfl) ?_
            refine lv_iconst (v := 3) hx hb dL_isSo_573 (by decide) ?_
            obtain ⟨q42, hq42, hE⟩ := cr_bind hE
            refine cl_vR (nb := 4) (n := 1) (As := [.int 3]) (rest := []) C hP hS (m_X6_count L D ct a r vX.1 vX.2.1 vX.2.2.1 vX.2.2.2.1 vX.2.2.2.2.1 vX.2.2.2.2.2.1 vX.2.2.2.2.2.2.1 vX.2.2.2.2.2.2.2.1 vX.2.2.2.2.2.2.2.2.1 vX.2.2.2.2.2.2.2.2.2 3 q42 hq42) (cwV 1 hts gL_isSo_X6_count rfl rfl rfl (by decide +kernel) ⟨Nat.le_of_ble_eq_true rfl, Nat.le_of_ble_eq_true rfl⟩) [3] [cr_wN ct 17 bg wg, cr_wN ct 52 bl wl, cr_wN ct 12 bc wc, cr_wXt ct a r vX] ⟨rfl, rfl⟩ rfl 3 rfl rfl rfl hl.1 rfl (Nat.le_of_ble_eq_true rfl) dL_isSo_574 ⟨Nat.le_of_ble_eq_true rfl, Nat.le_of_ble_eq_true rfl⟩ (fun H locs hP hS => ?_)
            refine lv_aload_n hx hb dL_isSo_577 rfl (lv_at hl 2 rfl) ?_
            refine lv_bipush (v := 7) hx hb dL_isSo_578 (by decide) ?_
            refine cr_ald C hP 0 (f := wg 0) (k := 7) rfl (by decide) (by decide) dL_isSo_580 ?_
            refine lv_icmp_ne (tgt := 666) hx hb dL_isSo_581 (by decide) (fun c43 => ?_) (fun c43 => ?_)
            · rw [if_neg c43] at hE
              refine lv_iconst (v := 0) hx hb dL_isSo_666 (by decide) ?_
              exact cr_retRz C hS rfl (Option.some.inj hE) dL_isSo_667
            · rw [if_pos c43] at hE
              refine lv_aload_n hx hb dL_isSo_584 rfl (lv_at hl 1 rfl) ?_
              refine lv_iconst (v := 4) hx hb dL_isSo_585 (by decide) ?_
              obtain ⟨q44, hq44, hE⟩ := cr_bind hE
              refine cl_vR (nb := 4) (n := 1) (As := [.int 4]) (rest := []) C hP hS (m_X6_count L D ct a r vX.1 vX.2.1 vX.2.2.1 vX.2.2.2.1 vX.2.2.2.2.1 vX.2.2.2.2.2.1 vX.2.2.2.2.2.2.1 vX.2.2.2.2.2.2.2.1 vX.2.2.2.2.2.2.2.2.1 vX.2.2.2.2.2.2.2.2.2 4 q44 hq44) (cwV 1 hts gL_isSo_X6_count rfl rfl rfl (by decide +kernel) ⟨Nat.le_of_ble_eq_true rfl, Nat.le_of_ble_eq_true rfl⟩) [3] [cr_wN ct 17 bg wg, cr_wN ct 52 bl wl, cr_wN ct 12 bc wc, cr_wXt ct a r vX] ⟨rfl, rfl⟩ rfl 3 rfl rfl rfl hl.1 rfl (Nat.le_of_ble_eq_true rfl) dL_isSo_586 ⟨Nat.le_of_ble_eq_true rfl, Nat.le_of_ble_eq_true rfl⟩ (fun H locs hP hS => ?_)
              refine lv_aload_n hx hb dL_isSo_589 rfl (lv_at hl 2 rfl) ?_
              refine lv_iconst (v := 1) hx hb dL_isSo_590 (by decide) ?_
              refine cr_ald C hP 0 (f := wg 0) (k := 1) rfl (by decide) (by decide) dL_isSo_591 ?_
              refine lv_icmp_ne (tgt := 666) hx hb dL_isSo_592 (by decide) (fun c45 => ?_) (fun c45 => ?_)
              · rw [if_neg c45] at hE
                refine lv_iconst (v := 0) hx hb dL_isSo_666 (by decide) ?_
                exact cr_retRz C hS rfl (Option.some.inj hE) dL_isSo_667
              · rw [if_pos c45] at hE
                refine lv_aload_n hx hb dL_isSo_595 rfl (lv_at hl 1 rfl) ?_
                refine lv_iconst (v := 5) hx hb dL_isSo_596 (by decide) ?_
                obtain ⟨q46, hq46, hE⟩ := cr_bind hE
                refine cl_vR (nb := 4) (n := 1) (As := [.int 5]) (rest := []) C hP hS (m_X6_count L D ct a r vX.1 vX.2.1 vX.2.2.1 vX.2.2.2.1 vX.2.2.2.2.1 vX.2.2.2.2.2.1 vX.2.2.2.2.2.2.1 vX.2.2.2.2.2.2.2.1 vX.2.2.2.2.2.2.2.2.1 vX.2.2.2.2.2.2.2.2.2 5 q46 hq46) (cwV 1 hts gL_isSo_X6_count rfl rfl rfl (by decide +kernel) ⟨Nat.le_of_ble_eq_true rfl, Nat.le_of_ble_eq_true rfl⟩) [3] [cr_wN ct 17 bg wg, cr_wN ct 52 bl wl, cr_wN ct 12 bc wc, cr_wXt ct a r vX] ⟨rfl, rfl⟩ rfl 3 rfl rfl rfl hl.1 rfl (Nat.le_of_ble_eq_true rfl) dL_isSo_597 ⟨Nat.le_of_ble_eq_true rfl, Nat.le_of_ble_eq_true rfl⟩ (fun H locs hP hS => ?_)
                refine lv_aload_n hx hb dL_isSo_600 rfl (lv_at hl 2 rfl) ?_
                refine lv_iconst (v := 2) hx hb dL_isSo_601 (by decide) ?_
                refine cr_ald C hP 0 (f := wg 0) (k := 2) rfl (by decide) (by decide) dL_isSo_602 ?_
                refine lv_icmp_ne (tgt := 666) hx hb dL_isSo_603 (by decide) (fun c47 => ?_) (fun c47 => ?_)
                · rw [if_neg c47] at hE
                  refine lv_iconst (v := 0) hx hb dL_isSo_666 (by decide) ?_
                  exact cr_retRz C hS rfl (Option.some.inj hE) dL_isSo_667
                · rw [if_pos c47] at hE
                  refine lv_aload_n hx hb dL_isSo_606 rfl (lv_at hl 1 rfl) ?_
                  refine lv_bipush (v := 6) hx hb dL_isSo_607 (by decide) ?_
                  obtain ⟨q48, hq48, hE⟩ := cr_bind hE
                  refine cl_vR (nb := 4) (n := 1) (As := [.int 6]) (rest := []) C hP hS (m_X6_count L D ct a r vX.1 vX.2.1 vX.2.2.1 vX.2.2.2.1 vX.2.2.2.2.1 vX.2.2.2.2.2.1 vX.2.2.2.2.2.2.1 vX.2.2.2.2.2.2.2.1 vX.2.2.2.2.2.2.2.2.1 vX.2.2.2.2.2.2.2.2.2 6 q48 hq48) (cwV 1 hts gL_isSo_X6_count rfl rfl rfl (by decide +kernel) ⟨Nat.le_of_ble_eq_true rfl, Nat.le_of_ble_eq_true rfl⟩) [3] [cr_wN ct 17 bg wg, cr_wN ct 52 bl wl, cr_wN ct 12 bc wc, cr_wXt ct a r vX] ⟨rfl, rfl⟩ rfl 3 rfl rfl rfl hl.1 rfl (Nat.le_of_ble_eq_true rfl) dL_isSo_609 ⟨Nat.le_of_ble_eq_true rfl, Nat.le_of_ble_eq_true rfl⟩ (fun H locs hP hS => ?_)
                  refine lv_aload_n hx hb dL_isSo_612 rfl (lv_at hl 2 rfl) ?_
                  refine lv_iconst (v := 3) hx hb dL_isSo_613 (by decide) ?_
                  refine cr_ald C hP 0 (f := wg 0) (k := 3) rfl (by decide) (by decide) dL_isSo_614 ?_
                  refine lv_icmp_ne (tgt := 666) hx hb dL_isSo_615 (by decide) (fun c49 => ?_) (fun c49 => ?_)
                  · rw [if_neg c49] at hE
                    refine lv_iconst (v := 0) hx hb dL_isSo_666 (by decide) ?_
                    exact cr_retRz C hS rfl (Option.some.inj hE) dL_isSo_667
                  · rw [if_pos c49] at hE
                    refine lv_aload_n hx hb dL_isSo_618 rfl (lv_at hl 1 rfl) ?_
                    refine lv_bipush (v := 7) hx hb dL_isSo_619 (by decide) ?_
                    obtain ⟨q50, hq50, hE⟩ := cr_bind hE
                    refine cl_vR (nb := 4) (n := 1) (As := [.int 7]) (rest := []) C hP hS (m_X6_count L D ct a r vX.1 vX.2.1 vX.2.2.1 vX.2.2.2.1 vX.2.2.2.2.1 vX.2.2.2.2.2.1 vX.2.2.2.2.2.2.1 vX.2.2.2.2.2.2.2.1 vX.2.2.2.2.2.2.2.2.1 vX.2.2.2.2.2.2.2.2.2 7 q50 hq50) (cwV 1 hts gL_isSo_X6_count rfl rfl rfl (by decide +kernel) ⟨Nat.le_of_ble_eq_true rfl, Nat.le_of_ble_eq_true rfl⟩) [3] [cr_wN ct 17 bg wg, cr_wN ct 52 bl wl, cr_wN ct 12 bc wc, cr_wXt ct a r vX] ⟨rfl, rfl⟩ rfl 3 rfl rfl rfl hl.1 rfl (Nat.le_of_ble_eq_true rfl) dL_isSo_621 ⟨Nat.le_of_ble_eq_true rfl, Nat.le_of_ble_eq_true rfl⟩ (fun H locs hP hS => ?_)
                    refine lv_aload_n hx hb dL_isSo_624 rfl (lv_at hl 2 rfl) ?_
                    refine lv_iconst (v := 4) hx hb dL_isSo_625 (by decide) ?_
                    refine cr_ald C hP 0 (f := wg 0) (k := 4) rfl (by decide) (by decide) dL_isSo_626 ?_
                    refine lv_icmp_ne (tgt := 666) hx hb dL_isSo_627 (by decide) (fun c51 => ?_) (fun c51 => ?_)
                    · rw [if_neg c51] at hE
                      refine lv_iconst (v := 0) hx hb dL_isSo_666 (by decide) ?_
                      exact cr_retRz C hS rfl (Option.some.inj hE) dL_isSo_667
                    · rw [if_pos c51] at hE
                      refine lv_aload_n hx hb dL_isSo_630 rfl (lv_at hl 1 rfl) ?_
                      refine lv_bipush (v := 8) hx hb dL_isSo_631 (by decide) ?_
                      obtain ⟨q52, hq52, hE⟩ := cr_bind hE
                      refine cl_vR (nb := 4) (n := 1) (As := [.int 8]) (rest := []) C hP hS (m_X6_count L D ct a r vX.1 vX.2.1 vX.2.2.1 vX.2.2.2.1 vX.2.2.2.2.1 vX.2.2.2.2.2.1 vX.2.2.2.2.2.2.1 vX.2.2.2.2.2.2.2.1 vX.2.2.2.2.2.2.2.2.1 vX.2.2.2.2.2.2.2.2.2 8 q52 hq52) (cwV 1 hts gL_isSo_X6_count rfl rfl rfl (by decide +kernel) ⟨Nat.le_of_ble_eq_true rfl, Nat.le_of_ble_eq_true rfl⟩) [3] [cr_wN ct 17 bg wg, cr_wN ct 52 bl wl, cr_wN ct 12 bc wc, cr_wXt ct a r vX] ⟨rfl, rfl⟩ rfl 3 rfl rfl rfl hl.1 rfl (Nat.le_of_ble_eq_true rfl) dL_isSo_633 ⟨Nat.le_of_ble_eq_true rfl, Nat.le_of_ble_eq_true rfl⟩ (fun H locs hP hS => ?_)
                      refine lv_iload hx hb dL_isSo_636 (lv_at hl 4 rfl) ?_
                      refine lv_icmp_ne (tgt := 666) hx hb dL_isSo_638 (by decide) (fun c53 => ?_) (fun c53 => ?_)
                      · rw [if_neg c53] at hE
                        refine lv_iconst (v := 0) hx hb dL_isSo_666 (by decide) ?_
                        exact cr_retRz C hS rfl (Option.some.inj hE) dL_isSo_667
                      · rw [if_pos c53] at hE
                        refine lv_aload_n hx hb dL_isSo_641 rfl (lv_at hl 1 rfl) ?_
                        refine lv_bipush (v := 9) hx hb dL_isSo_642 (by decide) ?_
                        obtain ⟨q54, hq54, hE⟩ := cr_bind hE
                        refine cl_vR (nb := 4) (n := 1) (As := [.int 9]) (rest := []) C hP hS (m_X6_count L D ct a r vX.1 vX.2.1 vX.2.2.1 vX.2.2.2.1 vX.2.2.2.2.1 vX.2.2.2.2.2.1 vX.2.2.2.2.2.2.1 vX.2.2.2.2.2.2.2.1 vX.2.2.2.2.2.2.2.2.1 vX.2.2.2.2.2.2.2.2.2 9 q54 hq54) (cwV 1 hts gL_isSo_X6_count rfl rfl rfl (by decide +kernel) ⟨Nat.le_of_ble_eq_true rfl, Nat.le_of_ble_eq_true rfl⟩) [3] [cr_wN ct 17 bg wg, cr_wN ct 52 bl wl, cr_wN ct 12 bc wc, cr_wXt ct a r vX] ⟨rfl, rfl⟩ rfl 3 rfl rfl rfl hl.1 rfl (Nat.le_of_ble_eq_true rfl) dL_isSo_644 ⟨Nat.le_of_ble_eq_true rfl, Nat.le_of_ble_eq_true rfl⟩ (fun H locs hP hS => ?_)
                        refine lv_aload_n hx hb dL_isSo_647 rfl (lv_at hl 2 rfl) ?_
                        refine lv_iconst (v := 5) hx hb dL_isSo_648 (by decide) ?_
                        refine cr_ald C hP 0 (f := wg 0) (k := 5) rfl (by decide) (by decide) dL_isSo_649 ?_
                        refine lv_icmp_ne (tgt := 666) hx hb dL_isSo_650 (by decide) (fun c55 => ?_) (fun c55 => ?_)
                        · rw [if_neg c55] at hE
                          refine lv_iconst (v := 0) hx hb dL_isSo_666 (by decide) ?_
                          exact cr_retRz C hS rfl (Option.some.inj hE) dL_isSo_667
                        · rw [if_pos c55] at hE
                          refine lv_aload_n hx hb dL_isSo_653 rfl (lv_at hl 1 rfl) ?_
                          refine lv_bipush (v := 11) hx hb dL_isSo_654 (by decide) ?_
                          obtain ⟨q56, hq56, hE⟩ := cr_bind hE
                          refine cl_vR (nb := 4) (n := 1) (As := [.int 11]) (rest := []) C hP hS (m_X6_count L D ct a r vX.1 vX.2.1 vX.2.2.1 vX.2.2.2.1 vX.2.2.2.2.1 vX.2.2.2.2.2.1 vX.2.2.2.2.2.2.1 vX.2.2.2.2.2.2.2.1 vX.2.2.2.2.2.2.2.2.1 vX.2.2.2.2.2.2.2.2.2 11 q56 hq56) (cwV 1 hts gL_isSo_X6_count rfl rfl rfl (by decide +kernel) ⟨Nat.le_of_ble_eq_true rfl, Nat.le_of_ble_eq_true rfl⟩) [3] [cr_wN ct 17 bg wg, cr_wN ct 52 bl wl, cr_wN ct 12 bc wc, cr_wXt ct a r vX] ⟨rfl, rfl⟩ rfl 3 rfl rfl rfl hl.1 rfl (Nat.le_of_ble_eq_true rfl) dL_isSo_656 ⟨Nat.le_of_ble_eq_true rfl, Nat.le_of_ble_eq_true rfl⟩ (fun H locs hP hS => ?_)
                          refine lv_if_ne (tgt := 666) hx hb dL_isSo_659 (by decide) (fun c57 => ?_) (fun c57 => ?_)
                          · rw [if_neg c57] at hE
                            refine lv_iconst (v := 0) hx hb dL_isSo_666 (by decide) ?_
                            exact cr_retRz C hS rfl (Option.some.inj hE) dL_isSo_667
                          · rw [if_pos c57] at hE
                            refine lv_iconst (v := 1) hx hb dL_isSo_662 (by decide) ?_
                            refine lv_goto (tgt := 667) hx hb dL_isSo_663 (by decide) ?_
                            exact cr_retRz C hS rfl (Option.some.inj hE) dL_isSo_667
  have n531 :  ∀ (wg : cr_V) (wl : cr_V) (wc : cr_V) (vX : cr_XT) (x5 : Int32) (x6 : Int32) (hE : f_L_isSo_531  wg wl wc vX x5 x6 = some out) (H : Heap) (locs : List Loc) (ls : Array Slot) (hP : va_P D vwCl (cr_wN ct 17 bg wg ++ (cr_wN ct 52 bl wl ++ (cr_wN ct 12 bc wc ++ cr_wXt ct a r vX))) H) (hS : va_S cr_no s.heap H locs) (hl : lv_has ls 11 [(0, .ref (a 0 0)), (1, .ref (bg 0)), (5, .int x5), (6, .int x6)]), W p L e ({ frames := 4, cells := 0, slots := 0, locals := 88 } : Room) s m args below meth c H locs 0 0 (MQ below (cr_QR (fun r => r = out)) args s 0 0 cr_no) (F0 m 531 ls []) := by
    intro  wg wl wc vX x5 x6 hE H locs ls hP hS hl
    replace hE : (f_L_isSo_532 wg wl wc vX x5 x6 0) = some out := hE
    refine lv_iconst (v := 0) hx hb dL_isSo_531 (by decide) ?_
    exact n532 wg wl wc vX x5 x6 0 hE _ _ _ hP hS (lv_sub hl [0, 1, 2, 3] rfl)
  have n472 :  ∀ (wg : cr_V) (wl : cr_V) (wc : cr_V) (vX : cr_XT) (x4 : Int32) (x5 : Int32) (x6 : Int32) (hE : f_L_isSo_472  wg wl wc vX x4 x5 x6 = some out) (H : Heap) (locs : List Loc) (ls : Array Slot) (hP : va_P D vwCl (cr_wN ct 17 bg wg ++ (cr_wN ct 52 bl wl ++ (cr_wN ct 12 bc wc ++ cr_wXt ct a r vX))) H) (hS : va_S cr_no s.heap H locs) (hl : lv_has ls 11 [(0, .ref (a 0 0)), (1, .ref (bg 0)), (4, .int x4), (5, .int x5), (6, .int x6)]), W p L e ({ frames := 4, cells := 0, slots := 0, locals := 88 } : Room) s m args below meth c H locs 0 0 (MQ below (cr_QR (fun r => r = out)) args s 0 0 cr_no) (F0 m 472 ls []) := by
    intro  wg wl wc vX x4 x5 x6 hE H locs ls hP hS hl
    replace hE : (if x4 = 0 then (f_L_isSo_531 wg wl wc vX x5 x6) else ((f_X6_numberOf vX.1 vX.2.1 vX.2.2.1 vX.2.2.2.1 vX.2.2.2.2.1 vX.2.2.2.2.2.1 vX.2.2.2.2.2.2.1 vX.2.2.2.2.2.2.2.1 vX.2.2.2.2.2.2.2.2.1 vX.2.2.2.2.2.2.2.2.2 (wg 0 6)).bind fun q59 => if q59 = (-2000000004) then ((f_X6_numberOf vX.1 vX.2.1 vX.2.2.1 vX.2.2.2.1 vX.2.2.2.2.1 vX.2.2.2.2.2.1 vX.2.2.2.2.2.2.1 vX.2.2.2.2.2.2.2.1 vX.2.2.2.2.2.2.2.2.1 vX.2.2.2.2.2.2.2.2.2 (-1)).bind fun q61 => if q61 = (-2000000001) then ((f_X6_lotOf vX.1 vX.2.1 vX.2.2.1 vX.2.2.2.1 vX.2.2.2.2.1 vX.2.2.2.2.2.1 vX.2.2.2.2.2.2.1 vX.2.2.2.2.2.2.2.1 vX.2.2.2.2.2.2.2.2.1 vX.2.2.2.2.2.2.2.2.2 (wg 0 5) 0).bind fun q63 => if q63 = (-2000000001) then ((f_X6_contractOf vX.1 vX.2.1 vX.2.2.1 vX.2.2.2.1 vX.2.2.2.2.1 vX.2.2.2.2.2.1 vX.2.2.2.2.2.2.1 vX.2.2.2.2.2.2.2.1 vX.2.2.2.2.2.2.2.2.1 vX.2.2.2.2.2.2.2.2.2 (wg 0 7) 0).bind fun q65 => if q65 = (-2000000001) then (f_L_isSo_532 wg wl wc vX x5 x6 1) else (f_L_isSo_531 wg wl wc vX x5 x6)) else (f_L_isSo_531 wg wl wc vX x5 x6)) else (f_L_isSo_531 wg wl wc vX x5 x6)) else (f_L_isSo_531 wg wl wc vX x5 x6))) = some out := hE
    refine lv_iload hx hb dL_isSo_472 (lv_at hl 2 rfl) ?_
    refine lv_if_eq (tgt := 531) hx hb dL_isSo_474 (by decide) (fun c58 => ?_) (fun c58 => ?_)
    · rw [if_pos c58] at hE
      exact n531 wg wl wc vX x5 x6 hE _ _ _ hP hS (lv_sub hl [0, 1, 3, 4] rfl)
    · rw [if_neg c58] at hE
      refine lv_aload_n hx hb dL_isSo_477 rfl (lv_at hl 0 rfl) ?_
      refine lv_aload_n hx hb dL_isSo_478 rfl (lv_at hl 1 rfl) ?_
      refine lv_bipush (v := 6) hx hb dL_isSo_479 (by decide) ?_
      refine cr_ald C hP 0 (f := wg 0) (k := 6) rfl (by decide) (by decide) dL_isSo_481 ?_
      obtain ⟨q59, hq59, hE⟩ := cr_bind hE
      refine cl_vR (nb := 4) (n := 1) (As := [.int (wg 0 6)]) (rest := []) C hP hS (m_X6_numberOf L D ct a r vX.1 vX.2.1 vX.2.2.1 vX.2.2.2.1 vX.2.2.2.2.1 vX.2.2.2.2.2.1 vX.2.2.2.2.2.2.1 vX.2.2.2.2.2.2.2.1 vX.2.2.2.2.2.2.2.2.1 vX.2.2.2.2.2.2.2.2.2 (wg 0 6) q59 hq59) (cwV 1 hts gL_isSo_X6_numberOf rfl rfl rfl (by decide +kernel) ⟨Nat.le_of_ble_eq_true rfl, Nat.le_of_ble_eq_true rfl⟩) [3] [cr_wN ct 17 bg wg, cr_wN ct 52 bl wl, cr_wN ct 12 bc wc, cr_wXt ct a r vX] ⟨rfl, rfl⟩ rfl 3 rfl rfl rfl hl.1 rfl (Nat.le_of_ble_eq_true rfl) dL_isSo_482 ⟨Nat.le_of_ble_eq_true rfl, Nat.le_of_ble_eq_true rfl⟩ (fun H locs hP hS => ?_)
      refine cr_ldc C k1 dL_isSo_485 ?_
      refine lv_icmp_ne (tgt := 531) hx hb dL_isSo_487 (by decide) (fun c60 => ?_) (fun c60 => ?_)
      · rw [if_neg c60] at hE
        exact n531 wg wl wc vX x5 x6 hE _ _ _ hP hS (lv_sub hl [0, 1, 3, 4] rfl)
      · rw [if_pos c60] at hE
        refine lv_aload_n hx hb dL_isSo_490 rfl (lv_at hl 0 rfl) ?_
        refine lv_iconst (v := (-1)) hx hb dL_isSo_491 (by decide) ?_
        obtain ⟨q61, hq61, hE⟩ := cr_bind hE
        refine cl_vR (nb := 4) (n := 1) (As := [.int (-1)]) (rest := []) C hP hS (m_X6_numberOf L D ct a r vX.1 vX.2.1 vX.2.2.1 vX.2.2.2.1 vX.2.2.2.2.1 vX.2.2.2.2.2.1 vX.2.2.2.2.2.2.1 vX.2.2.2.2.2.2.2.1 vX.2.2.2.2.2.2.2.2.1 vX.2.2.2.2.2.2.2.2.2 (-1) q61 hq61) (cwV 1 hts gL_isSo_X6_numberOf rfl rfl rfl (by decide +kernel) ⟨Nat.le_of_ble_eq_true rfl, Nat.le_of_ble_eq_true rfl⟩) [3] [cr_wN ct 17 bg wg, cr_wN ct 52 bl wl, cr_wN ct 12 bc wc, cr_wXt ct a r vX] ⟨rfl, rfl⟩ rfl 3 rfl rfl rfl hl.1 rfl (Nat.le_of_ble_eq_true rfl) dL_isSo_492 ⟨Nat.le_of_ble_eq_true rfl, Nat.le_of_ble_eq_true rfl⟩ (fun H locs hP hS => ?_)
        refine cr_ldc C k0 dL_isSo_495 ?_
        refine lv_icmp_ne (tgt := 531) hx hb dL_isSo_497 (by decide) (fun c62 => ?_) (fun c62 => ?_)
        · rw [if_neg c62] at hE
          exact n531 wg wl wc vX x5 x6 hE _ _ _ hP hS (lv_sub hl [0, 1, 3, 4] rfl)
        · rw [if_pos c62] at hE
          refine lv_aload_n hx hb dL_isSo_500 rfl (lv_at hl 0 rfl) ?_
          refine lv_aload_n hx hb dL_isSo_501 rfl (lv_at hl 1 rfl) ?_
          refine lv_iconst (v := 5) hx hb dL_isSo_502 (by decide) ?_
          refine cr_ald C hP 0 (f := wg 0) (k := 5) rfl (by decide) (by decide) dL_isSo_503 ?_
          refine lv_iconst (v := 0) hx hb dL_isSo_504 (by decide) ?_
          obtain ⟨q63, hq63, hE⟩ := cr_bind hE
          refine cl_vR (nb := 4) (n := 2) (As := [.int (wg 0 5), .int 0]) (rest := []) C hP hS (m_X6_lotOf L D ct a r vX.1 vX.2.1 vX.2.2.1 vX.2.2.2.1 vX.2.2.2.2.1 vX.2.2.2.2.2.1 vX.2.2.2.2.2.2.1 vX.2.2.2.2.2.2.2.1 vX.2.2.2.2.2.2.2.2.1 vX.2.2.2.2.2.2.2.2.2 (wg 0 5) 0 q63 hq63) (cwV 2 hts gL_isSo_X6_lotOf rfl rfl rfl (by decide +kernel) ⟨Nat.le_of_ble_eq_true rfl, Nat.le_of_ble_eq_true rfl⟩) [3] [cr_wN ct 17 bg wg, cr_wN ct 52 bl wl, cr_wN ct 12 bc wc, cr_wXt ct a r vX] ⟨rfl, rfl⟩ rfl 3 rfl rfl rfl hl.1 rfl (Nat.le_of_ble_eq_true rfl) dL_isSo_505 ⟨Nat.le_of_ble_eq_true rfl, Nat.le_of_ble_eq_true rfl⟩ (fun H locs hP hS => ?_)
          refine cr_ldc C k0 dL_isSo_508 ?_
          refine lv_icmp_ne (tgt := 531) hx hb dL_isSo_510 (by decide) (fun c64 => ?_) (fun c64 => ?_)
          · rw [if_neg c64] at hE
            exact n531 wg wl wc vX x5 x6 hE _ _ _ hP hS (lv_sub hl [0, 1, 3, 4] rfl)
          · rw [if_pos c64] at hE
            refine lv_aload_n hx hb dL_isSo_513 rfl (lv_at hl 0 rfl) ?_
            refine lv_aload_n hx hb dL_isSo_514 rfl (lv_at hl 1 rfl) ?_
            refine lv_bipush (v := 7) hx hb dL_isSo_515 (by decide) ?_
            refine cr_ald C hP 0 (f := wg 0) (k := 7) rfl (by decide) (by decide) dL_isSo_517 ?_
            refine lv_iconst (v := 0) hx hb dL_isSo_518 (by decide) ?_
            obtain ⟨q65, hq65, hE⟩ := cr_bind hE
            refine cl_vR (nb := 4) (n := 2) (As := [.int (wg 0 7), .int 0]) (rest := []) C hP hS (m_X6_contractOf L D ct a r vX.1 vX.2.1 vX.2.2.1 vX.2.2.2.1 vX.2.2.2.2.1 vX.2.2.2.2.2.1 vX.2.2.2.2.2.2.1 vX.2.2.2.2.2.2.2.1 vX.2.2.2.2.2.2.2.2.1 vX.2.2.2.2.2.2.2.2.2 (wg 0 7) 0 q65 hq65) (cwV 2 hts gL_isSo_X6_contractOf rfl rfl rfl (by decide +kernel) ⟨Nat.le_of_ble_eq_true rfl, Nat.le_of_ble_eq_true rfl⟩) [3] [cr_wN ct 17 bg wg, cr_wN ct 52 bl wl, cr_wN ct 12 bc wc, cr_wXt ct a r vX] ⟨rfl, rfl⟩ rfl 3 rfl rfl rfl hl.1 rfl (Nat.le_of_ble_eq_true rfl) dL_isSo_519 ⟨Nat.le_of_ble_eq_true rfl, Nat.le_of_ble_eq_true rfl⟩ (fun H locs hP hS => ?_)
            refine cr_ldc C k0 dL_isSo_522 ?_
            refine lv_icmp_ne (tgt := 531) hx hb dL_isSo_524 (by decide) (fun c66 => ?_) (fun c66 => ?_)
            · rw [if_neg c66] at hE
              exact n531 wg wl wc vX x5 x6 hE _ _ _ hP hS (lv_sub hl [0, 1, 3, 4] rfl)
            · rw [if_pos c66] at hE
              refine lv_iconst (v := 1) hx hb dL_isSo_527 (by decide) ?_
              refine lv_goto (tgt := 532) hx hb dL_isSo_528 (by decide) ?_
              exact n532 wg wl wc vX x5 x6 1 hE _ _ _ hP hS (lv_sub hl [0, 1, 3, 4] rfl)
  have n429 :  ∀ (n : Nat), ∀ (wg : cr_V) (wl : cr_V) (wc : cr_V) (vX : cr_XT) (x4 : Int32) (x5 : Int32) (x6 : Int32) (x7 : Int32) (hE : f_L_isSo_429  n wg wl wc vX x4 x5 x6 x7 = some out) (H : Heap) (locs : List Loc) (ls : Array Slot) (hP : va_P D vwCl (cr_wN ct 17 bg wg ++ (cr_wN ct 52 bl wl ++ (cr_wN ct 12 bc wc ++ cr_wXt ct a r vX))) H) (hS : va_S cr_no s.heap H locs) (hl : lv_has ls 11 [(0, .ref (a 0 0)), (1, .ref (bg 0)), (4, .int x4), (5, .int x5), (6, .int x6), (7, .int x7)]), W p L e ({ frames := 4, cells := 0, slots := 0, locals := 88 } : Room) s m args below meth c H locs 0 0 (MQ below (cr_QR (fun r => r = out)) args s 0 0 cr_no) (F0 m 429 ls []) := by
    intro  n
    induction n with
    | zero =>
      intro wg wl wc vX x4 x5 x6 x7 hE
      cases hE
    | succ n ih =>
      intro wg wl wc vX x4 x5 x6 x7 hE H locs ls hP hS hl
      replace hE : (if 5 ≤ x7 then (f_L_isSo_472 wg wl wc vX x4 x5 x6) else (if x4 = 0 then (f_L_isSo_472 wg wl wc vX x4 x5 x6) else ((f_X6_count vX.1 vX.2.1 vX.2.2.1 vX.2.2.2.1 vX.2.2.2.2.1 vX.2.2.2.2.2.1 vX.2.2.2.2.2.2.1 vX.2.2.2.2.2.2.2.1 vX.2.2.2.2.2.2.2.2.1 vX.2.2.2.2.2.2.2.2.2 (20 + x7)).bind fun q69 => if cr_in (8 + x7) 17 = true then if q69 = (wg 0 (cr_x (8 + x7))) then (f_L_isSo_464 (f_L_isSo_429 n) wg wl wc vX x5 x6 x7 1) else (f_L_isSo_464 (f_L_isSo_429 n) wg wl wc vX x5 x6 x7 0) else none))) = some out := hE
      refine lv_iload hx hb dL_isSo_429 (lv_at hl 5 rfl) ?_
      refine lv_iconst (v := 5) hx hb dL_isSo_431 (by decide) ?_
      refine lv_icmp_ge (tgt := 472) hx hb dL_isSo_432 (by decide) (fun c67 => ?_) (fun c67 => ?_)
      · rw [if_pos c67] at hE
        exact n472 wg wl wc vX x4 x5 x6 hE _ _ _ hP hS (lv_sub hl [0, 1, 2, 3, 4] rfl)
      · rw [if_neg c67] at hE
        refine lv_iload hx hb dL_isSo_435 (lv_at hl 2 rfl) ?_
        refine lv_if_eq (tgt := 472) hx hb dL_isSo_437 (by decide) (fun c68 => ?_) (fun c68 => ?_)
        · rw [if_pos c68] at hE
          exact n472 wg wl wc vX x4 x5 x6 hE _ _ _ hP hS (lv_sub hl [0, 1, 2, 3, 4] rfl)
        · rw [if_neg c68] at hE
          refine lv_aload_n hx hb dL_isSo_440 rfl (lv_at hl 0 rfl) ?_
          refine lv_bipush (v := 20) hx hb dL_isSo_441 (by decide) ?_
          refine lv_iload hx hb dL_isSo_443 (lv_at hl 5 rfl) ?_
          refine lv_iadd hx hb dL_isSo_445 ?_
          obtain ⟨q69, hq69, hE⟩ := cr_bind hE
          refine cl_vR (nb := 4) (n := 1) (As := [.int (20 + x7)]) (rest := []) C hP hS (m_X6_count L D ct a r vX.1 vX.2.1 vX.2.2.1 vX.2.2.2.1 vX.2.2.2.2.1 vX.2.2.2.2.2.1 vX.2.2.2.2.2.2.1 vX.2.2.2.2.2.2.2.1 vX.2.2.2.2.2.2.2.2.1 vX.2.2.2.2.2.2.2.2.2 (20 + x7) q69 hq69) (cwV 1 hts gL_isSo_X6_count rfl rfl rfl (by decide +kernel) ⟨Nat.le_of_ble_eq_true rfl, Nat.le_of_ble_eq_true rfl⟩) [3] [cr_wN ct 17 bg wg, cr_wN ct 52 bl wl, cr_wN ct 12 bc wc, cr_wXt ct a r vX] ⟨rfl, rfl⟩ rfl 3 rfl rfl rfl hl.1 rfl (Nat.le_of_ble_eq_true rfl) dL_isSo_446 ⟨Nat.le_of_ble_eq_true rfl, Nat.le_of_ble_eq_true rfl⟩ (fun H locs hP hS => ?_)
          refine lv_aload_n hx hb dL_isSo_449 rfl (lv_at hl 1 rfl) ?_
          refine lv_bipush (v := 8) hx hb dL_isSo_450 (by decide) ?_
          refine lv_iload hx hb dL_isSo_452 (lv_at hl 5 rfl) ?_
          refine lv_iadd hx hb dL_isSo_454 ?_
          obtain ⟨i70, hE⟩ := cr_ifn hE
          refine cr_ald C hP 0 (f := wg 0) (k := cr_x (8 + x7)) rfl i70 (cr_xe _) dL_isSo_455 ?_
          refine lv_icmp_ne (tgt := 463) hx hb dL_isSo_456 (by decide) (fun c71 => ?_) (fun c71 => ?_)
          · rw [if_neg c71] at hE
            refine lv_iconst (v := 0) hx hb dL_isSo_463 (by decide) ?_
            exact n464 (f_L_isSo_429 n) ih wg wl wc vX x5 x6 x7 0 hE _ _ _ hP hS (lv_sub hl [0, 1, 3, 4, 5] rfl)
          · rw [if_pos c71] at hE
            refine lv_iconst (v := 1) hx hb dL_isSo_459 (by decide) ?_
            refine lv_goto (tgt := 464) hx hb dL_isSo_460 (by decide) ?_
            exact n464 (f_L_isSo_429 n) ih wg wl wc vX x5 x6 x7 1 hE _ _ _ hP hS (lv_sub hl [0, 1, 3, 4, 5] rfl)
  have n426 :  ∀ (wg : cr_V) (wl : cr_V) (wc : cr_V) (vX : cr_XT) (x4 : Int32) (x5 : Int32) (x6 : Int32) (hE : f_L_isSo_426  wg wl wc vX x4 x5 x6 = some out) (H : Heap) (locs : List Loc) (ls : Array Slot) (hP : va_P D vwCl (cr_wN ct 17 bg wg ++ (cr_wN ct 52 bl wl ++ (cr_wN ct 12 bc wc ++ cr_wXt ct a r vX))) H) (hS : va_S cr_no s.heap H locs) (hl : lv_has ls 11 [(0, .ref (a 0 0)), (1, .ref (bg 0)), (4, .int x4), (5, .int x5), (6, .int x6)]), W p L e ({ frames := 4, cells := 0, slots := 0, locals := 88 } : Room) s m args below meth c H locs 0 0 (MQ below (cr_QR (fun r => r = out)) args s 0 0 cr_no) (F0 m 426 ls []) := by
    intro  wg wl wc vX x4 x5 x6 hE H locs ls hP hS hl
    replace hE : (f_L_isSo_429 10100 wg wl wc vX x4 x5 x6 0) = some out := hE
    refine lv_iconst (v := 0) hx hb dL_isSo_426 (by decide) ?_
    refine lv_istore (lv' := [(7, .int 0), (0, .ref (a 0 0)), (1, .ref (bg 0)), (4, .int x4), (5, .int x5), (6, .int x6)]) hx hb dL_isSo_427 hl (by decide) rfl (fun ls hl => ?_)
    exact n429 10100 wg wl wc vX x4 x5 x6 0 hE _ _ _ hP hS (lv_sub hl [1, 2, 3, 4, 5, 0] rfl)
  have n319 :  ∀ (n : Nat), ∀ (wg : cr_V) (wl : cr_V) (wc : cr_V) (vX : cr_XT) (x4 : Int32) (x5 : Int32) (x6 : Int32) (x7 : Int32) (hE : f_L_isSo_319  n wg wl wc vX x4 x5 x6 x7 = some out) (H : Heap) (locs : List Loc) (ls : Array Slot) (hP : va_P D vwCl (cr_wN ct 17 bg wg ++ (cr_wN ct 52 bl wl ++ (cr_wN ct 12 bc wc ++ cr_wXt ct a r vX))) H) (hS : va_S cr_no s.heap H locs) (hl : lv_has ls 11 [(0, .ref (a 0 0)), (1, .ref (bg 0)), (3, .ref (bc 0)), (4, .int x4), (5, .int x5), (6, .int x6), (7, .int x7)]), W p L e ({ frames := 4, cells := 0, slots := 0, locals := 88 } : Room) s m args below meth c H locs 0 0 (MQ below (cr_QR (fun r => r = out)) args s 0 0 cr_no) (F0 m 319 ls []) := by
    intro  n
    induction n with
    | zero =>
      intro wg wl wc vX x4 x5 x6 x7 hE
      cases hE
    | succ n ih =>
      intro wg wl wc vX x4 x5 x6 x7 hE H locs ls hP hS hl
      replace hE : (if (wg 0 7) ≤ x7 then (f_L_isSo_426 wg wl wc vX x4 x5 x6) else (if x4 = 0 then (f_L_isSo_426 wg wl wc vX x4 x5 x6) else ((f_X6_contractOf vX.1 vX.2.1 vX.2.2.1 vX.2.2.2.1 vX.2.2.2.2.1 vX.2.2.2.2.2.1 vX.2.2.2.2.2.2.1 vX.2.2.2.2.2.2.2.1 vX.2.2.2.2.2.2.2.2.1 vX.2.2.2.2.2.2.2.2.2 x7 0).bind fun q74 => if cr_in (2 * x7) 12 = true then if q74 = (wc 0 (cr_x (2 * x7))) then ((f_X6_contractOf vX.1 vX.2.1 vX.2.2.1 vX.2.2.2.1 vX.2.2.2.2.1 vX.2.2.2.2.2.1 vX.2.2.2.2.2.2.1 vX.2.2.2.2.2.2.2.1 vX.2.2.2.2.2.2.2.2.1 vX.2.2.2.2.2.2.2.2.2 x7 1).bind fun q77 => if cr_in ((2 * x7) + 1) 12 = true then if q77 = (wc 0 (cr_x ((2 * x7) + 1))) then ((f_X6_contractOf vX.1 vX.2.1 vX.2.2.1 vX.2.2.2.1 vX.2.2.2.2.1 vX.2.2.2.2.2.1 vX.2.2.2.2.2.2.1 vX.2.2.2.2.2.2.2.1 vX.2.2.2.2.2.2.2.2.1 vX.2.2.2.2.2.2.2.2.2 x7 2).bind fun q80 => if q80 = ((wc 0 (cr_x (2 * x7))) - (wg 0 0)) then ((f_X6_contractOf vX.1 vX.2.1 vX.2.2.1 vX.2.2.2.1 vX.2.2.2.2.1 vX.2.2.2.2.2.1 vX.2.2.2.2.2.2.1 vX.2.2.2.2.2.2.2.1 vX.2.2.2.2.2.2.2.2.1 vX.2.2.2.2.2.2.2.2.2 x7 3).bind fun q82 => if q82 = (-2000000001) then ((f_X6_count vX.1 vX.2.1 vX.2.2.1 vX.2.2.2.1 vX.2.2.2.2.1 vX.2.2.2.2.2.1 vX.2.2.2.2.2.2.1 vX.2.2.2.2.2.2.2.1 vX.2.2.2.2.2.2.2.2.1 vX.2.2.2.2.2.2.2.2.2 2).bind fun q84 => if (wc 0 (cr_x (2 * x7))) < q84 then (f_L_isSo_417 (f_L_isSo_319 n) wg wl wc vX x5 x6 x7) else (f_L_isSo_418 (f_L_isSo_319 n) wg wl wc vX x5 x6 x7 1)) else (f_L_isSo_417 (f_L_isSo_319 n) wg wl wc vX x5 x6 x7)) else (f_L_isSo_417 (f_L_isSo_319 n) wg wl wc vX x5 x6 x7)) else (f_L_isSo_417 (f_L_isSo_319 n) wg wl wc vX x5 x6 x7) else none) else (f_L_isSo_417 (f_L_isSo_319 n) wg wl wc vX x5 x6 x7) else none))) = some out := hE
      refine lv_iload hx hb dL_isSo_319 (lv_at hl 6 rfl) ?_
      refine lv_aload_n hx hb dL_isSo_321 rfl (lv_at hl 1 rfl) ?_
      refine lv_bipush (v := 7) hx hb dL_isSo_322 (by decide) ?_
      refine cr_ald C hP 0 (f := wg 0) (k := 7) rfl (by decide) (by decide) dL_isSo_324 ?_
      refine lv_icmp_ge (tgt := 426) hx hb dL_isSo_325 (by decide) (fun c72 => ?_) (fun c72 => ?_)
      · rw [if_pos c72] at hE
        exact n426 wg wl wc vX x4 x5 x6 hE _ _ _ hP hS (lv_sub hl [0, 1, 3, 4, 5] rfl)
      · rw [if_neg c72] at hE
        refine lv_iload hx hb dL_isSo_328 (lv_at hl 3 rfl) ?_
        refine lv_if_eq (tgt := 426) hx hb dL_isSo_330 (by decide) (fun c73 => ?_) (fun c73 => ?_)
        · rw [if_pos c73] at hE
          exact n426 wg wl wc vX x4 x5 x6 hE _ _ _ hP hS (lv_sub hl [0, 1, 3, 4, 5] rfl)
        · rw [if_neg c73] at hE
          refine lv_aload_n hx hb dL_isSo_333 rfl (lv_at hl 0 rfl) ?_
          refine lv_iload hx hb dL_isSo_334 (lv_at hl 6 rfl) ?_
          refine lv_iconst (v := 0) hx hb dL_isSo_336 (by decide) ?_
          obtain ⟨q74, hq74, hE⟩ := cr_bind hE
          refine cl_vR (nb := 4) (n := 2) (As := [.int x7, .int 0]) (rest := []) C hP hS (m_X6_contractOf L D ct a r vX.1 vX.2.1 vX.2.2.1 vX.2.2.2.1 vX.2.2.2.2.1 vX.2.2.2.2.2.1 vX.2.2.2.2.2.2.1 vX.2.2.2.2.2.2.2.1 vX.2.2.2.2.2.2.2.2.1 vX.2.2.2.2.2.2.2.2.2 x7 0 q74 hq74) (cwV 2 hts gL_isSo_X6_contractOf rfl rfl rfl (by decide +kernel) ⟨Nat.le_of_ble_eq_true rfl, Nat.le_of_ble_eq_true rfl⟩) [3] [cr_wN ct 17 bg wg, cr_wN ct 52 bl wl, cr_wN ct 12 bc wc, cr_wXt ct a r vX] ⟨rfl, rfl⟩ rfl 3 rfl rfl rfl hl.1 rfl (Nat.le_of_ble_eq_true rfl) dL_isSo_337 ⟨Nat.le_of_ble_eq_true rfl, Nat.le_of_ble_eq_true rfl⟩ (fun H locs hP hS => ?_)
          refine lv_aload_n hx hb dL_isSo_340 rfl (lv_at hl 2 rfl) ?_
          refine lv_iconst (v := 2) hx hb dL_isSo_341 (by decide) ?_
          refine lv_iload hx hb dL_isSo_342 (lv_at hl 6 rfl) ?_
          refine lv_imul hx hb dL_isSo_344 ?_
          obtain ⟨i75, hE⟩ := cr_ifn hE
          refine cr_ald C hP 2 (f := wc 0) (k := cr_x (2 * x7)) rfl i75 (cr_xe _) dL_isSo_345 ?_
          refine lv_icmp_ne (tgt := 417) hx hb dL_isSo_346 (by decide) (fun c76 => ?_) (fun c76 => ?_)
          · rw [if_neg c76] at hE
            exact n417 (f_L_isSo_319 n) ih wg wl wc vX x5 x6 x7 hE _ _ _ hP hS (lv_sub hl [0, 1, 2, 4, 5, 6] rfl)
          · rw [if_pos c76] at hE
            refine lv_aload_n hx hb dL_isSo_349 rfl (lv_at hl 0 rfl) ?_
            refine lv_iload hx hb dL_isSo_350 (lv_at hl 6 rfl) ?_
            refine lv_iconst (v := 1) hx hb dL_isSo_352 (by decide) ?_
            obtain ⟨q77, hq77, hE⟩ := cr_bind hE
            refine cl_vR (nb := 4) (n := 2) (As := [.int x7, .int 1]) (rest := []) C hP hS (m_X6_contractOf L D ct a r vX.1 vX.2.1 vX.2.2.1 vX.2.2.2.1 vX.2.2.2.2.1 vX.2.2.2.2.2.1 vX.2.2.2.2.2.2.1 vX.2.2.2.2.2.2.2.1 vX.2.2.2.2.2.2.2.2.1 vX.2.2.2.2.2.2.2.2.2 x7 1 q77 hq77) (cwV 2 hts gL_isSo_X6_contractOf rfl rfl rfl (by decide +kernel) ⟨Nat.le_of_ble_eq_true rfl, Nat.le_of_ble_eq_true rfl⟩) [3] [cr_wN ct 17 bg wg, cr_wN ct 52 bl wl, cr_wN ct 12 bc wc, cr_wXt ct a r vX] ⟨rfl, rfl⟩ rfl 3 rfl rfl rfl hl.1 rfl (Nat.le_of_ble_eq_true rfl) dL_isSo_353 ⟨Nat.le_of_ble_eq_true rfl, Nat.le_of_ble_eq_true rfl⟩ (fun H locs hP hS => ?_)
            refine lv_aload_n hx hb dL_isSo_356 rfl (lv_at hl 2 rfl) ?_
            refine lv_iconst (v := 2) hx hb dL_isSo_357 (by decide) ?_
            refine lv_iload hx hb dL_isSo_358 (lv_at hl 6 rfl) ?_
            refine lv_imul hx hb dL_isSo_360 ?_
            refine lv_iconst (v := 1) hx hb dL_isSo_361 (by decide) ?_
            refine lv_iadd hx hb dL_isSo_362 ?_
            obtain ⟨i78, hE⟩ := cr_ifn hE
            refine cr_ald C hP 2 (f := wc 0) (k := cr_x ((2 * x7) + 1)) rfl i78 (cr_xe _) dL_isSo_363 ?_
            refine lv_icmp_ne (tgt := 417) hx hb dL_isSo_364 (by decide) (fun c79 => ?_) (fun c79 => ?_)
            · rw [if_neg c79] at hE
              exact n417 (f_L_isSo_319 n) ih wg wl wc vX x5 x6 x7 hE _ _ _ hP hS (lv_sub hl [0, 1, 2, 4, 5, 6] rfl)
            · rw [if_pos c79] at hE
              refine lv_aload_n hx hb dL_isSo_367 rfl (lv_at hl 0 rfl) ?_
              refine lv_iload hx hb dL_isSo_368 (lv_at hl 6 rfl) ?_
              refine lv_iconst (v := 2) hx hb dL_isSo_370 (by decide) ?_
              obtain ⟨q80, hq80, hE⟩ := cr_bind hE
              refine cl_vR (nb := 4) (n := 2) (As := [.int x7, .int 2]) (rest := []) C hP hS (m_X6_contractOf L D ct a r vX.1 vX.2.1 vX.2.2.1 vX.2.2.2.1 vX.2.2.2.2.1 vX.2.2.2.2.2.1 vX.2.2.2.2.2.2.1 vX.2.2.2.2.2.2.2.1 vX.2.2.2.2.2.2.2.2.1 vX.2.2.2.2.2.2.2.2.2 x7 2 q80 hq80) (cwV 2 hts gL_isSo_X6_contractOf rfl rfl rfl (by decide +kernel) ⟨Nat.le_of_ble_eq_true rfl, Nat.le_of_ble_eq_true rfl⟩) [3] [cr_wN ct 17 bg wg, cr_wN ct 52 bl wl, cr_wN ct 12 bc wc, cr_wXt ct a r vX] ⟨rfl, rfl⟩ rfl 3 rfl rfl rfl hl.1 rfl (Nat.le_of_ble_eq_true rfl) dL_isSo_371 ⟨Nat.le_of_ble_eq_true rfl, Nat.le_of_ble_eq_true rfl⟩ (fun H locs hP hS => ?_)
              refine lv_aload_n hx hb dL_isSo_374 rfl (lv_at hl 2 rfl) ?_
              refine lv_iconst (v := 2) hx hb dL_isSo_375 (by decide) ?_
              refine lv_iload hx hb dL_isSo_376 (lv_at hl 6 rfl) ?_
              refine lv_imul hx hb dL_isSo_378 ?_
              refine cr_ald C hP 2 (f := wc 0) (k := cr_x (2 * x7)) rfl i75 (cr_xe _) dL_isSo_379 ?_
              refine lv_aload_n hx hb dL_isSo_380 rfl (lv_at hl 1 rfl) ?_
              refine lv_iconst (v := 0) hx hb dL_isSo_381 (by decide) ?_
              refine cr_ald C hP 0 (f := wg 0) (k := 0) rfl (by decide) (by decide) dL_isSo_382 ?_
              refine lv_isub hx hb dL_isSo_383 ?_
              refine lv_icmp_ne (tgt := 417) hx hb dL_isSo_384 (by decide) (fun c81 => ?_) (fun c81 => ?_)
              · rw [if_neg c81] at hE
                exact n417 (f_L_isSo_319 n) ih wg wl wc vX x5 x6 x7 hE _ _ _ hP hS (lv_sub hl [0, 1, 2, 4, 5, 6] rfl)
              · rw [if_pos c81] at hE
                refine lv_aload_n hx hb dL_isSo_387 rfl (lv_at hl 0 rfl) ?_
                refine lv_iload hx hb dL_isSo_388 (lv_at hl 6 rfl) ?_
                refine lv_iconst (v := 3) hx hb dL_isSo_390 (by decide) ?_
                obtain ⟨q82, hq82, hE⟩ := cr_bind hE
                refine cl_vR (nb := 4) (n := 2) (As := [.int x7, .int 3]) (rest := []) C hP hS (m_X6_contractOf L D ct a r vX.1 vX.2.1 vX.2.2.1 vX.2.2.2.1 vX.2.2.2.2.1 vX.2.2.2.2.2.1 vX.2.2.2.2.2.2.1 vX.2.2.2.2.2.2.2.1 vX.2.2.2.2.2.2.2.2.1 vX.2.2.2.2.2.2.2.2.2 x7 3 q82 hq82) (cwV 2 hts gL_isSo_X6_contractOf rfl rfl rfl (by decide +kernel) ⟨Nat.le_of_ble_eq_true rfl, Nat.le_of_ble_eq_true rfl⟩) [3] [cr_wN ct 17 bg wg, cr_wN ct 52 bl wl, cr_wN ct 12 bc wc, cr_wXt ct a r vX] ⟨rfl, rfl⟩ rfl 3 rfl rfl rfl hl.1 rfl (Nat.le_of_ble_eq_true rfl) dL_isSo_391 ⟨Nat.le_of_ble_eq_true rfl, Nat.le_of_ble_eq_true rfl⟩ (fun H locs hP hS => ?_)
                refine cr_ldc C k0 dL_isSo_394 ?_
                refine lv_icmp_ne (tgt := 417) hx hb dL_isSo_396 (by decide) (fun c83 => ?_) (fun c83 => ?_)
                · rw [if_neg c83] at hE
                  exact n417 (f_L_isSo_319 n) ih wg wl wc vX x5 x6 x7 hE _ _ _ hP hS (lv_sub hl [0, 1, 2, 4, 5, 6] rfl)
                · rw [if_pos c83] at hE
                  refine lv_aload_n hx hb dL_isSo_399 rfl (lv_at hl 2 rfl) ?_
                  refine lv_iconst (v := 2) hx hb dL_isSo_400 (by decide) ?_
                  refine lv_iload hx hb dL_isSo_401 (lv_at hl 6 rfl) ?_
                  refine lv_imul hx hb dL_isSo_403 ?_
                  refine cr_ald C hP 2 (f := wc 0) (k := cr_x (2 * x7)) rfl i75 (cr_xe _) dL_isSo_404 ?_
                  refine lv_aload_n hx hb dL_isSo_405 rfl (lv_at hl 0 rfl) ?_
                  refine lv_iconst (v := 2) hx hb dL_isSo_406 (by decide) ?_
                  obtain ⟨q84, hq84, hE⟩ := cr_bind hE
                  refine cl_vR (nb := 4) (n := 1) (As := [.int 2]) (rest := [.int (wc 0 (cr_x (2 * x7)))]) C hP hS (m_X6_count L D ct a r vX.1 vX.2.1 vX.2.2.1 vX.2.2.2.1 vX.2.2.2.2.1 vX.2.2.2.2.2.1 vX.2.2.2.2.2.2.1 vX.2.2.2.2.2.2.2.1 vX.2.2.2.2.2.2.2.2.1 vX.2.2.2.2.2.2.2.2.2 2 q84 hq84) (cwV 1 hts gL_isSo_X6_count rfl rfl rfl (by decide +kernel) ⟨Nat.le_of_ble_eq_true rfl, Nat.le_of_ble_eq_true rfl⟩) [3] [cr_wN ct 17 bg wg, cr_wN ct 52 bl wl, cr_wN ct 12 bc wc, cr_wXt ct a r vX] ⟨rfl, rfl⟩ rfl 3 rfl rfl rfl hl.1 rfl (Nat.le_of_ble_eq_true rfl) dL_isSo_407 ⟨Nat.le_of_ble_eq_true rfl, Nat.le_of_ble_eq_true rfl⟩ (fun H locs hP hS => ?_)
                  refine lv_icmp_lt (tgt := 417) hx hb dL_isSo_410 (by decide) (fun c85 => ?_) (fun c85 => ?_)
                  · rw [if_pos c85] at hE
                    exact n417 (f_L_isSo_319 n) ih wg wl wc vX x5 x6 x7 hE _ _ _ hP hS (lv_sub hl [0, 1, 2, 4, 5, 6] rfl)
                  · rw [if_neg c85] at hE
                    refine lv_iconst (v := 1) hx hb dL_isSo_413 (by decide) ?_
                    refine lv_goto (tgt := 418) hx hb dL_isSo_414 (by decide) ?_
                    exact n418 (f_L_isSo_319 n) ih wg wl wc vX x5 x6 x7 1 hE _ _ _ hP hS (lv_sub hl [0, 1, 2, 4, 5, 6] rfl)
  have n316 :  ∀ (wg : cr_V) (wl : cr_V) (wc : cr_V) (vX : cr_XT) (x4 : Int32) (x5 : Int32) (x6 : Int32) (hE : f_L_isSo_316  wg wl wc vX x4 x5 x6 = some out) (H : Heap) (locs : List Loc) (ls : Array Slot) (hP : va_P D vwCl (cr_wN ct 17 bg wg ++ (cr_wN ct 52 bl wl ++ (cr_wN ct 12 bc wc ++ cr_wXt ct a r vX))) H) (hS : va_S cr_no s.heap H locs) (hl : lv_has ls 11 [(0, .ref (a 0 0)), (1, .ref (bg 0)), (3, .ref (bc 0)), (4, .int x4), (5, .int x5), (6, .int x6)]), W p L e ({ frames := 4, cells := 0, slots := 0, locals := 88 } : Room) s m args below meth c H locs 0 0 (MQ below (cr_QR (fun r => r = out)) args s 0 0 cr_no) (F0 m 316 ls []) := by
    intro  wg wl wc vX x4 x5 x6 hE H locs ls hP hS hl
    replace hE : (f_L_isSo_319 10100 wg wl wc vX x4 x5 x6 0) = some out := hE
    refine lv_iconst (v := 0) hx hb dL_isSo_316 (by decide) ?_
    refine lv_istore (lv' := [(7, .int 0), (0, .ref (a 0 0)), (1, .ref (bg 0)), (3, .ref (bc 0)), (4, .int x4), (5, .int x5), (6, .int x6)]) hx hb dL_isSo_317 hl (by decide) rfl (fun ls hl => ?_)
    exact n319 10100 wg wl wc vX x4 x5 x6 0 hE _ _ _ hP hS (lv_sub hl [1, 2, 3, 4, 5, 6, 0] rfl)
  have n12 :  ∀ (n : Nat), ∀ (wg : cr_V) (wl : cr_V) (wc : cr_V) (vX : cr_XT) (x4 : Int32) (x5 : Int32) (x6 : Int32) (x7 : Int32) (hE : f_L_isSo_12  n wg wl wc vX x4 x5 x6 x7 = some out) (H : Heap) (locs : List Loc) (ls : Array Slot) (hP : va_P D vwCl (cr_wN ct 17 bg wg ++ (cr_wN ct 52 bl wl ++ (cr_wN ct 12 bc wc ++ cr_wXt ct a r vX))) H) (hS : va_S cr_no s.heap H locs) (hl : lv_has ls 11 [(0, .ref (a 0 0)), (1, .ref (bg 0)), (2, .ref (bl 0)), (3, .ref (bc 0)), (4, .int x4), (5, .int x5), (6, .int x6), (7, .int x7)]), W p L e ({ frames := 4, cells := 0, slots := 0, locals := 88 } : Room) s m args below meth c H locs 0 0 (MQ below (cr_QR (fun r => r = out)) args s 0 0 cr_no) (F0 m 12 ls []) := by
    intro  n
    induction n with
    | zero =>
      intro wg wl wc vX x4 x5 x6 x7 hE
      cases hE
    | succ n ih =>
      intro wg wl wc vX x4 x5 x6 x7 hE H locs ls hP hS hl
      replace hE : (if (wg 0 6) ≤ x7 then (f_L_isSo_316 wg wl wc vX x4 x5 x6) else (if x4 = 0 then (f_L_isSo_316 wg wl wc vX x4 x5 x6) else (if cr_in (4 * x7) 52 = true then (f_L_cup wl x7 (wg 0 0)).bind fun q89 => if cr_in ((4 * x7) + 3) 52 = true then if cr_in ((4 * x7) + 1) 52 = true then if q89 ≤ 69 then (f_L_isSo_95 (f_L_isSo_12 n) wg wl wc vX (x5 + (wl 0 (cr_x ((4 * x7) + 1)))) x7 (wl 0 (cr_x (4 * x7))) q89 (((wg 0 0) - (wl 0 (cr_x ((4 * x7) + 3)))) - 3) 0 x6) else (f_L_isSo_95 (f_L_isSo_12 n) wg wl wc vX (x5 + (wl 0 (cr_x ((4 * x7) + 1)))) x7 (wl 0 (cr_x (4 * x7))) q89 (((wg 0 0) - (wl 0 (cr_x ((4 * x7) + 3)))) - 3) (wl 0 (cr_x ((4 * x7) + 1))) x6) else none else none else none))) = some out := hE
      refine lv_iload hx hb dL_isSo_12 (lv_at hl 7 rfl) ?_
      refine lv_aload_n hx hb dL_isSo_14 rfl (lv_at hl 1 rfl) ?_
      refine lv_bipush (v := 6) hx hb dL_isSo_15 (by decide) ?_
      refine cr_ald C hP 0 (f := wg 0) (k := 6) rfl (by decide) (by decide) dL_isSo_17 ?_
      refine lv_icmp_ge (tgt := 316) hx hb dL_isSo_18 (by decide) (fun c86 => ?_) (fun c86 => ?_)
      · rw [if_pos c86] at hE
        exact n316 wg wl wc vX x4 x5 x6 hE _ _ _ hP hS (lv_sub hl [0, 1, 3, 4, 5, 6] rfl)
      · rw [if_neg c86] at hE
        refine lv_iload hx hb dL_isSo_21 (lv_at hl 4 rfl) ?_
        refine lv_if_eq (tgt := 316) hx hb dL_isSo_23 (by decide) (fun c87 => ?_) (fun c87 => ?_)
        · rw [if_pos c87] at hE
          exact n316 wg wl wc vX x4 x5 x6 hE _ _ _ hP hS (lv_sub hl [0, 1, 3, 4, 5, 6] rfl)
        · rw [if_neg c87] at hE
          refine lv_aload_n hx hb dL_isSo_26 rfl (lv_at hl 2 rfl) ?_
          refine lv_iconst (v := 4) hx hb dL_isSo_27 (by decide) ?_
          refine lv_iload hx hb dL_isSo_28 (lv_at hl 7 rfl) ?_
          refine lv_imul hx hb dL_isSo_30 ?_
          obtain ⟨i88, hE⟩ := cr_ifn hE
          refine cr_ald C hP 1 (f := wl 0) (k := cr_x (4 * x7)) rfl i88 (cr_xe _) dL_isSo_31 ?_
          refine lv_istore (lv' := [(8, .int (wl 0 (cr_x (4 * x7)))), (0, .ref (a 0 0)), (1, .ref (bg 0)), (2, .ref (bl 0)), (3, .ref (bc 0)), (4, .int x4), (5, .int x5), (6, .int x6), (7, .int x7)]) hx hb dL_isSo_32 hl (by decide) rfl (fun ls hl => ?_)
          refine lv_aload_n hx hb dL_isSo_34 rfl (lv_at hl 3 rfl) ?_
          refine lv_iload hx hb dL_isSo_35 (lv_at hl 8 rfl) ?_
          refine lv_aload_n hx hb dL_isSo_37 rfl (lv_at hl 2 rfl) ?_
          refine lv_iconst (v := 0) hx hb dL_isSo_38 (by decide) ?_
          refine cr_ald C hP 0 (f := wg 0) (k := 0) rfl (by decide) (by decide) dL_isSo_39 ?_
          obtain ⟨q89, hq89, hE⟩ := cr_bind hE
          refine cl_sR (nb := 4) (n := 3) (As := [.ref (bl 0), .int x7, .int (wg 0 0)]) (rest := []) C hP hS (m_L_cup L D ct bl wl x7 (wg 0 0) q89 hq89) (va_cwS 3 hts gL_isSo_L_cup rfl rfl rfl (by decide +kernel) ⟨Nat.le_of_ble_eq_true rfl, Nat.le_of_ble_eq_true rfl⟩) [1] [cr_wN ct 17 bg wg, cr_wN ct 52 bl wl, cr_wN ct 12 bc wc, cr_wXt ct a r vX] ⟨rfl, rfl⟩ rfl rfl hl.1 rfl (Nat.le_of_ble_eq_true rfl) dL_isSo_40 ⟨Nat.le_of_ble_eq_true rfl, Nat.le_of_ble_eq_true rfl⟩ (fun H locs hP hS => ?_)
          refine lv_istore (lv' := [(9, .int q89), (8, .int (wl 0 (cr_x (4 * x7)))), (0, .ref (a 0 0)), (1, .ref (bg 0)), (2, .ref (bl 0)), (3, .ref (bc 0)), (4, .int x4), (5, .int x5), (6, .int x6), (7, .int x7)]) hx hb dL_isSo_43 hl (by decide) rfl (fun ls hl => ?_)
          refine lv_aload_n hx hb dL_isSo_45 rfl (lv_at hl 3 rfl) ?_
          refine lv_iconst (v := 0) hx hb dL_isSo_46 (by decide) ?_
          refine cr_ald C hP 0 (f := wg 0) (k := 0) rfl (by decide) (by decide) dL_isSo_47 ?_
          refine lv_aload_n hx hb dL_isSo_48 rfl (lv_at hl 4 rfl) ?_
          refine lv_iconst (v := 4) hx hb dL_isSo_49 (by decide) ?_
          refine lv_iload hx hb dL_isSo_50 (lv_at hl 9 rfl) ?_
          refine lv_imul hx hb dL_isSo_52 ?_
          refine lv_iconst (v := 3) hx hb dL_isSo_53 (by decide) ?_
          refine lv_iadd hx hb dL_isSo_54 ?_
          obtain ⟨i90, hE⟩ := cr_ifn hE
          refine cr_ald C hP 1 (f := wl 0) (k := cr_x ((4 * x7) + 3)) rfl i90 (cr_xe _) dL_isSo_55 ?_
          refine lv_isub hx hb dL_isSo_56 ?_
          refine lv_iconst (v := 3) hx hb dL_isSo_57 (by decide) ?_
          refine lv_isub hx hb dL_isSo_58 ?_
          refine lv_istore (lv' := [(10, .int (((wg 0 0) - (wl 0 (cr_x ((4 * x7) + 3)))) - 3)), (9, .int q89), (8, .int (wl 0 (cr_x (4 * x7)))), (0, .ref (a 0 0)), (1, .ref (bg 0)), (2, .ref (bl 0)), (3, .ref (bc 0)), (4, .int x4), (5, .int x5), (6, .int x6), (7, .int x7)]) hx hb dL_isSo_59 hl (by decide) rfl (fun ls hl => ?_)
          refine lv_iload hx hb dL_isSo_61 (lv_at hl 8 rfl) ?_
          refine lv_aload_n hx hb dL_isSo_63 rfl (lv_at hl 5 rfl) ?_
          refine lv_iconst (v := 4) hx hb dL_isSo_64 (by decide) ?_
          refine lv_iload hx hb dL_isSo_65 (lv_at hl 10 rfl) ?_
          refine lv_imul hx hb dL_isSo_67 ?_
          refine lv_iconst (v := 1) hx hb dL_isSo_68 (by decide) ?_
          refine lv_iadd hx hb dL_isSo_69 ?_
          obtain ⟨i91, hE⟩ := cr_ifn hE
          refine cr_ald C hP 1 (f := wl 0) (k := cr_x ((4 * x7) + 1)) rfl i91 (cr_xe _) dL_isSo_70 ?_
          refine lv_iadd hx hb dL_isSo_71 ?_
          refine lv_istore (lv' := [(5, .int (x5 + (wl 0 (cr_x ((4 * x7) + 1))))), (10, .int (((wg 0 0) - (wl 0 (cr_x ((4 * x7) + 3)))) - 3)), (9, .int q89), (8, .int (wl 0 (cr_x (4 * x7)))), (0, .ref (a 0 0)), (1, .ref (bg 0)), (2, .ref (bl 0)), (3, .ref (bc 0)), (4, .int x4), (6, .int x6), (7, .int x7)]) hx hb dL_isSo_72 hl (by decide) rfl (fun ls hl => ?_)
          refine lv_iload hx hb dL_isSo_74 (lv_at hl 9 rfl) ?_
          refine lv_iload hx hb dL_isSo_76 (lv_at hl 2 rfl) ?_
          refine lv_bipush (v := 69) hx hb dL_isSo_78 (by decide) ?_
          refine lv_icmp_le (tgt := 94) hx hb dL_isSo_80 (by decide) (fun c92 => ?_) (fun c92 => ?_)
          · rw [if_pos c92] at hE
            refine lv_iconst (v := 0) hx hb dL_isSo_94 (by decide) ?_
            exact n95 (f_L_isSo_12 n) ih wg wl wc vX (x5 + (wl 0 (cr_x ((4 * x7) + 1)))) x7 (wl 0 (cr_x (4 * x7))) q89 (((wg 0 0) - (wl 0 (cr_x ((4 * x7) + 3)))) - 3) 0 x6 hE _ _ _ hP hS (lv_sub hl [4, 5, 6, 7, 0, 10, 3, 2, 1] rfl)
          · rw [if_neg c92] at hE
            refine lv_aload_n hx hb dL_isSo_83 rfl (lv_at hl 6 rfl) ?_
            refine lv_iconst (v := 4) hx hb dL_isSo_84 (by decide) ?_
            refine lv_iload hx hb dL_isSo_85 (lv_at hl 10 rfl) ?_
            refine lv_imul hx hb dL_isSo_87 ?_
            refine lv_iconst (v := 1) hx hb dL_isSo_88 (by decide) ?_
            refine lv_iadd hx hb dL_isSo_89 ?_
            refine cr_ald C hP 1 (f := wl 0) (k := cr_x ((4 * x7) + 1)) rfl i91 (cr_xe _) dL_isSo_90 ?_
            refine lv_goto (tgt := 95) hx hb dL_isSo_91 (by decide) ?_
            exact n95 (f_L_isSo_12 n) ih wg wl wc vX (x5 + (wl 0 (cr_x ((4 * x7) + 1)))) x7 (wl 0 (cr_x (4 * x7))) q89 (((wg 0 0) - (wl 0 (cr_x ((4 * x7) + 3)))) - 3) (wl 0 (cr_x ((4 * x7) + 1))) x6 hE _ _ _ hP hS (lv_sub hl [4, 5, 6, 7, 0, 10, 3, 2, 1] rfl)
  replace hE : (f_L_isSo_12 10100 wg wl wc vX 1 0 0 0) = some out := hE
  refine lv_iconst (v := 1) hx hb dL_isSo_0 (by decide) ?_
  refine lv_istore (lv' := [(4, .int 1), (0, .ref (a 0 0)), (1, .ref (bg 0)), (2, .ref (bl 0)), (3, .ref (bc 0))]) hx hb dL_isSo_1 hl (by decide) rfl (fun ls hl => ?_)
  refine lv_iconst (v := 0) hx hb dL_isSo_3 (by decide) ?_
  refine lv_istore (lv' := [(5, .int 0), (4, .int 1), (0, .ref (a 0 0)), (1, .ref (bg 0)), (2, .ref (bl 0)), (3, .ref (bc 0))]) hx hb dL_isSo_4 hl (by decide) rfl (fun ls hl => ?_)
  refine lv_iconst (v := 0) hx hb dL_isSo_6 (by decide) ?_
  refine lv_istore (lv' := [(6, .int 0), (5, .int 0), (4, .int 1), (0, .ref (a 0 0)), (1, .ref (bg 0)), (2, .ref (bl 0)), (3, .ref (bc 0))]) hx hb dL_isSo_7 hl (by decide) rfl (fun ls hl => ?_)
  refine lv_iconst (v := 0) hx hb dL_isSo_9 (by decide) ?_
  refine lv_istore (lv' := [(7, .int 0), (6, .int 0), (5, .int 0), (4, .int 1), (0, .ref (a 0 0)), (1, .ref (bg 0)), (2, .ref (bl 0)), (3, .ref (bc 0))]) hx hb dL_isSo_10 hl (by decide) rfl (fun ls hl => ?_)
  exact n12 10100 wg wl wc vX 1 0 0 0 hE _ _ _ hP hS (lv_sub hl [4, 5, 6, 7, 3, 2, 1, 0] rfl)
