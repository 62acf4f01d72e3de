set_option maxHeartbeats 4000000 in
set_option maxRecDepth 100000 in
theorem m_X7_in (L : Launch) (D : va_G) (ct : Nat → ClassId)   (x0 : Int32) (x1 : Int32) (x2 : Int32) (out : Int32) (hE : f_X7_in x0 x1 x2 = some out) : Met L yX7_in wsX7_in ({ frames := 0, cells := 0, slots := 0, locals := 0 } : Room) (cr_pR D ct ([]) [.int x0, .int x1, .int x2]) (cr_QR (fun r => r = out)) 0 0 cr_no := by
  refine cr_metR (by decide) rfl rfl (Nat.le_of_ble_eq_true rfl) ?_
  intro p e s m args below meth c ls C hP hS hl
  obtain ⟨hx, hb, hml, hown, hts, hr, hlocks, hK, hN⟩ := id C
  have hl : lv_has ls 3 [(0, .int x0), (1, .int x1), (2, .int x2)] := hl
  replace hE : (if x0 < x1 then (some 0) else (if x2 < x0 then (some 0) else (some 1))) = some out := hE
  refine lv_iload_n hx hb dX7_in_0 rfl (lv_at hl 0 rfl) ?_
  refine lv_iload_n hx hb dX7_in_1 rfl (lv_at hl 1 rfl) ?_
  refine lv_icmp_lt (tgt := 14) hx hb dX7_in_2 (by decide) (fun c1 => ?_) (fun c1 => ?_)
  · rw [if_pos c1] at hE
    refine lv_iconst (v := 0) hx hb dX7_in_14 (by decide) ?_
    exact cr_retRz C hS rfl (Option.some.inj hE) dX7_in_15
  · rw [if_neg c1] at hE
    refine lv_iload_n hx hb dX7_in_5 rfl (lv_at hl 0 rfl) ?_
    refine lv_iload_n hx hb dX7_in_6 rfl (lv_at hl 2 rfl) ?_
    refine lv_icmp_gt (tgt := 14) hx hb dX7_in_7 (by decide) (fun c2 => ?_) (fun c2 => ?_)
    · rw [if_pos c2] at hE
      refine lv_iconst (v := 0) hx hb dX7_in_14 (by decide) ?_
      exact cr_retRz C hS rfl (Option.some.inj hE) dX7_in_15
    · rw [if_neg c2] at hE
      refine lv_iconst (v := 1) hx hb dX7_in_10 (by decide) ?_
      refine lv_goto (tgt := 15) hx hb dX7_in_11 (by decide) ?_
      exact cr_retRz C hS rfl (Option.some.inj hE) dX7_in_15

set_option maxHeartbeats 4000000 in
set_option maxRecDepth 100000 in
theorem m_X7_copies (L : Launch) (D : va_G) (ct : Nat → ClassId) (ap0 : Nat → Nat) (ap1 : Nat → Nat) (p0 : cr_V) (p1 : cr_V)  (sz : Nat) (out : cr_V) (hE : f_X7_copies p0 p1 = some out) : Met L yX7_copies wsX7_copies ({ frames := 0, cells := 0, slots := 0, locals := 0 } : Room) (cr_pW D ct (cr_wA ct ap0 p0 ++ cr_wA ct ap1 p1) sz [.ref (ap0 0), .ref (ap1 0)]) (cr_QV D (cr_wA ct ap0 p0 ++ cr_wA ct ap1 p1) sz (fun u => u = out) (fun u : cr_V => cr_wA ct ap0 p0 ++ cr_wA ct ap1 u)) 0 0 (va_A (cr_wA ct ap0 p0 ++ cr_wA ct ap1 p1) sz) := by
  refine cr_metW (Qc := fun A => va_Qv (fun u => u = out) (fun u t => cr_at D A ((fun u : cr_V => cr_wA ct ap0 p0 ++ cr_wA ct ap1 u) u) t) A) (by decide) rfl rfl (Nat.le_of_ble_eq_true rfl) ?_
  intro p e s m args below meth c ls A C hW hl
  obtain ⟨hx, hb, hml, hown, hts, hr, hlocks, hK, hN⟩ := id C
  have hl : lv_has ls 3 [(0, .ref (ap0 0)), (1, .ref (ap1 0))] := hl
  have n2 :  ∀ (n : Nat), ∀ (p0 : cr_V) (p1 : cr_V) (x2 : Int32) (hE : f_X7_copies_2  n p0 p1 x2 = some out) (H : Heap) (locs : List Loc) (ls : Array Slot) (hW : cr_wd D A s (cr_wA ct ap0 p0 ++ cr_wA ct ap1 p1) H locs) (hl : lv_has ls 3 [(0, .ref (ap0 0)), (1, .ref (ap1 0)), (2, .int x2)]), W p L e ({ frames := 0, cells := 0, slots := 0, locals := 0 } : Room) s m args below meth c H locs 0 0 (MQ below (va_Qv (fun u => u = out) (fun u t => cr_at D A ((fun u : cr_V => cr_wA ct ap0 p0 ++ cr_wA ct ap1 u) u) t) A) args s 0 0 A) (F0 m 2 ls []) := by
    intro  n
    induction n with
    | zero =>
      intro p0 p1 x2 hE
      cases hE
    | succ n ih =>
      intro p0 p1 x2 hE H locs ls hW hl
      replace hE : (if 81 ≤ x2 then (some p1) else (if cr_in x2 81 = true then f_X7_copies_2 n p0 (cr_a p1 0 (cr_x x2) (p0 0 (cr_x x2))) (x2 + 1) else none)) = some out := hE
      refine lv_iload_n hx hb dX7_copies_2 rfl (lv_at hl 2 rfl) ?_
      refine lv_bipush (v := 81) hx hb dX7_copies_3 (by decide) ?_
      refine lv_icmp_ge (tgt := 20) hx hb dX7_copies_5 (by decide) (fun c1 => ?_) (fun c1 => ?_)
      · rw [if_pos c1] at hE
        exact cr_retV C (w := (fun u : cr_V => cr_wA ct ap0 p0 ++ cr_wA ct ap1 u)) p1 hW (Option.some.inj hE) dX7_copies_20
      · rw [if_neg c1] at hE
        refine lv_aload_n hx hb dX7_copies_8 rfl (lv_at hl 1 rfl) ?_
        refine lv_iload_n hx hb dX7_copies_9 rfl (lv_at hl 2 rfl) ?_
        refine lv_aload_n hx hb dX7_copies_10 rfl (lv_at hl 0 rfl) ?_
        refine lv_iload_n hx hb dX7_copies_11 rfl (lv_at hl 2 rfl) ?_
        obtain ⟨i2, hE⟩ := cr_ifn hE
        refine cr_ald C hW.1 0 (f := p0 0) (k := cr_x x2) rfl i2 (cr_xe _) dX7_copies_12 ?_
        refine cr_ast C hW 1 rfl (k := (cr_x x2)) i2 (cr_xe _) (w' := cr_wA ct ap0 p0 ++ cr_wA ct ap1 (cr_a p1 0 (cr_x x2) (p0 0 (cr_x x2)))) rfl dX7_copies_13 (fun H locs hW => ?_)
        refine lv_iinc (v := x2 + 1) (lv' := [(2, .int (x2 + 1)), (0, .ref (ap0 0)), (1, .ref (ap1 0))]) hx hb dX7_copies_14 hl (k := 2) rfl (by first | rfl | decide) (by decide) rfl (fun ls hl => ?_)
        refine lv_goto (tgt := 2) hx hb dX7_copies_17 (by decide) ?_
        exact ih p0 (cr_a p1 0 (cr_x x2) (p0 0 (cr_x x2))) (x2 + 1) hE _ _ _ hW (lv_sub hl [1, 2, 0] rfl)
  replace hE : (f_X7_copies_2 10100 p0 p1 0) = some out := hE
  refine lv_iconst (v := 0) hx hb dX7_copies_0 (by decide) ?_
  refine lv_istore_n (lv' := [(2, .int 0), (0, .ref (ap0 0)), (1, .ref (ap1 0))]) hx hb dX7_copies_1 rfl hl (by decide) rfl (fun ls hl => ?_)
  exact n2 10100 p0 p1 0 hE _ _ _ hW (lv_sub hl [1, 2, 0] rfl)

set_option maxHeartbeats 4000000 in
set_option maxRecDepth 100000 in
theorem m_X7_changes (L : Launch) (D : va_G) (ct : Nat → ClassId) (az : Nat → Nat) (vz : cr_V)  (sz : Nat) (out : cr_V) (hE : f_X7_changes vz = some out) : Met L yX7_changes wsX7_changes ({ frames := 0, cells := 0, slots := 0, locals := 0 } : Room) (cr_pW D ct (cr_wM ct az vz) sz [.ref (az 0)]) (cr_QV D (cr_wM ct az vz) sz (fun u => u = out) (fun u : cr_V => cr_wM ct az u)) 0 0 (va_A (cr_wM ct az vz) sz) := by
  have k0 : (Cond.fieldLink RX7 35 "CupReceiptsModel" "pasts" "I") ∈ wsX7_changes := List.mem_of_getElem? (i := 2) rfl
  have k1 : (Cond.fieldLink RX7 13 "CupReceiptsModel" "past" "[I") ∈ wsX7_changes := List.mem_of_getElem? (i := 3) rfl
  have k2 : (Cond.fieldLink RX7 7 "CupReceiptsModel" "s" "[I") ∈ wsX7_changes := List.mem_of_getElem? (i := 4) rfl
  have k3 : (Cond.fieldLink RX7 31 "CupReceiptsModel" "runs" "Z") ∈ wsX7_changes := List.mem_of_getElem? (i := 1) rfl
  have hinX7 : ∀ w ∈ wsX70, w ∈ wsX7_changes := fun w h => List.mem_cons_of_mem _ (List.mem_append_right _ h)
  refine cr_metW (Qc := fun A => va_Qv (fun u => u = out) (fun u t => cr_at D A ((fun u : cr_V => cr_wM ct az u) u) t) A) (by decide) rfl rfl (Nat.le_of_ble_eq_true rfl) ?_
  intro p e s m args below meth c ls A C hW hl
  obtain ⟨hx, hb, hml, hown, hts, hr, hlocks, hK, hN⟩ := id C
  have hl : lv_has ls 2 [(0, .ref (az 0))] := hl
  have n58 :  ∀ (n : Nat), ∀ (vz : cr_V) (x1 : Int32) (hE : f_X7_changes_58  n vz x1 = some out) (H : Heap) (locs : List Loc) (ls : Array Slot) (hW : cr_wd D A s (cr_wM ct az vz) H locs) (hl : lv_has ls 2 [(0, .ref (az 0)), (1, .int x1)]), W p L e ({ frames := 0, cells := 0, slots := 0, locals := 0 } : Room) s m args below meth c H locs 0 0 (MQ below (va_Qv (fun u => u = out) (fun u t => cr_at D A ((fun u : cr_V => cr_wM ct az u) u) t) A) args s 0 0 A) (F0 m 58 ls []) := by
    intro  n
    induction n with
    | zero =>
      intro vz x1 hE
      cases hE
    | succ n ih =>
      intro vz x1 hE H locs ls hW hl
      replace hE : (if 81 ≤ x1 then (some (cr_i vz 3 ((vz 3 0) + 1))) else (if cr_in x1 81 = true then if cr_in ((81 * (vz 3 0)) + x1) 324 = true then f_X7_changes_58 n (cr_a vz 1 (cr_x ((81 * (vz 3 0)) + x1)) (vz 0 (cr_x x1))) (x1 + 1) else none else none)) = some out := hE
      refine lv_iload_n hx hb dX7_changes_58 rfl (lv_at hl 1 rfl) ?_
      refine lv_bipush (v := 81) hx hb dX7_changes_59 (by decide) ?_
      refine lv_icmp_ge (tgt := 90) hx hb dX7_changes_61 (by decide) (fun c1 => ?_) (fun c1 => ?_)
      · rw [if_pos c1] at hE
        refine lv_aload_n hx hb dX7_changes_90 rfl (lv_at hl 0 rfl) ?_
        refine lv_dup hx hb dX7_changes_91 rfl ?_
        refine cr_get C hW.1 0 rfl rfl 3 (by decide) hinX7 k0 (v := .int (vz 3 0)) rfl dX7_changes_92 ?_
        refine lv_iconst (v := 1) hx hb dX7_changes_95 (by decide) ?_
        refine lv_iadd hx hb dX7_changes_96 ?_
        refine cr_put C hW 0 rfl rfl tyX7 tyX7_ok nmX7 3 (by decide) hinX7 k0 rfl rfl rfl rfl (Nat.le_of_ble_eq_true rfl) (w' := cr_wM ct az (cr_i vz 3 ((vz 3 0) + 1))) rfl dX7_changes_97 (fun H locs hW => ?_)
        exact cr_retV C (w := (fun u : cr_V => cr_wM ct az u)) (cr_i vz 3 ((vz 3 0) + 1)) hW (Option.some.inj hE) dX7_changes_100
      · rw [if_neg c1] at hE
        refine lv_aload_n hx hb dX7_changes_64 rfl (lv_at hl 0 rfl) ?_
        refine cr_get C hW.1 0 rfl rfl 1 (by decide) hinX7 k1 (v := .ref (az 2)) rfl dX7_changes_65 ?_
        refine lv_bipush (v := 81) hx hb dX7_changes_68 (by decide) ?_
        refine lv_aload_n hx hb dX7_changes_70 rfl (lv_at hl 0 rfl) ?_
        refine cr_get C hW.1 0 rfl rfl 3 (by decide) hinX7 k0 (v := .int (vz 3 0)) rfl dX7_changes_71 ?_
        refine lv_imul hx hb dX7_changes_74 ?_
        refine lv_iload_n hx hb dX7_changes_75 rfl (lv_at hl 1 rfl) ?_
        refine lv_iadd hx hb dX7_changes_76 ?_
        refine lv_aload_n hx hb dX7_changes_77 rfl (lv_at hl 0 rfl) ?_
        refine cr_get C hW.1 0 rfl rfl 0 (by decide) hinX7 k2 (v := .ref (az 1)) rfl dX7_changes_78 ?_
        refine lv_iload_n hx hb dX7_changes_81 rfl (lv_at hl 1 rfl) ?_
        obtain ⟨i2, hE⟩ := cr_ifn hE
        refine cr_ald C hW.1 1 (f := vz 0) (k := cr_x x1) rfl i2 (cr_xe _) dX7_changes_82 ?_
        obtain ⟨i3, hE⟩ := cr_ifn hE
        refine cr_ast C hW 2 rfl (k := (cr_x ((81 * (vz 3 0)) + x1))) i3 (cr_xe _) (w' := cr_wM ct az (cr_a vz 1 (cr_x ((81 * (vz 3 0)) + x1)) (vz 0 (cr_x x1)))) rfl dX7_changes_83 (fun H locs hW => ?_)
        refine lv_iinc (v := x1 + 1) (lv' := [(1, .int (x1 + 1)), (0, .ref (az 0))]) hx hb dX7_changes_84 hl (k := 1) rfl (by first | rfl | decide) (by decide) rfl (fun ls hl => ?_)
        refine lv_goto (tgt := 58) hx hb dX7_changes_87 (by decide) ?_
        exact ih (cr_a vz 1 (cr_x ((81 * (vz 3 0)) + x1)) (vz 0 (cr_x x1))) (x1 + 1) hE _ _ _ hW (lv_sub hl [1, 0] rfl)
  have n56 :  ∀ (vz : cr_V) (hE : f_X7_changes_56  vz = some out) (H : Heap) (locs : List Loc) (ls : Array Slot) (hW : cr_wd D A s (cr_wM ct az vz) H locs) (hl : lv_has ls 2 [(0, .ref (az 0))]), W p L e ({ frames := 0, cells := 0, slots := 0, locals := 0 } : Room) s m args below meth c H locs 0 0 (MQ below (va_Qv (fun u => u = out) (fun u t => cr_at D A ((fun u : cr_V => cr_wM ct az u) u) t) A) args s 0 0 A) (F0 m 56 ls []) := by
    intro  vz hE H locs ls hW hl
    replace hE : (f_X7_changes_58 10100 vz 0) = some out := hE
    refine lv_iconst (v := 0) hx hb dX7_changes_56 (by decide) ?_
    refine lv_istore_n (lv' := [(1, .int 0), (0, .ref (az 0))]) hx hb dX7_changes_57 rfl hl (by decide) rfl (fun ls hl => ?_)
    exact n58 10100 vz 0 hE _ _ _ hW (lv_sub hl [1, 0] rfl)
  have n18 :  ∀ (n : Nat), ∀ (vz : cr_V) (x1 : Int32) (hE : f_X7_changes_18  n vz x1 = some out) (H : Heap) (locs : List Loc) (ls : Array Slot) (hW : cr_wd D A s (cr_wM ct az vz) H locs) (hl : lv_has ls 2 [(0, .ref (az 0)), (1, .int x1)]), W p L e ({ frames := 0, cells := 0, slots := 0, locals := 0 } : Room) s m args below meth c H locs 0 0 (MQ below (va_Qv (fun u => u = out) (fun u t => cr_at D A ((fun u : cr_V => cr_wM ct az u) u) t) A) args s 0 0 A) (F0 m 18 ls []) := by
    intro  n
    induction n with
    | zero =>
      intro vz x1 hE
      cases hE
    | succ n ih =>
      intro vz x1 hE H locs ls hW hl
      replace hE : (if 243 ≤ x1 then (f_X7_changes_56 (cr_i vz 3 ((vz 3 0) - 1))) else (if cr_in (x1 + 81) 324 = true then if cr_in x1 324 = true then f_X7_changes_18 n (cr_a vz 1 (cr_x x1) (vz 1 (cr_x (x1 + 81)))) (x1 + 1) else none else none)) = some out := hE
      refine lv_iload_n hx hb dX7_changes_18 rfl (lv_at hl 1 rfl) ?_
      refine lv_sipush (v := 243) hx hb dX7_changes_19 (by decide) ?_
      refine lv_icmp_ge (tgt := 46) hx hb dX7_changes_22 (by decide) (fun c4 => ?_) (fun c4 => ?_)
      · rw [if_pos c4] at hE
        refine lv_aload_n hx hb dX7_changes_46 rfl (lv_at hl 0 rfl) ?_
        refine lv_dup hx hb dX7_changes_47 rfl ?_
        refine cr_get C hW.1 0 rfl rfl 3 (by decide) hinX7 k0 (v := .int (vz 3 0)) rfl dX7_changes_48 ?_
        refine lv_iconst (v := 1) hx hb dX7_changes_51 (by decide) ?_
        refine lv_isub hx hb dX7_changes_52 ?_
        refine cr_put C hW 0 rfl rfl tyX7 tyX7_ok nmX7 3 (by decide) hinX7 k0 rfl rfl rfl rfl (Nat.le_of_ble_eq_true rfl) (w' := cr_wM ct az (cr_i vz 3 ((vz 3 0) - 1))) rfl dX7_changes_53 (fun H locs hW => ?_)
        exact n56 (cr_i vz 3 ((vz 3 0) - 1)) hE _ _ _ hW (lv_sub hl [0] rfl)
      · rw [if_neg c4] at hE
        refine lv_aload_n hx hb dX7_changes_25 rfl (lv_at hl 0 rfl) ?_
        refine cr_get C hW.1 0 rfl rfl 1 (by decide) hinX7 k1 (v := .ref (az 2)) rfl dX7_changes_26 ?_
        refine lv_iload_n hx hb dX7_changes_29 rfl (lv_at hl 1 rfl) ?_
        refine lv_aload_n hx hb dX7_changes_30 rfl (lv_at hl 0 rfl) ?_
        refine cr_get C hW.1 0 rfl rfl 1 (by decide) hinX7 k1 (v := .ref (az 2)) rfl dX7_changes_31 ?_
        refine lv_iload_n hx hb dX7_changes_34 rfl (lv_at hl 1 rfl) ?_
        refine lv_bipush (v := 81) hx hb dX7_changes_35 (by decide) ?_
        refine lv_iadd hx hb dX7_changes_37 ?_
        obtain ⟨i5, hE⟩ := cr_ifn hE
        refine cr_ald C hW.1 2 (f := vz 1) (k := cr_x (x1 + 81)) rfl i5 (cr_xe _) dX7_changes_38 ?_
        obtain ⟨i6, hE⟩ := cr_ifn hE
        refine cr_ast C hW 2 rfl (k := (cr_x x1)) i6 (cr_xe _) (w' := cr_wM ct az (cr_a vz 1 (cr_x x1) (vz 1 (cr_x (x1 + 81))))) rfl dX7_changes_39 (fun H locs hW => ?_)
        refine lv_iinc (v := x1 + 1) (lv' := [(1, .int (x1 + 1)), (0, .ref (az 0))]) hx hb dX7_changes_40 hl (k := 1) rfl (by first | rfl | decide) (by decide) rfl (fun ls hl => ?_)
        refine lv_goto (tgt := 18) hx hb dX7_changes_43 (by decide) ?_
        exact ih (cr_a vz 1 (cr_x x1) (vz 1 (cr_x (x1 + 81)))) (x1 + 1) hE _ _ _ hW (lv_sub hl [1, 0] rfl)
  replace hE : (if (vz 4 0) = 0 then (if (vz 3 0) = 4 then (f_X7_changes_18 10100 vz 0) else (f_X7_changes_56 vz)) else (some vz)) = some out := hE
  refine lv_aload_n hx hb dX7_changes_0 rfl (lv_at hl 0 rfl) ?_
  refine cr_get C hW.1 0 rfl rfl 4 (by decide) hinX7 k3 (v := .int (vz 4 0)) rfl dX7_changes_1 ?_
  refine lv_if_eq (tgt := 8) hx hb dX7_changes_4 (by decide) (fun c7 => ?_) (fun c7 => ?_)
  · rw [if_pos c7] at hE
    refine lv_aload_n hx hb dX7_changes_8 rfl (lv_at hl 0 rfl) ?_
    refine cr_get C hW.1 0 rfl rfl 3 (by decide) hinX7 k0 (v := .int (vz 3 0)) rfl dX7_changes_9 ?_
    refine lv_iconst (v := 4) hx hb dX7_changes_12 (by decide) ?_
    refine lv_icmp_ne (tgt := 56) hx hb dX7_changes_13 (by decide) (fun c8 => ?_) (fun c8 => ?_)
    · rw [if_neg c8] at hE
      exact n56 vz hE _ _ _ hW (lv_sub hl [0] rfl)
    · rw [if_pos c8] at hE
      refine lv_iconst (v := 0) hx hb dX7_changes_16 (by decide) ?_
      refine lv_istore_n (lv' := [(1, .int 0), (0, .ref (az 0))]) hx hb dX7_changes_17 rfl hl (by decide) rfl (fun ls hl => ?_)
      exact n18 10100 vz 0 hE _ _ _ hW (lv_sub hl [1, 0] rfl)
  · rw [if_neg c7] at hE
    exact cr_retV C (w := (fun u : cr_V => cr_wM ct az u)) vz hW (Option.some.inj hE) dX7_changes_7

set_option maxHeartbeats 4000000 in
set_option maxRecDepth 100000 in
theorem m_X7_of (L : Launch) (D : va_G) (ct : Nat → ClassId) (az : Nat → Nat) (vz : cr_V) (x1 : Int32) (x2 : Int32) (out : Int32) (hE : f_X7_of vz x1 x2 = some out) : Met L yX7_of wsX7_of ({ frames := 0, cells := 0, slots := 0, locals := 0 } : Room) (cr_pR D ct (cr_wM ct az vz) [.ref (az 0), .int x1, .int x2]) (cr_QR (fun r => r = out)) 0 0 cr_no := by
  have k0 : (Cond.fieldLink RX7 7 "CupReceiptsModel" "s" "[I") ∈ wsX7_of := List.mem_of_getElem? (i := 1) rfl
  have hinX7 : ∀ w ∈ wsX70, w ∈ wsX7_of := fun w h => List.mem_cons_of_mem _ (List.mem_append_right _ h)
  refine cr_metR (by decide) rfl rfl (Nat.le_of_ble_eq_true rfl) ?_
  intro p e s m args below meth c ls C hP hS hl
  obtain ⟨hx, hb, hml, hown, hts, hr, hlocks, hK, hN⟩ := id C
  have hl : lv_has ls 3 [(0, .ref (az 0)), (1, .int x1), (2, .int x2)] := hl
  replace hE : (if cr_in ((17 + (4 * x1)) + x2) 81 = true then some (vz 0 (cr_x ((17 + (4 * x1)) + x2))) else none) = some out := hE
  refine lv_aload_n hx hb dX7_of_0 rfl (lv_at hl 0 rfl) ?_
  refine cr_get C hP 0 rfl rfl 0 (by decide) hinX7 k0 (v := .ref (az 1)) rfl dX7_of_1 ?_
  refine lv_bipush (v := 17) hx hb dX7_of_4 (by decide) ?_
  refine lv_iconst (v := 4) hx hb dX7_of_6 (by decide) ?_
  refine lv_iload_n hx hb dX7_of_7 rfl (lv_at hl 1 rfl) ?_
  refine lv_imul hx hb dX7_of_8 ?_
  refine lv_iadd hx hb dX7_of_9 ?_
  refine lv_iload_n hx hb dX7_of_10 rfl (lv_at hl 2 rfl) ?_
  refine lv_iadd hx hb dX7_of_11 ?_
  obtain ⟨i1, hE⟩ := cr_ifn hE
  refine cr_ald C hP 1 (f := vz 0) (k := cr_x ((17 + (4 * x1)) + x2)) rfl i1 (cr_xe _) dX7_of_12 ?_
  exact cr_retR C hS (Option.some.inj hE) dX7_of_13

set_option maxHeartbeats 4000000 in
set_option maxRecDepth 100000 in
theorem m_X7_placeOf (L : Launch) (D : va_G) (ct : Nat → ClassId) (az : Nat → Nat) (vz : cr_V) (x1 : Int32) (out : Int32) (hE : f_X7_placeOf vz x1 = some out) : Met L yX7_placeOf wsX7_placeOf ({ frames := 1, cells := 0, slots := 0, locals := 22 } : Room) (cr_pR D ct (cr_wM ct az vz) [.ref (az 0), .int x1]) (cr_QR (fun r => r = out)) 0 0 cr_no := by
  have k0 : (Cond.fieldLink RX7 7 "CupReceiptsModel" "s" "[I") ∈ wsX7_placeOf := List.mem_of_getElem? (i := 1) rfl
  have k1 : (Cond.constant RX7 43 (-2000000004)) ∈ wsX7_placeOf := List.mem_of_getElem? (i := 2) rfl
  have hinX7 : ∀ w ∈ wsX70, w ∈ wsX7_placeOf := fun w h => List.mem_cons_of_mem _ (List.mem_append_right _ h)
  refine cr_metR (by decide) rfl rfl (Nat.le_of_ble_eq_true rfl) ?_
  intro p e s m args below meth c ls C hP hS hl
  obtain ⟨hx, hb, hml, hown, hts, hr, hlocks, hK, hN⟩ := id C
  have hl : lv_has ls 3 [(0, .ref (az 0)), (1, .int x1)] := hl
  have n2 :  ∀ (n : Nat), ∀ (vz : cr_V) (x1 : Int32) (x2 : Int32) (hE : f_X7_placeOf_2  n vz x1 x2 = some out) (H : Heap) (locs : List Loc) (ls : Array Slot) (hP : va_P D vwCl (cr_wM ct az vz) H) (hS : va_S cr_no s.heap H locs) (hl : lv_has ls 3 [(0, .ref (az 0)), (1, .int x1), (2, .int x2)]), W p L e ({ frames := 1, cells := 0, slots := 0, locals := 22 } : Room) s m args below meth c H locs 0 0 (MQ below (cr_QR (fun r => r = out)) args s 0 0 cr_no) (F0 m 2 ls []) := by
    intro  n
    induction n with
    | zero =>
      intro vz x1 x2 hE
      cases hE
    | succ n ih =>
      intro vz x1 x2 hE H locs ls hP hS hl
      replace hE : (if (vz 0 6) ≤ x2 then (some (-2000000004)) else ((f_X7_of vz x2 0).bind fun q2 => if q2 = x1 then (some x2) else (f_X7_placeOf_2 n vz x1 (x2 + 1)))) = some out := hE
      refine lv_iload_n hx hb dX7_placeOf_2 rfl (lv_at hl 2 rfl) ?_
      refine lv_aload_n hx hb dX7_placeOf_3 rfl (lv_at hl 0 rfl) ?_
      refine cr_get C hP 0 rfl rfl 0 (by decide) hinX7 k0 (v := .ref (az 1)) rfl dX7_placeOf_4 ?_
      refine lv_bipush (v := 6) hx hb dX7_placeOf_7 (by decide) ?_
      refine cr_ald C hP 1 (f := vz 0) (k := 6) rfl (by decide) (by decide) dX7_placeOf_9 ?_
      refine lv_icmp_ge (tgt := 31) hx hb dX7_placeOf_10 (by decide) (fun c1 => ?_) (fun c1 => ?_)
      · rw [if_pos c1] at hE
        refine cr_ldc C k1 dX7_placeOf_31 ?_
        exact cr_retR C hS (Option.some.inj hE) dX7_placeOf_33
      · rw [if_neg c1] at hE
        refine lv_aload_n hx hb dX7_placeOf_13 rfl (lv_at hl 0 rfl) ?_
        refine lv_iload_n hx hb dX7_placeOf_14 rfl (lv_at hl 2 rfl) ?_
        refine lv_iconst (v := 0) hx hb dX7_placeOf_15 (by decide) ?_
        obtain ⟨q2, hq2, hE⟩ := cr_bind hE
        refine cr_vRq (n := 2) (As := [.int x2, .int 0]) (rest := []) C hP hS (m_X7_of L D ct az vz x2 0 q2 hq2) (cwV 2 hts gX7_placeOf_X7_of rfl rfl rfl (by decide +kernel) ⟨Nat.le_of_ble_eq_true rfl, Nat.le_of_ble_eq_true rfl⟩) [0, 1, 2, 3, 4, 5, 6, 7] rfl 0 rfl rfl rfl hl.1 rfl (Nat.le_of_ble_eq_true rfl) dX7_placeOf_16 ⟨Nat.zero_le _, Nat.zero_le _⟩ (fun H locs hP hS => ?_)
        refine lv_iload_n hx hb dX7_placeOf_19 rfl (lv_at hl 1 rfl) ?_
        refine lv_icmp_ne (tgt := 25) hx hb dX7_placeOf_20 (by decide) (fun c3 => ?_) (fun c3 => ?_)
        · rw [if_neg c3] at hE
          refine lv_iinc (v := x2 + 1) (lv' := [(2, .int (x2 + 1)), (0, .ref (az 0)), (1, .int x1)]) hx hb dX7_placeOf_25 hl (k := 2) rfl (by first | rfl | decide) (by decide) rfl (fun ls hl => ?_)
          refine lv_goto (tgt := 2) hx hb dX7_placeOf_28 (by decide) ?_
          exact ih vz x1 (x2 + 1) hE _ _ _ hP hS (lv_sub hl [1, 2, 0] rfl)
        · rw [if_pos c3] at hE
          refine lv_iload_n hx hb dX7_placeOf_23 rfl (lv_at hl 2 rfl) ?_
          exact cr_retR C hS (Option.some.inj hE) dX7_placeOf_24
  replace hE : (f_X7_placeOf_2 10100 vz x1 0) = some out := hE
  refine lv_iconst (v := 0) hx hb dX7_placeOf_0 (by decide) ?_
  refine lv_istore_n (lv' := [(2, .int 0), (0, .ref (az 0)), (1, .int x1)]) hx hb dX7_placeOf_1 rfl hl (by decide) rfl (fun ls hl => ?_)
  exact n2 10100 vz x1 0 hE _ _ _ hP hS (lv_sub hl [1, 2, 0] rfl)

set_option maxHeartbeats 4000000 in
set_option maxRecDepth 100000 in
theorem m_X7_isLot (L : Launch) (D : va_G) (ct : Nat → ClassId) (az : Nat → Nat) (vz : cr_V) (x1 : Int32) (out : Int32) (hE : f_X7_isLot vz x1 = some out) : Met L yX7_isLot wsX7_isLot ({ frames := 2, cells := 0, slots := 0, locals := 44 } : Room) (cr_pR D ct (cr_wM ct az vz) [.ref (az 0), .int x1]) (cr_QR (fun r => r = out)) 0 0 cr_no := by
  refine cr_metR (by decide) rfl rfl (Nat.le_of_ble_eq_true rfl) ?_
  intro p e s m args below meth c ls C hP hS hl
  obtain ⟨hx, hb, hml, hown, hts, hr, hlocks, hK, hN⟩ := id C
  have hl : lv_has ls 2 [(0, .ref (az 0)), (1, .int x1)] := hl
  replace hE : ((f_X7_placeOf vz x1).bind fun q1 => if q1 < 0 then (some 0) else (some 1)) = some out := hE
  refine lv_aload_n hx hb dX7_isLot_0 rfl (lv_at hl 0 rfl) ?_
  refine lv_iload_n hx hb dX7_isLot_1 rfl (lv_at hl 1 rfl) ?_
  obtain ⟨q1, hq1, hE⟩ := cr_bind hE
  refine cr_vRq (n := 1) (As := [.int x1]) (rest := []) C hP hS (m_X7_placeOf L D ct az vz x1 q1 hq1) (cwV 1 hts gX7_isLot_X7_placeOf rfl rfl rfl (by decide +kernel) ⟨Nat.le_of_ble_eq_true rfl, Nat.le_of_ble_eq_true rfl⟩) [0, 1, 2, 3, 4, 5, 6, 7] rfl 0 rfl rfl rfl hl.1 rfl (Nat.le_of_ble_eq_true rfl) dX7_isLot_2 ⟨Nat.zero_le _, Nat.zero_le _⟩ (fun H locs hP hS => ?_)
  refine lv_if_lt (tgt := 12) hx hb dX7_isLot_5 (by decide) (fun c2 => ?_) (fun c2 => ?_)
  · rw [if_pos c2] at hE
    refine lv_iconst (v := 0) hx hb dX7_isLot_12 (by decide) ?_
    exact cr_retRz C hS rfl (Option.some.inj hE) dX7_isLot_13
  · rw [if_neg c2] at hE
    refine lv_iconst (v := 1) hx hb dX7_isLot_8 (by decide) ?_
    refine lv_goto (tgt := 13) hx hb dX7_isLot_9 (by decide) ?_
    exact cr_retRz C hS rfl (Option.some.inj hE) dX7_isLot_13

set_option maxHeartbeats 4000000 in
set_option maxRecDepth 100000 in
theorem m_X7_cupAt (L : Launch) (D : va_G) (ct : Nat → ClassId) (az : Nat → Nat) (vz : cr_V) (x1 : Int32) (x2 : Int32) (out : Int32) (hE : f_X7_cupAt vz x1 x2 = some out) : Met L yX7_cupAt wsX7_cupAt ({ frames := 1, cells := 0, slots := 0, locals := 22 } : Room) (cr_pR D ct (cr_wM ct az vz) [.ref (az 0), .int x1, .int x2]) (cr_QR (fun r => r = out)) 0 0 cr_no := by
  refine cr_metR (by decide) rfl rfl (Nat.le_of_ble_eq_true rfl) ?_
  intro p e s m args below meth c ls C hP hS hl
  obtain ⟨hx, hb, hml, hown, hts, hr, hlocks, hK, hN⟩ := id C
  have hl : lv_has ls 4 [(0, .ref (az 0)), (1, .int x1), (2, .int x2)] := hl
  replace hE : ((f_X7_of vz x1 2).bind fun q1 => (f_X7_of vz x1 3).bind fun q2 => if 60 ≤ (q1 - ((x2 - q2) / 4)) then (some (q1 - ((x2 - q2) / 4))) else (some 60)) = some out := hE
  refine lv_aload_n hx hb dX7_cupAt_0 rfl (lv_at hl 0 rfl) ?_
  refine lv_iload_n hx hb dX7_cupAt_1 rfl (lv_at hl 1 rfl) ?_
  refine lv_iconst (v := 2) hx hb dX7_cupAt_2 (by decide) ?_
  obtain ⟨q1, hq1, hE⟩ := cr_bind hE
  refine cr_vRq (n := 2) (As := [.int x1, .int 2]) (rest := []) C hP hS (m_X7_of L D ct az vz x1 2 q1 hq1) (cwV 2 hts gX7_cupAt_X7_of rfl rfl rfl (by decide +kernel) ⟨Nat.le_of_ble_eq_true rfl, Nat.le_of_ble_eq_true rfl⟩) [0, 1, 2, 3, 4, 5, 6, 7] rfl 0 rfl rfl rfl hl.1 rfl (Nat.le_of_ble_eq_true rfl) dX7_cupAt_3 ⟨Nat.zero_le _, Nat.zero_le _⟩ (fun H locs hP hS => ?_)
  refine lv_iload_n hx hb dX7_cupAt_6 rfl (lv_at hl 2 rfl) ?_
  refine lv_aload_n hx hb dX7_cupAt_7 rfl (lv_at hl 0 rfl) ?_
  refine lv_iload_n hx hb dX7_cupAt_8 rfl (lv_at hl 1 rfl) ?_
  refine lv_iconst (v := 3) hx hb dX7_cupAt_9 (by decide) ?_
  obtain ⟨q2, hq2, hE⟩ := cr_bind hE
  refine cr_vRq (n := 2) (As := [.int x1, .int 3]) (rest := [.int x2, .int q1]) C hP hS (m_X7_of L D ct az vz x1 3 q2 hq2) (cwV 2 hts gX7_cupAt_X7_of rfl rfl rfl (by decide +kernel) ⟨Nat.le_of_ble_eq_true rfl, Nat.le_of_ble_eq_true rfl⟩) [0, 1, 2, 3, 4, 5, 6, 7] rfl 0 rfl rfl rfl hl.1 rfl (Nat.le_of_ble_eq_true rfl) dX7_cupAt_10 ⟨Nat.zero_le _, Nat.zero_le _⟩ (fun H locs hP hS => ?_)
  refine lv_isub hx hb dX7_cupAt_13 ?_
  refine lv_iconst (v := 4) hx hb dX7_cupAt_14 (by decide) ?_
  refine lv_idiv hx hb dX7_cupAt_15 (by decide) ?_
  refine lv_isub hx hb dX7_cupAt_16 ?_
  refine lv_istore_n (lv' := [(3, .int (q1 - ((x2 - q2) / 4))), (0, .ref (az 0)), (1, .int x1), (2, .int x2)]) hx hb dX7_cupAt_17 rfl hl (by decide) rfl (fun ls hl => ?_)
  refine lv_iload_n hx hb dX7_cupAt_18 rfl (lv_at hl 0 rfl) ?_
  refine lv_bipush (v := 60) hx hb dX7_cupAt_19 (by decide) ?_
  refine lv_icmp_ge (tgt := 29) hx hb dX7_cupAt_21 (by decide) (fun c3 => ?_) (fun c3 => ?_)
  · rw [if_pos c3] at hE
    refine lv_iload_n hx hb dX7_cupAt_29 rfl (lv_at hl 0 rfl) ?_
    exact cr_retR C hS (Option.some.inj hE) dX7_cupAt_30
  · rw [if_neg c3] at hE
    refine lv_bipush (v := 60) hx hb dX7_cupAt_24 (by decide) ?_
    refine lv_goto (tgt := 30) hx hb dX7_cupAt_26 (by decide) ?_
    exact cr_retR C hS (Option.some.inj hE) dX7_cupAt_30

set_option maxHeartbeats 4000000 in
set_option maxRecDepth 100000 in
theorem m_X7_cupOf (L : Launch) (D : va_G) (ct : Nat → ClassId) (az : Nat → Nat) (vz : cr_V) (x1 : Int32) (out : Int32) (hE : f_X7_cupOf vz x1 = some out) : Met L yX7_cupOf wsX7_cupOf ({ frames := 2, cells := 0, slots := 0, locals := 45 } : Room) (cr_pR D ct (cr_wM ct az vz) [.ref (az 0), .int x1]) (cr_QR (fun r => r = out)) 0 0 cr_no := by
  have k0 : (Cond.fieldLink RX7 7 "CupReceiptsModel" "s" "[I") ∈ wsX7_cupOf := List.mem_of_getElem? (i := 1) rfl
  have hinX7 : ∀ w ∈ wsX70, w ∈ wsX7_cupOf := fun w h => List.mem_cons_of_mem _ (List.mem_append_right _ h)
  refine cr_metR (by decide) rfl rfl (Nat.le_of_ble_eq_true rfl) ?_
  intro p e s m args below meth c ls C hP hS hl
  obtain ⟨hx, hb, hml, hown, hts, hr, hlocks, hK, hN⟩ := id C
  have hl : lv_has ls 2 [(0, .ref (az 0)), (1, .int x1)] := hl
  replace hE : ((f_X7_cupAt vz x1 (vz 0 0)).bind fun q1 => some q1) = some out := hE
  refine lv_aload_n hx hb dX7_cupOf_0 rfl (lv_at hl 0 rfl) ?_
  refine lv_iload_n hx hb dX7_cupOf_1 rfl (lv_at hl 1 rfl) ?_
  refine lv_aload_n hx hb dX7_cupOf_2 rfl (lv_at hl 0 rfl) ?_
  refine cr_get C hP 0 rfl rfl 0 (by decide) hinX7 k0 (v := .ref (az 1)) rfl dX7_cupOf_3 ?_
  refine lv_iconst (v := 0) hx hb dX7_cupOf_6 (by decide) ?_
  refine cr_ald C hP 1 (f := vz 0) (k := 0) rfl (by decide) (by decide) dX7_cupOf_7 ?_
  obtain ⟨q1, hq1, hE⟩ := cr_bind hE
  refine cr_vRq (n := 2) (As := [.int x1, .int (vz 0 0)]) (rest := []) C hP hS (m_X7_cupAt L D ct az vz x1 (vz 0 0) q1 hq1) (cwV 2 hts gX7_cupOf_X7_cupAt rfl rfl rfl (by decide +kernel) ⟨Nat.le_of_ble_eq_true rfl, Nat.le_of_ble_eq_true rfl⟩) [0, 1, 2, 3, 4, 5, 6, 7] rfl 0 rfl rfl rfl hl.1 rfl (Nat.le_of_ble_eq_true rfl) dX7_cupOf_8 ⟨Nat.zero_le _, Nat.zero_le _⟩ (fun H locs hP hS => ?_)
  exact cr_retR C hS (Option.some.inj hE) dX7_cupOf_11

set_option maxHeartbeats 4000000 in
set_option maxRecDepth 100000 in
theorem m_X7_bandOf (L : Launch) (D : va_G) (ct : Nat → ClassId)   (x0 : Int32) (out : Int32) (hE : f_X7_bandOf x0 = some out) : Met L yX7_bandOf wsX7_bandOf ({ frames := 0, cells := 0, slots := 0, locals := 0 } : Room) (cr_pR D ct ([]) [.int x0]) (cr_QR (fun r => r = out)) 0 0 cr_no := by
  refine cr_metR (by decide) rfl rfl (Nat.le_of_ble_eq_true rfl) ?_
  intro p e s m args below meth c ls C hP hS hl
  obtain ⟨hx, hb, hml, hown, hts, hr, hlocks, hK, hN⟩ := id C
  have hl : lv_has ls 1 [(0, .int x0)] := hl
  replace hE : (if 70 ≤ x0 then (if 80 ≤ x0 then (if 90 ≤ x0 then (some 3) else (some 2)) else (some 1)) else (some 0)) = some out := hE
  refine lv_iload_n hx hb dX7_bandOf_0 rfl (lv_at hl 0 rfl) ?_
  refine lv_bipush (v := 70) hx hb dX7_bandOf_1 (by decide) ?_
  refine lv_icmp_ge (tgt := 10) hx hb dX7_bandOf_3 (by decide) (fun c1 => ?_) (fun c1 => ?_)
  · rw [if_pos c1] at hE
    refine lv_iload_n hx hb dX7_bandOf_10 rfl (lv_at hl 0 rfl) ?_
    refine lv_bipush (v := 80) hx hb dX7_bandOf_11 (by decide) ?_
    refine lv_icmp_ge (tgt := 20) hx hb dX7_bandOf_13 (by decide) (fun c2 => ?_) (fun c2 => ?_)
    · rw [if_pos c2] at hE
      refine lv_iload_n hx hb dX7_bandOf_20 rfl (lv_at hl 0 rfl) ?_
      refine lv_bipush (v := 90) hx hb dX7_bandOf_21 (by decide) ?_
      refine lv_icmp_ge (tgt := 30) hx hb dX7_bandOf_23 (by decide) (fun c3 => ?_) (fun c3 => ?_)
      · rw [if_pos c3] at hE
        refine lv_iconst (v := 3) hx hb dX7_bandOf_30 (by decide) ?_
        exact cr_retR C hS (Option.some.inj hE) dX7_bandOf_31
      · rw [if_neg c3] at hE
        refine lv_iconst (v := 2) hx hb dX7_bandOf_26 (by decide) ?_
        refine lv_goto (tgt := 31) hx hb dX7_bandOf_27 (by decide) ?_
        exact cr_retR C hS (Option.some.inj hE) dX7_bandOf_31
    · rw [if_neg c2] at hE
      refine lv_iconst (v := 1) hx hb dX7_bandOf_16 (by decide) ?_
      refine lv_goto (tgt := 31) hx hb dX7_bandOf_17 (by decide) ?_
      exact cr_retR C hS (Option.some.inj hE) dX7_bandOf_31
  · rw [if_neg c1] at hE
    refine lv_iconst (v := 0) hx hb dX7_bandOf_6 (by decide) ?_
    refine lv_goto (tgt := 31) hx hb dX7_bandOf_7 (by decide) ?_
    exact cr_retR C hS (Option.some.inj hE) dX7_bandOf_31

set_option maxHeartbeats 4000000 in
set_option maxRecDepth 100000 in
theorem m_X7_lateAt (L : Launch) (D : va_G) (ct : Nat → ClassId) (az : Nat → Nat) (vz : cr_V) (x1 : Int32) (x2 : Int32) (out : Int32) (hE : f_X7_lateAt vz x1 x2 = some out) : Met L yX7_lateAt wsX7_lateAt ({ frames := 1, cells := 0, slots := 0, locals := 22 } : Room) (cr_pR D ct (cr_wM ct az vz) [.ref (az 0), .int x1, .int x2]) (cr_QR (fun r => r = out)) 0 0 cr_no := by
  refine cr_metR (by decide) rfl rfl (Nat.le_of_ble_eq_true rfl) ?_
  intro p e s m args below meth c ls C hP hS hl
  obtain ⟨hx, hb, hml, hown, hts, hr, hlocks, hK, hN⟩ := id C
  have hl : lv_has ls 4 [(0, .ref (az 0)), (1, .int x1), (2, .int x2)] := hl
  replace hE : ((f_X7_of vz x1 3).bind fun q1 => if 0 ≤ ((x2 - q1) - 3) then (some ((x2 - q1) - 3)) else (some 0)) = some out := hE
  refine lv_iload_n hx hb dX7_lateAt_0 rfl (lv_at hl 2 rfl) ?_
  refine lv_aload_n hx hb dX7_lateAt_1 rfl (lv_at hl 0 rfl) ?_
  refine lv_iload_n hx hb dX7_lateAt_2 rfl (lv_at hl 1 rfl) ?_
  refine lv_iconst (v := 3) hx hb dX7_lateAt_3 (by decide) ?_
  obtain ⟨q1, hq1, hE⟩ := cr_bind hE
  refine cr_vRq (n := 2) (As := [.int x1, .int 3]) (rest := [.int x2]) C hP hS (m_X7_of L D ct az vz x1 3 q1 hq1) (cwV 2 hts gX7_lateAt_X7_of rfl rfl rfl (by decide +kernel) ⟨Nat.le_of_ble_eq_true rfl, Nat.le_of_ble_eq_true rfl⟩) [0, 1, 2, 3, 4, 5, 6, 7] rfl 0 rfl rfl rfl hl.1 rfl (Nat.le_of_ble_eq_true rfl) dX7_lateAt_4 ⟨Nat.zero_le _, Nat.zero_le _⟩ (fun H locs hP hS => ?_)
  refine lv_isub hx hb dX7_lateAt_7 ?_
  refine lv_iconst (v := 3) hx hb dX7_lateAt_8 (by decide) ?_
  refine lv_isub hx hb dX7_lateAt_9 ?_
  refine lv_istore_n (lv' := [(3, .int ((x2 - q1) - 3)), (0, .ref (az 0)), (1, .int x1), (2, .int x2)]) hx hb dX7_lateAt_10 rfl hl (by decide) rfl (fun ls hl => ?_)
  refine lv_iload_n hx hb dX7_lateAt_11 rfl (lv_at hl 0 rfl) ?_
  refine lv_if_ge (tgt := 19) hx hb dX7_lateAt_12 (by decide) (fun c2 => ?_) (fun c2 => ?_)
  · rw [if_pos c2] at hE
    refine lv_iload_n hx hb dX7_lateAt_19 rfl (lv_at hl 0 rfl) ?_
    exact cr_retR C hS (Option.some.inj hE) dX7_lateAt_20
  · rw [if_neg c2] at hE
    refine lv_iconst (v := 0) hx hb dX7_lateAt_15 (by decide) ?_
    refine lv_goto (tgt := 20) hx hb dX7_lateAt_16 (by decide) ?_
    exact cr_retR C hS (Option.some.inj hE) dX7_lateAt_20

set_option maxHeartbeats 4000000 in
set_option maxRecDepth 100000 in
theorem m_X7_paidAt (L : Launch) (D : va_G) (ct : Nat → ClassId) (az : Nat → Nat) (vz : cr_V) (x1 : Int32) (x2 : Int32) (x3 : Int32) (out : Int32) (hE : f_X7_paidAt vz x1 x2 x3 = some out) : Met L yX7_paidAt wsX7_paidAt ({ frames := 2, cells := 0, slots := 0, locals := 45 } : Room) (cr_pR D ct (cr_wM ct az vz) [.ref (az 0), .int x1, .int x2, .int x3]) (cr_QR (fun r => r = out)) 0 0 cr_no := by
  have k0 : (Cond.fieldLink RX7 7 "CupReceiptsModel" "s" "[I") ∈ wsX7_paidAt := List.mem_of_getElem? (i := 1) rfl
  have hinX7 : ∀ w ∈ wsX70, w ∈ wsX7_paidAt := fun w h => List.mem_cons_of_mem _ (List.mem_append_right _ h)
  refine cr_metR (by decide) rfl rfl (Nat.le_of_ble_eq_true rfl) ?_
  intro p e s m args below meth c ls C hP hS hl
  obtain ⟨hx, hb, hml, hown, hts, hr, hlocks, hK, hN⟩ := id C
  have hl : lv_has ls 5 [(0, .ref (az 0)), (1, .int x1), (2, .int x2), (3, .int x3)] := hl
  replace hE : ((f_X7_cupAt vz x1 x3).bind fun q1 => (f_X7_lateAt vz x1 x3).bind fun q2 => if 1 ≤ ((x2 + ((q1 - 80) * (vz 0 10))) - ((vz 0 11) * q2)) then (some ((x2 + ((q1 - 80) * (vz 0 10))) - ((vz 0 11) * q2))) else (some 1)) = some out := hE
  refine lv_iload_n hx hb dX7_paidAt_0 rfl (lv_at hl 2 rfl) ?_
  refine lv_aload_n hx hb dX7_paidAt_1 rfl (lv_at hl 0 rfl) ?_
  refine lv_iload_n hx hb dX7_paidAt_2 rfl (lv_at hl 1 rfl) ?_
  refine lv_iload_n hx hb dX7_paidAt_3 rfl (lv_at hl 3 rfl) ?_
  obtain ⟨q1, hq1, hE⟩ := cr_bind hE
  refine cr_vRq (n := 2) (As := [.int x1, .int x3]) (rest := [.int x2]) C hP hS (m_X7_cupAt L D ct az vz x1 x3 q1 hq1) (cwV 2 hts gX7_paidAt_X7_cupAt rfl rfl rfl (by decide +kernel) ⟨Nat.le_of_ble_eq_true rfl, Nat.le_of_ble_eq_true rfl⟩) [0, 1, 2, 3, 4, 5, 6, 7] rfl 0 rfl rfl rfl hl.1 rfl (Nat.le_of_ble_eq_true rfl) dX7_paidAt_4 ⟨Nat.zero_le _, Nat.zero_le _⟩ (fun H locs hP hS => ?_)
  refine lv_bipush (v := 80) hx hb dX7_paidAt_7 (by decide) ?_
  refine lv_isub hx hb dX7_paidAt_9 ?_
  refine lv_aload_n hx hb dX7_paidAt_10 rfl (lv_at hl 0 rfl) ?_
  refine cr_get C hP 0 rfl rfl 0 (by decide) hinX7 k0 (v := .ref (az 1)) rfl dX7_paidAt_11 ?_
  refine lv_bipush (v := 10) hx hb dX7_paidAt_14 (by decide) ?_
  refine cr_ald C hP 1 (f := vz 0) (k := 10) rfl (by decide) (by decide) dX7_paidAt_16 ?_
  refine lv_imul hx hb dX7_paidAt_17 ?_
  refine lv_iadd hx hb dX7_paidAt_18 ?_
  refine lv_aload_n hx hb dX7_paidAt_19 rfl (lv_at hl 0 rfl) ?_
  refine cr_get C hP 0 rfl rfl 0 (by decide) hinX7 k0 (v := .ref (az 1)) rfl dX7_paidAt_20 ?_
  refine lv_bipush (v := 11) hx hb dX7_paidAt_23 (by decide) ?_
  refine cr_ald C hP 1 (f := vz 0) (k := 11) rfl (by decide) (by decide) dX7_paidAt_25 ?_
  refine lv_aload_n hx hb dX7_paidAt_26 rfl (lv_at hl 0 rfl) ?_
  refine lv_iload_n hx hb dX7_paidAt_27 rfl (lv_at hl 1 rfl) ?_
  refine lv_iload_n hx hb dX7_paidAt_28 rfl (lv_at hl 3 rfl) ?_
  obtain ⟨q2, hq2, hE⟩ := cr_bind hE
  refine cr_vRq (n := 2) (As := [.int x1, .int x3]) (rest := [.int (vz 0 11), .int (x2 + ((q1 - 80) * (vz 0 10)))]) C hP hS (m_X7_lateAt L D ct az vz x1 x3 q2 hq2) (cwV 2 hts gX7_paidAt_X7_lateAt rfl rfl rfl (by decide +kernel) ⟨Nat.le_of_ble_eq_true rfl, Nat.le_of_ble_eq_true rfl⟩) [0, 1, 2, 3, 4, 5, 6, 7] rfl 0 rfl rfl rfl hl.1 rfl (Nat.le_of_ble_eq_true rfl) dX7_paidAt_29 ⟨Nat.zero_le _, Nat.zero_le _⟩ (fun H locs hP hS => ?_)
  refine lv_imul hx hb dX7_paidAt_32 ?_
  refine lv_isub hx hb dX7_paidAt_33 ?_
  refine lv_istore (lv' := [(4, .int ((x2 + ((q1 - 80) * (vz 0 10))) - ((vz 0 11) * q2))), (0, .ref (az 0)), (1, .int x1), (2, .int x2), (3, .int x3)]) hx hb dX7_paidAt_34 hl (by decide) rfl (fun ls hl => ?_)
  refine lv_iload hx hb dX7_paidAt_36 (lv_at hl 0 rfl) ?_
  refine lv_iconst (v := 1) hx hb dX7_paidAt_38 (by decide) ?_
  refine lv_icmp_ge (tgt := 46) hx hb dX7_paidAt_39 (by decide) (fun c3 => ?_) (fun c3 => ?_)
  · rw [if_pos c3] at hE
    refine lv_iload hx hb dX7_paidAt_46 (lv_at hl 0 rfl) ?_
    exact cr_retR C hS (Option.some.inj hE) dX7_paidAt_48
  · rw [if_neg c3] at hE
    refine lv_iconst (v := 1) hx hb dX7_paidAt_42 (by decide) ?_
    refine lv_goto (tgt := 48) hx hb dX7_paidAt_43 (by decide) ?_
    exact cr_retR C hS (Option.some.inj hE) dX7_paidAt_48

set_option maxHeartbeats 4000000 in
set_option maxRecDepth 100000 in
theorem m_X7_gainAt (L : Launch) (D : va_G) (ct : Nat → ClassId) (az : Nat → Nat) (vz : cr_V) (x1 : Int32) (x2 : Int32) (x3 : Int32) (out : Int32) (hE : f_X7_gainAt vz x1 x2 x3 = some out) : Met L yX7_gainAt wsX7_gainAt ({ frames := 3, cells := 0, slots := 0, locals := 69 } : Room) (cr_pR D ct (cr_wM ct az vz) [.ref (az 0), .int x1, .int x2, .int x3]) (cr_QR (fun r => r = out)) 0 0 cr_no := by
  have k0 : (Cond.fieldLink RX7 7 "CupReceiptsModel" "s" "[I") ∈ wsX7_gainAt := List.mem_of_getElem? (i := 1) rfl
  have hinX7 : ∀ w ∈ wsX70, w ∈ wsX7_gainAt := fun w h => List.mem_cons_of_mem _ (List.mem_append_right _ h)
  refine cr_metR (by decide) rfl rfl (Nat.le_of_ble_eq_true rfl) ?_
  intro p e s m args below meth c ls C hP hS hl
  obtain ⟨hx, hb, hml, hown, hts, hr, hlocks, hK, hN⟩ := id C
  have hl : lv_has ls 4 [(0, .ref (az 0)), (1, .int x1), (2, .int x2), (3, .int x3)] := hl
  replace hE : ((f_X7_paidAt vz x1 x2 x3).bind fun q1 => (f_X7_cupAt vz x1 x3).bind fun q2 => (f_X7_bandOf q2).bind fun q3 => if cr_in (13 + q3) 81 = true then some (q1 - (vz 0 (cr_x (13 + q3)))) else none) = some out := hE
  refine lv_aload_n hx hb dX7_gainAt_0 rfl (lv_at hl 0 rfl) ?_
  refine lv_iload_n hx hb dX7_gainAt_1 rfl (lv_at hl 1 rfl) ?_
  refine lv_iload_n hx hb dX7_gainAt_2 rfl (lv_at hl 2 rfl) ?_
  refine lv_iload_n hx hb dX7_gainAt_3 rfl (lv_at hl 3 rfl) ?_
  obtain ⟨q1, hq1, hE⟩ := cr_bind hE
  refine cr_vRq (n := 3) (As := [.int x1, .int x2, .int x3]) (rest := []) C hP hS (m_X7_paidAt L D ct az vz x1 x2 x3 q1 hq1) (cwV 3 hts gX7_gainAt_X7_paidAt rfl rfl rfl (by decide +kernel) ⟨Nat.le_of_ble_eq_true rfl, Nat.le_of_ble_eq_true rfl⟩) [0, 1, 2, 3, 4, 5, 6, 7] rfl 0 rfl rfl rfl hl.1 rfl (Nat.le_of_ble_eq_true rfl) dX7_gainAt_4 ⟨Nat.zero_le _, Nat.zero_le _⟩ (fun H locs hP hS => ?_)
  refine lv_aload_n hx hb dX7_gainAt_7 rfl (lv_at hl 0 rfl) ?_
  refine cr_get C hP 0 rfl rfl 0 (by decide) hinX7 k0 (v := .ref (az 1)) rfl dX7_gainAt_8 ?_
  refine lv_bipush (v := 13) hx hb dX7_gainAt_11 (by decide) ?_
  refine lv_aload_n hx hb dX7_gainAt_13 rfl (lv_at hl 0 rfl) ?_
  refine lv_iload_n hx hb dX7_gainAt_14 rfl (lv_at hl 1 rfl) ?_
  refine lv_iload_n hx hb dX7_gainAt_15 rfl (lv_at hl 3 rfl) ?_
  obtain ⟨q2, hq2, hE⟩ := cr_bind hE
  refine cr_vRq (n := 2) (As := [.int x1, .int x3]) (rest := [.int 13, .ref (az 1), .int q1]) C hP hS (m_X7_cupAt L D ct az vz x1 x3 q2 hq2) (cwV 2 hts gX7_gainAt_X7_cupAt rfl rfl rfl (by decide +kernel) ⟨Nat.le_of_ble_eq_true rfl, Nat.le_of_ble_eq_true rfl⟩) [0, 1, 2, 3, 4, 5, 6, 7] rfl 0 rfl rfl rfl hl.1 rfl (Nat.le_of_ble_eq_true rfl) dX7_gainAt_16 ⟨Nat.zero_le _, Nat.zero_le _⟩ (fun H locs hP hS => ?_)
  obtain ⟨q3, hq3, hE⟩ := cr_bind hE
  refine cr_sRq (n := 1) (As := [.int q2]) (rest := [.int 13, .ref (az 1), .int q1]) C hP hS (m_X7_bandOf L D ct q2 q3 hq3) (va_cwS 1 hts gX7_gainAt_X7_bandOf rfl rfl rfl (by decide +kernel) ⟨Nat.le_of_ble_eq_true rfl, Nat.le_of_ble_eq_true rfl⟩) rfl hl.1 rfl (Nat.le_of_ble_eq_true rfl) dX7_gainAt_19 ⟨Nat.zero_le _, Nat.zero_le _⟩ (fun H locs hP hS => ?_)
  refine lv_iadd hx hb dX7_gainAt_22 ?_
  obtain ⟨i4, hE⟩ := cr_ifn hE
  refine cr_ald C hP 1 (f := vz 0) (k := cr_x (13 + q3)) rfl i4 (cr_xe _) dX7_gainAt_23 ?_
  refine lv_isub hx hb dX7_gainAt_24 ?_
  exact cr_retR C hS (Option.some.inj hE) dX7_gainAt_25

set_option maxHeartbeats 4000000 in
set_option maxRecDepth 100000 in
theorem m_X7_makes (L : Launch) (D : va_G) (ct : Nat → ClassId) (az : Nat → Nat) (vz : cr_V) (x1 : Int32) (x2 : Int32) (x3 : Int32) (sz : Nat) (out : Int32 × cr_V) (hE : f_X7_makes vz x1 x2 x3 = some out) : Met L yX7_makes wsX7_makes ({ frames := 0, cells := 0, slots := 0, locals := 0 } : Room) (cr_pW D ct (cr_wM ct az vz) sz [.ref (az 0), .int x1, .int x2, .int x3]) (cr_QW D (cr_wM ct az vz) sz (fun r u => (r, u) = out) (fun u : cr_V => cr_wM ct az u)) 0 0 (va_A (cr_wM ct az vz) sz) := by
  have k0 : (Cond.fieldLink RX7 7 "CupReceiptsModel" "s" "[I") ∈ wsX7_makes := List.mem_of_getElem? (i := 1) rfl
  have hinX7 : ∀ w ∈ wsX70, w ∈ wsX7_makes := fun w h => List.mem_cons_of_mem _ (List.mem_append_right _ h)
  refine cr_metW (Qc := fun A => va_Qi (fun r u => (r, u) = out) (fun u t => cr_at D A ((fun u : cr_V => cr_wM ct az u) u) t) A) (by decide) rfl rfl (Nat.le_of_ble_eq_true rfl) ?_
  intro p e s m args below meth c ls A C hW hl
  obtain ⟨hx, hb, hml, hown, hts, hr, hlocks, hK, hN⟩ := id C
  have hl : lv_has ls 5 [(0, .ref (az 0)), (1, .int x1), (2, .int x2), (3, .int x3)] := hl
  replace hE : (if cr_in ((17 + (4 * (vz 0 6))) + 0) 81 = true then if cr_in ((17 + (4 * (vz 0 6))) + 1) 81 = true then if cr_in ((17 + (4 * (vz 0 6))) + 2) 81 = true then if cr_in ((17 + (4 * (vz 0 6))) + 3) 81 = true then some ((((cr_a (cr_a (cr_a (cr_a (cr_a (cr_a vz 0 (cr_x ((17 + (4 * (vz 0 6))) + 0)) (vz 0 5)) 0 (cr_x ((17 + (4 * (vz 0 6))) + 1)) x1) 0 (cr_x ((17 + (4 * (vz 0 6))) + 2)) x2) 0 (cr_x ((17 + (4 * (vz 0 6))) + 3)) x3) 0 6 (((cr_a (cr_a (cr_a (cr_a vz 0 (cr_x ((17 + (4 * (vz 0 6))) + 0)) (vz 0 5)) 0 (cr_x ((17 + (4 * (vz 0 6))) + 1)) x1) 0 (cr_x ((17 + (4 * (vz 0 6))) + 2)) x2) 0 (cr_x ((17 + (4 * (vz 0 6))) + 3)) x3) 0 6) + 1)) 0 5 (((cr_a (cr_a (cr_a (cr_a (cr_a vz 0 (cr_x ((17 + (4 * (vz 0 6))) + 0)) (vz 0 5)) 0 (cr_x ((17 + (4 * (vz 0 6))) + 1)) x1) 0 (cr_x ((17 + (4 * (vz 0 6))) + 2)) x2) 0 (cr_x ((17 + (4 * (vz 0 6))) + 3)) x3) 0 6 (((cr_a (cr_a (cr_a (cr_a vz 0 (cr_x ((17 + (4 * (vz 0 6))) + 0)) (vz 0 5)) 0 (cr_x ((17 + (4 * (vz 0 6))) + 1)) x1) 0 (cr_x ((17 + (4 * (vz 0 6))) + 2)) x2) 0 (cr_x ((17 + (4 * (vz 0 6))) + 3)) x3) 0 6) + 1)) 0 5) + 1)) 0 5) - 1), (cr_a (cr_a (cr_a (cr_a (cr_a (cr_a vz 0 (cr_x ((17 + (4 * (vz 0 6))) + 0)) (vz 0 5)) 0 (cr_x ((17 + (4 * (vz 0 6))) + 1)) x1) 0 (cr_x ((17 + (4 * (vz 0 6))) + 2)) x2) 0 (cr_x ((17 + (4 * (vz 0 6))) + 3)) x3) 0 6 (((cr_a (cr_a (cr_a (cr_a vz 0 (cr_x ((17 + (4 * (vz 0 6))) + 0)) (vz 0 5)) 0 (cr_x ((17 + (4 * (vz 0 6))) + 1)) x1) 0 (cr_x ((17 + (4 * (vz 0 6))) + 2)) x2) 0 (cr_x ((17 + (4 * (vz 0 6))) + 3)) x3) 0 6) + 1)) 0 5 (((cr_a (cr_a (cr_a (cr_a (cr_a vz 0 (cr_x ((17 + (4 * (vz 0 6))) + 0)) (vz 0 5)) 0 (cr_x ((17 + (4 * (vz 0 6))) + 1)) x1) 0 (cr_x ((17 + (4 * (vz 0 6))) + 2)) x2) 0 (cr_x ((17 + (4 * (vz 0 6))) + 3)) x3) 0 6 (((cr_a (cr_a (cr_a (cr_a vz 0 (cr_x ((17 + (4 * (vz 0 6))) + 0)) (vz 0 5)) 0 (cr_x ((17 + (4 * (vz 0 6))) + 1)) x1) 0 (cr_x ((17 + (4 * (vz 0 6))) + 2)) x2) 0 (cr_x ((17 + (4 * (vz 0 6))) + 3)) x3) 0 6) + 1)) 0 5) + 1))) else none else none else none else none) = some out := hE
  refine lv_bipush (v := 17) hx hb dX7_makes_0 (by decide) ?_
  refine lv_iconst (v := 4) hx hb dX7_makes_2 (by decide) ?_
  refine lv_aload_n hx hb dX7_makes_3 rfl (lv_at hl 0 rfl) ?_
  refine cr_get C hW.1 0 rfl rfl 0 (by decide) hinX7 k0 (v := .ref (az 1)) rfl dX7_makes_4 ?_
  refine lv_bipush (v := 6) hx hb dX7_makes_7 (by decide) ?_
  refine cr_ald C hW.1 1 (f := vz 0) (k := 6) rfl (by decide) (by decide) dX7_makes_9 ?_
  refine lv_imul hx hb dX7_makes_10 ?_
  refine lv_iadd hx hb dX7_makes_11 ?_
  refine lv_istore (lv' := [(4, .int (17 + (4 * (vz 0 6)))), (0, .ref (az 0)), (1, .int x1), (2, .int x2), (3, .int x3)]) hx hb dX7_makes_12 hl (by decide) rfl (fun ls hl => ?_)
  refine lv_aload_n hx hb dX7_makes_14 rfl (lv_at hl 1 rfl) ?_
  refine cr_get C hW.1 0 rfl rfl 0 (by decide) hinX7 k0 (v := .ref (az 1)) rfl dX7_makes_15 ?_
  refine lv_iload hx hb dX7_makes_18 (lv_at hl 0 rfl) ?_
  refine lv_iconst (v := 0) hx hb dX7_makes_20 (by decide) ?_
  refine lv_iadd hx hb dX7_makes_21 ?_
  refine lv_aload_n hx hb dX7_makes_22 rfl (lv_at hl 1 rfl) ?_
  refine cr_get C hW.1 0 rfl rfl 0 (by decide) hinX7 k0 (v := .ref (az 1)) rfl dX7_makes_23 ?_
  refine lv_iconst (v := 5) hx hb dX7_makes_26 (by decide) ?_
  refine cr_ald C hW.1 1 (f := vz 0) (k := 5) rfl (by decide) (by decide) dX7_makes_27 ?_
  obtain ⟨i1, hE⟩ := cr_ifn hE
  refine cr_ast C hW 1 rfl (k := (cr_x ((17 + (4 * (vz 0 6))) + 0))) i1 (cr_xe _) (w' := cr_wM ct az (cr_a vz 0 (cr_x ((17 + (4 * (vz 0 6))) + 0)) (vz 0 5))) rfl dX7_makes_28 (fun H locs hW => ?_)
  refine lv_aload_n hx hb dX7_makes_29 rfl (lv_at hl 1 rfl) ?_
  refine cr_get C hW.1 0 rfl rfl 0 (by decide) hinX7 k0 (v := .ref (az 1)) rfl dX7_makes_30 ?_
  refine lv_iload hx hb dX7_makes_33 (lv_at hl 0 rfl) ?_
  refine lv_iconst (v := 1) hx hb dX7_makes_35 (by decide) ?_
  refine lv_iadd hx hb dX7_makes_36 ?_
  refine lv_iload_n hx hb dX7_makes_37 rfl (lv_at hl 2 rfl) ?_
  obtain ⟨i2, hE⟩ := cr_ifn hE
  refine cr_ast C hW 1 rfl (k := (cr_x ((17 + (4 * (vz 0 6))) + 1))) i2 (cr_xe _) (w' := cr_wM ct az (cr_a (cr_a vz 0 (cr_x ((17 + (4 * (vz 0 6))) + 0)) (vz 0 5)) 0 (cr_x ((17 + (4 * (vz 0 6))) + 1)) x1)) rfl dX7_makes_38 (fun H locs hW => ?_)
  refine lv_aload_n hx hb dX7_makes_39 rfl (lv_at hl 1 rfl) ?_
  refine cr_get C hW.1 0 rfl rfl 0 (by decide) hinX7 k0 (v := .ref (az 1)) rfl dX7_makes_40 ?_
  refine lv_iload hx hb dX7_makes_43 (lv_at hl 0 rfl) ?_
  refine lv_iconst (v := 2) hx hb dX7_makes_45 (by decide) ?_
  refine lv_iadd hx hb dX7_makes_46 ?_
  refine lv_iload_n hx hb dX7_makes_47 rfl (lv_at hl 3 rfl) ?_
  obtain ⟨i3, hE⟩ := cr_ifn hE
  refine cr_ast C hW 1 rfl (k := (cr_x ((17 + (4 * (vz 0 6))) + 2))) i3 (cr_xe _) (w' := cr_wM ct az (cr_a (cr_a (cr_a vz 0 (cr_x ((17 + (4 * (vz 0 6))) + 0)) (vz 0 5)) 0 (cr_x ((17 + (4 * (vz 0 6))) + 1)) x1) 0 (cr_x ((17 + (4 * (vz 0 6))) + 2)) x2)) rfl dX7_makes_48 (fun H locs hW => ?_)
  refine lv_aload_n hx hb dX7_makes_49 rfl (lv_at hl 1 rfl) ?_
  refine cr_get C hW.1 0 rfl rfl 0 (by decide) hinX7 k0 (v := .ref (az 1)) rfl dX7_makes_50 ?_
  refine lv_iload hx hb dX7_makes_53 (lv_at hl 0 rfl) ?_
  refine lv_iconst (v := 3) hx hb dX7_makes_55 (by decide) ?_
  refine lv_iadd hx hb dX7_makes_56 ?_
  refine lv_iload_n hx hb dX7_makes_57 rfl (lv_at hl 4 rfl) ?_
  obtain ⟨i4, hE⟩ := cr_ifn hE
  refine cr_ast C hW 1 rfl (k := (cr_x ((17 + (4 * (vz 0 6))) + 3))) i4 (cr_xe _) (w' := cr_wM ct az (cr_a (cr_a (cr_a (cr_a vz 0 (cr_x ((17 + (4 * (vz 0 6))) + 0)) (vz 0 5)) 0 (cr_x ((17 + (4 * (vz 0 6))) + 1)) x1) 0 (cr_x ((17 + (4 * (vz 0 6))) + 2)) x2) 0 (cr_x ((17 + (4 * (vz 0 6))) + 3)) x3)) rfl dX7_makes_58 (fun H locs hW => ?_)
  refine lv_aload_n hx hb dX7_makes_59 rfl (lv_at hl 1 rfl) ?_
  refine cr_get C hW.1 0 rfl rfl 0 (by decide) hinX7 k0 (v := .ref (az 1)) rfl dX7_makes_60 ?_
  refine lv_bipush (v := 6) hx hb dX7_makes_63 (by decide) ?_
  refine lv_dup2_11 hx hb dX7_makes_65 rfl rfl ?_
  refine cr_ald C hW.1 1 (f := (cr_a (cr_a (cr_a (cr_a vz 0 (cr_x ((17 + (4 * (vz 0 6))) + 0)) (vz 0 5)) 0 (cr_x ((17 + (4 * (vz 0 6))) + 1)) x1) 0 (cr_x ((17 + (4 * (vz 0 6))) + 2)) x2) 0 (cr_x ((17 + (4 * (vz 0 6))) + 3)) x3) 0) (k := 6) rfl (by decide) (by decide) dX7_makes_66 ?_
  refine lv_iconst (v := 1) hx hb dX7_makes_67 (by decide) ?_
  refine lv_iadd hx hb dX7_makes_68 ?_
  refine cr_ast C hW 1 rfl (k := 6) (by decide) (by decide) (w' := cr_wM ct az (cr_a (cr_a (cr_a (cr_a (cr_a vz 0 (cr_x ((17 + (4 * (vz 0 6))) + 0)) (vz 0 5)) 0 (cr_x ((17 + (4 * (vz 0 6))) + 1)) x1) 0 (cr_x ((17 + (4 * (vz 0 6))) + 2)) x2) 0 (cr_x ((17 + (4 * (vz 0 6))) + 3)) x3) 0 6 (((cr_a (cr_a (cr_a (cr_a vz 0 (cr_x ((17 + (4 * (vz 0 6))) + 0)) (vz 0 5)) 0 (cr_x ((17 + (4 * (vz 0 6))) + 1)) x1) 0 (cr_x ((17 + (4 * (vz 0 6))) + 2)) x2) 0 (cr_x ((17 + (4 * (vz 0 6))) + 3)) x3) 0 6) + 1))) rfl dX7_makes_69 (fun H locs hW => ?_)
  refine lv_aload_n hx hb dX7_makes_70 rfl (lv_at hl 1 rfl) ?_
  refine cr_get C hW.1 0 rfl rfl 0 (by decide) hinX7 k0 (v := .ref (az 1)) rfl dX7_makes_71 ?_
  refine lv_iconst (v := 5) hx hb dX7_makes_74 (by decide) ?_
  refine lv_dup2_11 hx hb dX7_makes_75 rfl rfl ?_
  refine cr_ald C hW.1 1 (f := (cr_a (cr_a (cr_a (cr_a (cr_a vz 0 (cr_x ((17 + (4 * (vz 0 6))) + 0)) (vz 0 5)) 0 (cr_x ((17 + (4 * (vz 0 6))) + 1)) x1) 0 (cr_x ((17 + (4 * (vz 0 6))) + 2)) x2) 0 (cr_x ((17 + (4 * (vz 0 6))) + 3)) x3) 0 6 (((cr_a (cr_a (cr_a (cr_a vz 0 (cr_x ((17 + (4 * (vz 0 6))) + 0)) (vz 0 5)) 0 (cr_x ((17 + (4 * (vz 0 6))) + 1)) x1) 0 (cr_x ((17 + (4 * (vz 0 6))) + 2)) x2) 0 (cr_x ((17 + (4 * (vz 0 6))) + 3)) x3) 0 6) + 1)) 0) (k := 5) rfl (by decide) (by decide) dX7_makes_76 ?_
  refine lv_iconst (v := 1) hx hb dX7_makes_77 (by decide) ?_
  refine lv_iadd hx hb dX7_makes_78 ?_
  refine cr_ast C hW 1 rfl (k := 5) (by decide) (by decide) (w' := cr_wM ct az (cr_a (cr_a (cr_a (cr_a (cr_a (cr_a vz 0 (cr_x ((17 + (4 * (vz 0 6))) + 0)) (vz 0 5)) 0 (cr_x ((17 + (4 * (vz 0 6))) + 1)) x1) 0 (cr_x ((17 + (4 * (vz 0 6))) + 2)) x2) 0 (cr_x ((17 + (4 * (vz 0 6))) + 3)) x3) 0 6 (((cr_a (cr_a (cr_a (cr_a vz 0 (cr_x ((17 + (4 * (vz 0 6))) + 0)) (vz 0 5)) 0 (cr_x ((17 + (4 * (vz 0 6))) + 1)) x1) 0 (cr_x ((17 + (4 * (vz 0 6))) + 2)) x2) 0 (cr_x ((17 + (4 * (vz 0 6))) + 3)) x3) 0 6) + 1)) 0 5 (((cr_a (cr_a (cr_a (cr_a (cr_a vz 0 (cr_x ((17 + (4 * (vz 0 6))) + 0)) (vz 0 5)) 0 (cr_x ((17 + (4 * (vz 0 6))) + 1)) x1) 0 (cr_x ((17 + (4 * (vz 0 6))) + 2)) x2) 0 (cr_x ((17 + (4 * (vz 0 6))) + 3)) x3) 0 6 (((cr_a (cr_a (cr_a (cr_a vz 0 (cr_x ((17 + (4 * (vz 0 6))) + 0)) (vz 0 5)) 0 (cr_x ((17 + (4 * (vz 0 6))) + 1)) x1) 0 (cr_x ((17 + (4 * (vz 0 6))) + 2)) x2) 0 (cr_x ((17 + (4 * (vz 0 6))) + 3)) x3) 0 6) + 1)) 0 5) + 1))) rfl dX7_makes_79 (fun H locs hW => ?_)
  refine lv_aload_n hx hb dX7_makes_80 rfl (lv_at hl 1 rfl) ?_
  refine cr_get C hW.1 0 rfl rfl 0 (by decide) hinX7 k0 (v := .ref (az 1)) rfl dX7_makes_81 ?_
  refine lv_iconst (v := 5) hx hb dX7_makes_84 (by decide) ?_
  refine cr_ald C hW.1 1 (f := (cr_a (cr_a (cr_a (cr_a (cr_a (cr_a vz 0 (cr_x ((17 + (4 * (vz 0 6))) + 0)) (vz 0 5)) 0 (cr_x ((17 + (4 * (vz 0 6))) + 1)) x1) 0 (cr_x ((17 + (4 * (vz 0 6))) + 2)) x2) 0 (cr_x ((17 + (4 * (vz 0 6))) + 3)) x3) 0 6 (((cr_a (cr_a (cr_a (cr_a vz 0 (cr_x ((17 + (4 * (vz 0 6))) + 0)) (vz 0 5)) 0 (cr_x ((17 + (4 * (vz 0 6))) + 1)) x1) 0 (cr_x ((17 + (4 * (vz 0 6))) + 2)) x2) 0 (cr_x ((17 + (4 * (vz 0 6))) + 3)) x3) 0 6) + 1)) 0 5 (((cr_a (cr_a (cr_a (cr_a (cr_a vz 0 (cr_x ((17 + (4 * (vz 0 6))) + 0)) (vz 0 5)) 0 (cr_x ((17 + (4 * (vz 0 6))) + 1)) x1) 0 (cr_x ((17 + (4 * (vz 0 6))) + 2)) x2) 0 (cr_x ((17 + (4 * (vz 0 6))) + 3)) x3) 0 6 (((cr_a (cr_a (cr_a (cr_a vz 0 (cr_x ((17 + (4 * (vz 0 6))) + 0)) (vz 0 5)) 0 (cr_x ((17 + (4 * (vz 0 6))) + 1)) x1) 0 (cr_x ((17 + (4 * (vz 0 6))) + 2)) x2) 0 (cr_x ((17 + (4 * (vz 0 6))) + 3)) x3) 0 6) + 1)) 0 5) + 1)) 0) (k := 5) rfl (by decide) (by decide) dX7_makes_85 ?_
  refine lv_iconst (v := 1) hx hb dX7_makes_86 (by decide) ?_
  refine lv_isub hx hb dX7_makes_87 ?_
  exact cr_retW C (w := (fun u : cr_V => cr_wM ct az u)) (cr_a (cr_a (cr_a (cr_a (cr_a (cr_a vz 0 (cr_x ((17 + (4 * (vz 0 6))) + 0)) (vz 0 5)) 0 (cr_x ((17 + (4 * (vz 0 6))) + 1)) x1) 0 (cr_x ((17 + (4 * (vz 0 6))) + 2)) x2) 0 (cr_x ((17 + (4 * (vz 0 6))) + 3)) x3) 0 6 (((cr_a (cr_a (cr_a (cr_a vz 0 (cr_x ((17 + (4 * (vz 0 6))) + 0)) (vz 0 5)) 0 (cr_x ((17 + (4 * (vz 0 6))) + 1)) x1) 0 (cr_x ((17 + (4 * (vz 0 6))) + 2)) x2) 0 (cr_x ((17 + (4 * (vz 0 6))) + 3)) x3) 0 6) + 1)) 0 5 (((cr_a (cr_a (cr_a (cr_a (cr_a vz 0 (cr_x ((17 + (4 * (vz 0 6))) + 0)) (vz 0 5)) 0 (cr_x ((17 + (4 * (vz 0 6))) + 1)) x1) 0 (cr_x ((17 + (4 * (vz 0 6))) + 2)) x2) 0 (cr_x ((17 + (4 * (vz 0 6))) + 3)) x3) 0 6 (((cr_a (cr_a (cr_a (cr_a vz 0 (cr_x ((17 + (4 * (vz 0 6))) + 0)) (vz 0 5)) 0 (cr_x ((17 + (4 * (vz 0 6))) + 1)) x1) 0 (cr_x ((17 + (4 * (vz 0 6))) + 2)) x2) 0 (cr_x ((17 + (4 * (vz 0 6))) + 3)) x3) 0 6) + 1)) 0 5) + 1)) hW (Option.some.inj hE) dX7_makes_88

set_option maxHeartbeats 4000000 in
set_option maxRecDepth 100000 in
theorem m_X7_takes (L : Launch) (D : va_G) (ct : Nat → ClassId) (az : Nat → Nat) (vz : cr_V) (x1 : Int32) (x2 : Int32) (sz : Nat) (out : cr_V) (hE : f_X7_takes vz x1 x2 = some out) : Met L yX7_takes wsX7_takes ({ frames := 2, cells := 0, slots := 0, locals := 44 } : Room) (cr_pW D ct (cr_wM ct az vz) sz [.ref (az 0), .int x1, .int x2]) (cr_QV D (cr_wM ct az vz) sz (fun u => u = out) (fun u : cr_V => cr_wM ct az u)) 0 0 (va_A (cr_wM ct az vz) sz) := by
  have k0 : (Cond.fieldLink RX7 7 "CupReceiptsModel" "s" "[I") ∈ wsX7_takes := List.mem_of_getElem? (i := 1) rfl
  have hinX7 : ∀ w ∈ wsX70, w ∈ wsX7_takes := fun w h => List.mem_cons_of_mem _ (List.mem_append_right _ h)
  refine cr_metW (Qc := fun A => va_Qv (fun u => u = out) (fun u t => cr_at D A ((fun u : cr_V => cr_wM ct az u) u) t) A) (by decide) rfl rfl (Nat.le_of_ble_eq_true rfl) ?_
  intro p e s m args below meth c ls A C hW hl
  obtain ⟨hx, hb, hml, hown, hts, hr, hlocks, hK, hN⟩ := id C
  have hl : lv_has ls 5 [(0, .ref (az 0)), (1, .int x1), (2, .int x2)] := hl
  have n51 :  ∀ (n : Nat), ∀ (vz : cr_V) (x4 : Int32) (hE : f_X7_takes_51  n vz x4 = some out) (H : Heap) (locs : List Loc) (ls : Array Slot) (hW : cr_wd D A s (cr_wM ct az vz) H locs) (hl : lv_has ls 5 [(0, .ref (az 0)), (4, .int x4)]), W p L e ({ frames := 2, cells := 0, slots := 0, locals := 44 } : Room) s m args below meth c H locs 0 0 (MQ below (va_Qv (fun u => u = out) (fun u t => cr_at D A ((fun u : cr_V => cr_wM ct az u) u) t) A) args s 0 0 A) (F0 m 51 ls []) := by
    intro  n
    induction n with
    | zero =>
      intro vz x4 hE
      cases hE
    | succ n ih =>
      intro vz x4 hE H locs ls hW hl
      replace hE : (if (17 + (4 * (vz 0 6))) ≤ x4 then (some vz) else (if cr_in (x4 + 4) 81 = true then if cr_in x4 81 = true then f_X7_takes_51 n (cr_a vz 0 (cr_x x4) (vz 0 (cr_x (x4 + 4)))) (x4 + 1) else none else none)) = some out := hE
      refine lv_iload hx hb dX7_takes_51 (lv_at hl 1 rfl) ?_
      refine lv_bipush (v := 17) hx hb dX7_takes_53 (by decide) ?_
      refine lv_iconst (v := 4) hx hb dX7_takes_55 (by decide) ?_
      refine lv_aload_n hx hb dX7_takes_56 rfl (lv_at hl 0 rfl) ?_
      refine cr_get C hW.1 0 rfl rfl 0 (by decide) hinX7 k0 (v := .ref (az 1)) rfl dX7_takes_57 ?_
      refine lv_bipush (v := 6) hx hb dX7_takes_60 (by decide) ?_
      refine cr_ald C hW.1 1 (f := vz 0) (k := 6) rfl (by decide) (by decide) dX7_takes_62 ?_
      refine lv_imul hx hb dX7_takes_63 ?_
      refine lv_iadd hx hb dX7_takes_64 ?_
      refine lv_icmp_ge (tgt := 90) hx hb dX7_takes_65 (by decide) (fun c1 => ?_) (fun c1 => ?_)
      · rw [if_pos c1] at hE
        exact cr_retV C (w := (fun u : cr_V => cr_wM ct az u)) vz hW (Option.some.inj hE) dX7_takes_90
      · rw [if_neg c1] at hE
        refine lv_aload_n hx hb dX7_takes_68 rfl (lv_at hl 0 rfl) ?_
        refine cr_get C hW.1 0 rfl rfl 0 (by decide) hinX7 k0 (v := .ref (az 1)) rfl dX7_takes_69 ?_
        refine lv_iload hx hb dX7_takes_72 (lv_at hl 1 rfl) ?_
        refine lv_aload_n hx hb dX7_takes_74 rfl (lv_at hl 0 rfl) ?_
        refine cr_get C hW.1 0 rfl rfl 0 (by decide) hinX7 k0 (v := .ref (az 1)) rfl dX7_takes_75 ?_
        refine lv_iload hx hb dX7_takes_78 (lv_at hl 1 rfl) ?_
        refine lv_iconst (v := 4) hx hb dX7_takes_80 (by decide) ?_
        refine lv_iadd hx hb dX7_takes_81 ?_
        obtain ⟨i2, hE⟩ := cr_ifn hE
        refine cr_ald C hW.1 1 (f := vz 0) (k := cr_x (x4 + 4)) rfl i2 (cr_xe _) dX7_takes_82 ?_
        obtain ⟨i3, hE⟩ := cr_ifn hE
        refine cr_ast C hW 1 rfl (k := (cr_x x4)) i3 (cr_xe _) (w' := cr_wM ct az (cr_a vz 0 (cr_x x4) (vz 0 (cr_x (x4 + 4))))) rfl dX7_takes_83 (fun H locs hW => ?_)
        refine lv_iinc (v := x4 + 1) (lv' := [(4, .int (x4 + 1)), (0, .ref (az 0))]) hx hb dX7_takes_84 hl (k := 1) rfl (by first | rfl | decide) (by decide) rfl (fun ls hl => ?_)
        refine lv_goto (tgt := 51) hx hb dX7_takes_87 (by decide) ?_
        exact ih (cr_a vz 0 (cr_x x4) (vz 0 (cr_x (x4 + 4)))) (x4 + 1) hE _ _ _ hW (lv_sub hl [1, 0] rfl)
  replace hE : ((f_X7_placeOf vz x1).bind fun q4 => if cr_in ((17 + (4 * q4)) + 1) 81 = true then (f_X7_of (cr_a vz 0 (cr_x ((17 + (4 * q4)) + 1)) ((vz 0 (cr_x ((17 + (4 * q4)) + 1))) - x2)) q4 1).bind fun q6 => if q6 = 0 then (f_X7_takes_51 10100 (cr_a (cr_a vz 0 (cr_x ((17 + (4 * q4)) + 1)) ((vz 0 (cr_x ((17 + (4 * q4)) + 1))) - x2)) 0 6 (((cr_a vz 0 (cr_x ((17 + (4 * q4)) + 1)) ((vz 0 (cr_x ((17 + (4 * q4)) + 1))) - x2)) 0 6) - 1)) (17 + (4 * q4))) else (some (cr_a vz 0 (cr_x ((17 + (4 * q4)) + 1)) ((vz 0 (cr_x ((17 + (4 * q4)) + 1))) - x2))) else none) = some out := hE
  refine lv_aload_n hx hb dX7_takes_0 rfl (lv_at hl 0 rfl) ?_
  refine lv_iload_n hx hb dX7_takes_1 rfl (lv_at hl 1 rfl) ?_
  obtain ⟨q4, hq4, hE⟩ := cr_bind hE
  refine cr_vRwq (n := 1) (As := [.int x1]) (rest := []) C hW (m_X7_placeOf L D ct az vz x1 q4 hq4) (cwV 1 hts gX7_takes_X7_placeOf rfl rfl rfl (by decide +kernel) ⟨Nat.le_of_ble_eq_true rfl, Nat.le_of_ble_eq_true rfl⟩) [0, 1, 2, 3, 4, 5, 6, 7] rfl 0 rfl rfl rfl hl.1 rfl (Nat.le_of_ble_eq_true rfl) dX7_takes_2 ⟨Nat.zero_le _, Nat.zero_le _⟩ (fun H locs hW => ?_)
  refine lv_istore_n (lv' := [(3, .int q4), (0, .ref (az 0)), (1, .int x1), (2, .int x2)]) hx hb dX7_takes_5 rfl hl (by decide) rfl (fun ls hl => ?_)
  refine lv_aload_n hx hb dX7_takes_6 rfl (lv_at hl 1 rfl) ?_
  refine cr_get C hW.1 0 rfl rfl 0 (by decide) hinX7 k0 (v := .ref (az 1)) rfl dX7_takes_7 ?_
  refine lv_bipush (v := 17) hx hb dX7_takes_10 (by decide) ?_
  refine lv_iconst (v := 4) hx hb dX7_takes_12 (by decide) ?_
  refine lv_iload_n hx hb dX7_takes_13 rfl (lv_at hl 0 rfl) ?_
  refine lv_imul hx hb dX7_takes_14 ?_
  refine lv_iadd hx hb dX7_takes_15 ?_
  refine lv_iconst (v := 1) hx hb dX7_takes_16 (by decide) ?_
  refine lv_iadd hx hb dX7_takes_17 ?_
  refine lv_dup2_11 hx hb dX7_takes_18 rfl rfl ?_
  obtain ⟨i5, hE⟩ := cr_ifn hE
  refine cr_ald C hW.1 1 (f := vz 0) (k := cr_x ((17 + (4 * q4)) + 1)) rfl i5 (cr_xe _) dX7_takes_19 ?_
  refine lv_iload_n hx hb dX7_takes_20 rfl (lv_at hl 3 rfl) ?_
  refine lv_isub hx hb dX7_takes_21 ?_
  refine cr_ast C hW 1 rfl (k := (cr_x ((17 + (4 * q4)) + 1))) i5 (cr_xe _) (w' := cr_wM ct az (cr_a vz 0 (cr_x ((17 + (4 * q4)) + 1)) ((vz 0 (cr_x ((17 + (4 * q4)) + 1))) - x2))) rfl dX7_takes_22 (fun H locs hW => ?_)
  refine lv_aload_n hx hb dX7_takes_23 rfl (lv_at hl 1 rfl) ?_
  refine lv_iload_n hx hb dX7_takes_24 rfl (lv_at hl 0 rfl) ?_
  refine lv_iconst (v := 1) hx hb dX7_takes_25 (by decide) ?_
  obtain ⟨q6, hq6, hE⟩ := cr_bind hE
  refine cr_vRwq (n := 2) (As := [.int q4, .int 1]) (rest := []) C hW (m_X7_of L D ct az (cr_a vz 0 (cr_x ((17 + (4 * q4)) + 1)) ((vz 0 (cr_x ((17 + (4 * q4)) + 1))) - x2)) q4 1 q6 hq6) (cwV 2 hts gX7_takes_X7_of rfl rfl rfl (by decide +kernel) ⟨Nat.le_of_ble_eq_true rfl, Nat.le_of_ble_eq_true rfl⟩) [0, 1, 2, 3, 4, 5, 6, 7] rfl 0 rfl rfl rfl hl.1 rfl (Nat.le_of_ble_eq_true rfl) dX7_takes_26 ⟨Nat.zero_le _, Nat.zero_le _⟩ (fun H locs hW => ?_)
  refine lv_if_ne (tgt := 90) hx hb dX7_takes_29 (by decide) (fun c7 => ?_) (fun c7 => ?_)
  · rw [if_neg c7] at hE
    exact cr_retV C (w := (fun u : cr_V => cr_wM ct az u)) (cr_a vz 0 (cr_x ((17 + (4 * q4)) + 1)) ((vz 0 (cr_x ((17 + (4 * q4)) + 1))) - x2)) hW (Option.some.inj hE) dX7_takes_90
  · rw [if_pos c7] at hE
    refine lv_aload_n hx hb dX7_takes_32 rfl (lv_at hl 1 rfl) ?_
    refine cr_get C hW.1 0 rfl rfl 0 (by decide) hinX7 k0 (v := .ref (az 1)) rfl dX7_takes_33 ?_
    refine lv_bipush (v := 6) hx hb dX7_takes_36 (by decide) ?_
    refine lv_dup2_11 hx hb dX7_takes_38 rfl rfl ?_
    refine cr_ald C hW.1 1 (f := (cr_a vz 0 (cr_x ((17 + (4 * q4)) + 1)) ((vz 0 (cr_x ((17 + (4 * q4)) + 1))) - x2)) 0) (k := 6) rfl (by decide) (by decide) dX7_takes_39 ?_
    refine lv_iconst (v := 1) hx hb dX7_takes_40 (by decide) ?_
    refine lv_isub hx hb dX7_takes_41 ?_
    refine cr_ast C hW 1 rfl (k := 6) (by decide) (by decide) (w' := cr_wM ct az (cr_a (cr_a vz 0 (cr_x ((17 + (4 * q4)) + 1)) ((vz 0 (cr_x ((17 + (4 * q4)) + 1))) - x2)) 0 6 (((cr_a vz 0 (cr_x ((17 + (4 * q4)) + 1)) ((vz 0 (cr_x ((17 + (4 * q4)) + 1))) - x2)) 0 6) - 1))) rfl dX7_takes_42 (fun H locs hW => ?_)
    refine lv_bipush (v := 17) hx hb dX7_takes_43 (by decide) ?_
    refine lv_iconst (v := 4) hx hb dX7_takes_45 (by decide) ?_
    refine lv_iload_n hx hb dX7_takes_46 rfl (lv_at hl 0 rfl) ?_
    refine lv_imul hx hb dX7_takes_47 ?_
    refine lv_iadd hx hb dX7_takes_48 ?_
    refine lv_istore (lv' := [(4, .int (17 + (4 * q4))), (3, .int q4), (0, .ref (az 0)), (1, .int x1), (2, .int x2)]) hx hb dX7_takes_49 hl (by decide) rfl (fun ls hl => ?_)
    exact n51 10100 (cr_a (cr_a vz 0 (cr_x ((17 + (4 * q4)) + 1)) ((vz 0 (cr_x ((17 + (4 * q4)) + 1))) - x2)) 0 6 (((cr_a vz 0 (cr_x ((17 + (4 * q4)) + 1)) ((vz 0 (cr_x ((17 + (4 * q4)) + 1))) - x2)) 0 6) - 1)) (17 + (4 * q4)) hE _ _ _ hW (lv_sub hl [2, 0] rfl)

set_option maxHeartbeats 4000000 in
set_option maxRecDepth 100000 in
theorem m_X7_lot (L : Launch) (D : va_G) (ct : Nat → ClassId) (az : Nat → Nat) (vz : cr_V) (x1 : Int32) (x2 : Int32) (sz : Nat) (out : Int32 × cr_V) (hE : f_X7_lot vz x1 x2 = some out) : Met L yX7_lot wsX7_lot ({ frames := 1, cells := 0, slots := 0, locals := 24 } : Room) (cr_pW D ct (cr_wM ct az vz) sz [.ref (az 0), .int x1, .int x2]) (cr_QW D (cr_wM ct az vz) sz (fun r u => (r, u) = out) (fun u : cr_V => cr_wM ct az u)) 0 0 (va_A (cr_wM ct az vz) sz) := by
  have k0 : (Cond.constant RX7 65 (-2000000001)) ∈ wsX7_lot := List.mem_of_getElem? (i := 1) rfl
  have k1 : (Cond.fieldLink RX7 7 "CupReceiptsModel" "s" "[I") ∈ wsX7_lot := List.mem_of_getElem? (i := 2) rfl
  have k2 : (Cond.constant RX7 66 (-2000000003)) ∈ wsX7_lot := List.mem_of_getElem? (i := 3) rfl
  have hinX7 : ∀ w ∈ wsX70, w ∈ wsX7_lot := fun w h => List.mem_cons_of_mem _ (List.mem_append_right _ h)
  refine cr_metW (Qc := fun A => va_Qi (fun r u => (r, u) = out) (fun u t => cr_at D A ((fun u : cr_V => cr_wM ct az u) u) t) A) (by decide) rfl rfl (Nat.le_of_ble_eq_true rfl) ?_
  intro p e s m args below meth c ls A C hW hl
  obtain ⟨hx, hb, hml, hown, hts, hr, hlocks, hK, hN⟩ := id C
  have hl : lv_has ls 3 [(0, .ref (az 0)), (1, .int x1), (2, .int x2)] := hl
  replace hE : ((f_X7_in x1 1 999).bind fun q1 => if q1 = 0 then (some ((-2000000001), vz)) else ((f_X7_in x2 60 100).bind fun q3 => if q3 = 0 then (some ((-2000000001), vz)) else (if (vz 0 6) = 12 then (some ((-2000000003), vz)) else ((f_X7_changes vz).bind fun q6 => (f_X7_makes q6 x1 x2 (q6 0 0)).bind fun q7 => some (q7.1, q7.2))))) = some out := hE
  refine lv_iload_n hx hb dX7_lot_0 rfl (lv_at hl 1 rfl) ?_
  refine lv_iconst (v := 1) hx hb dX7_lot_1 (by decide) ?_
  refine lv_sipush (v := 999) hx hb dX7_lot_2 (by decide) ?_
  obtain ⟨q1, hq1, hE⟩ := cr_bind hE
  refine cr_sRwq (n := 3) (As := [.int x1, .int 1, .int 999]) (rest := []) C hW (m_X7_in L D ct x1 1 999 q1 hq1) (va_cwS 3 hts gX7_lot_X7_in rfl rfl rfl (by decide +kernel) ⟨Nat.le_of_ble_eq_true rfl, Nat.le_of_ble_eq_true rfl⟩) rfl hl.1 rfl (Nat.le_of_ble_eq_true rfl) dX7_lot_5 ⟨Nat.zero_le _, Nat.zero_le _⟩ (fun H locs hW => ?_)
  refine lv_if_eq (tgt := 22) hx hb dX7_lot_8 (by decide) (fun c2 => ?_) (fun c2 => ?_)
  · rw [if_pos c2] at hE
    refine cr_ldc C k0 dX7_lot_22 ?_
    exact cr_retW C (w := (fun u : cr_V => cr_wM ct az u)) vz hW (Option.some.inj hE) dX7_lot_24
  · rw [if_neg c2] at hE
    refine lv_iload_n hx hb dX7_lot_11 rfl (lv_at hl 2 rfl) ?_
    refine lv_bipush (v := 60) hx hb dX7_lot_12 (by decide) ?_
    refine lv_bipush (v := 100) hx hb dX7_lot_14 (by decide) ?_
    obtain ⟨q3, hq3, hE⟩ := cr_bind hE
    refine cr_sRwq (n := 3) (As := [.int x2, .int 60, .int 100]) (rest := []) C hW (m_X7_in L D ct x2 60 100 q3 hq3) (va_cwS 3 hts gX7_lot_X7_in rfl rfl rfl (by decide +kernel) ⟨Nat.le_of_ble_eq_true rfl, Nat.le_of_ble_eq_true rfl⟩) rfl hl.1 rfl (Nat.le_of_ble_eq_true rfl) dX7_lot_16 ⟨Nat.zero_le _, Nat.zero_le _⟩ (fun H locs hW => ?_)
    refine lv_if_ne (tgt := 25) hx hb dX7_lot_19 (by decide) (fun c4 => ?_) (fun c4 => ?_)
    · rw [if_neg c4] at hE
      refine lv_aload_n hx hb dX7_lot_25 rfl (lv_at hl 0 rfl) ?_
      refine cr_get C hW.1 0 rfl rfl 0 (by decide) hinX7 k1 (v := .ref (az 1)) rfl dX7_lot_26 ?_
      refine lv_bipush (v := 6) hx hb dX7_lot_29 (by decide) ?_
      refine cr_ald C hW.1 1 (f := vz 0) (k := 6) rfl (by decide) (by decide) dX7_lot_31 ?_
      refine lv_bipush (v := 12) hx hb dX7_lot_32 (by decide) ?_
      refine lv_icmp_ne (tgt := 40) hx hb dX7_lot_34 (by decide) (fun c5 => ?_) (fun c5 => ?_)
      · rw [if_neg c5] at hE
        refine lv_aload_n hx hb dX7_lot_40 rfl (lv_at hl 0 rfl) ?_
        obtain ⟨q6, hq6, hE⟩ := cr_bind hE
        refine cr_vVq (n := 0) (As := []) (rest := []) C hW (m_X7_changes L D ct az vz _ q6 hq6) (cwV 0 hts gX7_lot_X7_changes rfl rfl rfl (by decide +kernel) ⟨Nat.le_of_ble_eq_true rfl, Nat.le_of_ble_eq_true rfl⟩) [0, 1, 2, 3, 4, 5, 6, 7] [] [0, 1, 2, 3, 4, 5, 6, 7] (cr_wM ct az q6) rfl rfl rfl ⟨by decide +kernel, by decide +kernel, by decide +kernel, by decide +kernel⟩ 0 rfl rfl rfl hl.1 rfl (Nat.le_of_ble_eq_true rfl) dX7_lot_41 ⟨Nat.zero_le _, Nat.zero_le _⟩ (fun H locs hW => ?_)
        refine lv_aload_n hx hb dX7_lot_44 rfl (lv_at hl 0 rfl) ?_
        refine lv_iload_n hx hb dX7_lot_45 rfl (lv_at hl 1 rfl) ?_
        refine lv_iload_n hx hb dX7_lot_46 rfl (lv_at hl 2 rfl) ?_
        refine lv_aload_n hx hb dX7_lot_47 rfl (lv_at hl 0 rfl) ?_
        refine cr_get C hW.1 0 rfl rfl 0 (by decide) hinX7 k1 (v := .ref (az 1)) rfl dX7_lot_48 ?_
        refine lv_iconst (v := 0) hx hb dX7_lot_51 (by decide) ?_
        refine cr_ald C hW.1 1 (f := q6 0) (k := 0) rfl (by decide) (by decide) dX7_lot_52 ?_
        obtain ⟨q7, hq7, hE⟩ := cr_bind hE
        refine cr_vWq (n := 3) (As := [.int x1, .int x2, .int (q6 0 0)]) (rest := []) C hW (m_X7_makes L D ct az q6 x1 x2 (q6 0 0) _ q7 hq7) (cwV 3 hts gX7_lot_X7_makes rfl rfl rfl (by decide +kernel) ⟨Nat.le_of_ble_eq_true rfl, Nat.le_of_ble_eq_true rfl⟩) [0, 1, 2, 3, 4, 5, 6, 7] [] [0, 1, 2, 3, 4, 5, 6, 7] (cr_wM ct az q7.2) rfl rfl rfl ⟨by decide +kernel, by decide +kernel, by decide +kernel, by decide +kernel⟩ 0 rfl rfl rfl hl.1 rfl (Nat.le_of_ble_eq_true rfl) dX7_lot_53 ⟨Nat.zero_le _, Nat.zero_le _⟩ (fun H locs hW => ?_)
        exact cr_retW C (w := (fun u : cr_V => cr_wM ct az u)) q7.2 hW (Option.some.inj hE) dX7_lot_56
      · rw [if_pos c5] at hE
        refine cr_ldc C k2 dX7_lot_37 ?_
        exact cr_retW C (w := (fun u : cr_V => cr_wM ct az u)) vz hW (Option.some.inj hE) dX7_lot_39
    · rw [if_pos c4] at hE
      refine cr_ldc C k0 dX7_lot_22 ?_
      exact cr_retW C (w := (fun u : cr_V => cr_wM ct az u)) vz hW (Option.some.inj hE) dX7_lot_24

set_option maxHeartbeats 4000000 in
set_option maxRecDepth 100000 in
theorem m_X7_part (L : Launch) (D : va_G) (ct : Nat → ClassId) (az : Nat → Nat) (vz : cr_V) (x1 : Int32) (x2 : Int32) (sz : Nat) (out : Int32 × cr_V) (hE : f_X7_part vz x1 x2 = some out) : Met L yX7_part wsX7_part ({ frames := 3, cells := 0, slots := 0, locals := 68 } : Room) (cr_pW D ct (cr_wM ct az vz) sz [.ref (az 0), .int x1, .int x2]) (cr_QW D (cr_wM ct az vz) sz (fun r u => (r, u) = out) (fun u : cr_V => cr_wM ct az u)) 0 0 (va_A (cr_wM ct az vz) sz) := by
  have k0 : (Cond.constant RX7 65 (-2000000001)) ∈ wsX7_part := List.mem_of_getElem? (i := 1) rfl
  have k1 : (Cond.fieldLink RX7 7 "CupReceiptsModel" "s" "[I") ∈ wsX7_part := List.mem_of_getElem? (i := 3) rfl
  have k2 : (Cond.constant RX7 66 (-2000000003)) ∈ wsX7_part := List.mem_of_getElem? (i := 4) rfl
  have k3 : (Cond.constant RX7 77 (-2000000002)) ∈ wsX7_part := List.mem_of_getElem? (i := 2) rfl
  have hinX7 : ∀ w ∈ wsX70, w ∈ wsX7_part := fun w h => List.mem_cons_of_mem _ (List.mem_append_right _ h)
  refine cr_metW (Qc := fun A => va_Qi (fun r u => (r, u) = out) (fun u t => cr_at D A ((fun u : cr_V => cr_wM ct az u) u) t) A) (by decide) rfl rfl (Nat.le_of_ble_eq_true rfl) ?_
  intro p e s m args below meth c ls A C hW hl
  obtain ⟨hx, hb, hml, hown, hts, hr, hlocks, hK, hN⟩ := id C
  have hl : lv_has ls 4 [(0, .ref (az 0)), (1, .int x1), (2, .int x2)] := hl
  replace hE : ((f_X7_isLot vz x1).bind fun q1 => if q1 = 0 then (some ((-2000000001), vz)) else (if 1 ≤ x2 then ((f_X7_placeOf vz x1).bind fun q4 => (f_X7_of vz q4 1).bind fun q5 => if x2 < q5 then (if (vz 0 6) = 12 then (some ((-2000000003), vz)) else ((f_X7_changes vz).bind fun q8 => (f_X7_takes q8 x1 x2).bind fun q9 => (f_X7_of q9 q4 2).bind fun q10 => (f_X7_of q9 q4 3).bind fun q11 => (f_X7_makes q9 x2 q10 q11).bind fun q12 => some (q12.1, q12.2))) else (some ((-2000000002), vz))) else (some ((-2000000001), vz)))) = some out := hE
  refine lv_aload_n hx hb dX7_part_0 rfl (lv_at hl 0 rfl) ?_
  refine lv_iload_n hx hb dX7_part_1 rfl (lv_at hl 1 rfl) ?_
  obtain ⟨q1, hq1, hE⟩ := cr_bind hE
  refine cr_vRwq (n := 1) (As := [.int x1]) (rest := []) C hW (m_X7_isLot L D ct az vz x1 q1 hq1) (cwV 1 hts gX7_part_X7_isLot rfl rfl rfl (by decide +kernel) ⟨Nat.le_of_ble_eq_true rfl, Nat.le_of_ble_eq_true rfl⟩) [0, 1, 2, 3, 4, 5, 6, 7] rfl 0 rfl rfl rfl hl.1 rfl (Nat.le_of_ble_eq_true rfl) dX7_part_2 ⟨Nat.zero_le _, Nat.zero_le _⟩ (fun H locs hW => ?_)
  refine lv_if_eq (tgt := 13) hx hb dX7_part_5 (by decide) (fun c2 => ?_) (fun c2 => ?_)
  · rw [if_pos c2] at hE
    refine cr_ldc C k0 dX7_part_13 ?_
    exact cr_retW C (w := (fun u : cr_V => cr_wM ct az u)) vz hW (Option.some.inj hE) dX7_part_15
  · rw [if_neg c2] at hE
    refine lv_iload_n hx hb dX7_part_8 rfl (lv_at hl 2 rfl) ?_
    refine lv_iconst (v := 1) hx hb dX7_part_9 (by decide) ?_
    refine lv_icmp_ge (tgt := 16) hx hb dX7_part_10 (by decide) (fun c3 => ?_) (fun c3 => ?_)
    · rw [if_pos c3] at hE
      refine lv_aload_n hx hb dX7_part_16 rfl (lv_at hl 0 rfl) ?_
      refine lv_iload_n hx hb dX7_part_17 rfl (lv_at hl 1 rfl) ?_
      obtain ⟨q4, hq4, hE⟩ := cr_bind hE
      refine cr_vRwq (n := 1) (As := [.int x1]) (rest := []) C hW (m_X7_placeOf L D ct az vz x1 q4 hq4) (cwV 1 hts gX7_part_X7_placeOf rfl rfl rfl (by decide +kernel) ⟨Nat.le_of_ble_eq_true rfl, Nat.le_of_ble_eq_true rfl⟩) [0, 1, 2, 3, 4, 5, 6, 7] rfl 0 rfl rfl rfl hl.1 rfl (Nat.le_of_ble_eq_true rfl) dX7_part_18 ⟨Nat.zero_le _, Nat.zero_le _⟩ (fun H locs hW => ?_)
      refine lv_istore_n (lv' := [(3, .int q4), (0, .ref (az 0)), (1, .int x1), (2, .int x2)]) hx hb dX7_part_21 rfl hl (by decide) rfl (fun ls hl => ?_)
      refine lv_aload_n hx hb dX7_part_22 rfl (lv_at hl 1 rfl) ?_
      refine lv_iload_n hx hb dX7_part_23 rfl (lv_at hl 0 rfl) ?_
      refine lv_iconst (v := 1) hx hb dX7_part_24 (by decide) ?_
      obtain ⟨q5, hq5, hE⟩ := cr_bind hE
      refine cr_vRwq (n := 2) (As := [.int q4, .int 1]) (rest := []) C hW (m_X7_of L D ct az vz q4 1 q5 hq5) (cwV 2 hts gX7_part_X7_of rfl rfl rfl (by decide +kernel) ⟨Nat.le_of_ble_eq_true rfl, Nat.le_of_ble_eq_true rfl⟩) [0, 1, 2, 3, 4, 5, 6, 7] rfl 0 rfl rfl rfl hl.1 rfl (Nat.le_of_ble_eq_true rfl) dX7_part_25 ⟨Nat.zero_le _, Nat.zero_le _⟩ (fun H locs hW => ?_)
      refine lv_iload_n hx hb dX7_part_28 rfl (lv_at hl 3 rfl) ?_
      refine lv_icmp_gt (tgt := 35) hx hb dX7_part_29 (by decide) (fun c6 => ?_) (fun c6 => ?_)
      · rw [if_pos c6] at hE
        refine lv_aload_n hx hb dX7_part_35 rfl (lv_at hl 1 rfl) ?_
        refine cr_get C hW.1 0 rfl rfl 0 (by decide) hinX7 k1 (v := .ref (az 1)) rfl dX7_part_36 ?_
        refine lv_bipush (v := 6) hx hb dX7_part_39 (by decide) ?_
        refine cr_ald C hW.1 1 (f := vz 0) (k := 6) rfl (by decide) (by decide) dX7_part_41 ?_
        refine lv_bipush (v := 12) hx hb dX7_part_42 (by decide) ?_
        refine lv_icmp_ne (tgt := 50) hx hb dX7_part_44 (by decide) (fun c7 => ?_) (fun c7 => ?_)
        · rw [if_neg c7] at hE
          refine lv_aload_n hx hb dX7_part_50 rfl (lv_at hl 1 rfl) ?_
          obtain ⟨q8, hq8, hE⟩ := cr_bind hE
          refine cr_vVq (n := 0) (As := []) (rest := []) C hW (m_X7_changes L D ct az vz _ q8 hq8) (cwV 0 hts gX7_part_X7_changes rfl rfl rfl (by decide +kernel) ⟨Nat.le_of_ble_eq_true rfl, Nat.le_of_ble_eq_true rfl⟩) [0, 1, 2, 3, 4, 5, 6, 7] [] [0, 1, 2, 3, 4, 5, 6, 7] (cr_wM ct az q8) rfl rfl rfl ⟨by decide +kernel, by decide +kernel, by decide +kernel, by decide +kernel⟩ 0 rfl rfl rfl hl.1 rfl (Nat.le_of_ble_eq_true rfl) dX7_part_51 ⟨Nat.zero_le _, Nat.zero_le _⟩ (fun H locs hW => ?_)
          refine lv_aload_n hx hb dX7_part_54 rfl (lv_at hl 1 rfl) ?_
          refine lv_iload_n hx hb dX7_part_55 rfl (lv_at hl 2 rfl) ?_
          refine lv_iload_n hx hb dX7_part_56 rfl (lv_at hl 3 rfl) ?_
          obtain ⟨q9, hq9, hE⟩ := cr_bind hE
          refine cr_vVq (n := 2) (As := [.int x1, .int x2]) (rest := []) C hW (m_X7_takes L D ct az q8 x1 x2 _ q9 hq9) (cwV 2 hts gX7_part_X7_takes rfl rfl rfl (by decide +kernel) ⟨Nat.le_of_ble_eq_true rfl, Nat.le_of_ble_eq_true rfl⟩) [0, 1, 2, 3, 4, 5, 6, 7] [] [0, 1, 2, 3, 4, 5, 6, 7] (cr_wM ct az q9) rfl rfl rfl ⟨by decide +kernel, by decide +kernel, by decide +kernel, by decide +kernel⟩ 0 rfl rfl rfl hl.1 rfl (Nat.le_of_ble_eq_true rfl) dX7_part_57 ⟨Nat.zero_le _, Nat.zero_le _⟩ (fun H locs hW => ?_)
          refine lv_aload_n hx hb dX7_part_60 rfl (lv_at hl 1 rfl) ?_
          refine lv_iload_n hx hb dX7_part_61 rfl (lv_at hl 3 rfl) ?_
          refine lv_aload_n hx hb dX7_part_62 rfl (lv_at hl 1 rfl) ?_
          refine lv_iload_n hx hb dX7_part_63 rfl (lv_at hl 0 rfl) ?_
          refine lv_iconst (v := 2) hx hb dX7_part_64 (by decide) ?_
          obtain ⟨q10, hq10, hE⟩ := cr_bind hE
          refine cr_vRwq (n := 2) (As := [.int q4, .int 2]) (rest := [.int x2, .ref (az 0)]) C hW (m_X7_of L D ct az q9 q4 2 q10 hq10) (cwV 2 hts gX7_part_X7_of rfl rfl rfl (by decide +kernel) ⟨Nat.le_of_ble_eq_true rfl, Nat.le_of_ble_eq_true rfl⟩) [0, 1, 2, 3, 4, 5, 6, 7] rfl 0 rfl rfl rfl hl.1 rfl (Nat.le_of_ble_eq_true rfl) dX7_part_65 ⟨Nat.zero_le _, Nat.zero_le _⟩ (fun H locs hW => ?_)
          refine lv_aload_n hx hb dX7_part_68 rfl (lv_at hl 1 rfl) ?_
          refine lv_iload_n hx hb dX7_part_69 rfl (lv_at hl 0 rfl) ?_
          refine lv_iconst (v := 3) hx hb dX7_part_70 (by decide) ?_
          obtain ⟨q11, hq11, hE⟩ := cr_bind hE
          refine cr_vRwq (n := 2) (As := [.int q4, .int 3]) (rest := [.int q10, .int x2, .ref (az 0)]) C hW (m_X7_of L D ct az q9 q4 3 q11 hq11) (cwV 2 hts gX7_part_X7_of rfl rfl rfl (by decide +kernel) ⟨Nat.le_of_ble_eq_true rfl, Nat.le_of_ble_eq_true rfl⟩) [0, 1, 2, 3, 4, 5, 6, 7] rfl 0 rfl rfl rfl hl.1 rfl (Nat.le_of_ble_eq_true rfl) dX7_part_71 ⟨Nat.zero_le _, Nat.zero_le _⟩ (fun H locs hW => ?_)
          obtain ⟨q12, hq12, hE⟩ := cr_bind hE
          refine cr_vWq (n := 3) (As := [.int x2, .int q10, .int q11]) (rest := []) C hW (m_X7_makes L D ct az q9 x2 q10 q11 _ q12 hq12) (cwV 3 hts gX7_part_X7_makes rfl rfl rfl (by decide +kernel) ⟨Nat.le_of_ble_eq_true rfl, Nat.le_of_ble_eq_true rfl⟩) [0, 1, 2, 3, 4, 5, 6, 7] [] [0, 1, 2, 3, 4, 5, 6, 7] (cr_wM ct az q12.2) rfl rfl rfl ⟨by decide +kernel, by decide +kernel, by decide +kernel, by decide +kernel⟩ 0 rfl rfl rfl hl.1 rfl (Nat.le_of_ble_eq_true rfl) dX7_part_74 ⟨Nat.zero_le _, Nat.zero_le _⟩ (fun H locs hW => ?_)
          exact cr_retW C (w := (fun u : cr_V => cr_wM ct az u)) q12.2 hW (Option.some.inj hE) dX7_part_77
        · rw [if_pos c7] at hE
          refine cr_ldc C k2 dX7_part_47 ?_
          exact cr_retW C (w := (fun u : cr_V => cr_wM ct az u)) vz hW (Option.some.inj hE) dX7_part_49
      · rw [if_neg c6] at hE
        refine cr_ldc C k3 dX7_part_32 ?_
        exact cr_retW C (w := (fun u : cr_V => cr_wM ct az u)) vz hW (Option.some.inj hE) dX7_part_34
    · rw [if_neg c3] at hE
      refine cr_ldc C k0 dX7_part_13 ?_
      exact cr_retW C (w := (fun u : cr_V => cr_wM ct az u)) vz hW (Option.some.inj hE) dX7_part_15

set_option maxHeartbeats 4000000 in
set_option maxRecDepth 100000 in
theorem m_X7_blended (L : Launch) (D : va_G) (ct : Nat → ClassId)   (x0 : Int32) (x1 : Int32) (x2 : Int32) (x3 : Int32) (out : Int32) (hE : f_X7_blended x0 x1 x2 x3 = some out) : Met L yX7_blended wsX7_blended ({ frames := 0, cells := 0, slots := 0, locals := 0 } : Room) (cr_pR D ct ([]) [.int x0, .int x1, .int x2, .int x3]) (cr_QR (fun r => r = out)) 0 0 cr_no := by
  refine cr_metR (by decide) rfl rfl (Nat.le_of_ble_eq_true rfl) ?_
  intro p e s m args below meth c ls C hP hS hl
  obtain ⟨hx, hb, hml, hown, hts, hr, hlocks, hK, hN⟩ := id C
  have hl : lv_has ls 4 [(0, .int x0), (1, .int x1), (2, .int x2), (3, .int x3)] := hl
  replace hE : (if (x0 + x2) = 0 then none else some (((x0 * x1) + (x2 * x3)) / (x0 + x2))) = some out := hE
  refine lv_iload_n hx hb dX7_blended_0 rfl (lv_at hl 0 rfl) ?_
  refine lv_iload_n hx hb dX7_blended_1 rfl (lv_at hl 1 rfl) ?_
  refine lv_imul hx hb dX7_blended_2 ?_
  refine lv_iload_n hx hb dX7_blended_3 rfl (lv_at hl 2 rfl) ?_
  refine lv_iload_n hx hb dX7_blended_4 rfl (lv_at hl 3 rfl) ?_
  refine lv_imul hx hb dX7_blended_5 ?_
  refine lv_iadd hx hb dX7_blended_6 ?_
  refine lv_iload_n hx hb dX7_blended_7 rfl (lv_at hl 0 rfl) ?_
  refine lv_iload_n hx hb dX7_blended_8 rfl (lv_at hl 2 rfl) ?_
  refine lv_iadd hx hb dX7_blended_9 ?_
  obtain ⟨z1, hE⟩ := cr_ifz hE
  refine lv_idiv hx hb dX7_blended_10 z1 ?_
  exact cr_retR C hS (Option.some.inj hE) dX7_blended_11

set_option maxHeartbeats 4000000 in
set_option maxRecDepth 100000 in
theorem m_X7_blend (L : Launch) (D : va_G) (ct : Nat → ClassId) (az : Nat → Nat) (vz : cr_V) (x1 : Int32) (x2 : Int32) (x3 : Int32) (x4 : Int32) (sz : Nat) (out : Int32 × cr_V) (hE : f_X7_blend vz x1 x2 x3 x4 = some out) : Met L yX7_blend wsX7_blend ({ frames := 3, cells := 0, slots := 0, locals := 68 } : Room) (cr_pW D ct (cr_wM ct az vz) sz [.ref (az 0), .int x1, .int x2, .int x3, .int x4]) (cr_QW D (cr_wM ct az vz) sz (fun r u => (r, u) = out) (fun u : cr_V => cr_wM ct az u)) 0 0 (va_A (cr_wM ct az vz) sz) := by
  have k0 : (Cond.constant RX7 66 (-2000000003)) ∈ wsX7_blend := List.mem_of_getElem? (i := 4) rfl
  have k1 : (Cond.fieldLink RX7 7 "CupReceiptsModel" "s" "[I") ∈ wsX7_blend := List.mem_of_getElem? (i := 3) rfl
  have k2 : (Cond.constant RX7 65 (-2000000001)) ∈ wsX7_blend := List.mem_of_getElem? (i := 1) rfl
  have k3 : (Cond.constant RX7 77 (-2000000002)) ∈ wsX7_blend := List.mem_of_getElem? (i := 2) rfl
  have hinX7 : ∀ w ∈ wsX70, w ∈ wsX7_blend := fun w h => List.mem_cons_of_mem _ (List.mem_append_right _ h)
  refine cr_metW (Qc := fun A => va_Qi (fun r u => (r, u) = out) (fun u t => cr_at D A ((fun u : cr_V => cr_wM ct az u) u) t) A) (by decide) rfl rfl (Nat.le_of_ble_eq_true rfl) ?_
  intro p e s m args below meth c ls A C hW hl
  obtain ⟨hx, hb, hml, hown, hts, hr, hlocks, hK, hN⟩ := id C
  have hl : lv_has ls 9 [(0, .ref (az 0)), (1, .int x1), (2, .int x2), (3, .int x3), (4, .int x4)] := hl
  have n118 :  ∀ (vz : cr_V) (x1 : Int32) (x2 : Int32) (x3 : Int32) (x4 : Int32) (x5 : Int32) (x6 : Int32) (s0 : Int32) (s1 : Int32) (hE : f_X7_blend_118  vz x1 x2 x3 x4 x5 x6 s0 s1 = some out) (H : Heap) (locs : List Loc) (ls : Array Slot) (hW : cr_wd D A s (cr_wM ct az vz) H locs) (hl : lv_has ls 9 [(0, .ref (az 0)), (1, .int x1), (2, .int x2), (3, .int x3), (4, .int x4), (5, .int x5), (6, .int x6)]), W p L e ({ frames := 3, cells := 0, slots := 0, locals := 68 } : Room) s m args below meth c H locs 0 0 (MQ below (va_Qi (fun r u => (r, u) = out) (fun u t => cr_at D A ((fun u : cr_V => cr_wM ct az u) u) t) A) args s 0 0 A) (F0 m 118 ls [.int s0, .int s1]) := by
    intro  vz x1 x2 x3 x4 x5 x6 s0 s1 hE H locs ls hW hl
    replace hE : (if 12 < (s1 - s0) then (some ((-2000000003), vz)) else (if (x2 + x4) ≤ 9999 then ((f_X7_changes vz).bind fun q3 => (f_X7_cupOf q3 x5).bind fun q4 => (f_X7_cupOf q3 x6).bind fun q5 => (f_X7_blended x2 q4 x4 q5).bind fun q6 => (f_X7_takes q3 x1 x2).bind fun q7 => (f_X7_takes q7 x3 x4).bind fun q8 => (f_X7_makes q8 (x2 + x4) q6 (q8 0 0)).bind fun q9 => some (q9.1, q9.2)) else (some ((-2000000003), vz)))) = some out := hE
    refine lv_isub hx hb dX7_blend_118 ?_
    refine lv_istore (lv' := [(7, .int (s1 - s0)), (0, .ref (az 0)), (1, .int x1), (2, .int x2), (3, .int x3), (4, .int x4), (5, .int x5), (6, .int x6)]) hx hb dX7_blend_119 hl (by decide) rfl (fun ls hl => ?_)
    refine lv_iload hx hb dX7_blend_121 (lv_at hl 0 rfl) ?_
    refine lv_bipush (v := 12) hx hb dX7_blend_123 (by decide) ?_
    refine lv_icmp_gt (tgt := 138) hx hb dX7_blend_125 (by decide) (fun c1 => ?_) (fun c1 => ?_)
    · rw [if_pos c1] at hE
      refine cr_ldc C k0 dX7_blend_138 ?_
      exact cr_retW C (w := (fun u : cr_V => cr_wM ct az u)) vz hW (Option.some.inj hE) dX7_blend_140
    · rw [if_neg c1] at hE
      refine lv_iload_n hx hb dX7_blend_128 rfl (lv_at hl 3 rfl) ?_
      refine lv_iload hx hb dX7_blend_129 (lv_at hl 5 rfl) ?_
      refine lv_iadd hx hb dX7_blend_131 ?_
      refine lv_sipush (v := 9999) hx hb dX7_blend_132 (by decide) ?_
      refine lv_icmp_le (tgt := 141) hx hb dX7_blend_135 (by decide) (fun c2 => ?_) (fun c2 => ?_)
      · rw [if_pos c2] at hE
        refine lv_aload_n hx hb dX7_blend_141 rfl (lv_at hl 1 rfl) ?_
        obtain ⟨q3, hq3, hE⟩ := cr_bind hE
        refine cr_vVq (n := 0) (As := []) (rest := []) C hW (m_X7_changes L D ct az vz _ q3 hq3) (cwV 0 hts gX7_blend_X7_changes rfl rfl rfl (by decide +kernel) ⟨Nat.le_of_ble_eq_true rfl, Nat.le_of_ble_eq_true rfl⟩) [0, 1, 2, 3, 4, 5, 6, 7] [] [0, 1, 2, 3, 4, 5, 6, 7] (cr_wM ct az q3) rfl rfl rfl ⟨by decide +kernel, by decide +kernel, by decide +kernel, by decide +kernel⟩ 0 rfl rfl rfl hl.1 rfl (Nat.le_of_ble_eq_true rfl) dX7_blend_142 ⟨Nat.zero_le _, Nat.zero_le _⟩ (fun H locs hW => ?_)
        refine lv_iload_n hx hb dX7_blend_145 rfl (lv_at hl 3 rfl) ?_
        refine lv_aload_n hx hb dX7_blend_146 rfl (lv_at hl 1 rfl) ?_
        refine lv_iload hx hb dX7_blend_147 (lv_at hl 6 rfl) ?_
        obtain ⟨q4, hq4, hE⟩ := cr_bind hE
        refine cr_vRwq (n := 1) (As := [.int x5]) (rest := [.int x2]) C hW (m_X7_cupOf L D ct az q3 x5 q4 hq4) (cwV 1 hts gX7_blend_X7_cupOf rfl rfl rfl (by decide +kernel) ⟨Nat.le_of_ble_eq_true rfl, Nat.le_of_ble_eq_true rfl⟩) [0, 1, 2, 3, 4, 5, 6, 7] rfl 0 rfl rfl rfl hl.1 rfl (Nat.le_of_ble_eq_true rfl) dX7_blend_149 ⟨Nat.zero_le _, Nat.zero_le _⟩ (fun H locs hW => ?_)
        refine lv_iload hx hb dX7_blend_152 (lv_at hl 5 rfl) ?_
        refine lv_aload_n hx hb dX7_blend_154 rfl (lv_at hl 1 rfl) ?_
        refine lv_iload hx hb dX7_blend_155 (lv_at hl 7 rfl) ?_
        obtain ⟨q5, hq5, hE⟩ := cr_bind hE
        refine cr_vRwq (n := 1) (As := [.int x6]) (rest := [.int x4, .int q4, .int x2]) C hW (m_X7_cupOf L D ct az q3 x6 q5 hq5) (cwV 1 hts gX7_blend_X7_cupOf rfl rfl rfl (by decide +kernel) ⟨Nat.le_of_ble_eq_true rfl, Nat.le_of_ble_eq_true rfl⟩) [0, 1, 2, 3, 4, 5, 6, 7] rfl 0 rfl rfl rfl hl.1 rfl (Nat.le_of_ble_eq_true rfl) dX7_blend_157 ⟨Nat.zero_le _, Nat.zero_le _⟩ (fun H locs hW => ?_)
        obtain ⟨q6, hq6, hE⟩ := cr_bind hE
        refine cr_sRwq (n := 4) (As := [.int x2, .int q4, .int x4, .int q5]) (rest := []) C hW (m_X7_blended L D ct x2 q4 x4 q5 q6 hq6) (va_cwS 4 hts gX7_blend_X7_blended rfl rfl rfl (by decide +kernel) ⟨Nat.le_of_ble_eq_true rfl, Nat.le_of_ble_eq_true rfl⟩) rfl hl.1 rfl (Nat.le_of_ble_eq_true rfl) dX7_blend_160 ⟨Nat.zero_le _, Nat.zero_le _⟩ (fun H locs hW => ?_)
        refine lv_istore (lv' := [(8, .int q6), (7, .int (s1 - s0)), (0, .ref (az 0)), (1, .int x1), (2, .int x2), (3, .int x3), (4, .int x4), (5, .int x5), (6, .int x6)]) hx hb dX7_blend_163 hl (by decide) rfl (fun ls hl => ?_)
        refine lv_aload_n hx hb dX7_blend_165 rfl (lv_at hl 2 rfl) ?_
        refine lv_iload_n hx hb dX7_blend_166 rfl (lv_at hl 3 rfl) ?_
        refine lv_iload_n hx hb dX7_blend_167 rfl (lv_at hl 4 rfl) ?_
        obtain ⟨q7, hq7, hE⟩ := cr_bind hE
        refine cr_vVq (n := 2) (As := [.int x1, .int x2]) (rest := []) C hW (m_X7_takes L D ct az q3 x1 x2 _ q7 hq7) (cwV 2 hts gX7_blend_X7_takes rfl rfl rfl (by decide +kernel) ⟨Nat.le_of_ble_eq_true rfl, Nat.le_of_ble_eq_true rfl⟩) [0, 1, 2, 3, 4, 5, 6, 7] [] [0, 1, 2, 3, 4, 5, 6, 7] (cr_wM ct az q7) rfl rfl rfl ⟨by decide +kernel, by decide +kernel, by decide +kernel, by decide +kernel⟩ 0 rfl rfl rfl hl.1 rfl (Nat.le_of_ble_eq_true rfl) dX7_blend_168 ⟨Nat.zero_le _, Nat.zero_le _⟩ (fun H locs hW => ?_)
        refine lv_aload_n hx hb dX7_blend_171 rfl (lv_at hl 2 rfl) ?_
        refine lv_iload_n hx hb dX7_blend_172 rfl (lv_at hl 5 rfl) ?_
        refine lv_iload hx hb dX7_blend_173 (lv_at hl 6 rfl) ?_
        obtain ⟨q8, hq8, hE⟩ := cr_bind hE
        refine cr_vVq (n := 2) (As := [.int x3, .int x4]) (rest := []) C hW (m_X7_takes L D ct az q7 x3 x4 _ q8 hq8) (cwV 2 hts gX7_blend_X7_takes rfl rfl rfl (by decide +kernel) ⟨Nat.le_of_ble_eq_true rfl, Nat.le_of_ble_eq_true rfl⟩) [0, 1, 2, 3, 4, 5, 6, 7] [] [0, 1, 2, 3, 4, 5, 6, 7] (cr_wM ct az q8) rfl rfl rfl ⟨by decide +kernel, by decide +kernel, by decide +kernel, by decide +kernel⟩ 0 rfl rfl rfl hl.1 rfl (Nat.le_of_ble_eq_true rfl) dX7_blend_175 ⟨Nat.zero_le _, Nat.zero_le _⟩ (fun H locs hW => ?_)
        refine lv_aload_n hx hb dX7_blend_178 rfl (lv_at hl 2 rfl) ?_
        refine lv_iload_n hx hb dX7_blend_179 rfl (lv_at hl 4 rfl) ?_
        refine lv_iload hx hb dX7_blend_180 (lv_at hl 6 rfl) ?_
        refine lv_iadd hx hb dX7_blend_182 ?_
        refine lv_iload hx hb dX7_blend_183 (lv_at hl 0 rfl) ?_
        refine lv_aload_n hx hb dX7_blend_185 rfl (lv_at hl 2 rfl) ?_
        refine cr_get C hW.1 0 rfl rfl 0 (by decide) hinX7 k1 (v := .ref (az 1)) rfl dX7_blend_186 ?_
        refine lv_iconst (v := 0) hx hb dX7_blend_189 (by decide) ?_
        refine cr_ald C hW.1 1 (f := q8 0) (k := 0) rfl (by decide) (by decide) dX7_blend_190 ?_
        obtain ⟨q9, hq9, hE⟩ := cr_bind hE
        refine cr_vWq (n := 3) (As := [.int (x2 + x4), .int q6, .int (q8 0 0)]) (rest := []) C hW (m_X7_makes L D ct az q8 (x2 + x4) q6 (q8 0 0) _ q9 hq9) (cwV 3 hts gX7_blend_X7_makes rfl rfl rfl (by decide +kernel) ⟨Nat.le_of_ble_eq_true rfl, Nat.le_of_ble_eq_true rfl⟩) [0, 1, 2, 3, 4, 5, 6, 7] [] [0, 1, 2, 3, 4, 5, 6, 7] (cr_wM ct az q9.2) rfl rfl rfl ⟨by decide +kernel, by decide +kernel, by decide +kernel, by decide +kernel⟩ 0 rfl rfl rfl hl.1 rfl (Nat.le_of_ble_eq_true rfl) dX7_blend_191 ⟨Nat.zero_le _, Nat.zero_le _⟩ (fun H locs hW => ?_)
        exact cr_retW C (w := (fun u : cr_V => cr_wM ct az u)) q9.2 hW (Option.some.inj hE) dX7_blend_194
      · rw [if_neg c2] at hE
        refine cr_ldc C k0 dX7_blend_138 ?_
        exact cr_retW C (w := (fun u : cr_V => cr_wM ct az u)) vz hW (Option.some.inj hE) dX7_blend_140
  have n100 :  ∀ (vz : cr_V) (x1 : Int32) (x2 : Int32) (x3 : Int32) (x4 : Int32) (x5 : Int32) (x6 : Int32) (s0 : Int32) (s1 : Int32) (hE : f_X7_blend_100  vz x1 x2 x3 x4 x5 x6 s0 s1 = some out) (H : Heap) (locs : List Loc) (ls : Array Slot) (hW : cr_wd D A s (cr_wM ct az vz) H locs) (hl : lv_has ls 9 [(0, .ref (az 0)), (1, .int x1), (2, .int x2), (3, .int x3), (4, .int x4), (5, .int x5), (6, .int x6)]), W p L e ({ frames := 3, cells := 0, slots := 0, locals := 68 } : Room) s m args below meth c H locs 0 0 (MQ below (va_Qi (fun r u => (r, u) = out) (fun u t => cr_at D A ((fun u : cr_V => cr_wM ct az u) u) t) A) args s 0 0 A) (F0 m 100 ls [.int s0, .int s1]) := by
    intro  vz x1 x2 x3 x4 x5 x6 s0 s1 hE H locs ls hW hl
    replace hE : ((f_X7_of vz x6 1).bind fun q10 => if x4 = q10 then (f_X7_blend_118 vz x1 x2 x3 x4 x5 x6 1 (s1 - s0)) else (f_X7_blend_118 vz x1 x2 x3 x4 x5 x6 0 (s1 - s0))) = some out := hE
    refine lv_isub hx hb dX7_blend_100 ?_
    refine lv_iload hx hb dX7_blend_101 (lv_at hl 4 rfl) ?_
    refine lv_aload_n hx hb dX7_blend_103 rfl (lv_at hl 0 rfl) ?_
    refine lv_iload hx hb dX7_blend_104 (lv_at hl 6 rfl) ?_
    refine lv_iconst (v := 1) hx hb dX7_blend_106 (by decide) ?_
    obtain ⟨q10, hq10, hE⟩ := cr_bind hE
    refine cr_vRwq (n := 2) (As := [.int x6, .int 1]) (rest := [.int x4, .int (s1 - s0)]) C hW (m_X7_of L D ct az vz x6 1 q10 hq10) (cwV 2 hts gX7_blend_X7_of rfl rfl rfl (by decide +kernel) ⟨Nat.le_of_ble_eq_true rfl, Nat.le_of_ble_eq_true rfl⟩) [0, 1, 2, 3, 4, 5, 6, 7] rfl 0 rfl rfl rfl hl.1 rfl (Nat.le_of_ble_eq_true rfl) dX7_blend_107 ⟨Nat.zero_le _, Nat.zero_le _⟩ (fun H locs hW => ?_)
    refine lv_icmp_ne (tgt := 117) hx hb dX7_blend_110 (by decide) (fun c11 => ?_) (fun c11 => ?_)
    · rw [if_neg c11] at hE
      refine lv_iconst (v := 0) hx hb dX7_blend_117 (by decide) ?_
      exact n118 vz x1 x2 x3 x4 x5 x6 0 (s1 - s0) hE _ _ _ hW (lv_sub hl [0, 1, 2, 3, 4, 5, 6] rfl)
    · rw [if_pos c11] at hE
      refine lv_iconst (v := 1) hx hb dX7_blend_113 (by decide) ?_
      refine lv_goto (tgt := 118) hx hb dX7_blend_114 (by decide) ?_
      exact n118 vz x1 x2 x3 x4 x5 x6 1 (s1 - s0) hE _ _ _ hW (lv_sub hl [0, 1, 2, 3, 4, 5, 6] rfl)
  replace hE : ((f_X7_isLot vz x1).bind fun q12 => if q12 = 0 then (some ((-2000000001), vz)) else ((f_X7_isLot vz x3).bind fun q14 => if q14 = 0 then (some ((-2000000001), vz)) else (if x1 = x3 then (some ((-2000000001), vz)) else (if x2 < 1 then (some ((-2000000001), vz)) else (if 1 ≤ x4 then ((f_X7_placeOf vz x1).bind fun q19 => (f_X7_placeOf vz x3).bind fun q20 => (f_X7_of vz q19 1).bind fun q21 => if q21 < x2 then (some ((-2000000002), vz)) else ((f_X7_of vz q20 1).bind fun q23 => if x4 ≤ q23 then ((f_X7_of vz q19 1).bind fun q25 => if x2 = q25 then (f_X7_blend_100 vz x1 x2 x3 x4 q19 q20 1 ((vz 0 6) + 1)) else (f_X7_blend_100 vz x1 x2 x3 x4 q19 q20 0 ((vz 0 6) + 1))) else (some ((-2000000002), vz)))) else (some ((-2000000001), vz))))))) = some out := hE
  refine lv_aload_n hx hb dX7_blend_0 rfl (lv_at hl 0 rfl) ?_
  refine lv_iload_n hx hb dX7_blend_1 rfl (lv_at hl 1 rfl) ?_
  obtain ⟨q12, hq12, hE⟩ := cr_bind hE
  refine cr_vRwq (n := 1) (As := [.int x1]) (rest := []) C hW (m_X7_isLot L D ct az vz x1 q12 hq12) (cwV 1 hts gX7_blend_X7_isLot rfl rfl rfl (by decide +kernel) ⟨Nat.le_of_ble_eq_true rfl, Nat.le_of_ble_eq_true rfl⟩) [0, 1, 2, 3, 4, 5, 6, 7] rfl 0 rfl rfl rfl hl.1 rfl (Nat.le_of_ble_eq_true rfl) dX7_blend_2 ⟨Nat.zero_le _, Nat.zero_le _⟩ (fun H locs hW => ?_)
  refine lv_if_eq (tgt := 32) hx hb dX7_blend_5 (by decide) (fun c13 => ?_) (fun c13 => ?_)
  · rw [if_pos c13] at hE
    refine cr_ldc C k2 dX7_blend_32 ?_
    exact cr_retW C (w := (fun u : cr_V => cr_wM ct az u)) vz hW (Option.some.inj hE) dX7_blend_34
  · rw [if_neg c13] at hE
    refine lv_aload_n hx hb dX7_blend_8 rfl (lv_at hl 0 rfl) ?_
    refine lv_iload_n hx hb dX7_blend_9 rfl (lv_at hl 3 rfl) ?_
    obtain ⟨q14, hq14, hE⟩ := cr_bind hE
    refine cr_vRwq (n := 1) (As := [.int x3]) (rest := []) C hW (m_X7_isLot L D ct az vz x3 q14 hq14) (cwV 1 hts gX7_blend_X7_isLot rfl rfl rfl (by decide +kernel) ⟨Nat.le_of_ble_eq_true rfl, Nat.le_of_ble_eq_true rfl⟩) [0, 1, 2, 3, 4, 5, 6, 7] rfl 0 rfl rfl rfl hl.1 rfl (Nat.le_of_ble_eq_true rfl) dX7_blend_10 ⟨Nat.zero_le _, Nat.zero_le _⟩ (fun H locs hW => ?_)
    refine lv_if_eq (tgt := 32) hx hb dX7_blend_13 (by decide) (fun c15 => ?_) (fun c15 => ?_)
    · rw [if_pos c15] at hE
      refine cr_ldc C k2 dX7_blend_32 ?_
      exact cr_retW C (w := (fun u : cr_V => cr_wM ct az u)) vz hW (Option.some.inj hE) dX7_blend_34
    · rw [if_neg c15] at hE
      refine lv_iload_n hx hb dX7_blend_16 rfl (lv_at hl 1 rfl) ?_
      refine lv_iload_n hx hb dX7_blend_17 rfl (lv_at hl 3 rfl) ?_
      refine lv_icmp_eq (tgt := 32) hx hb dX7_blend_18 (by decide) (fun c16 => ?_) (fun c16 => ?_)
      · rw [if_pos c16] at hE
        refine cr_ldc C k2 dX7_blend_32 ?_
        exact cr_retW C (w := (fun u : cr_V => cr_wM ct az u)) vz hW (Option.some.inj hE) dX7_blend_34
      · rw [if_neg c16] at hE
        refine lv_iload_n hx hb dX7_blend_21 rfl (lv_at hl 2 rfl) ?_
        refine lv_iconst (v := 1) hx hb dX7_blend_22 (by decide) ?_
        refine lv_icmp_lt (tgt := 32) hx hb dX7_blend_23 (by decide) (fun c17 => ?_) (fun c17 => ?_)
        · rw [if_pos c17] at hE
          refine cr_ldc C k2 dX7_blend_32 ?_
          exact cr_retW C (w := (fun u : cr_V => cr_wM ct az u)) vz hW (Option.some.inj hE) dX7_blend_34
        · rw [if_neg c17] at hE
          refine lv_iload hx hb dX7_blend_26 (lv_at hl 4 rfl) ?_
          refine lv_iconst (v := 1) hx hb dX7_blend_28 (by decide) ?_
          refine lv_icmp_ge (tgt := 35) hx hb dX7_blend_29 (by decide) (fun c18 => ?_) (fun c18 => ?_)
          · rw [if_pos c18] at hE
            refine lv_aload_n hx hb dX7_blend_35 rfl (lv_at hl 0 rfl) ?_
            refine lv_iload_n hx hb dX7_blend_36 rfl (lv_at hl 1 rfl) ?_
            obtain ⟨q19, hq19, hE⟩ := cr_bind hE
            refine cr_vRwq (n := 1) (As := [.int x1]) (rest := []) C hW (m_X7_placeOf L D ct az vz x1 q19 hq19) (cwV 1 hts gX7_blend_X7_placeOf rfl rfl rfl (by decide +kernel) ⟨Nat.le_of_ble_eq_true rfl, Nat.le_of_ble_eq_true rfl⟩) [0, 1, 2, 3, 4, 5, 6, 7] rfl 0 rfl rfl rfl hl.1 rfl (Nat.le_of_ble_eq_true rfl) dX7_blend_37 ⟨Nat.zero_le _, Nat.zero_le _⟩ (fun H locs hW => ?_)
            refine lv_istore (lv' := [(5, .int q19), (0, .ref (az 0)), (1, .int x1), (2, .int x2), (3, .int x3), (4, .int x4)]) hx hb dX7_blend_40 hl (by decide) rfl (fun ls hl => ?_)
            refine lv_aload_n hx hb dX7_blend_42 rfl (lv_at hl 1 rfl) ?_
            refine lv_iload_n hx hb dX7_blend_43 rfl (lv_at hl 4 rfl) ?_
            obtain ⟨q20, hq20, hE⟩ := cr_bind hE
            refine cr_vRwq (n := 1) (As := [.int x3]) (rest := []) C hW (m_X7_placeOf L D ct az vz x3 q20 hq20) (cwV 1 hts gX7_blend_X7_placeOf rfl rfl rfl (by decide +kernel) ⟨Nat.le_of_ble_eq_true rfl, Nat.le_of_ble_eq_true rfl⟩) [0, 1, 2, 3, 4, 5, 6, 7] rfl 0 rfl rfl rfl hl.1 rfl (Nat.le_of_ble_eq_true rfl) dX7_blend_44 ⟨Nat.zero_le _, Nat.zero_le _⟩ (fun H locs hW => ?_)
            refine lv_istore (lv' := [(6, .int q20), (5, .int q19), (0, .ref (az 0)), (1, .int x1), (2, .int x2), (3, .int x3), (4, .int x4)]) hx hb dX7_blend_47 hl (by decide) rfl (fun ls hl => ?_)
            refine lv_iload_n hx hb dX7_blend_49 rfl (lv_at hl 4 rfl) ?_
            refine lv_aload_n hx hb dX7_blend_50 rfl (lv_at hl 2 rfl) ?_
            refine lv_iload hx hb dX7_blend_51 (lv_at hl 1 rfl) ?_
            refine lv_iconst (v := 1) hx hb dX7_blend_53 (by decide) ?_
            obtain ⟨q21, hq21, hE⟩ := cr_bind hE
            refine cr_vRwq (n := 2) (As := [.int q19, .int 1]) (rest := [.int x2]) C hW (m_X7_of L D ct az vz q19 1 q21 hq21) (cwV 2 hts gX7_blend_X7_of rfl rfl rfl (by decide +kernel) ⟨Nat.le_of_ble_eq_true rfl, Nat.le_of_ble_eq_true rfl⟩) [0, 1, 2, 3, 4, 5, 6, 7] rfl 0 rfl rfl rfl hl.1 rfl (Nat.le_of_ble_eq_true rfl) dX7_blend_54 ⟨Nat.zero_le _, Nat.zero_le _⟩ (fun H locs hW => ?_)
            refine lv_icmp_gt (tgt := 72) hx hb dX7_blend_57 (by decide) (fun c22 => ?_) (fun c22 => ?_)
            · rw [if_pos c22] at hE
              refine cr_ldc C k3 dX7_blend_72 ?_
              exact cr_retW C (w := (fun u : cr_V => cr_wM ct az u)) vz hW (Option.some.inj hE) dX7_blend_74
            · rw [if_neg c22] at hE
              refine lv_iload hx hb dX7_blend_60 (lv_at hl 6 rfl) ?_
              refine lv_aload_n hx hb dX7_blend_62 rfl (lv_at hl 2 rfl) ?_
              refine lv_iload hx hb dX7_blend_63 (lv_at hl 0 rfl) ?_
              refine lv_iconst (v := 1) hx hb dX7_blend_65 (by decide) ?_
              obtain ⟨q23, hq23, hE⟩ := cr_bind hE
              refine cr_vRwq (n := 2) (As := [.int q20, .int 1]) (rest := [.int x4]) C hW (m_X7_of L D ct az vz q20 1 q23 hq23) (cwV 2 hts gX7_blend_X7_of rfl rfl rfl (by decide +kernel) ⟨Nat.le_of_ble_eq_true rfl, Nat.le_of_ble_eq_true rfl⟩) [0, 1, 2, 3, 4, 5, 6, 7] rfl 0 rfl rfl rfl hl.1 rfl (Nat.le_of_ble_eq_true rfl) dX7_blend_66 ⟨Nat.zero_le _, Nat.zero_le _⟩ (fun H locs hW => ?_)
              refine lv_icmp_le (tgt := 75) hx hb dX7_blend_69 (by decide) (fun c24 => ?_) (fun c24 => ?_)
              · rw [if_pos c24] at hE
                refine lv_aload_n hx hb dX7_blend_75 rfl (lv_at hl 2 rfl) ?_
                refine cr_get C hW.1 0 rfl rfl 0 (by decide) hinX7 k1 (v := .ref (az 1)) rfl dX7_blend_76 ?_
                refine lv_bipush (v := 6) hx hb dX7_blend_79 (by decide) ?_
                refine cr_ald C hW.1 1 (f := vz 0) (k := 6) rfl (by decide) (by decide) dX7_blend_81 ?_
                refine lv_iconst (v := 1) hx hb dX7_blend_82 (by decide) ?_
                refine lv_iadd hx hb dX7_blend_83 ?_
                refine lv_iload_n hx hb dX7_blend_84 rfl (lv_at hl 4 rfl) ?_
                refine lv_aload_n hx hb dX7_blend_85 rfl (lv_at hl 2 rfl) ?_
                refine lv_iload hx hb dX7_blend_86 (lv_at hl 1 rfl) ?_
                refine lv_iconst (v := 1) hx hb dX7_blend_88 (by decide) ?_
                obtain ⟨q25, hq25, hE⟩ := cr_bind hE
                refine cr_vRwq (n := 2) (As := [.int q19, .int 1]) (rest := [.int x2, .int ((vz 0 6) + 1)]) C hW (m_X7_of L D ct az vz q19 1 q25 hq25) (cwV 2 hts gX7_blend_X7_of rfl rfl rfl (by decide +kernel) ⟨Nat.le_of_ble_eq_true rfl, Nat.le_of_ble_eq_true rfl⟩) [0, 1, 2, 3, 4, 5, 6, 7] rfl 0 rfl rfl rfl hl.1 rfl (Nat.le_of_ble_eq_true rfl) dX7_blend_89 ⟨Nat.zero_le _, Nat.zero_le _⟩ (fun H locs hW => ?_)
                refine lv_icmp_ne (tgt := 99) hx hb dX7_blend_92 (by decide) (fun c26 => ?_) (fun c26 => ?_)
                · rw [if_neg c26] at hE
                  refine lv_iconst (v := 0) hx hb dX7_blend_99 (by decide) ?_
                  exact n100 vz x1 x2 x3 x4 q19 q20 0 ((vz 0 6) + 1) hE _ _ _ hW (lv_sub hl [2, 3, 4, 5, 6, 1, 0] rfl)
                · rw [if_pos c26] at hE
                  refine lv_iconst (v := 1) hx hb dX7_blend_95 (by decide) ?_
                  refine lv_goto (tgt := 100) hx hb dX7_blend_96 (by decide) ?_
                  exact n100 vz x1 x2 x3 x4 q19 q20 1 ((vz 0 6) + 1) hE _ _ _ hW (lv_sub hl [2, 3, 4, 5, 6, 1, 0] rfl)
              · rw [if_neg c24] at hE
                refine cr_ldc C k3 dX7_blend_72 ?_
                exact cr_retW C (w := (fun u : cr_V => cr_wM ct az u)) vz hW (Option.some.inj hE) dX7_blend_74
          · rw [if_neg c18] at hE
            refine cr_ldc C k2 dX7_blend_32 ?_
            exact cr_retW C (w := (fun u : cr_V => cr_wM ct az u)) vz hW (Option.some.inj hE) dX7_blend_34

set_option maxHeartbeats 4000000 in
set_option maxRecDepth 100000 in
theorem m_X7_cup (L : Launch) (D : va_G) (ct : Nat → ClassId) (az : Nat → Nat) (vz : cr_V) (x1 : Int32) (sz : Nat) (out : Int32 × cr_V) (hE : f_X7_cup vz x1 = some out) : Met L yX7_cup wsX7_cup ({ frames := 3, cells := 0, slots := 0, locals := 66 } : Room) (cr_pW D ct (cr_wM ct az vz) sz [.ref (az 0), .int x1]) (cr_QW D (cr_wM ct az vz) sz (fun r u => (r, u) = out) (fun u : cr_V => cr_wM ct az u)) 0 0 (va_A (cr_wM ct az vz) sz) := by
  have k0 : (Cond.fieldLink RX7 7 "CupReceiptsModel" "s" "[I") ∈ wsX7_cup := List.mem_of_getElem? (i := 3) rfl
  have k1 : (Cond.constant RX7 77 (-2000000002)) ∈ wsX7_cup := List.mem_of_getElem? (i := 2) rfl
  have k2 : (Cond.constant RX7 65 (-2000000001)) ∈ wsX7_cup := List.mem_of_getElem? (i := 1) rfl
  have hinX7 : ∀ w ∈ wsX70, w ∈ wsX7_cup := fun w h => List.mem_cons_of_mem _ (List.mem_append_right _ h)
  refine cr_metW (Qc := fun A => va_Qi (fun r u => (r, u) = out) (fun u t => cr_at D A ((fun u : cr_V => cr_wM ct az u) u) t) A) (by decide) rfl rfl (Nat.le_of_ble_eq_true rfl) ?_
  intro p e s m args below meth c ls A C hW hl
  obtain ⟨hx, hb, hml, hown, hts, hr, hlocks, hK, hN⟩ := id C
  have hl : lv_has ls 4 [(0, .ref (az 0)), (1, .int x1)] := hl
  replace hE : ((f_X7_isLot vz x1).bind fun q1 => if q1 = 0 then (some ((-2000000001), vz)) else ((f_X7_placeOf vz x1).bind fun q3 => (f_X7_of vz q3 1).bind fun q4 => if q4 = 1 then (some ((-2000000002), vz)) else ((f_X7_changes vz).bind fun q6 => (f_X7_cupOf q6 q3).bind fun q7 => if cr_in ((17 + (4 * q3)) + 1) 81 = true then if cr_in ((17 + (4 * q3)) + 2) 81 = true then if cr_in ((17 + (4 * q3)) + 3) 81 = true then some (q7, (cr_a (cr_a (cr_a q6 0 (cr_x ((17 + (4 * q3)) + 1)) ((q6 0 (cr_x ((17 + (4 * q3)) + 1))) - 1)) 0 (cr_x ((17 + (4 * q3)) + 2)) q7) 0 (cr_x ((17 + (4 * q3)) + 3)) ((cr_a (cr_a q6 0 (cr_x ((17 + (4 * q3)) + 1)) ((q6 0 (cr_x ((17 + (4 * q3)) + 1))) - 1)) 0 (cr_x ((17 + (4 * q3)) + 2)) q7) 0 0))) else none else none else none))) = some out := hE
  refine lv_aload_n hx hb dX7_cup_0 rfl (lv_at hl 0 rfl) ?_
  refine lv_iload_n hx hb dX7_cup_1 rfl (lv_at hl 1 rfl) ?_
  obtain ⟨q1, hq1, hE⟩ := cr_bind hE
  refine cr_vRwq (n := 1) (As := [.int x1]) (rest := []) C hW (m_X7_isLot L D ct az vz x1 q1 hq1) (cwV 1 hts gX7_cup_X7_isLot rfl rfl rfl (by decide +kernel) ⟨Nat.le_of_ble_eq_true rfl, Nat.le_of_ble_eq_true rfl⟩) [0, 1, 2, 3, 4, 5, 6, 7] rfl 0 rfl rfl rfl hl.1 rfl (Nat.le_of_ble_eq_true rfl) dX7_cup_2 ⟨Nat.zero_le _, Nat.zero_le _⟩ (fun H locs hW => ?_)
  refine lv_if_ne (tgt := 11) hx hb dX7_cup_5 (by decide) (fun c2 => ?_) (fun c2 => ?_)
  · rw [if_neg c2] at hE
    refine lv_aload_n hx hb dX7_cup_11 rfl (lv_at hl 0 rfl) ?_
    refine lv_iload_n hx hb dX7_cup_12 rfl (lv_at hl 1 rfl) ?_
    obtain ⟨q3, hq3, hE⟩ := cr_bind hE
    refine cr_vRwq (n := 1) (As := [.int x1]) (rest := []) C hW (m_X7_placeOf L D ct az vz x1 q3 hq3) (cwV 1 hts gX7_cup_X7_placeOf rfl rfl rfl (by decide +kernel) ⟨Nat.le_of_ble_eq_true rfl, Nat.le_of_ble_eq_true rfl⟩) [0, 1, 2, 3, 4, 5, 6, 7] rfl 0 rfl rfl rfl hl.1 rfl (Nat.le_of_ble_eq_true rfl) dX7_cup_13 ⟨Nat.zero_le _, Nat.zero_le _⟩ (fun H locs hW => ?_)
    refine lv_istore_n (lv' := [(2, .int q3), (0, .ref (az 0)), (1, .int x1)]) hx hb dX7_cup_16 rfl hl (by decide) rfl (fun ls hl => ?_)
    refine lv_aload_n hx hb dX7_cup_17 rfl (lv_at hl 1 rfl) ?_
    refine lv_iload_n hx hb dX7_cup_18 rfl (lv_at hl 0 rfl) ?_
    refine lv_iconst (v := 1) hx hb dX7_cup_19 (by decide) ?_
    obtain ⟨q4, hq4, hE⟩ := cr_bind hE
    refine cr_vRwq (n := 2) (As := [.int q3, .int 1]) (rest := []) C hW (m_X7_of L D ct az vz q3 1 q4 hq4) (cwV 2 hts gX7_cup_X7_of rfl rfl rfl (by decide +kernel) ⟨Nat.le_of_ble_eq_true rfl, Nat.le_of_ble_eq_true rfl⟩) [0, 1, 2, 3, 4, 5, 6, 7] rfl 0 rfl rfl rfl hl.1 rfl (Nat.le_of_ble_eq_true rfl) dX7_cup_20 ⟨Nat.zero_le _, Nat.zero_le _⟩ (fun H locs hW => ?_)
    refine lv_iconst (v := 1) hx hb dX7_cup_23 (by decide) ?_
    refine lv_icmp_ne (tgt := 30) hx hb dX7_cup_24 (by decide) (fun c5 => ?_) (fun c5 => ?_)
    · rw [if_neg c5] at hE
      refine lv_aload_n hx hb dX7_cup_30 rfl (lv_at hl 1 rfl) ?_
      obtain ⟨q6, hq6, hE⟩ := cr_bind hE
      refine cr_vVq (n := 0) (As := []) (rest := []) C hW (m_X7_changes L D ct az vz _ q6 hq6) (cwV 0 hts gX7_cup_X7_changes rfl rfl rfl (by decide +kernel) ⟨Nat.le_of_ble_eq_true rfl, Nat.le_of_ble_eq_true rfl⟩) [0, 1, 2, 3, 4, 5, 6, 7] [] [0, 1, 2, 3, 4, 5, 6, 7] (cr_wM ct az q6) rfl rfl rfl ⟨by decide +kernel, by decide +kernel, by decide +kernel, by decide +kernel⟩ 0 rfl rfl rfl hl.1 rfl (Nat.le_of_ble_eq_true rfl) dX7_cup_31 ⟨Nat.zero_le _, Nat.zero_le _⟩ (fun H locs hW => ?_)
      refine lv_aload_n hx hb dX7_cup_34 rfl (lv_at hl 1 rfl) ?_
      refine lv_iload_n hx hb dX7_cup_35 rfl (lv_at hl 0 rfl) ?_
      obtain ⟨q7, hq7, hE⟩ := cr_bind hE
      refine cr_vRwq (n := 1) (As := [.int q3]) (rest := []) C hW (m_X7_cupOf L D ct az q6 q3 q7 hq7) (cwV 1 hts gX7_cup_X7_cupOf rfl rfl rfl (by decide +kernel) ⟨Nat.le_of_ble_eq_true rfl, Nat.le_of_ble_eq_true rfl⟩) [0, 1, 2, 3, 4, 5, 6, 7] rfl 0 rfl rfl rfl hl.1 rfl (Nat.le_of_ble_eq_true rfl) dX7_cup_36 ⟨Nat.zero_le _, Nat.zero_le _⟩ (fun H locs hW => ?_)
      refine lv_istore_n (lv' := [(3, .int q7), (2, .int q3), (0, .ref (az 0)), (1, .int x1)]) hx hb dX7_cup_39 rfl hl (by decide) rfl (fun ls hl => ?_)
      refine lv_aload_n hx hb dX7_cup_40 rfl (lv_at hl 2 rfl) ?_
      refine cr_get C hW.1 0 rfl rfl 0 (by decide) hinX7 k0 (v := .ref (az 1)) rfl dX7_cup_41 ?_
      refine lv_bipush (v := 17) hx hb dX7_cup_44 (by decide) ?_
      refine lv_iconst (v := 4) hx hb dX7_cup_46 (by decide) ?_
      refine lv_iload_n hx hb dX7_cup_47 rfl (lv_at hl 1 rfl) ?_
      refine lv_imul hx hb dX7_cup_48 ?_
      refine lv_iadd hx hb dX7_cup_49 ?_
      refine lv_iconst (v := 1) hx hb dX7_cup_50 (by decide) ?_
      refine lv_iadd hx hb dX7_cup_51 ?_
      refine lv_dup2_11 hx hb dX7_cup_52 rfl rfl ?_
      obtain ⟨i8, hE⟩ := cr_ifn hE
      refine cr_ald C hW.1 1 (f := q6 0) (k := cr_x ((17 + (4 * q3)) + 1)) rfl i8 (cr_xe _) dX7_cup_53 ?_
      refine lv_iconst (v := 1) hx hb dX7_cup_54 (by decide) ?_
      refine lv_isub hx hb dX7_cup_55 ?_
      refine cr_ast C hW 1 rfl (k := (cr_x ((17 + (4 * q3)) + 1))) i8 (cr_xe _) (w' := cr_wM ct az (cr_a q6 0 (cr_x ((17 + (4 * q3)) + 1)) ((q6 0 (cr_x ((17 + (4 * q3)) + 1))) - 1))) rfl dX7_cup_56 (fun H locs hW => ?_)
      refine lv_aload_n hx hb dX7_cup_57 rfl (lv_at hl 2 rfl) ?_
      refine cr_get C hW.1 0 rfl rfl 0 (by decide) hinX7 k0 (v := .ref (az 1)) rfl dX7_cup_58 ?_
      refine lv_bipush (v := 17) hx hb dX7_cup_61 (by decide) ?_
      refine lv_iconst (v := 4) hx hb dX7_cup_63 (by decide) ?_
      refine lv_iload_n hx hb dX7_cup_64 rfl (lv_at hl 1 rfl) ?_
      refine lv_imul hx hb dX7_cup_65 ?_
      refine lv_iadd hx hb dX7_cup_66 ?_
      refine lv_iconst (v := 2) hx hb dX7_cup_67 (by decide) ?_
      refine lv_iadd hx hb dX7_cup_68 ?_
      refine lv_iload_n hx hb dX7_cup_69 rfl (lv_at hl 0 rfl) ?_
      obtain ⟨i9, hE⟩ := cr_ifn hE
      refine cr_ast C hW 1 rfl (k := (cr_x ((17 + (4 * q3)) + 2))) i9 (cr_xe _) (w' := cr_wM ct az (cr_a (cr_a q6 0 (cr_x ((17 + (4 * q3)) + 1)) ((q6 0 (cr_x ((17 + (4 * q3)) + 1))) - 1)) 0 (cr_x ((17 + (4 * q3)) + 2)) q7)) rfl dX7_cup_70 (fun H locs hW => ?_)
      refine lv_aload_n hx hb dX7_cup_71 rfl (lv_at hl 2 rfl) ?_
      refine cr_get C hW.1 0 rfl rfl 0 (by decide) hinX7 k0 (v := .ref (az 1)) rfl dX7_cup_72 ?_
      refine lv_bipush (v := 17) hx hb dX7_cup_75 (by decide) ?_
      refine lv_iconst (v := 4) hx hb dX7_cup_77 (by decide) ?_
      refine lv_iload_n hx hb dX7_cup_78 rfl (lv_at hl 1 rfl) ?_
      refine lv_imul hx hb dX7_cup_79 ?_
      refine lv_iadd hx hb dX7_cup_80 ?_
      refine lv_iconst (v := 3) hx hb dX7_cup_81 (by decide) ?_
      refine lv_iadd hx hb dX7_cup_82 ?_
      refine lv_aload_n hx hb dX7_cup_83 rfl (lv_at hl 2 rfl) ?_
      refine cr_get C hW.1 0 rfl rfl 0 (by decide) hinX7 k0 (v := .ref (az 1)) rfl dX7_cup_84 ?_
      refine lv_iconst (v := 0) hx hb dX7_cup_87 (by decide) ?_
      refine cr_ald C hW.1 1 (f := (cr_a (cr_a q6 0 (cr_x ((17 + (4 * q3)) + 1)) ((q6 0 (cr_x ((17 + (4 * q3)) + 1))) - 1)) 0 (cr_x ((17 + (4 * q3)) + 2)) q7) 0) (k := 0) rfl (by decide) (by decide) dX7_cup_88 ?_
      obtain ⟨i10, hE⟩ := cr_ifn hE
      refine cr_ast C hW 1 rfl (k := (cr_x ((17 + (4 * q3)) + 3))) i10 (cr_xe _) (w' := cr_wM ct az (cr_a (cr_a (cr_a q6 0 (cr_x ((17 + (4 * q3)) + 1)) ((q6 0 (cr_x ((17 + (4 * q3)) + 1))) - 1)) 0 (cr_x ((17 + (4 * q3)) + 2)) q7) 0 (cr_x ((17 + (4 * q3)) + 3)) ((cr_a (cr_a q6 0 (cr_x ((17 + (4 * q3)) + 1)) ((q6 0 (cr_x ((17 + (4 * q3)) + 1))) - 1)) 0 (cr_x ((17 + (4 * q3)) + 2)) q7) 0 0))) rfl dX7_cup_89 (fun H locs hW => ?_)
      refine lv_iload_n hx hb dX7_cup_90 rfl (lv_at hl 0 rfl) ?_
      exact cr_retW C (w := (fun u : cr_V => cr_wM ct az u)) (cr_a (cr_a (cr_a q6 0 (cr_x ((17 + (4 * q3)) + 1)) ((q6 0 (cr_x ((17 + (4 * q3)) + 1))) - 1)) 0 (cr_x ((17 + (4 * q3)) + 2)) q7) 0 (cr_x ((17 + (4 * q3)) + 3)) ((cr_a (cr_a q6 0 (cr_x ((17 + (4 * q3)) + 1)) ((q6 0 (cr_x ((17 + (4 * q3)) + 1))) - 1)) 0 (cr_x ((17 + (4 * q3)) + 2)) q7) 0 0)) hW (Option.some.inj hE) dX7_cup_91
    · rw [if_pos c5] at hE
      refine cr_ldc C k1 dX7_cup_27 ?_
      exact cr_retW C (w := (fun u : cr_V => cr_wM ct az u)) vz hW (Option.some.inj hE) dX7_cup_29
  · rw [if_pos c2] at hE
    refine cr_ldc C k2 dX7_cup_8 ?_
    exact cr_retW C (w := (fun u : cr_V => cr_wM ct az u)) vz hW (Option.some.inj hE) dX7_cup_10

set_option maxHeartbeats 4000000 in
set_option maxRecDepth 100000 in
theorem m_X7_worth (L : Launch) (D : va_G) (ct : Nat → ClassId) (az : Nat → Nat) (vz : cr_V) (x1 : Int32) (x2 : Int32) (sz : Nat) (out : Int32 × cr_V) (hE : f_X7_worth vz x1 x2 = some out) : Met L yX7_worth wsX7_worth ({ frames := 1, cells := 0, slots := 0, locals := 22 } : Room) (cr_pW D ct (cr_wM ct az vz) sz [.ref (az 0), .int x1, .int x2]) (cr_QW D (cr_wM ct az vz) sz (fun r u => (r, u) = out) (fun u : cr_V => cr_wM ct az u)) 0 0 (va_A (cr_wM ct az vz) sz) := by
  have k0 : (Cond.constant RX7 65 (-2000000001)) ∈ wsX7_worth := List.mem_of_getElem? (i := 1) rfl
  have k1 : (Cond.fieldLink RX7 7 "CupReceiptsModel" "s" "[I") ∈ wsX7_worth := List.mem_of_getElem? (i := 2) rfl
  have hinX7 : ∀ w ∈ wsX70, w ∈ wsX7_worth := fun w h => List.mem_cons_of_mem _ (List.mem_append_right _ h)
  refine cr_metW (Qc := fun A => va_Qi (fun r u => (r, u) = out) (fun u t => cr_at D A ((fun u : cr_V => cr_wM ct az u) u) t) A) (by decide) rfl rfl (Nat.le_of_ble_eq_true rfl) ?_
  intro p e s m args below meth c ls A C hW hl
  obtain ⟨hx, hb, hml, hown, hts, hr, hlocks, hK, hN⟩ := id C
  have hl : lv_has ls 4 [(0, .ref (az 0)), (1, .int x1), (2, .int x2)] := hl
  replace hE : ((f_X7_in x1 0 3).bind fun q1 => if q1 = 0 then (some ((-2000000001), vz)) else ((f_X7_in x2 1 999).bind fun q3 => if q3 = 0 then (some ((-2000000001), vz)) else ((f_X7_changes vz).bind fun q5 => if cr_in (13 + x1) 81 = true then some ((q5 0 (cr_x (13 + x1))), (cr_a q5 0 (cr_x (13 + x1)) x2)) else none))) = some out := hE
  refine lv_iload_n hx hb dX7_worth_0 rfl (lv_at hl 1 rfl) ?_
  refine lv_iconst (v := 0) hx hb dX7_worth_1 (by decide) ?_
  refine lv_iconst (v := 3) hx hb dX7_worth_2 (by decide) ?_
  obtain ⟨q1, hq1, hE⟩ := cr_bind hE
  refine cr_sRwq (n := 3) (As := [.int x1, .int 0, .int 3]) (rest := []) C hW (m_X7_in L D ct x1 0 3 q1 hq1) (va_cwS 3 hts gX7_worth_X7_in rfl rfl rfl (by decide +kernel) ⟨Nat.le_of_ble_eq_true rfl, Nat.le_of_ble_eq_true rfl⟩) rfl hl.1 rfl (Nat.le_of_ble_eq_true rfl) dX7_worth_3 ⟨Nat.zero_le _, Nat.zero_le _⟩ (fun H locs hW => ?_)
  refine lv_if_eq (tgt := 20) hx hb dX7_worth_6 (by decide) (fun c2 => ?_) (fun c2 => ?_)
  · rw [if_pos c2] at hE
    refine cr_ldc C k0 dX7_worth_20 ?_
    exact cr_retW C (w := (fun u : cr_V => cr_wM ct az u)) vz hW (Option.some.inj hE) dX7_worth_22
  · rw [if_neg c2] at hE
    refine lv_iload_n hx hb dX7_worth_9 rfl (lv_at hl 2 rfl) ?_
    refine lv_iconst (v := 1) hx hb dX7_worth_10 (by decide) ?_
    refine lv_sipush (v := 999) hx hb dX7_worth_11 (by decide) ?_
    obtain ⟨q3, hq3, hE⟩ := cr_bind hE
    refine cr_sRwq (n := 3) (As := [.int x2, .int 1, .int 999]) (rest := []) C hW (m_X7_in L D ct x2 1 999 q3 hq3) (va_cwS 3 hts gX7_worth_X7_in rfl rfl rfl (by decide +kernel) ⟨Nat.le_of_ble_eq_true rfl, Nat.le_of_ble_eq_true rfl⟩) rfl hl.1 rfl (Nat.le_of_ble_eq_true rfl) dX7_worth_14 ⟨Nat.zero_le _, Nat.zero_le _⟩ (fun H locs hW => ?_)
    refine lv_if_ne (tgt := 23) hx hb dX7_worth_17 (by decide) (fun c4 => ?_) (fun c4 => ?_)
    · rw [if_neg c4] at hE
      refine lv_aload_n hx hb dX7_worth_23 rfl (lv_at hl 0 rfl) ?_
      obtain ⟨q5, hq5, hE⟩ := cr_bind hE
      refine cr_vVq (n := 0) (As := []) (rest := []) C hW (m_X7_changes L D ct az vz _ q5 hq5) (cwV 0 hts gX7_worth_X7_changes rfl rfl rfl (by decide +kernel) ⟨Nat.le_of_ble_eq_true rfl, Nat.le_of_ble_eq_true rfl⟩) [0, 1, 2, 3, 4, 5, 6, 7] [] [0, 1, 2, 3, 4, 5, 6, 7] (cr_wM ct az q5) rfl rfl rfl ⟨by decide +kernel, by decide +kernel, by decide +kernel, by decide +kernel⟩ 0 rfl rfl rfl hl.1 rfl (Nat.le_of_ble_eq_true rfl) dX7_worth_24 ⟨Nat.zero_le _, Nat.zero_le _⟩ (fun H locs hW => ?_)
      refine lv_aload_n hx hb dX7_worth_27 rfl (lv_at hl 0 rfl) ?_
      refine cr_get C hW.1 0 rfl rfl 0 (by decide) hinX7 k1 (v := .ref (az 1)) rfl dX7_worth_28 ?_
      refine lv_bipush (v := 13) hx hb dX7_worth_31 (by decide) ?_
      refine lv_iload_n hx hb dX7_worth_33 rfl (lv_at hl 1 rfl) ?_
      refine lv_iadd hx hb dX7_worth_34 ?_
      obtain ⟨i6, hE⟩ := cr_ifn hE
      refine cr_ald C hW.1 1 (f := q5 0) (k := cr_x (13 + x1)) rfl i6 (cr_xe _) dX7_worth_35 ?_
      refine lv_istore_n (lv' := [(3, .int (q5 0 (cr_x (13 + x1)))), (0, .ref (az 0)), (1, .int x1), (2, .int x2)]) hx hb dX7_worth_36 rfl hl (by decide) rfl (fun ls hl => ?_)
      refine lv_aload_n hx hb dX7_worth_37 rfl (lv_at hl 1 rfl) ?_
      refine cr_get C hW.1 0 rfl rfl 0 (by decide) hinX7 k1 (v := .ref (az 1)) rfl dX7_worth_38 ?_
      refine lv_bipush (v := 13) hx hb dX7_worth_41 (by decide) ?_
      refine lv_iload_n hx hb dX7_worth_43 rfl (lv_at hl 2 rfl) ?_
      refine lv_iadd hx hb dX7_worth_44 ?_
      refine lv_iload_n hx hb dX7_worth_45 rfl (lv_at hl 3 rfl) ?_
      refine cr_ast C hW 1 rfl (k := (cr_x (13 + x1))) i6 (cr_xe _) (w' := cr_wM ct az (cr_a q5 0 (cr_x (13 + x1)) x2)) rfl dX7_worth_46 (fun H locs hW => ?_)
      refine lv_iload_n hx hb dX7_worth_47 rfl (lv_at hl 0 rfl) ?_
      exact cr_retW C (w := (fun u : cr_V => cr_wM ct az u)) (cr_a q5 0 (cr_x (13 + x1)) x2) hW (Option.some.inj hE) dX7_worth_48
    · rw [if_pos c4] at hE
      refine cr_ldc C k0 dX7_worth_20 ?_
      exact cr_retW C (w := (fun u : cr_V => cr_wM ct az u)) vz hW (Option.some.inj hE) dX7_worth_22

set_option maxHeartbeats 4000000 in
set_option maxRecDepth 100000 in
theorem m_X7_isContract (L : Launch) (D : va_G) (ct : Nat → ClassId) (az : Nat → Nat) (vz : cr_V) (x1 : Int32) (out : Int32) (hE : f_X7_isContract vz x1 = some out) : Met L yX7_isContract wsX7_isContract ({ frames := 0, cells := 0, slots := 0, locals := 0 } : Room) (cr_pR D ct (cr_wM ct az vz) [.ref (az 0), .int x1]) (cr_QR (fun r => r = out)) 0 0 cr_no := by
  have k0 : (Cond.fieldLink RX7 7 "CupReceiptsModel" "s" "[I") ∈ wsX7_isContract := List.mem_of_getElem? (i := 1) rfl
  have hinX7 : ∀ w ∈ wsX70, w ∈ wsX7_isContract := fun w h => List.mem_cons_of_mem _ (List.mem_append_right _ h)
  refine cr_metR (by decide) rfl rfl (Nat.le_of_ble_eq_true rfl) ?_
  intro p e s m args below meth c ls C hP hS hl
  obtain ⟨hx, hb, hml, hown, hts, hr, hlocks, hK, hN⟩ := id C
  have hl : lv_has ls 2 [(0, .ref (az 0)), (1, .int x1)] := hl
  replace hE : (if x1 < 0 then (some 0) else (if (vz 0 7) ≤ x1 then (some 0) else (some 1))) = some out := hE
  refine lv_iload_n hx hb dX7_isContract_0 rfl (lv_at hl 1 rfl) ?_
  refine lv_if_lt (tgt := 19) hx hb dX7_isContract_1 (by decide) (fun c1 => ?_) (fun c1 => ?_)
  · rw [if_pos c1] at hE
    refine lv_iconst (v := 0) hx hb dX7_isContract_19 (by decide) ?_
    exact cr_retRz C hS rfl (Option.some.inj hE) dX7_isContract_20
  · rw [if_neg c1] at hE
    refine lv_iload_n hx hb dX7_isContract_4 rfl (lv_at hl 1 rfl) ?_
    refine lv_aload_n hx hb dX7_isContract_5 rfl (lv_at hl 0 rfl) ?_
    refine cr_get C hP 0 rfl rfl 0 (by decide) hinX7 k0 (v := .ref (az 1)) rfl dX7_isContract_6 ?_
    refine lv_bipush (v := 7) hx hb dX7_isContract_9 (by decide) ?_
    refine cr_ald C hP 1 (f := vz 0) (k := 7) rfl (by decide) (by decide) dX7_isContract_11 ?_
    refine lv_icmp_ge (tgt := 19) hx hb dX7_isContract_12 (by decide) (fun c2 => ?_) (fun c2 => ?_)
    · rw [if_pos c2] at hE
      refine lv_iconst (v := 0) hx hb dX7_isContract_19 (by decide) ?_
      exact cr_retRz C hS rfl (Option.some.inj hE) dX7_isContract_20
    · rw [if_neg c2] at hE
      refine lv_iconst (v := 1) hx hb dX7_isContract_15 (by decide) ?_
      refine lv_goto (tgt := 20) hx hb dX7_isContract_16 (by decide) ?_
      exact cr_retRz C hS rfl (Option.some.inj hE) dX7_isContract_20

set_option maxHeartbeats 4000000 in
set_option maxRecDepth 100000 in
theorem m_X7_monthOf (L : Launch) (D : va_G) (ct : Nat → ClassId) (az : Nat → Nat) (vz : cr_V) (x1 : Int32) (out : Int32) (hE : f_X7_monthOf vz x1 = some out) : Met L yX7_monthOf wsX7_monthOf ({ frames := 0, cells := 0, slots := 0, locals := 0 } : Room) (cr_pR D ct (cr_wM ct az vz) [.ref (az 0), .int x1]) (cr_QR (fun r => r = out)) 0 0 cr_no := by
  have k0 : (Cond.fieldLink RX7 7 "CupReceiptsModel" "s" "[I") ∈ wsX7_monthOf := List.mem_of_getElem? (i := 1) rfl
  have hinX7 : ∀ w ∈ wsX70, w ∈ wsX7_monthOf := fun w h => List.mem_cons_of_mem _ (List.mem_append_right _ h)
  refine cr_metR (by decide) rfl rfl (Nat.le_of_ble_eq_true rfl) ?_
  intro p e s m args below meth c ls C hP hS hl
  obtain ⟨hx, hb, hml, hown, hts, hr, hlocks, hK, hN⟩ := id C
  have hl : lv_has ls 2 [(0, .ref (az 0)), (1, .int x1)] := hl
  replace hE : (if cr_in (69 + (2 * x1)) 81 = true then some (vz 0 (cr_x (69 + (2 * x1)))) else none) = some out := hE
  refine lv_aload_n hx hb dX7_monthOf_0 rfl (lv_at hl 0 rfl) ?_
  refine cr_get C hP 0 rfl rfl 0 (by decide) hinX7 k0 (v := .ref (az 1)) rfl dX7_monthOf_1 ?_
  refine lv_bipush (v := 69) hx hb dX7_monthOf_4 (by decide) ?_
  refine lv_iconst (v := 2) hx hb dX7_monthOf_6 (by decide) ?_
  refine lv_iload_n hx hb dX7_monthOf_7 rfl (lv_at hl 1 rfl) ?_
  refine lv_imul hx hb dX7_monthOf_8 ?_
  refine lv_iadd hx hb dX7_monthOf_9 ?_
  obtain ⟨i1, hE⟩ := cr_ifn hE
  refine cr_ald C hP 1 (f := vz 0) (k := cr_x (69 + (2 * x1))) rfl i1 (cr_xe _) dX7_monthOf_10 ?_
  exact cr_retR C hS (Option.some.inj hE) dX7_monthOf_11

set_option maxHeartbeats 4000000 in
set_option maxRecDepth 100000 in
theorem m_X7_priceOf (L : Launch) (D : va_G) (ct : Nat → ClassId) (az : Nat → Nat) (vz : cr_V) (x1 : Int32) (out : Int32) (hE : f_X7_priceOf vz x1 = some out) : Met L yX7_priceOf wsX7_priceOf ({ frames := 0, cells := 0, slots := 0, locals := 0 } : Room) (cr_pR D ct (cr_wM ct az vz) [.ref (az 0), .int x1]) (cr_QR (fun r => r = out)) 0 0 cr_no := by
  have k0 : (Cond.fieldLink RX7 7 "CupReceiptsModel" "s" "[I") ∈ wsX7_priceOf := List.mem_of_getElem? (i := 1) rfl
  have hinX7 : ∀ w ∈ wsX70, w ∈ wsX7_priceOf := fun w h => List.mem_cons_of_mem _ (List.mem_append_right _ h)
  refine cr_metR (by decide) rfl rfl (Nat.le_of_ble_eq_true rfl) ?_
  intro p e s m args below meth c ls C hP hS hl
  obtain ⟨hx, hb, hml, hown, hts, hr, hlocks, hK, hN⟩ := id C
  have hl : lv_has ls 2 [(0, .ref (az 0)), (1, .int x1)] := hl
  replace hE : (if cr_in ((69 + (2 * x1)) + 1) 81 = true then some (vz 0 (cr_x ((69 + (2 * x1)) + 1))) else none) = some out := hE
  refine lv_aload_n hx hb dX7_priceOf_0 rfl (lv_at hl 0 rfl) ?_
  refine cr_get C hP 0 rfl rfl 0 (by decide) hinX7 k0 (v := .ref (az 1)) rfl dX7_priceOf_1 ?_
  refine lv_bipush (v := 69) hx hb dX7_priceOf_4 (by decide) ?_
  refine lv_iconst (v := 2) hx hb dX7_priceOf_6 (by decide) ?_
  refine lv_iload_n hx hb dX7_priceOf_7 rfl (lv_at hl 1 rfl) ?_
  refine lv_imul hx hb dX7_priceOf_8 ?_
  refine lv_iadd hx hb dX7_priceOf_9 ?_
  refine lv_iconst (v := 1) hx hb dX7_priceOf_10 (by decide) ?_
  refine lv_iadd hx hb dX7_priceOf_11 ?_
  obtain ⟨i1, hE⟩ := cr_ifn hE
  refine cr_ald C hP 1 (f := vz 0) (k := cr_x ((69 + (2 * x1)) + 1)) rfl i1 (cr_xe _) dX7_priceOf_12 ?_
  exact cr_retR C hS (Option.some.inj hE) dX7_priceOf_13

set_option maxHeartbeats 4000000 in
set_option maxRecDepth 100000 in
theorem m_X7_isDelivery (L : Launch) (D : va_G) (ct : Nat → ClassId) (az : Nat → Nat) (vz : cr_V) (x1 : Int32) (out : Int32) (hE : f_X7_isDelivery vz x1 = some out) : Met L yX7_isDelivery wsX7_isDelivery ({ frames := 0, cells := 0, slots := 0, locals := 0 } : Room) (cr_pR D ct (cr_wM ct az vz) [.ref (az 0), .int x1]) (cr_QR (fun r => r = out)) 0 0 cr_no := by
  have k0 : (Cond.fieldLink RX7 7 "CupReceiptsModel" "s" "[I") ∈ wsX7_isDelivery := List.mem_of_getElem? (i := 1) rfl
  have hinX7 : ∀ w ∈ wsX70, w ∈ wsX7_isDelivery := fun w h => List.mem_cons_of_mem _ (List.mem_append_right _ h)
  refine cr_metR (by decide) rfl rfl (Nat.le_of_ble_eq_true rfl) ?_
  intro p e s m args below meth c ls C hP hS hl
  obtain ⟨hx, hb, hml, hown, hts, hr, hlocks, hK, hN⟩ := id C
  have hl : lv_has ls 2 [(0, .ref (az 0)), (1, .int x1)] := hl
  replace hE : (if (((vz 0 9) >>> ((x1 - x1 / 12 * 12) &&& 31)) &&& 1) = 1 then (some 1) else (some 0)) = some out := hE
  refine lv_aload_n hx hb dX7_isDelivery_0 rfl (lv_at hl 0 rfl) ?_
  refine cr_get C hP 0 rfl rfl 0 (by decide) hinX7 k0 (v := .ref (az 1)) rfl dX7_isDelivery_1 ?_
  refine lv_bipush (v := 9) hx hb dX7_isDelivery_4 (by decide) ?_
  refine cr_ald C hP 1 (f := vz 0) (k := 9) rfl (by decide) (by decide) dX7_isDelivery_6 ?_
  refine lv_iload_n hx hb dX7_isDelivery_7 rfl (lv_at hl 1 rfl) ?_
  refine lv_bipush (v := 12) hx hb dX7_isDelivery_8 (by decide) ?_
  refine lv_irem hx hb dX7_isDelivery_10 (by decide) ?_
  refine lv_ishr hx hb dX7_isDelivery_11 ?_
  refine lv_iconst (v := 1) hx hb dX7_isDelivery_12 (by decide) ?_
  refine lv_iand hx hb dX7_isDelivery_13 ?_
  refine lv_iconst (v := 1) hx hb dX7_isDelivery_14 (by decide) ?_
  refine lv_icmp_ne (tgt := 22) hx hb dX7_isDelivery_15 (by decide) (fun c1 => ?_) (fun c1 => ?_)
  · rw [if_neg c1] at hE
    refine lv_iconst (v := 0) hx hb dX7_isDelivery_22 (by decide) ?_
    exact cr_retRz C hS rfl (Option.some.inj hE) dX7_isDelivery_23
  · rw [if_pos c1] at hE
    refine lv_iconst (v := 1) hx hb dX7_isDelivery_18 (by decide) ?_
    refine lv_goto (tgt := 23) hx hb dX7_isDelivery_19 (by decide) ?_
    exact cr_retRz C hS rfl (Option.some.inj hE) dX7_isDelivery_23

set_option maxHeartbeats 4000000 in
set_option maxRecDepth 100000 in
theorem m_X7_closes (L : Launch) (D : va_G) (ct : Nat → ClassId) (az : Nat → Nat) (vz : cr_V) (x1 : Int32) (sz : Nat) (out : cr_V) (hE : f_X7_closes vz x1 = some out) : Met L yX7_closes wsX7_closes ({ frames := 0, cells := 0, slots := 0, locals := 0 } : Room) (cr_pW D ct (cr_wM ct az vz) sz [.ref (az 0), .int x1]) (cr_QV D (cr_wM ct az vz) sz (fun u => u = out) (fun u : cr_V => cr_wM ct az u)) 0 0 (va_A (cr_wM ct az vz) sz) := by
  have k0 : (Cond.fieldLink RX7 7 "CupReceiptsModel" "s" "[I") ∈ wsX7_closes := List.mem_of_getElem? (i := 1) rfl
  have hinX7 : ∀ w ∈ wsX70, w ∈ wsX7_closes := fun w h => List.mem_cons_of_mem _ (List.mem_append_right _ h)
  refine cr_metW (Qc := fun A => va_Qv (fun u => u = out) (fun u t => cr_at D A ((fun u : cr_V => cr_wM ct az u) u) t) A) (by decide) rfl rfl (Nat.le_of_ble_eq_true rfl) ?_
  intro p e s m args below meth c ls A C hW hl
  obtain ⟨hx, hb, hml, hown, hts, hr, hlocks, hK, hN⟩ := id C
  have hl : lv_has ls 3 [(0, .ref (az 0)), (1, .int x1)] := hl
  have n18 :  ∀ (n : Nat), ∀ (vz : cr_V) (x2 : Int32) (hE : f_X7_closes_18  n vz x2 = some out) (H : Heap) (locs : List Loc) (ls : Array Slot) (hW : cr_wd D A s (cr_wM ct az vz) H locs) (hl : lv_has ls 3 [(0, .ref (az 0)), (2, .int x2)]), W p L e ({ frames := 0, cells := 0, slots := 0, locals := 0 } : Room) s m args below meth c H locs 0 0 (MQ below (va_Qv (fun u => u = out) (fun u t => cr_at D A ((fun u : cr_V => cr_wM ct az u) u) t) A) args s 0 0 A) (F0 m 18 ls []) := by
    intro  n
    induction n with
    | zero =>
      intro vz x2 hE
      cases hE
    | succ n ih =>
      intro vz x2 hE H locs ls hW hl
      replace hE : (if (69 + (2 * (vz 0 7))) ≤ x2 then (some vz) else (if cr_in (x2 + 2) 81 = true then if cr_in x2 81 = true then f_X7_closes_18 n (cr_a vz 0 (cr_x x2) (vz 0 (cr_x (x2 + 2)))) (x2 + 1) else none else none)) = some out := hE
      refine lv_iload_n hx hb dX7_closes_18 rfl (lv_at hl 1 rfl) ?_
      refine lv_bipush (v := 69) hx hb dX7_closes_19 (by decide) ?_
      refine lv_iconst (v := 2) hx hb dX7_closes_21 (by decide) ?_
      refine lv_aload_n hx hb dX7_closes_22 rfl (lv_at hl 0 rfl) ?_
      refine cr_get C hW.1 0 rfl rfl 0 (by decide) hinX7 k0 (v := .ref (az 1)) rfl dX7_closes_23 ?_
      refine lv_bipush (v := 7) hx hb dX7_closes_26 (by decide) ?_
      refine cr_ald C hW.1 1 (f := vz 0) (k := 7) rfl (by decide) (by decide) dX7_closes_28 ?_
      refine lv_imul hx hb dX7_closes_29 ?_
      refine lv_iadd hx hb dX7_closes_30 ?_
      refine lv_icmp_ge (tgt := 54) hx hb dX7_closes_31 (by decide) (fun c1 => ?_) (fun c1 => ?_)
      · rw [if_pos c1] at hE
        exact cr_retV C (w := (fun u : cr_V => cr_wM ct az u)) vz hW (Option.some.inj hE) dX7_closes_54
      · rw [if_neg c1] at hE
        refine lv_aload_n hx hb dX7_closes_34 rfl (lv_at hl 0 rfl) ?_
        refine cr_get C hW.1 0 rfl rfl 0 (by decide) hinX7 k0 (v := .ref (az 1)) rfl dX7_closes_35 ?_
        refine lv_iload_n hx hb dX7_closes_38 rfl (lv_at hl 1 rfl) ?_
        refine lv_aload_n hx hb dX7_closes_39 rfl (lv_at hl 0 rfl) ?_
        refine cr_get C hW.1 0 rfl rfl 0 (by decide) hinX7 k0 (v := .ref (az 1)) rfl dX7_closes_40 ?_
        refine lv_iload_n hx hb dX7_closes_43 rfl (lv_at hl 1 rfl) ?_
        refine lv_iconst (v := 2) hx hb dX7_closes_44 (by decide) ?_
        refine lv_iadd hx hb dX7_closes_45 ?_
        obtain ⟨i2, hE⟩ := cr_ifn hE
        refine cr_ald C hW.1 1 (f := vz 0) (k := cr_x (x2 + 2)) rfl i2 (cr_xe _) dX7_closes_46 ?_
        obtain ⟨i3, hE⟩ := cr_ifn hE
        refine cr_ast C hW 1 rfl (k := (cr_x x2)) i3 (cr_xe _) (w' := cr_wM ct az (cr_a vz 0 (cr_x x2) (vz 0 (cr_x (x2 + 2))))) rfl dX7_closes_47 (fun H locs hW => ?_)
        refine lv_iinc (v := x2 + 1) (lv' := [(2, .int (x2 + 1)), (0, .ref (az 0))]) hx hb dX7_closes_48 hl (k := 1) rfl (by first | rfl | decide) (by decide) rfl (fun ls hl => ?_)
        refine lv_goto (tgt := 18) hx hb dX7_closes_51 (by decide) ?_
        exact ih (cr_a vz 0 (cr_x x2) (vz 0 (cr_x (x2 + 2)))) (x2 + 1) hE _ _ _ hW (lv_sub hl [1, 0] rfl)
  replace hE : (f_X7_closes_18 10100 (cr_a vz 0 7 ((vz 0 7) - 1)) (69 + (2 * x1))) = some out := hE
  refine lv_aload_n hx hb dX7_closes_0 rfl (lv_at hl 0 rfl) ?_
  refine cr_get C hW.1 0 rfl rfl 0 (by decide) hinX7 k0 (v := .ref (az 1)) rfl dX7_closes_1 ?_
  refine lv_bipush (v := 7) hx hb dX7_closes_4 (by decide) ?_
  refine lv_dup2_11 hx hb dX7_closes_6 rfl rfl ?_
  refine cr_ald C hW.1 1 (f := vz 0) (k := 7) rfl (by decide) (by decide) dX7_closes_7 ?_
  refine lv_iconst (v := 1) hx hb dX7_closes_8 (by decide) ?_
  refine lv_isub hx hb dX7_closes_9 ?_
  refine cr_ast C hW 1 rfl (k := 7) (by decide) (by decide) (w' := cr_wM ct az (cr_a vz 0 7 ((vz 0 7) - 1))) rfl dX7_closes_10 (fun H locs hW => ?_)
  refine lv_bipush (v := 69) hx hb dX7_closes_11 (by decide) ?_
  refine lv_iconst (v := 2) hx hb dX7_closes_13 (by decide) ?_
  refine lv_iload_n hx hb dX7_closes_14 rfl (lv_at hl 1 rfl) ?_
  refine lv_imul hx hb dX7_closes_15 ?_
  refine lv_iadd hx hb dX7_closes_16 ?_
  refine lv_istore_n (lv' := [(2, .int (69 + (2 * x1))), (0, .ref (az 0)), (1, .int x1)]) hx hb dX7_closes_17 rfl hl (by decide) rfl (fun ls hl => ?_)
  exact n18 10100 (cr_a vz 0 7 ((vz 0 7) - 1)) (69 + (2 * x1)) hE _ _ _ hW (lv_sub hl [1, 0] rfl)

set_option maxHeartbeats 4000000 in
set_option maxRecDepth 100000 in
theorem m_X7_sell (L : Launch) (D : va_G) (ct : Nat → ClassId) (az : Nat → Nat) (vz : cr_V) (x1 : Int32) (x2 : Int32) (sz : Nat) (out : Int32 × cr_V) (hE : f_X7_sell vz x1 x2 = some out) : Met L yX7_sell wsX7_sell ({ frames := 1, cells := 0, slots := 0, locals := 22 } : Room) (cr_pW D ct (cr_wM ct az vz) sz [.ref (az 0), .int x1, .int x2]) (cr_QW D (cr_wM ct az vz) sz (fun r u => (r, u) = out) (fun u : cr_V => cr_wM ct az u)) 0 0 (va_A (cr_wM ct az vz) sz) := by
  have k0 : (Cond.constant RX7 65 (-2000000001)) ∈ wsX7_sell := List.mem_of_getElem? (i := 1) rfl
  have k1 : (Cond.fieldLink RX7 7 "CupReceiptsModel" "s" "[I") ∈ wsX7_sell := List.mem_of_getElem? (i := 2) rfl
  have k2 : (Cond.constant RX7 77 (-2000000002)) ∈ wsX7_sell := List.mem_of_getElem? (i := 3) rfl
  have k3 : (Cond.constant RX7 66 (-2000000003)) ∈ wsX7_sell := List.mem_of_getElem? (i := 4) rfl
  have hinX7 : ∀ w ∈ wsX70, w ∈ wsX7_sell := fun w h => List.mem_cons_of_mem _ (List.mem_append_right _ h)
  refine cr_metW (Qc := fun A => va_Qi (fun r u => (r, u) = out) (fun u t => cr_at D A ((fun u : cr_V => cr_wM ct az u) u) t) A) (by decide) rfl rfl (Nat.le_of_ble_eq_true rfl) ?_
  intro p e s m args below meth c ls A C hW hl
  obtain ⟨hx, hb, hml, hown, hts, hr, hlocks, hK, hN⟩ := id C
  have hl : lv_has ls 4 [(0, .ref (az 0)), (1, .int x1), (2, .int x2)] := hl
  replace hE : ((f_X7_in x1 0 999).bind fun q1 => if q1 = 0 then (some ((-2000000001), vz)) else ((f_X7_in x2 1 999).bind fun q3 => if q3 = 0 then (some ((-2000000001), vz)) else (if x1 < (vz 0 0) then (some ((-2000000002), vz)) else ((f_X7_isDelivery vz x1).bind fun q6 => if q6 = 0 then (some ((-2000000002), vz)) else (if (vz 0 7) = 6 then (some ((-2000000003), vz)) else ((f_X7_changes vz).bind fun q9 => if cr_in (69 + (2 * (vz 0 7))) 81 = true then if cr_in ((69 + (2 * (vz 0 7))) + 1) 81 = true then some ((vz 0 7), (cr_a (cr_a (cr_a q9 0 (cr_x (69 + (2 * (vz 0 7)))) x1) 0 (cr_x ((69 + (2 * (vz 0 7))) + 1)) x2) 0 7 (((cr_a (cr_a q9 0 (cr_x (69 + (2 * (vz 0 7)))) x1) 0 (cr_x ((69 + (2 * (vz 0 7))) + 1)) x2) 0 7) + 1))) else none else none)))))) = some out := hE
  refine lv_iload_n hx hb dX7_sell_0 rfl (lv_at hl 1 rfl) ?_
  refine lv_iconst (v := 0) hx hb dX7_sell_1 (by decide) ?_
  refine lv_sipush (v := 999) hx hb dX7_sell_2 (by decide) ?_
  obtain ⟨q1, hq1, hE⟩ := cr_bind hE
  refine cr_sRwq (n := 3) (As := [.int x1, .int 0, .int 999]) (rest := []) C hW (m_X7_in L D ct x1 0 999 q1 hq1) (va_cwS 3 hts gX7_sell_X7_in rfl rfl rfl (by decide +kernel) ⟨Nat.le_of_ble_eq_true rfl, Nat.le_of_ble_eq_true rfl⟩) rfl hl.1 rfl (Nat.le_of_ble_eq_true rfl) dX7_sell_5 ⟨Nat.zero_le _, Nat.zero_le _⟩ (fun H locs hW => ?_)
  refine lv_if_eq (tgt := 22) hx hb dX7_sell_8 (by decide) (fun c2 => ?_) (fun c2 => ?_)
  · rw [if_pos c2] at hE
    refine cr_ldc C k0 dX7_sell_22 ?_
    exact cr_retW C (w := (fun u : cr_V => cr_wM ct az u)) vz hW (Option.some.inj hE) dX7_sell_24
  · rw [if_neg c2] at hE
    refine lv_iload_n hx hb dX7_sell_11 rfl (lv_at hl 2 rfl) ?_
    refine lv_iconst (v := 1) hx hb dX7_sell_12 (by decide) ?_
    refine lv_sipush (v := 999) hx hb dX7_sell_13 (by decide) ?_
    obtain ⟨q3, hq3, hE⟩ := cr_bind hE
    refine cr_sRwq (n := 3) (As := [.int x2, .int 1, .int 999]) (rest := []) C hW (m_X7_in L D ct x2 1 999 q3 hq3) (va_cwS 3 hts gX7_sell_X7_in rfl rfl rfl (by decide +kernel) ⟨Nat.le_of_ble_eq_true rfl, Nat.le_of_ble_eq_true rfl⟩) rfl hl.1 rfl (Nat.le_of_ble_eq_true rfl) dX7_sell_16 ⟨Nat.zero_le _, Nat.zero_le _⟩ (fun H locs hW => ?_)
    refine lv_if_ne (tgt := 25) hx hb dX7_sell_19 (by decide) (fun c4 => ?_) (fun c4 => ?_)
    · rw [if_neg c4] at hE
      refine lv_iload_n hx hb dX7_sell_25 rfl (lv_at hl 1 rfl) ?_
      refine lv_aload_n hx hb dX7_sell_26 rfl (lv_at hl 0 rfl) ?_
      refine cr_get C hW.1 0 rfl rfl 0 (by decide) hinX7 k1 (v := .ref (az 1)) rfl dX7_sell_27 ?_
      refine lv_iconst (v := 0) hx hb dX7_sell_30 (by decide) ?_
      refine cr_ald C hW.1 1 (f := vz 0) (k := 0) rfl (by decide) (by decide) dX7_sell_31 ?_
      refine lv_icmp_lt (tgt := 43) hx hb dX7_sell_32 (by decide) (fun c5 => ?_) (fun c5 => ?_)
      · rw [if_pos c5] at hE
        refine cr_ldc C k2 dX7_sell_43 ?_
        exact cr_retW C (w := (fun u : cr_V => cr_wM ct az u)) vz hW (Option.some.inj hE) dX7_sell_45
      · rw [if_neg c5] at hE
        refine lv_aload_n hx hb dX7_sell_35 rfl (lv_at hl 0 rfl) ?_
        refine lv_iload_n hx hb dX7_sell_36 rfl (lv_at hl 1 rfl) ?_
        obtain ⟨q6, hq6, hE⟩ := cr_bind hE
        refine cr_vRwq (n := 1) (As := [.int x1]) (rest := []) C hW (m_X7_isDelivery L D ct az vz x1 q6 hq6) (cwV 1 hts gX7_sell_X7_isDelivery rfl rfl rfl (by decide +kernel) ⟨Nat.le_of_ble_eq_true rfl, Nat.le_of_ble_eq_true rfl⟩) [0, 1, 2, 3, 4, 5, 6, 7] rfl 0 rfl rfl rfl hl.1 rfl (Nat.le_of_ble_eq_true rfl) dX7_sell_37 ⟨Nat.zero_le _, Nat.zero_le _⟩ (fun H locs hW => ?_)
        refine lv_if_ne (tgt := 46) hx hb dX7_sell_40 (by decide) (fun c7 => ?_) (fun c7 => ?_)
        · rw [if_neg c7] at hE
          refine lv_aload_n hx hb dX7_sell_46 rfl (lv_at hl 0 rfl) ?_
          refine cr_get C hW.1 0 rfl rfl 0 (by decide) hinX7 k1 (v := .ref (az 1)) rfl dX7_sell_47 ?_
          refine lv_bipush (v := 7) hx hb dX7_sell_50 (by decide) ?_
          refine cr_ald C hW.1 1 (f := vz 0) (k := 7) rfl (by decide) (by decide) dX7_sell_52 ?_
          refine lv_istore_n (lv' := [(3, .int (vz 0 7)), (0, .ref (az 0)), (1, .int x1), (2, .int x2)]) hx hb dX7_sell_53 rfl hl (by decide) rfl (fun ls hl => ?_)
          refine lv_iload_n hx hb dX7_sell_54 rfl (lv_at hl 0 rfl) ?_
          refine lv_bipush (v := 6) hx hb dX7_sell_55 (by decide) ?_
          refine lv_icmp_ne (tgt := 63) hx hb dX7_sell_57 (by decide) (fun c8 => ?_) (fun c8 => ?_)
          · rw [if_neg c8] at hE
            refine lv_aload_n hx hb dX7_sell_63 rfl (lv_at hl 1 rfl) ?_
            obtain ⟨q9, hq9, hE⟩ := cr_bind hE
            refine cr_vVq (n := 0) (As := []) (rest := []) C hW (m_X7_changes L D ct az vz _ q9 hq9) (cwV 0 hts gX7_sell_X7_changes rfl rfl rfl (by decide +kernel) ⟨Nat.le_of_ble_eq_true rfl, Nat.le_of_ble_eq_true rfl⟩) [0, 1, 2, 3, 4, 5, 6, 7] [] [0, 1, 2, 3, 4, 5, 6, 7] (cr_wM ct az q9) rfl rfl rfl ⟨by decide +kernel, by decide +kernel, by decide +kernel, by decide +kernel⟩ 0 rfl rfl rfl hl.1 rfl (Nat.le_of_ble_eq_true rfl) dX7_sell_64 ⟨Nat.zero_le _, Nat.zero_le _⟩ (fun H locs hW => ?_)
            refine lv_aload_n hx hb dX7_sell_67 rfl (lv_at hl 1 rfl) ?_
            refine cr_get C hW.1 0 rfl rfl 0 (by decide) hinX7 k1 (v := .ref (az 1)) rfl dX7_sell_68 ?_
            refine lv_bipush (v := 69) hx hb dX7_sell_71 (by decide) ?_
            refine lv_iconst (v := 2) hx hb dX7_sell_73 (by decide) ?_
            refine lv_iload_n hx hb dX7_sell_74 rfl (lv_at hl 0 rfl) ?_
            refine lv_imul hx hb dX7_sell_75 ?_
            refine lv_iadd hx hb dX7_sell_76 ?_
            refine lv_iload_n hx hb dX7_sell_77 rfl (lv_at hl 2 rfl) ?_
            obtain ⟨i10, hE⟩ := cr_ifn hE
            refine cr_ast C hW 1 rfl (k := (cr_x (69 + (2 * (vz 0 7))))) i10 (cr_xe _) (w' := cr_wM ct az (cr_a q9 0 (cr_x (69 + (2 * (vz 0 7)))) x1)) rfl dX7_sell_78 (fun H locs hW => ?_)
            refine lv_aload_n hx hb dX7_sell_79 rfl (lv_at hl 1 rfl) ?_
            refine cr_get C hW.1 0 rfl rfl 0 (by decide) hinX7 k1 (v := .ref (az 1)) rfl dX7_sell_80 ?_
            refine lv_bipush (v := 69) hx hb dX7_sell_83 (by decide) ?_
            refine lv_iconst (v := 2) hx hb dX7_sell_85 (by decide) ?_
            refine lv_iload_n hx hb dX7_sell_86 rfl (lv_at hl 0 rfl) ?_
            refine lv_imul hx hb dX7_sell_87 ?_
            refine lv_iadd hx hb dX7_sell_88 ?_
            refine lv_iconst (v := 1) hx hb dX7_sell_89 (by decide) ?_
            refine lv_iadd hx hb dX7_sell_90 ?_
            refine lv_iload_n hx hb dX7_sell_91 rfl (lv_at hl 3 rfl) ?_
            obtain ⟨i11, hE⟩ := cr_ifn hE
            refine cr_ast C hW 1 rfl (k := (cr_x ((69 + (2 * (vz 0 7))) + 1))) i11 (cr_xe _) (w' := cr_wM ct az (cr_a (cr_a q9 0 (cr_x (69 + (2 * (vz 0 7)))) x1) 0 (cr_x ((69 + (2 * (vz 0 7))) + 1)) x2)) rfl dX7_sell_92 (fun H locs hW => ?_)
            refine lv_aload_n hx hb dX7_sell_93 rfl (lv_at hl 1 rfl) ?_
            refine cr_get C hW.1 0 rfl rfl 0 (by decide) hinX7 k1 (v := .ref (az 1)) rfl dX7_sell_94 ?_
            refine lv_bipush (v := 7) hx hb dX7_sell_97 (by decide) ?_
            refine lv_dup2_11 hx hb dX7_sell_99 rfl rfl ?_
            refine cr_ald C hW.1 1 (f := (cr_a (cr_a q9 0 (cr_x (69 + (2 * (vz 0 7)))) x1) 0 (cr_x ((69 + (2 * (vz 0 7))) + 1)) x2) 0) (k := 7) rfl (by decide) (by decide) dX7_sell_100 ?_
            refine lv_iconst (v := 1) hx hb dX7_sell_101 (by decide) ?_
            refine lv_iadd hx hb dX7_sell_102 ?_
            refine cr_ast C hW 1 rfl (k := 7) (by decide) (by decide) (w' := cr_wM ct az (cr_a (cr_a (cr_a q9 0 (cr_x (69 + (2 * (vz 0 7)))) x1) 0 (cr_x ((69 + (2 * (vz 0 7))) + 1)) x2) 0 7 (((cr_a (cr_a q9 0 (cr_x (69 + (2 * (vz 0 7)))) x1) 0 (cr_x ((69 + (2 * (vz 0 7))) + 1)) x2) 0 7) + 1))) rfl dX7_sell_103 (fun H locs hW => ?_)
            refine lv_iload_n hx hb dX7_sell_104 rfl (lv_at hl 0 rfl) ?_
            exact cr_retW C (w := (fun u : cr_V => cr_wM ct az u)) (cr_a (cr_a (cr_a q9 0 (cr_x (69 + (2 * (vz 0 7)))) x1) 0 (cr_x ((69 + (2 * (vz 0 7))) + 1)) x2) 0 7 (((cr_a (cr_a q9 0 (cr_x (69 + (2 * (vz 0 7)))) x1) 0 (cr_x ((69 + (2 * (vz 0 7))) + 1)) x2) 0 7) + 1)) hW (Option.some.inj hE) dX7_sell_105
          · rw [if_pos c8] at hE
            refine cr_ldc C k3 dX7_sell_60 ?_
            exact cr_retW C (w := (fun u : cr_V => cr_wM ct az u)) vz hW (Option.some.inj hE) dX7_sell_62
        · rw [if_pos c7] at hE
          refine cr_ldc C k2 dX7_sell_43 ?_
          exact cr_retW C (w := (fun u : cr_V => cr_wM ct az u)) vz hW (Option.some.inj hE) dX7_sell_45
    · rw [if_pos c4] at hE
      refine cr_ldc C k0 dX7_sell_22 ?_
      exact cr_retW C (w := (fun u : cr_V => cr_wM ct az u)) vz hW (Option.some.inj hE) dX7_sell_24

set_option maxHeartbeats 4000000 in
set_option maxRecDepth 100000 in
theorem m_X7_buyBack (L : Launch) (D : va_G) (ct : Nat → ClassId) (az : Nat → Nat) (vz : cr_V) (x1 : Int32) (x2 : Int32) (sz : Nat) (out : Int32 × cr_V) (hE : f_X7_buyBack vz x1 x2 = some out) : Met L yX7_buyBack wsX7_buyBack ({ frames := 1, cells := 0, slots := 0, locals := 22 } : Room) (cr_pW D ct (cr_wM ct az vz) sz [.ref (az 0), .int x1, .int x2]) (cr_QW D (cr_wM ct az vz) sz (fun r u => (r, u) = out) (fun u : cr_V => cr_wM ct az u)) 0 0 (va_A (cr_wM ct az vz) sz) := by
  have k0 : (Cond.constant RX7 65 (-2000000001)) ∈ wsX7_buyBack := List.mem_of_getElem? (i := 1) rfl
  have k1 : (Cond.fieldLink RX7 7 "CupReceiptsModel" "s" "[I") ∈ wsX7_buyBack := List.mem_of_getElem? (i := 2) rfl
  have hinX7 : ∀ w ∈ wsX70, w ∈ wsX7_buyBack := fun w h => List.mem_cons_of_mem _ (List.mem_append_right _ h)
  refine cr_metW (Qc := fun A => va_Qi (fun r u => (r, u) = out) (fun u t => cr_at D A ((fun u : cr_V => cr_wM ct az u) u) t) A) (by decide) rfl rfl (Nat.le_of_ble_eq_true rfl) ?_
  intro p e s m args below meth c ls A C hW hl
  obtain ⟨hx, hb, hml, hown, hts, hr, hlocks, hK, hN⟩ := id C
  have hl : lv_has ls 4 [(0, .ref (az 0)), (1, .int x1), (2, .int x2)] := hl
  replace hE : ((f_X7_isContract vz x1).bind fun q1 => if q1 = 0 then (some ((-2000000001), vz)) else ((f_X7_in x2 1 999).bind fun q3 => if q3 = 0 then (some ((-2000000001), vz)) else ((f_X7_changes vz).bind fun q5 => (f_X7_priceOf q5 x1).bind fun q6 => (f_X7_closes (cr_a q5 0 1 ((q5 0 1) + ((q5 0 8) * (q6 - x2)))) x1).bind fun q7 => some (((q5 0 8) * (q6 - x2)), q7)))) = some out := hE
  refine lv_aload_n hx hb dX7_buyBack_0 rfl (lv_at hl 0 rfl) ?_
  refine lv_iload_n hx hb dX7_buyBack_1 rfl (lv_at hl 1 rfl) ?_
  obtain ⟨q1, hq1, hE⟩ := cr_bind hE
  refine cr_vRwq (n := 1) (As := [.int x1]) (rest := []) C hW (m_X7_isContract L D ct az vz x1 q1 hq1) (cwV 1 hts gX7_buyBack_X7_isContract rfl rfl rfl (by decide +kernel) ⟨Nat.le_of_ble_eq_true rfl, Nat.le_of_ble_eq_true rfl⟩) [0, 1, 2, 3, 4, 5, 6, 7] rfl 0 rfl rfl rfl hl.1 rfl (Nat.le_of_ble_eq_true rfl) dX7_buyBack_2 ⟨Nat.zero_le _, Nat.zero_le _⟩ (fun H locs hW => ?_)
  refine lv_if_eq (tgt := 19) hx hb dX7_buyBack_5 (by decide) (fun c2 => ?_) (fun c2 => ?_)
  · rw [if_pos c2] at hE
    refine cr_ldc C k0 dX7_buyBack_19 ?_
    exact cr_retW C (w := (fun u : cr_V => cr_wM ct az u)) vz hW (Option.some.inj hE) dX7_buyBack_21
  · rw [if_neg c2] at hE
    refine lv_iload_n hx hb dX7_buyBack_8 rfl (lv_at hl 2 rfl) ?_
    refine lv_iconst (v := 1) hx hb dX7_buyBack_9 (by decide) ?_
    refine lv_sipush (v := 999) hx hb dX7_buyBack_10 (by decide) ?_
    obtain ⟨q3, hq3, hE⟩ := cr_bind hE
    refine cr_sRwq (n := 3) (As := [.int x2, .int 1, .int 999]) (rest := []) C hW (m_X7_in L D ct x2 1 999 q3 hq3) (va_cwS 3 hts gX7_buyBack_X7_in rfl rfl rfl (by decide +kernel) ⟨Nat.le_of_ble_eq_true rfl, Nat.le_of_ble_eq_true rfl⟩) rfl hl.1 rfl (Nat.le_of_ble_eq_true rfl) dX7_buyBack_13 ⟨Nat.zero_le _, Nat.zero_le _⟩ (fun H locs hW => ?_)
    refine lv_if_ne (tgt := 22) hx hb dX7_buyBack_16 (by decide) (fun c4 => ?_) (fun c4 => ?_)
    · rw [if_neg c4] at hE
      refine lv_aload_n hx hb dX7_buyBack_22 rfl (lv_at hl 0 rfl) ?_
      obtain ⟨q5, hq5, hE⟩ := cr_bind hE
      refine cr_vVq (n := 0) (As := []) (rest := []) C hW (m_X7_changes L D ct az vz _ q5 hq5) (cwV 0 hts gX7_buyBack_X7_changes rfl rfl rfl (by decide +kernel) ⟨Nat.le_of_ble_eq_true rfl, Nat.le_of_ble_eq_true rfl⟩) [0, 1, 2, 3, 4, 5, 6, 7] [] [0, 1, 2, 3, 4, 5, 6, 7] (cr_wM ct az q5) rfl rfl rfl ⟨by decide +kernel, by decide +kernel, by decide +kernel, by decide +kernel⟩ 0 rfl rfl rfl hl.1 rfl (Nat.le_of_ble_eq_true rfl) dX7_buyBack_23 ⟨Nat.zero_le _, Nat.zero_le _⟩ (fun H locs hW => ?_)
      refine lv_aload_n hx hb dX7_buyBack_26 rfl (lv_at hl 0 rfl) ?_
      refine cr_get C hW.1 0 rfl rfl 0 (by decide) hinX7 k1 (v := .ref (az 1)) rfl dX7_buyBack_27 ?_
      refine lv_bipush (v := 8) hx hb dX7_buyBack_30 (by decide) ?_
      refine cr_ald C hW.1 1 (f := q5 0) (k := 8) rfl (by decide) (by decide) dX7_buyBack_32 ?_
      refine lv_aload_n hx hb dX7_buyBack_33 rfl (lv_at hl 0 rfl) ?_
      refine lv_iload_n hx hb dX7_buyBack_34 rfl (lv_at hl 1 rfl) ?_
      obtain ⟨q6, hq6, hE⟩ := cr_bind hE
      refine cr_vRwq (n := 1) (As := [.int x1]) (rest := [.int (q5 0 8)]) C hW (m_X7_priceOf L D ct az q5 x1 q6 hq6) (cwV 1 hts gX7_buyBack_X7_priceOf rfl rfl rfl (by decide +kernel) ⟨Nat.le_of_ble_eq_true rfl, Nat.le_of_ble_eq_true rfl⟩) [0, 1, 2, 3, 4, 5, 6, 7] rfl 0 rfl rfl rfl hl.1 rfl (Nat.le_of_ble_eq_true rfl) dX7_buyBack_35 ⟨Nat.zero_le _, Nat.zero_le _⟩ (fun H locs hW => ?_)
      refine lv_iload_n hx hb dX7_buyBack_38 rfl (lv_at hl 2 rfl) ?_
      refine lv_isub hx hb dX7_buyBack_39 ?_
      refine lv_imul hx hb dX7_buyBack_40 ?_
      refine lv_istore_n (lv' := [(3, .int ((q5 0 8) * (q6 - x2))), (0, .ref (az 0)), (1, .int x1), (2, .int x2)]) hx hb dX7_buyBack_41 rfl hl (by decide) rfl (fun ls hl => ?_)
      refine lv_aload_n hx hb dX7_buyBack_42 rfl (lv_at hl 1 rfl) ?_
      refine cr_get C hW.1 0 rfl rfl 0 (by decide) hinX7 k1 (v := .ref (az 1)) rfl dX7_buyBack_43 ?_
      refine lv_iconst (v := 1) hx hb dX7_buyBack_46 (by decide) ?_
      refine lv_dup2_11 hx hb dX7_buyBack_47 rfl rfl ?_
      refine cr_ald C hW.1 1 (f := q5 0) (k := 1) rfl (by decide) (by decide) dX7_buyBack_48 ?_
      refine lv_iload_n hx hb dX7_buyBack_49 rfl (lv_at hl 0 rfl) ?_
      refine lv_iadd hx hb dX7_buyBack_50 ?_
      refine cr_ast C hW 1 rfl (k := 1) (by decide) (by decide) (w' := cr_wM ct az (cr_a q5 0 1 ((q5 0 1) + ((q5 0 8) * (q6 - x2))))) rfl dX7_buyBack_51 (fun H locs hW => ?_)
      refine lv_aload_n hx hb dX7_buyBack_52 rfl (lv_at hl 1 rfl) ?_
      refine lv_iload_n hx hb dX7_buyBack_53 rfl (lv_at hl 2 rfl) ?_
      obtain ⟨q7, hq7, hE⟩ := cr_bind hE
      refine cr_vVq (n := 1) (As := [.int x1]) (rest := []) C hW (m_X7_closes L D ct az (cr_a q5 0 1 ((q5 0 1) + ((q5 0 8) * (q6 - x2)))) x1 _ q7 hq7) (cwV 1 hts gX7_buyBack_X7_closes rfl rfl rfl (by decide +kernel) ⟨Nat.le_of_ble_eq_true rfl, Nat.le_of_ble_eq_true rfl⟩) [0, 1, 2, 3, 4, 5, 6, 7] [] [0, 1, 2, 3, 4, 5, 6, 7] (cr_wM ct az q7) rfl rfl rfl ⟨by decide +kernel, by decide +kernel, by decide +kernel, by decide +kernel⟩ 0 rfl rfl rfl hl.1 rfl (Nat.le_of_ble_eq_true rfl) dX7_buyBack_54 ⟨Nat.zero_le _, Nat.zero_le _⟩ (fun H locs hW => ?_)
      refine lv_iload_n hx hb dX7_buyBack_57 rfl (lv_at hl 0 rfl) ?_
      exact cr_retW C (w := (fun u : cr_V => cr_wM ct az u)) q7 hW (Option.some.inj hE) dX7_buyBack_58
    · rw [if_pos c4] at hE
      refine cr_ldc C k0 dX7_buyBack_19 ?_
      exact cr_retW C (w := (fun u : cr_V => cr_wM ct az u)) vz hW (Option.some.inj hE) dX7_buyBack_21

set_option maxHeartbeats 4000000 in
set_option maxRecDepth 100000 in
theorem m_X7_gives (L : Launch) (D : va_G) (ct : Nat → ClassId) (az : Nat → Nat) (vz : cr_V) (x1 : Int32) (x2 : Int32) (sz : Nat) (out : cr_V) (hE : f_X7_gives vz x1 x2 = some out) : Met L yX7_gives wsX7_gives ({ frames := 4, cells := 0, slots := 0, locals := 92 } : Room) (cr_pW D ct (cr_wM ct az vz) sz [.ref (az 0), .int x1, .int x2]) (cr_QV D (cr_wM ct az vz) sz (fun u => u = out) (fun u : cr_V => cr_wM ct az u)) 0 0 (va_A (cr_wM ct az vz) sz) := by
  have k0 : (Cond.fieldLink RX7 22 "CupReceiptsModel" "lots" "[I") ∈ wsX7_gives := List.mem_of_getElem? (i := 5) rfl
  have k1 : (Cond.fieldLink RX7 102 "CupReceiptsModel" "places" "I") ∈ wsX7_gives := List.mem_of_getElem? (i := 1) rfl
  have k2 : (Cond.fieldLink RX7 25 "CupReceiptsModel" "bagsOf" "[I") ∈ wsX7_gives := List.mem_of_getElem? (i := 6) rfl
  have k3 : (Cond.fieldLink RX7 105 "CupReceiptsModel" "wanting" "I") ∈ wsX7_gives := List.mem_of_getElem? (i := 3) rfl
  have k4 : (Cond.fieldLink RX7 7 "CupReceiptsModel" "s" "[I") ∈ wsX7_gives := List.mem_of_getElem? (i := 2) rfl
  have k5 : (Cond.constant RX7 43 (-2000000004)) ∈ wsX7_gives := List.mem_of_getElem? (i := 4) rfl
  have hinX7 : ∀ w ∈ wsX70, w ∈ wsX7_gives := fun w h => List.mem_cons_of_mem _ (List.mem_append_right _ h)
  refine cr_metW (Qc := fun A => va_Qv (fun u => u = out) (fun u t => cr_at D A ((fun u : cr_V => cr_wM ct az u) u) t) A) (by decide) rfl rfl (Nat.le_of_ble_eq_true rfl) ?_
  intro p e s m args below meth c ls A C hW hl
  obtain ⟨hx, hb, hml, hown, hts, hr, hlocks, hK, hN⟩ := id C
  have hl : lv_has ls 8 [(0, .ref (az 0)), (1, .int x1), (2, .int x2)] := hl
  have n116 : ∀ (k21_ : cr_V → Int32 → Int32 → Int32 → Int32 → Option (cr_V)) (ih21_ : ∀ (vz : cr_V) (x1 : Int32) (x2 : Int32) (x3 : Int32) (x4 : Int32) (hE : k21_ vz x1 x2 x3 x4 = some out) (H : Heap) (locs : List Loc) (ls : Array Slot) (hW : cr_wd D A s (cr_wM ct az vz) H locs) (hl : lv_has ls 8 [(0, .ref (az 0)), (1, .int x1), (2, .int x2), (3, .int x3), (4, .int x4)]), W p L e ({ frames := 4, cells := 0, slots := 0, locals := 92 } : Room) s m args below meth c H locs 0 0 (MQ below (va_Qv (fun u => u = out) (fun u t => cr_at D A ((fun u : cr_V => cr_wM ct az u) u) t) A) args s 0 0 A) (F0 m 21 ls [])), ∀ (k40_ : cr_V → Int32 → Int32 → Int32 → Int32 → Int32 → Option (cr_V)) (ih40_ : ∀ (vz : cr_V) (x1 : Int32) (x2 : Int32) (x3 : Int32) (x5 : Int32) (x6 : Int32) (hE : k40_ vz x1 x2 x3 x5 x6 = some out) (H : Heap) (locs : List Loc) (ls : Array Slot) (hW : cr_wd D A s (cr_wM ct az vz) H locs) (hl : lv_has ls 8 [(0, .ref (az 0)), (1, .int x1), (2, .int x2), (3, .int x3), (5, .int x5), (6, .int x6)]), W p L e ({ frames := 4, cells := 0, slots := 0, locals := 92 } : Room) s m args below meth c H locs 0 0 (MQ below (va_Qv (fun u => u = out) (fun u t => cr_at D A ((fun u : cr_V => cr_wM ct az u) u) t) A) args s 0 0 A) (F0 m 40 ls [])), ∀ (vz : cr_V) (x1 : Int32) (x2 : Int32) (x3 : Int32) (x6 : Int32) (s0 : Int32) (hE : f_X7_gives_116 k21_ k40_ vz x1 x2 x3 x6 s0 = some out) (H : Heap) (locs : List Loc) (ls : Array Slot) (hW : cr_wd D A s (cr_wM ct az vz) H locs) (hl : lv_has ls 8 [(0, .ref (az 0)), (1, .int x1), (2, .int x2), (3, .int x3), (6, .int x6)]), W p L e ({ frames := 4, cells := 0, slots := 0, locals := 92 } : Room) s m args below meth c H locs 0 0 (MQ below (va_Qv (fun u => u = out) (fun u t => cr_at D A ((fun u : cr_V => cr_wM ct az u) u) t) A) args s 0 0 A) (F0 m 116 ls [.int s0]) := by
    intro k21_ ih21_ k40_ ih40_ vz x1 x2 x3 x6 s0 hE H locs ls hW hl
    replace hE : (k40_ vz x1 x2 x3 s0 (x6 + 1)) = some out := hE
    refine lv_istore (lv' := [(5, .int s0), (0, .ref (az 0)), (1, .int x1), (2, .int x2), (3, .int x3), (6, .int x6)]) hx hb dX7_gives_116 hl (by decide) rfl (fun ls hl => ?_)
    refine lv_iinc (v := x6 + 1) (lv' := [(6, .int (x6 + 1)), (5, .int s0), (0, .ref (az 0)), (1, .int x1), (2, .int x2), (3, .int x3)]) hx hb dX7_gives_118 hl (k := 5) rfl (by first | rfl | decide) (by decide) rfl (fun ls hl => ?_)
    refine lv_goto (tgt := 40) hx hb dX7_gives_121 (by decide) ?_
    exact ih40_ vz x1 x2 x3 s0 (x6 + 1) hE _ _ _ hW (lv_sub hl [2, 3, 4, 5, 1, 0] rfl)
  have n109 : ∀ (k21_ : cr_V → Int32 → Int32 → Int32 → Int32 → Option (cr_V)) (ih21_ : ∀ (vz : cr_V) (x1 : Int32) (x2 : Int32) (x3 : Int32) (x4 : Int32) (hE : k21_ vz x1 x2 x3 x4 = some out) (H : Heap) (locs : List Loc) (ls : Array Slot) (hW : cr_wd D A s (cr_wM ct az vz) H locs) (hl : lv_has ls 8 [(0, .ref (az 0)), (1, .int x1), (2, .int x2), (3, .int x3), (4, .int x4)]), W p L e ({ frames := 4, cells := 0, slots := 0, locals := 92 } : Room) s m args below meth c H locs 0 0 (MQ below (va_Qv (fun u => u = out) (fun u t => cr_at D A ((fun u : cr_V => cr_wM ct az u) u) t) A) args s 0 0 A) (F0 m 21 ls [])), ∀ (k40_ : cr_V → Int32 → Int32 → Int32 → Int32 → Int32 → Option (cr_V)) (ih40_ : ∀ (vz : cr_V) (x1 : Int32) (x2 : Int32) (x3 : Int32) (x5 : Int32) (x6 : Int32) (hE : k40_ vz x1 x2 x3 x5 x6 = some out) (H : Heap) (locs : List Loc) (ls : Array Slot) (hW : cr_wd D A s (cr_wM ct az vz) H locs) (hl : lv_has ls 8 [(0, .ref (az 0)), (1, .int x1), (2, .int x2), (3, .int x3), (5, .int x5), (6, .int x6)]), W p L e ({ frames := 4, cells := 0, slots := 0, locals := 92 } : Room) s m args below meth c H locs 0 0 (MQ below (va_Qv (fun u => u = out) (fun u t => cr_at D A ((fun u : cr_V => cr_wM ct az u) u) t) A) args s 0 0 A) (F0 m 40 ls [])), ∀ (vz : cr_V) (x1 : Int32) (x2 : Int32) (x3 : Int32) (x6 : Int32) (hE : f_X7_gives_109 k21_ k40_ vz x1 x2 x3 x6 = some out) (H : Heap) (locs : List Loc) (ls : Array Slot) (hW : cr_wd D A s (cr_wM ct az vz) H locs) (hl : lv_has ls 8 [(0, .ref (az 0)), (1, .int x1), (2, .int x2), (3, .int x3), (6, .int x6)]), W p L e ({ frames := 4, cells := 0, slots := 0, locals := 92 } : Room) s m args below meth c H locs 0 0 (MQ below (va_Qv (fun u => u = out) (fun u t => cr_at D A ((fun u : cr_V => cr_wM ct az u) u) t) A) args s 0 0 A) (F0 m 109 ls []) := by
    intro k21_ ih21_ k40_ ih40_ vz x1 x2 x3 x6 hE H locs ls hW hl
    replace hE : (f_X7_gives_116 k21_ k40_ vz x1 x2 x3 x6 x6) = some out := hE
    refine lv_iload hx hb dX7_gives_109 (lv_at hl 4 rfl) ?_
    refine lv_goto (tgt := 116) hx hb dX7_gives_111 (by decide) ?_
    exact n116 k21_ ih21_ k40_ ih40_ vz x1 x2 x3 x6 x6 hE _ _ _ hW (lv_sub hl [0, 1, 2, 3, 4] rfl)
  have n114 : ∀ (k21_ : cr_V → Int32 → Int32 → Int32 → Int32 → Option (cr_V)) (ih21_ : ∀ (vz : cr_V) (x1 : Int32) (x2 : Int32) (x3 : Int32) (x4 : Int32) (hE : k21_ vz x1 x2 x3 x4 = some out) (H : Heap) (locs : List Loc) (ls : Array Slot) (hW : cr_wd D A s (cr_wM ct az vz) H locs) (hl : lv_has ls 8 [(0, .ref (az 0)), (1, .int x1), (2, .int x2), (3, .int x3), (4, .int x4)]), W p L e ({ frames := 4, cells := 0, slots := 0, locals := 92 } : Room) s m args below meth c H locs 0 0 (MQ below (va_Qv (fun u => u = out) (fun u t => cr_at D A ((fun u : cr_V => cr_wM ct az u) u) t) A) args s 0 0 A) (F0 m 21 ls [])), ∀ (k40_ : cr_V → Int32 → Int32 → Int32 → Int32 → Int32 → Option (cr_V)) (ih40_ : ∀ (vz : cr_V) (x1 : Int32) (x2 : Int32) (x3 : Int32) (x5 : Int32) (x6 : Int32) (hE : k40_ vz x1 x2 x3 x5 x6 = some out) (H : Heap) (locs : List Loc) (ls : Array Slot) (hW : cr_wd D A s (cr_wM ct az vz) H locs) (hl : lv_has ls 8 [(0, .ref (az 0)), (1, .int x1), (2, .int x2), (3, .int x3), (5, .int x5), (6, .int x6)]), W p L e ({ frames := 4, cells := 0, slots := 0, locals := 92 } : Room) s m args below meth c H locs 0 0 (MQ below (va_Qv (fun u => u = out) (fun u t => cr_at D A ((fun u : cr_V => cr_wM ct az u) u) t) A) args s 0 0 A) (F0 m 40 ls [])), ∀ (vz : cr_V) (x1 : Int32) (x2 : Int32) (x3 : Int32) (x5 : Int32) (x6 : Int32) (hE : f_X7_gives_114 k21_ k40_ vz x1 x2 x3 x5 x6 = some out) (H : Heap) (locs : List Loc) (ls : Array Slot) (hW : cr_wd D A s (cr_wM ct az vz) H locs) (hl : lv_has ls 8 [(0, .ref (az 0)), (1, .int x1), (2, .int x2), (3, .int x3), (5, .int x5), (6, .int x6)]), W p L e ({ frames := 4, cells := 0, slots := 0, locals := 92 } : Room) s m args below meth c H locs 0 0 (MQ below (va_Qv (fun u => u = out) (fun u t => cr_at D A ((fun u : cr_V => cr_wM ct az u) u) t) A) args s 0 0 A) (F0 m 114 ls []) := by
    intro k21_ ih21_ k40_ ih40_ vz x1 x2 x3 x5 x6 hE H locs ls hW hl
    replace hE : (f_X7_gives_116 k21_ k40_ vz x1 x2 x3 x6 x5) = some out := hE
    refine lv_iload hx hb dX7_gives_114 (lv_at hl 4 rfl) ?_
    exact n116 k21_ ih21_ k40_ ih40_ vz x1 x2 x3 x6 x5 hE _ _ _ hW (lv_sub hl [0, 1, 2, 3, 5] rfl)
  have n78 : ∀ (k21_ : cr_V → Int32 → Int32 → Int32 → Int32 → Option (cr_V)) (ih21_ : ∀ (vz : cr_V) (x1 : Int32) (x2 : Int32) (x3 : Int32) (x4 : Int32) (hE : k21_ vz x1 x2 x3 x4 = some out) (H : Heap) (locs : List Loc) (ls : Array Slot) (hW : cr_wd D A s (cr_wM ct az vz) H locs) (hl : lv_has ls 8 [(0, .ref (az 0)), (1, .int x1), (2, .int x2), (3, .int x3), (4, .int x4)]), W p L e ({ frames := 4, cells := 0, slots := 0, locals := 92 } : Room) s m args below meth c H locs 0 0 (MQ below (va_Qv (fun u => u = out) (fun u t => cr_at D A ((fun u : cr_V => cr_wM ct az u) u) t) A) args s 0 0 A) (F0 m 21 ls [])), ∀ (k40_ : cr_V → Int32 → Int32 → Int32 → Int32 → Int32 → Option (cr_V)) (ih40_ : ∀ (vz : cr_V) (x1 : Int32) (x2 : Int32) (x3 : Int32) (x5 : Int32) (x6 : Int32) (hE : k40_ vz x1 x2 x3 x5 x6 = some out) (H : Heap) (locs : List Loc) (ls : Array Slot) (hW : cr_wd D A s (cr_wM ct az vz) H locs) (hl : lv_has ls 8 [(0, .ref (az 0)), (1, .int x1), (2, .int x2), (3, .int x3), (5, .int x5), (6, .int x6)]), W p L e ({ frames := 4, cells := 0, slots := 0, locals := 92 } : Room) s m args below meth c H locs 0 0 (MQ below (va_Qv (fun u => u = out) (fun u t => cr_at D A ((fun u : cr_V => cr_wM ct az u) u) t) A) args s 0 0 A) (F0 m 40 ls [])), ∀ (vz : cr_V) (x1 : Int32) (x2 : Int32) (x3 : Int32) (x5 : Int32) (x6 : Int32) (s0 : Int32) (hE : f_X7_gives_78 k21_ k40_ vz x1 x2 x3 x5 x6 s0 = some out) (H : Heap) (locs : List Loc) (ls : Array Slot) (hW : cr_wd D A s (cr_wM ct az vz) H locs) (hl : lv_has ls 8 [(0, .ref (az 0)), (1, .int x1), (2, .int x2), (3, .int x3), (5, .int x5), (6, .int x6)]), W p L e ({ frames := 4, cells := 0, slots := 0, locals := 92 } : Room) s m args below meth c H locs 0 0 (MQ below (va_Qv (fun u => u = out) (fun u t => cr_at D A ((fun u : cr_V => cr_wM ct az u) u) t) A) args s 0 0 A) (F0 m 78 ls [.int s0]) := by
    intro k21_ ih21_ k40_ ih40_ vz x1 x2 x3 x5 x6 s0 hE H locs ls hW hl
    replace hE : (if s0 = 0 then (f_X7_gives_114 k21_ k40_ vz x1 x2 x3 x5 x6) else (if x5 < 0 then (f_X7_gives_109 k21_ k40_ vz x1 x2 x3 x6) else ((f_X7_gainAt vz x6 x1 x2).bind fun q3 => (f_X7_gainAt vz x5 x1 x2).bind fun q4 => if q3 ≤ q4 then (f_X7_gives_114 k21_ k40_ vz x1 x2 x3 x5 x6) else (f_X7_gives_109 k21_ k40_ vz x1 x2 x3 x6)))) = some out := hE
    refine lv_istore (lv' := [(7, .int s0), (0, .ref (az 0)), (1, .int x1), (2, .int x2), (3, .int x3), (5, .int x5), (6, .int x6)]) hx hb dX7_gives_78 hl (by decide) rfl (fun ls hl => ?_)
    refine lv_iload hx hb dX7_gives_80 (lv_at hl 0 rfl) ?_
    refine lv_if_eq (tgt := 114) hx hb dX7_gives_82 (by decide) (fun c1 => ?_) (fun c1 => ?_)
    · rw [if_pos c1] at hE
      exact n114 k21_ ih21_ k40_ ih40_ vz x1 x2 x3 x5 x6 hE _ _ _ hW (lv_sub hl [1, 2, 3, 4, 5, 6] rfl)
    · rw [if_neg c1] at hE
      refine lv_iload hx hb dX7_gives_85 (lv_at hl 5 rfl) ?_
      refine lv_if_lt (tgt := 109) hx hb dX7_gives_87 (by decide) (fun c2 => ?_) (fun c2 => ?_)
      · rw [if_pos c2] at hE
        exact n109 k21_ ih21_ k40_ ih40_ vz x1 x2 x3 x6 hE _ _ _ hW (lv_sub hl [1, 2, 3, 4, 6] rfl)
      · rw [if_neg c2] at hE
        refine lv_aload_n hx hb dX7_gives_90 rfl (lv_at hl 1 rfl) ?_
        refine lv_iload hx hb dX7_gives_91 (lv_at hl 6 rfl) ?_
        refine lv_iload_n hx hb dX7_gives_93 rfl (lv_at hl 2 rfl) ?_
        refine lv_iload_n hx hb dX7_gives_94 rfl (lv_at hl 3 rfl) ?_
        obtain ⟨q3, hq3, hE⟩ := cr_bind hE
        refine cr_vRwq (n := 3) (As := [.int x6, .int x1, .int x2]) (rest := []) C hW (m_X7_gainAt L D ct az vz x6 x1 x2 q3 hq3) (cwV 3 hts gX7_gives_X7_gainAt rfl rfl rfl (by decide +kernel) ⟨Nat.le_of_ble_eq_true rfl, Nat.le_of_ble_eq_true rfl⟩) [0, 1, 2, 3, 4, 5, 6, 7] rfl 0 rfl rfl rfl hl.1 rfl (Nat.le_of_ble_eq_true rfl) dX7_gives_95 ⟨Nat.zero_le _, Nat.zero_le _⟩ (fun H locs hW => ?_)
        refine lv_aload_n hx hb dX7_gives_98 rfl (lv_at hl 1 rfl) ?_
        refine lv_iload hx hb dX7_gives_99 (lv_at hl 5 rfl) ?_
        refine lv_iload_n hx hb dX7_gives_101 rfl (lv_at hl 2 rfl) ?_
        refine lv_iload_n hx hb dX7_gives_102 rfl (lv_at hl 3 rfl) ?_
        obtain ⟨q4, hq4, hE⟩ := cr_bind hE
        refine cr_vRwq (n := 3) (As := [.int x5, .int x1, .int x2]) (rest := [.int q3]) C hW (m_X7_gainAt L D ct az vz x5 x1 x2 q4 hq4) (cwV 3 hts gX7_gives_X7_gainAt rfl rfl rfl (by decide +kernel) ⟨Nat.le_of_ble_eq_true rfl, Nat.le_of_ble_eq_true rfl⟩) [0, 1, 2, 3, 4, 5, 6, 7] rfl 0 rfl rfl rfl hl.1 rfl (Nat.le_of_ble_eq_true rfl) dX7_gives_103 ⟨Nat.zero_le _, Nat.zero_le _⟩ (fun H locs hW => ?_)
        refine lv_icmp_le (tgt := 114) hx hb dX7_gives_106 (by decide) (fun c5 => ?_) (fun c5 => ?_)
        · rw [if_pos c5] at hE
          exact n114 k21_ ih21_ k40_ ih40_ vz x1 x2 x3 x5 x6 hE _ _ _ hW (lv_sub hl [1, 2, 3, 4, 5, 6] rfl)
        · rw [if_neg c5] at hE
          exact n109 k21_ ih21_ k40_ ih40_ vz x1 x2 x3 x6 hE _ _ _ hW (lv_sub hl [1, 2, 3, 4, 6] rfl)
  have n77 : ∀ (k21_ : cr_V → Int32 → Int32 → Int32 → Int32 → Option (cr_V)) (ih21_ : ∀ (vz : cr_V) (x1 : Int32) (x2 : Int32) (x3 : Int32) (x4 : Int32) (hE : k21_ vz x1 x2 x3 x4 = some out) (H : Heap) (locs : List Loc) (ls : Array Slot) (hW : cr_wd D A s (cr_wM ct az vz) H locs) (hl : lv_has ls 8 [(0, .ref (az 0)), (1, .int x1), (2, .int x2), (3, .int x3), (4, .int x4)]), W p L e ({ frames := 4, cells := 0, slots := 0, locals := 92 } : Room) s m args below meth c H locs 0 0 (MQ below (va_Qv (fun u => u = out) (fun u t => cr_at D A ((fun u : cr_V => cr_wM ct az u) u) t) A) args s 0 0 A) (F0 m 21 ls [])), ∀ (k40_ : cr_V → Int32 → Int32 → Int32 → Int32 → Int32 → Option (cr_V)) (ih40_ : ∀ (vz : cr_V) (x1 : Int32) (x2 : Int32) (x3 : Int32) (x5 : Int32) (x6 : Int32) (hE : k40_ vz x1 x2 x3 x5 x6 = some out) (H : Heap) (locs : List Loc) (ls : Array Slot) (hW : cr_wd D A s (cr_wM ct az vz) H locs) (hl : lv_has ls 8 [(0, .ref (az 0)), (1, .int x1), (2, .int x2), (3, .int x3), (5, .int x5), (6, .int x6)]), W p L e ({ frames := 4, cells := 0, slots := 0, locals := 92 } : Room) s m args below meth c H locs 0 0 (MQ below (va_Qv (fun u => u = out) (fun u t => cr_at D A ((fun u : cr_V => cr_wM ct az u) u) t) A) args s 0 0 A) (F0 m 40 ls [])), ∀ (vz : cr_V) (x1 : Int32) (x2 : Int32) (x3 : Int32) (x5 : Int32) (x6 : Int32) (hE : f_X7_gives_77 k21_ k40_ vz x1 x2 x3 x5 x6 = some out) (H : Heap) (locs : List Loc) (ls : Array Slot) (hW : cr_wd D A s (cr_wM ct az vz) H locs) (hl : lv_has ls 8 [(0, .ref (az 0)), (1, .int x1), (2, .int x2), (3, .int x3), (5, .int x5), (6, .int x6)]), W p L e ({ frames := 4, cells := 0, slots := 0, locals := 92 } : Room) s m args below meth c H locs 0 0 (MQ below (va_Qv (fun u => u = out) (fun u t => cr_at D A ((fun u : cr_V => cr_wM ct az u) u) t) A) args s 0 0 A) (F0 m 77 ls []) := by
    intro k21_ ih21_ k40_ ih40_ vz x1 x2 x3 x5 x6 hE H locs ls hW hl
    replace hE : (f_X7_gives_78 k21_ k40_ vz x1 x2 x3 x5 x6 0) = some out := hE
    refine lv_iconst (v := 0) hx hb dX7_gives_77 (by decide) ?_
    exact n78 k21_ ih21_ k40_ ih40_ vz x1 x2 x3 x5 x6 0 hE _ _ _ hW (lv_sub hl [0, 1, 2, 3, 4, 5] rfl)
  have n221 : ∀ (k21_ : cr_V → Int32 → Int32 → Int32 → Int32 → Option (cr_V)) (ih21_ : ∀ (vz : cr_V) (x1 : Int32) (x2 : Int32) (x3 : Int32) (x4 : Int32) (hE : k21_ vz x1 x2 x3 x4 = some out) (H : Heap) (locs : List Loc) (ls : Array Slot) (hW : cr_wd D A s (cr_wM ct az vz) H locs) (hl : lv_has ls 8 [(0, .ref (az 0)), (1, .int x1), (2, .int x2), (3, .int x3), (4, .int x4)]), W p L e ({ frames := 4, cells := 0, slots := 0, locals := 92 } : Room) s m args below meth c H locs 0 0 (MQ below (va_Qv (fun u => u = out) (fun u t => cr_at D A ((fun u : cr_V => cr_wM ct az u) u) t) A) args s 0 0 A) (F0 m 21 ls [])), ∀ (vz : cr_V) (x1 : Int32) (x2 : Int32) (x3 : Int32) (x4 : Int32) (hE : f_X7_gives_221 k21_ vz x1 x2 x3 x4 = some out) (H : Heap) (locs : List Loc) (ls : Array Slot) (hW : cr_wd D A s (cr_wM ct az vz) H locs) (hl : lv_has ls 8 [(0, .ref (az 0)), (1, .int x1), (2, .int x2), (3, .int x3), (4, .int x4)]), W p L e ({ frames := 4, cells := 0, slots := 0, locals := 92 } : Room) s m args below meth c H locs 0 0 (MQ below (va_Qv (fun u => u = out) (fun u t => cr_at D A ((fun u : cr_V => cr_wM ct az u) u) t) A) args s 0 0 A) (F0 m 221 ls []) := by
    intro k21_ ih21_ vz x1 x2 x3 x4 hE H locs ls hW hl
    replace hE : (k21_ vz x1 x2 x3 x4) = some out := hE
    refine lv_goto (tgt := 21) hx hb dX7_gives_221 (by decide) ?_
    exact ih21_ vz x1 x2 x3 x4 hE _ _ _ hW (lv_sub hl [0, 1, 2, 3, 4] rfl)
  have n169 : ∀ (k21_ : cr_V → Int32 → Int32 → Int32 → Int32 → Option (cr_V)) (ih21_ : ∀ (vz : cr_V) (x1 : Int32) (x2 : Int32) (x3 : Int32) (x4 : Int32) (hE : k21_ vz x1 x2 x3 x4 = some out) (H : Heap) (locs : List Loc) (ls : Array Slot) (hW : cr_wd D A s (cr_wM ct az vz) H locs) (hl : lv_has ls 8 [(0, .ref (az 0)), (1, .int x1), (2, .int x2), (3, .int x3), (4, .int x4)]), W p L e ({ frames := 4, cells := 0, slots := 0, locals := 92 } : Room) s m args below meth c H locs 0 0 (MQ below (va_Qv (fun u => u = out) (fun u t => cr_at D A ((fun u : cr_V => cr_wM ct az u) u) t) A) args s 0 0 A) (F0 m 21 ls [])), ∀ (vz : cr_V) (x1 : Int32) (x2 : Int32) (x3 : Int32) (x4 : Int32) (x5 : Int32) (s0 : Int32) (hE : f_X7_gives_169 k21_ vz x1 x2 x3 x4 x5 s0 = some out) (H : Heap) (locs : List Loc) (ls : Array Slot) (hW : cr_wd D A s (cr_wM ct az vz) H locs) (hl : lv_has ls 8 [(0, .ref (az 0)), (1, .int x1), (2, .int x2), (3, .int x3), (4, .int x4), (5, .int x5)]), W p L e ({ frames := 4, cells := 0, slots := 0, locals := 92 } : Room) s m args below meth c H locs 0 0 (MQ below (va_Qv (fun u => u = out) (fun u t => cr_at D A ((fun u : cr_V => cr_wM ct az u) u) t) A) args s 0 0 A) (F0 m 169 ls [.int s0]) := by
    intro k21_ ih21_ vz x1 x2 x3 x4 x5 s0 hE H locs ls hW hl
    replace hE : (if cr_in (vz 9 0) 12 = true then f_X7_gives_221 k21_ (cr_i (cr_i (cr_a (cr_a vz 7 (cr_x (vz 9 0)) x5) 8 (cr_x (vz 9 0)) s0) 9 ((vz 9 0) + 1)) 10 ((vz 10 0) - s0)) x1 x2 (x3 ||| (1 <<< (x5 &&& 31))) x4 else none) = some out := hE
    refine lv_istore (lv' := [(6, .int s0), (0, .ref (az 0)), (1, .int x1), (2, .int x2), (3, .int x3), (4, .int x4), (5, .int x5)]) hx hb dX7_gives_169 hl (by decide) rfl (fun ls hl => ?_)
    refine lv_aload_n hx hb dX7_gives_171 rfl (lv_at hl 1 rfl) ?_
    refine cr_get C hW.1 0 rfl rfl 7 (by decide) hinX7 k0 (v := .ref (az 8)) rfl dX7_gives_172 ?_
    refine lv_aload_n hx hb dX7_gives_175 rfl (lv_at hl 1 rfl) ?_
    refine cr_get C hW.1 0 rfl rfl 9 (by decide) hinX7 k1 (v := .int (vz 9 0)) rfl dX7_gives_176 ?_
    refine lv_iload hx hb dX7_gives_179 (lv_at hl 6 rfl) ?_
    obtain ⟨i6, hE⟩ := cr_ifn hE
    refine cr_ast C hW 5 rfl (k := (cr_x (vz 9 0))) i6 (cr_xe _) (w' := cr_wM ct az (cr_a vz 7 (cr_x (vz 9 0)) x5)) rfl dX7_gives_181 (fun H locs hW => ?_)
    refine lv_aload_n hx hb dX7_gives_182 rfl (lv_at hl 1 rfl) ?_
    refine cr_get C hW.1 0 rfl rfl 8 (by decide) hinX7 k2 (v := .ref (az 9)) rfl dX7_gives_183 ?_
    refine lv_aload_n hx hb dX7_gives_186 rfl (lv_at hl 1 rfl) ?_
    refine cr_get C hW.1 0 rfl rfl 9 (by decide) hinX7 k1 (v := .int (vz 9 0)) rfl dX7_gives_187 ?_
    refine lv_iload hx hb dX7_gives_190 (lv_at hl 0 rfl) ?_
    refine cr_ast C hW 6 rfl (k := (cr_x (vz 9 0))) i6 (cr_xe _) (w' := cr_wM ct az (cr_a (cr_a vz 7 (cr_x (vz 9 0)) x5) 8 (cr_x (vz 9 0)) s0)) rfl dX7_gives_192 (fun H locs hW => ?_)
    refine lv_aload_n hx hb dX7_gives_193 rfl (lv_at hl 1 rfl) ?_
    refine lv_dup hx hb dX7_gives_194 rfl ?_
    refine cr_get C hW.1 0 rfl rfl 9 (by decide) hinX7 k1 (v := .int (vz 9 0)) rfl dX7_gives_195 ?_
    refine lv_iconst (v := 1) hx hb dX7_gives_198 (by decide) ?_
    refine lv_iadd hx hb dX7_gives_199 ?_
    refine cr_put C hW 0 rfl rfl tyX7 tyX7_ok nmX7 9 (by decide) hinX7 k1 rfl rfl rfl rfl (Nat.le_of_ble_eq_true rfl) (w' := cr_wM ct az (cr_i (cr_a (cr_a vz 7 (cr_x (vz 9 0)) x5) 8 (cr_x (vz 9 0)) s0) 9 ((vz 9 0) + 1))) rfl dX7_gives_200 (fun H locs hW => ?_)
    refine lv_aload_n hx hb dX7_gives_203 rfl (lv_at hl 1 rfl) ?_
    refine lv_dup hx hb dX7_gives_204 rfl ?_
    refine cr_get C hW.1 0 rfl rfl 10 (by decide) hinX7 k3 (v := .int (vz 10 0)) rfl dX7_gives_205 ?_
    refine lv_iload hx hb dX7_gives_208 (lv_at hl 0 rfl) ?_
    refine lv_isub hx hb dX7_gives_210 ?_
    refine cr_put C hW 0 rfl rfl tyX7 tyX7_ok nmX7 10 (by decide) hinX7 k3 rfl rfl rfl rfl (Nat.le_of_ble_eq_true rfl) (w' := cr_wM ct az (cr_i (cr_i (cr_a (cr_a vz 7 (cr_x (vz 9 0)) x5) 8 (cr_x (vz 9 0)) s0) 9 ((vz 9 0) + 1)) 10 ((vz 10 0) - s0))) rfl dX7_gives_211 (fun H locs hW => ?_)
    refine lv_iload_n hx hb dX7_gives_214 rfl (lv_at hl 4 rfl) ?_
    refine lv_iconst (v := 1) hx hb dX7_gives_215 (by decide) ?_
    refine lv_iload hx hb dX7_gives_216 (lv_at hl 6 rfl) ?_
    refine lv_ishl hx hb dX7_gives_218 ?_
    refine lv_ior hx hb dX7_gives_219 ?_
    refine lv_istore_n (lv' := [(3, .int (x3 ||| (1 <<< (x5 &&& 31)))), (6, .int s0), (0, .ref (az 0)), (1, .int x1), (2, .int x2), (4, .int x4), (5, .int x5)]) hx hb dX7_gives_220 rfl hl (by decide) rfl (fun ls hl => ?_)
    exact n221 k21_ ih21_ (cr_i (cr_i (cr_a (cr_a vz 7 (cr_x (vz 9 0)) x5) 8 (cr_x (vz 9 0)) s0) 9 ((vz 9 0) + 1)) 10 ((vz 10 0) - s0)) x1 x2 (x3 ||| (1 <<< (x5 &&& 31))) x4 hE _ _ _ hW (lv_sub hl [2, 3, 4, 0, 5] rfl)
  have n134 : ∀ (k21_ : cr_V → Int32 → Int32 → Int32 → Int32 → Option (cr_V)) (ih21_ : ∀ (vz : cr_V) (x1 : Int32) (x2 : Int32) (x3 : Int32) (x4 : Int32) (hE : k21_ vz x1 x2 x3 x4 = some out) (H : Heap) (locs : List Loc) (ls : Array Slot) (hW : cr_wd D A s (cr_wM ct az vz) H locs) (hl : lv_has ls 8 [(0, .ref (az 0)), (1, .int x1), (2, .int x2), (3, .int x3), (4, .int x4)]), W p L e ({ frames := 4, cells := 0, slots := 0, locals := 92 } : Room) s m args below meth c H locs 0 0 (MQ below (va_Qv (fun u => u = out) (fun u t => cr_at D A ((fun u : cr_V => cr_wM ct az u) u) t) A) args s 0 0 A) (F0 m 21 ls [])), ∀ (vz : cr_V) (x1 : Int32) (x2 : Int32) (x3 : Int32) (x5 : Int32) (s0 : Int32) (hE : f_X7_gives_134 k21_ vz x1 x2 x3 x5 s0 = some out) (H : Heap) (locs : List Loc) (ls : Array Slot) (hW : cr_wd D A s (cr_wM ct az vz) H locs) (hl : lv_has ls 8 [(0, .ref (az 0)), (1, .int x1), (2, .int x2), (3, .int x3), (5, .int x5)]), W p L e ({ frames := 4, cells := 0, slots := 0, locals := 92 } : Room) s m args below meth c H locs 0 0 (MQ below (va_Qv (fun u => u = out) (fun u t => cr_at D A ((fun u : cr_V => cr_wM ct az u) u) t) A) args s 0 0 A) (F0 m 134 ls [.int s0]) := by
    intro k21_ ih21_ vz x1 x2 x3 x5 s0 hE H locs ls hW hl
    replace hE : (if s0 = 0 then (f_X7_gives_221 k21_ vz x1 x2 x3 s0) else ((f_X7_of vz x5 1).bind fun q8 => if (vz 10 0) ≤ q8 then (f_X7_gives_169 k21_ vz x1 x2 x3 s0 x5 (vz 10 0)) else ((f_X7_of vz x5 1).bind fun q10 => f_X7_gives_169 k21_ vz x1 x2 x3 s0 x5 q10))) = some out := hE
    refine lv_istore (lv' := [(4, .int s0), (0, .ref (az 0)), (1, .int x1), (2, .int x2), (3, .int x3), (5, .int x5)]) hx hb dX7_gives_134 hl (by decide) rfl (fun ls hl => ?_)
    refine lv_iload hx hb dX7_gives_136 (lv_at hl 0 rfl) ?_
    refine lv_if_eq (tgt := 221) hx hb dX7_gives_138 (by decide) (fun c7 => ?_) (fun c7 => ?_)
    · rw [if_pos c7] at hE
      exact n221 k21_ ih21_ vz x1 x2 x3 s0 hE _ _ _ hW (lv_sub hl [1, 2, 3, 4, 0] rfl)
    · rw [if_neg c7] at hE
      refine lv_aload_n hx hb dX7_gives_141 rfl (lv_at hl 1 rfl) ?_
      refine lv_iload hx hb dX7_gives_142 (lv_at hl 5 rfl) ?_
      refine lv_iconst (v := 1) hx hb dX7_gives_144 (by decide) ?_
      obtain ⟨q8, hq8, hE⟩ := cr_bind hE
      refine cr_vRwq (n := 2) (As := [.int x5, .int 1]) (rest := []) C hW (m_X7_of L D ct az vz x5 1 q8 hq8) (cwV 2 hts gX7_gives_X7_of rfl rfl rfl (by decide +kernel) ⟨Nat.le_of_ble_eq_true rfl, Nat.le_of_ble_eq_true rfl⟩) [0, 1, 2, 3, 4, 5, 6, 7] rfl 0 rfl rfl rfl hl.1 rfl (Nat.le_of_ble_eq_true rfl) dX7_gives_145 ⟨Nat.zero_le _, Nat.zero_le _⟩ (fun H locs hW => ?_)
      refine lv_aload_n hx hb dX7_gives_148 rfl (lv_at hl 1 rfl) ?_
      refine cr_get C hW.1 0 rfl rfl 10 (by decide) hinX7 k3 (v := .int (vz 10 0)) rfl dX7_gives_149 ?_
      refine lv_icmp_ge (tgt := 165) hx hb dX7_gives_152 (by decide) (fun c9 => ?_) (fun c9 => ?_)
      · rw [if_pos c9] at hE
        refine lv_aload_n hx hb dX7_gives_165 rfl (lv_at hl 1 rfl) ?_
        refine cr_get C hW.1 0 rfl rfl 10 (by decide) hinX7 k3 (v := .int (vz 10 0)) rfl dX7_gives_166 ?_
        exact n169 k21_ ih21_ vz x1 x2 x3 s0 x5 (vz 10 0) hE _ _ _ hW (lv_sub hl [1, 2, 3, 4, 0, 5] rfl)
      · rw [if_neg c9] at hE
        refine lv_aload_n hx hb dX7_gives_155 rfl (lv_at hl 1 rfl) ?_
        refine lv_iload hx hb dX7_gives_156 (lv_at hl 5 rfl) ?_
        refine lv_iconst (v := 1) hx hb dX7_gives_158 (by decide) ?_
        obtain ⟨q10, hq10, hE⟩ := cr_bind hE
        refine cr_vRwq (n := 2) (As := [.int x5, .int 1]) (rest := []) C hW (m_X7_of L D ct az vz x5 1 q10 hq10) (cwV 2 hts gX7_gives_X7_of rfl rfl rfl (by decide +kernel) ⟨Nat.le_of_ble_eq_true rfl, Nat.le_of_ble_eq_true rfl⟩) [0, 1, 2, 3, 4, 5, 6, 7] rfl 0 rfl rfl rfl hl.1 rfl (Nat.le_of_ble_eq_true rfl) dX7_gives_159 ⟨Nat.zero_le _, Nat.zero_le _⟩ (fun H locs hW => ?_)
        refine lv_goto (tgt := 169) hx hb dX7_gives_162 (by decide) ?_
        exact n169 k21_ ih21_ vz x1 x2 x3 s0 x5 q10 hE _ _ _ hW (lv_sub hl [1, 2, 3, 4, 0, 5] rfl)
  have n40 : ∀ (k21_ : cr_V → Int32 → Int32 → Int32 → Int32 → Option (cr_V)) (ih21_ : ∀ (vz : cr_V) (x1 : Int32) (x2 : Int32) (x3 : Int32) (x4 : Int32) (hE : k21_ vz x1 x2 x3 x4 = some out) (H : Heap) (locs : List Loc) (ls : Array Slot) (hW : cr_wd D A s (cr_wM ct az vz) H locs) (hl : lv_has ls 8 [(0, .ref (az 0)), (1, .int x1), (2, .int x2), (3, .int x3), (4, .int x4)]), W p L e ({ frames := 4, cells := 0, slots := 0, locals := 92 } : Room) s m args below meth c H locs 0 0 (MQ below (va_Qv (fun u => u = out) (fun u t => cr_at D A ((fun u : cr_V => cr_wM ct az u) u) t) A) args s 0 0 A) (F0 m 21 ls [])), ∀ (n : Nat), ∀ (vz : cr_V) (x1 : Int32) (x2 : Int32) (x3 : Int32) (x5 : Int32) (x6 : Int32) (hE : f_X7_gives_40 k21_ n vz x1 x2 x3 x5 x6 = some out) (H : Heap) (locs : List Loc) (ls : Array Slot) (hW : cr_wd D A s (cr_wM ct az vz) H locs) (hl : lv_has ls 8 [(0, .ref (az 0)), (1, .int x1), (2, .int x2), (3, .int x3), (5, .int x5), (6, .int x6)]), W p L e ({ frames := 4, cells := 0, slots := 0, locals := 92 } : Room) s m args below meth c H locs 0 0 (MQ below (va_Qv (fun u => u = out) (fun u t => cr_at D A ((fun u : cr_V => cr_wM ct az u) u) t) A) args s 0 0 A) (F0 m 40 ls []) := by
    intro k21_ ih21_ n
    induction n with
    | zero =>
      intro vz x1 x2 x3 x5 x6 hE
      cases hE
    | succ n ih =>
      intro vz x1 x2 x3 x5 x6 hE H locs ls hW hl
      replace hE : (if (vz 0 6) ≤ x6 then (if x5 < 0 then (f_X7_gives_134 k21_ vz x1 x2 x3 x5 0) else (f_X7_gives_134 k21_ vz x1 x2 x3 x5 1)) else ((f_X7_cupAt vz x6 x2).bind fun q13 => if q13 < 70 then (f_X7_gives_77 k21_ (f_X7_gives_40 k21_ n) vz x1 x2 x3 x5 x6) else (if ((x3 >>> (x6 &&& 31)) &&& 1) = 0 then (f_X7_gives_78 k21_ (f_X7_gives_40 k21_ n) vz x1 x2 x3 x5 x6 1) else (f_X7_gives_77 k21_ (f_X7_gives_40 k21_ n) vz x1 x2 x3 x5 x6)))) = some out := hE
      refine lv_iload hx hb dX7_gives_40 (lv_at hl 5 rfl) ?_
      refine lv_aload_n hx hb dX7_gives_42 rfl (lv_at hl 0 rfl) ?_
      refine cr_get C hW.1 0 rfl rfl 0 (by decide) hinX7 k4 (v := .ref (az 1)) rfl dX7_gives_43 ?_
      refine lv_bipush (v := 6) hx hb dX7_gives_46 (by decide) ?_
      refine cr_ald C hW.1 1 (f := vz 0) (k := 6) rfl (by decide) (by decide) dX7_gives_48 ?_
      refine lv_icmp_ge (tgt := 124) hx hb dX7_gives_49 (by decide) (fun c11 => ?_) (fun c11 => ?_)
      · rw [if_pos c11] at hE
        refine lv_iload hx hb dX7_gives_124 (lv_at hl 4 rfl) ?_
        refine lv_if_lt (tgt := 133) hx hb dX7_gives_126 (by decide) (fun c12 => ?_) (fun c12 => ?_)
        · rw [if_pos c12] at hE
          refine lv_iconst (v := 0) hx hb dX7_gives_133 (by decide) ?_
          exact n134 k21_ ih21_ vz x1 x2 x3 x5 0 hE _ _ _ hW (lv_sub hl [0, 1, 2, 3, 4] rfl)
        · rw [if_neg c12] at hE
          refine lv_iconst (v := 1) hx hb dX7_gives_129 (by decide) ?_
          refine lv_goto (tgt := 134) hx hb dX7_gives_130 (by decide) ?_
          exact n134 k21_ ih21_ vz x1 x2 x3 x5 1 hE _ _ _ hW (lv_sub hl [0, 1, 2, 3, 4] rfl)
      · rw [if_neg c11] at hE
        refine lv_aload_n hx hb dX7_gives_52 rfl (lv_at hl 0 rfl) ?_
        refine lv_iload hx hb dX7_gives_53 (lv_at hl 5 rfl) ?_
        refine lv_iload_n hx hb dX7_gives_55 rfl (lv_at hl 2 rfl) ?_
        obtain ⟨q13, hq13, hE⟩ := cr_bind hE
        refine cr_vRwq (n := 2) (As := [.int x6, .int x2]) (rest := []) C hW (m_X7_cupAt L D ct az vz x6 x2 q13 hq13) (cwV 2 hts gX7_gives_X7_cupAt rfl rfl rfl (by decide +kernel) ⟨Nat.le_of_ble_eq_true rfl, Nat.le_of_ble_eq_true rfl⟩) [0, 1, 2, 3, 4, 5, 6, 7] rfl 0 rfl rfl rfl hl.1 rfl (Nat.le_of_ble_eq_true rfl) dX7_gives_56 ⟨Nat.zero_le _, Nat.zero_le _⟩ (fun H locs hW => ?_)
        refine lv_bipush (v := 70) hx hb dX7_gives_59 (by decide) ?_
        refine lv_icmp_lt (tgt := 77) hx hb dX7_gives_61 (by decide) (fun c14 => ?_) (fun c14 => ?_)
        · rw [if_pos c14] at hE
          exact n77 k21_ ih21_ (f_X7_gives_40 k21_ n) ih vz x1 x2 x3 x5 x6 hE _ _ _ hW (lv_sub hl [0, 1, 2, 3, 4, 5] rfl)
        · rw [if_neg c14] at hE
          refine lv_iload_n hx hb dX7_gives_64 rfl (lv_at hl 3 rfl) ?_
          refine lv_iload hx hb dX7_gives_65 (lv_at hl 5 rfl) ?_
          refine lv_ishr hx hb dX7_gives_67 ?_
          refine lv_iconst (v := 1) hx hb dX7_gives_68 (by decide) ?_
          refine lv_iand hx hb dX7_gives_69 ?_
          refine lv_if_ne (tgt := 77) hx hb dX7_gives_70 (by decide) (fun c15 => ?_) (fun c15 => ?_)
          · rw [if_neg c15] at hE
            exact n77 k21_ ih21_ (f_X7_gives_40 k21_ n) ih vz x1 x2 x3 x5 x6 hE _ _ _ hW (lv_sub hl [0, 1, 2, 3, 4, 5] rfl)
          · rw [if_pos c15] at hE
            refine lv_iconst (v := 1) hx hb dX7_gives_73 (by decide) ?_
            refine lv_goto (tgt := 78) hx hb dX7_gives_74 (by decide) ?_
            exact n78 k21_ ih21_ (f_X7_gives_40 k21_ n) ih vz x1 x2 x3 x5 x6 1 hE _ _ _ hW (lv_sub hl [0, 1, 2, 3, 4, 5] rfl)
  have n21 :  ∀ (n : Nat), ∀ (vz : cr_V) (x1 : Int32) (x2 : Int32) (x3 : Int32) (x4 : Int32) (hE : f_X7_gives_21  n vz x1 x2 x3 x4 = some out) (H : Heap) (locs : List Loc) (ls : Array Slot) (hW : cr_wd D A s (cr_wM ct az vz) H locs) (hl : lv_has ls 8 [(0, .ref (az 0)), (1, .int x1), (2, .int x2), (3, .int x3), (4, .int x4)]), W p L e ({ frames := 4, cells := 0, slots := 0, locals := 92 } : Room) s m args below meth c H locs 0 0 (MQ below (va_Qv (fun u => u = out) (fun u t => cr_at D A ((fun u : cr_V => cr_wM ct az u) u) t) A) args s 0 0 A) (F0 m 21 ls []) := by
    intro  n
    induction n with
    | zero =>
      intro vz x1 x2 x3 x4 hE
      cases hE
    | succ n ih =>
      intro vz x1 x2 x3 x4 hE H locs ls hW hl
      replace hE : (if x4 = 0 then (some vz) else (if (vz 10 0) ≤ 0 then (some vz) else (f_X7_gives_40 (f_X7_gives_21 n) 10100 vz x1 x2 x3 (-2000000004) 0))) = some out := hE
      refine lv_iload hx hb dX7_gives_21 (lv_at hl 4 rfl) ?_
      refine lv_if_eq (tgt := 224) hx hb dX7_gives_23 (by decide) (fun c16 => ?_) (fun c16 => ?_)
      · rw [if_pos c16] at hE
        exact cr_retV C (w := (fun u : cr_V => cr_wM ct az u)) vz hW (Option.some.inj hE) dX7_gives_224
      · rw [if_neg c16] at hE
        refine lv_aload_n hx hb dX7_gives_26 rfl (lv_at hl 0 rfl) ?_
        refine cr_get C hW.1 0 rfl rfl 10 (by decide) hinX7 k3 (v := .int (vz 10 0)) rfl dX7_gives_27 ?_
        refine lv_if_le (tgt := 224) hx hb dX7_gives_30 (by decide) (fun c17 => ?_) (fun c17 => ?_)
        · rw [if_pos c17] at hE
          exact cr_retV C (w := (fun u : cr_V => cr_wM ct az u)) vz hW (Option.some.inj hE) dX7_gives_224
        · rw [if_neg c17] at hE
          refine cr_ldc C k5 dX7_gives_33 ?_
          refine lv_istore (lv' := [(5, .int (-2000000004)), (0, .ref (az 0)), (1, .int x1), (2, .int x2), (3, .int x3), (4, .int x4)]) hx hb dX7_gives_35 hl (by decide) rfl (fun ls hl => ?_)
          refine lv_iconst (v := 0) hx hb dX7_gives_37 (by decide) ?_
          refine lv_istore (lv' := [(6, .int 0), (5, .int (-2000000004)), (0, .ref (az 0)), (1, .int x1), (2, .int x2), (3, .int x3), (4, .int x4)]) hx hb dX7_gives_38 hl (by decide) rfl (fun ls hl => ?_)
          exact n40 (f_X7_gives_21 n) ih 10100 vz x1 x2 x3 (-2000000004) 0 hE _ _ _ hW (lv_sub hl [2, 3, 4, 5, 1, 0] rfl)
  replace hE : (f_X7_gives_21 10100 (cr_i (cr_i vz 9 0) 10 (vz 0 8)) x1 x2 0 1) = some out := hE
  refine lv_aload_n hx hb dX7_gives_0 rfl (lv_at hl 0 rfl) ?_
  refine lv_iconst (v := 0) hx hb dX7_gives_1 (by decide) ?_
  refine cr_put C hW 0 rfl rfl tyX7 tyX7_ok nmX7 9 (by decide) hinX7 k1 rfl rfl rfl rfl (Nat.le_of_ble_eq_true rfl) (w' := cr_wM ct az (cr_i vz 9 0)) rfl dX7_gives_2 (fun H locs hW => ?_)
  refine lv_aload_n hx hb dX7_gives_5 rfl (lv_at hl 0 rfl) ?_
  refine lv_aload_n hx hb dX7_gives_6 rfl (lv_at hl 0 rfl) ?_
  refine cr_get C hW.1 0 rfl rfl 0 (by decide) hinX7 k4 (v := .ref (az 1)) rfl dX7_gives_7 ?_
  refine lv_bipush (v := 8) hx hb dX7_gives_10 (by decide) ?_
  refine cr_ald C hW.1 1 (f := vz 0) (k := 8) rfl (by decide) (by decide) dX7_gives_12 ?_
  refine cr_put C hW 0 rfl rfl tyX7 tyX7_ok nmX7 10 (by decide) hinX7 k3 rfl rfl rfl rfl (Nat.le_of_ble_eq_true rfl) (w' := cr_wM ct az (cr_i (cr_i vz 9 0) 10 (vz 0 8))) rfl dX7_gives_13 (fun H locs hW => ?_)
  refine lv_iconst (v := 0) hx hb dX7_gives_16 (by decide) ?_
  refine lv_istore_n (lv' := [(3, .int 0), (0, .ref (az 0)), (1, .int x1), (2, .int x2)]) hx hb dX7_gives_17 rfl hl (by decide) rfl (fun ls hl => ?_)
  refine lv_iconst (v := 1) hx hb dX7_gives_18 (by decide) ?_
  refine lv_istore (lv' := [(4, .int 1), (3, .int 0), (0, .ref (az 0)), (1, .int x1), (2, .int x2)]) hx hb dX7_gives_19 hl (by decide) rfl (fun ls hl => ?_)
  exact n21 10100 (cr_i (cr_i vz 9 0) 10 (vz 0 8)) x1 x2 0 1 hE _ _ _ hW (lv_sub hl [2, 3, 4, 1, 0] rfl)

set_option maxHeartbeats 4000000 in
set_option maxRecDepth 100000 in
theorem m_X7_paidAll (L : Launch) (D : va_G) (ct : Nat → ClassId) (az : Nat → Nat) (vz : cr_V) (x1 : Int32) (x2 : Int32) (x3 : Int32) (out : Int32) (hE : f_X7_paidAll vz x1 x2 x3 = some out) : Met L yX7_paidAll wsX7_paidAll ({ frames := 4, cells := 0, slots := 0, locals := 92 } : Room) (cr_pR D ct (cr_wM ct az vz) [.ref (az 0), .int x1, .int x2, .int x3]) (cr_QR (fun r => r = out)) 0 0 cr_no := by
  have k0 : (Cond.fieldLink RX7 102 "CupReceiptsModel" "places" "I") ∈ wsX7_paidAll := List.mem_of_getElem? (i := 1) rfl
  have k1 : (Cond.fieldLink RX7 25 "CupReceiptsModel" "bagsOf" "[I") ∈ wsX7_paidAll := List.mem_of_getElem? (i := 2) rfl
  have k2 : (Cond.fieldLink RX7 22 "CupReceiptsModel" "lots" "[I") ∈ wsX7_paidAll := List.mem_of_getElem? (i := 3) rfl
  have hinX7 : ∀ w ∈ wsX70, w ∈ wsX7_paidAll := fun w h => List.mem_cons_of_mem _ (List.mem_append_right _ h)
  refine cr_metR (by decide) rfl rfl (Nat.le_of_ble_eq_true rfl) ?_
  intro p e s m args below meth c ls C hP hS hl
  obtain ⟨hx, hb, hml, hown, hts, hr, hlocks, hK, hN⟩ := id C
  have hl : lv_has ls 6 [(0, .ref (az 0)), (1, .int x1), (2, .int x2), (3, .int x3)] := hl
  have n57 : ∀ (k6_ : cr_V → Int32 → Int32 → Int32 → Int32 → Int32 → Option (Int32)) (ih6_ : ∀ (vz : cr_V) (x1 : Int32) (x2 : Int32) (x3 : Int32) (x4 : Int32) (x5 : Int32) (hE : k6_ vz x1 x2 x3 x4 x5 = some out) (H : Heap) (locs : List Loc) (ls : Array Slot) (hP : va_P D vwCl (cr_wM ct az vz) H) (hS : va_S cr_no s.heap H locs) (hl : lv_has ls 6 [(0, .ref (az 0)), (1, .int x1), (2, .int x2), (3, .int x3), (4, .int x4), (5, .int x5)]), W p L e ({ frames := 4, cells := 0, slots := 0, locals := 92 } : Room) s m args below meth c H locs 0 0 (MQ below (cr_QR (fun r => r = out)) args s 0 0 cr_no) (F0 m 6 ls [])), ∀ (vz : cr_V) (x1 : Int32) (x2 : Int32) (x3 : Int32) (x5 : Int32) (s0 : Int32) (s1 : Int32) (s2 : Int32) (hE : f_X7_paidAll_57 k6_ vz x1 x2 x3 x5 s0 s1 s2 = some out) (H : Heap) (locs : List Loc) (ls : Array Slot) (hP : va_P D vwCl (cr_wM ct az vz) H) (hS : va_S cr_no s.heap H locs) (hl : lv_has ls 6 [(0, .ref (az 0)), (1, .int x1), (2, .int x2), (3, .int x3), (5, .int x5)]), W p L e ({ frames := 4, cells := 0, slots := 0, locals := 92 } : Room) s m args below meth c H locs 0 0 (MQ below (cr_QR (fun r => r = out)) args s 0 0 cr_no) (F0 m 57 ls [.int s0, .int s1, .int s2]) := by
    intro k6_ ih6_ vz x1 x2 x3 x5 s0 s1 s2 hE H locs ls hP hS hl
    replace hE : (k6_ vz x1 x2 x3 (s2 + (s1 * s0)) (x5 + 1)) = some out := hE
    refine lv_imul hx hb dX7_paidAll_57 ?_
    refine lv_iadd hx hb dX7_paidAll_58 ?_
    refine lv_istore (lv' := [(4, .int (s2 + (s1 * s0))), (0, .ref (az 0)), (1, .int x1), (2, .int x2), (3, .int x3), (5, .int x5)]) hx hb dX7_paidAll_59 hl (by decide) rfl (fun ls hl => ?_)
    refine lv_iinc (v := x5 + 1) (lv' := [(5, .int (x5 + 1)), (4, .int (s2 + (s1 * s0))), (0, .ref (az 0)), (1, .int x1), (2, .int x2), (3, .int x3)]) hx hb dX7_paidAll_61 hl (k := 5) rfl (by first | rfl | decide) (by decide) rfl (fun ls hl => ?_)
    refine lv_goto (tgt := 6) hx hb dX7_paidAll_64 (by decide) ?_
    exact ih6_ vz x1 x2 x3 (s2 + (s1 * s0)) (x5 + 1) hE _ _ _ hP hS (lv_sub hl [2, 3, 4, 5, 1, 0] rfl)
  have n6 :  ∀ (n : Nat), ∀ (vz : cr_V) (x1 : Int32) (x2 : Int32) (x3 : Int32) (x4 : Int32) (x5 : Int32) (hE : f_X7_paidAll_6  n vz x1 x2 x3 x4 x5 = some out) (H : Heap) (locs : List Loc) (ls : Array Slot) (hP : va_P D vwCl (cr_wM ct az vz) H) (hS : va_S cr_no s.heap H locs) (hl : lv_has ls 6 [(0, .ref (az 0)), (1, .int x1), (2, .int x2), (3, .int x3), (4, .int x4), (5, .int x5)]), W p L e ({ frames := 4, cells := 0, slots := 0, locals := 92 } : Room) s m args below meth c H locs 0 0 (MQ below (cr_QR (fun r => r = out)) args s 0 0 cr_no) (F0 m 6 ls []) := by
    intro  n
    induction n with
    | zero =>
      intro vz x1 x2 x3 x4 x5 hE
      cases hE
    | succ n ih =>
      intro vz x1 x2 x3 x4 x5 hE H locs ls hP hS hl
      replace hE : (if (vz 9 0) ≤ x5 then (some x4) else (if cr_in x5 12 = true then if x3 = 0 then ((f_X7_paidAt vz (vz 7 (cr_x x5)) x1 x2).bind fun q4 => f_X7_paidAll_57 (f_X7_paidAll_6 n) vz x1 x2 x3 x5 q4 (vz 8 (cr_x x5)) x4) else ((f_X7_gainAt vz (vz 7 (cr_x x5)) x1 x2).bind fun q5 => f_X7_paidAll_57 (f_X7_paidAll_6 n) vz x1 x2 x3 x5 q5 (vz 8 (cr_x x5)) x4) else none)) = some out := hE
      refine lv_iload hx hb dX7_paidAll_6 (lv_at hl 5 rfl) ?_
      refine lv_aload_n hx hb dX7_paidAll_8 rfl (lv_at hl 0 rfl) ?_
      refine cr_get C hP 0 rfl rfl 9 (by decide) hinX7 k0 (v := .int (vz 9 0)) rfl dX7_paidAll_9 ?_
      refine lv_icmp_ge (tgt := 67) hx hb dX7_paidAll_12 (by decide) (fun c1 => ?_) (fun c1 => ?_)
      · rw [if_pos c1] at hE
        refine lv_iload hx hb dX7_paidAll_67 (lv_at hl 4 rfl) ?_
        exact cr_retR C hS (Option.some.inj hE) dX7_paidAll_69
      · rw [if_neg c1] at hE
        refine lv_iload hx hb dX7_paidAll_15 (lv_at hl 4 rfl) ?_
        refine lv_aload_n hx hb dX7_paidAll_17 rfl (lv_at hl 0 rfl) ?_
        refine cr_get C hP 0 rfl rfl 8 (by decide) hinX7 k1 (v := .ref (az 9)) rfl dX7_paidAll_18 ?_
        refine lv_iload hx hb dX7_paidAll_21 (lv_at hl 5 rfl) ?_
        obtain ⟨i2, hE⟩ := cr_ifn hE
        refine cr_ald C hP 6 (f := vz 8) (k := cr_x x5) rfl i2 (cr_xe _) dX7_paidAll_23 ?_
        refine lv_iload_n hx hb dX7_paidAll_24 rfl (lv_at hl 3 rfl) ?_
        refine lv_if_eq (tgt := 44) hx hb dX7_paidAll_25 (by decide) (fun c3 => ?_) (fun c3 => ?_)
        · rw [if_pos c3] at hE
          refine lv_aload_n hx hb dX7_paidAll_44 rfl (lv_at hl 0 rfl) ?_
          refine lv_aload_n hx hb dX7_paidAll_45 rfl (lv_at hl 0 rfl) ?_
          refine cr_get C hP 0 rfl rfl 7 (by decide) hinX7 k2 (v := .ref (az 8)) rfl dX7_paidAll_46 ?_
          refine lv_iload hx hb dX7_paidAll_49 (lv_at hl 5 rfl) ?_
          refine cr_ald C hP 5 (f := vz 7) (k := cr_x x5) rfl i2 (cr_xe _) dX7_paidAll_51 ?_
          refine lv_iload_n hx hb dX7_paidAll_52 rfl (lv_at hl 1 rfl) ?_
          refine lv_iload_n hx hb dX7_paidAll_53 rfl (lv_at hl 2 rfl) ?_
          obtain ⟨q4, hq4, hE⟩ := cr_bind hE
          refine cr_vRq (n := 3) (As := [.int (vz 7 (cr_x x5)), .int x1, .int x2]) (rest := [.int (vz 8 (cr_x x5)), .int x4]) C hP hS (m_X7_paidAt L D ct az vz (vz 7 (cr_x x5)) x1 x2 q4 hq4) (cwV 3 hts gX7_paidAll_X7_paidAt rfl rfl rfl (by decide +kernel) ⟨Nat.le_of_ble_eq_true rfl, Nat.le_of_ble_eq_true rfl⟩) [0, 1, 2, 3, 4, 5, 6, 7] rfl 0 rfl rfl rfl hl.1 rfl (Nat.le_of_ble_eq_true rfl) dX7_paidAll_54 ⟨Nat.zero_le _, Nat.zero_le _⟩ (fun H locs hP hS => ?_)
          exact n57 (f_X7_paidAll_6 n) ih vz x1 x2 x3 x5 q4 (vz 8 (cr_x x5)) x4 hE _ _ _ hP hS (lv_sub hl [0, 1, 2, 3, 5] rfl)
        · rw [if_neg c3] at hE
          refine lv_aload_n hx hb dX7_paidAll_28 rfl (lv_at hl 0 rfl) ?_
          refine lv_aload_n hx hb dX7_paidAll_29 rfl (lv_at hl 0 rfl) ?_
          refine cr_get C hP 0 rfl rfl 7 (by decide) hinX7 k2 (v := .ref (az 8)) rfl dX7_paidAll_30 ?_
          refine lv_iload hx hb dX7_paidAll_33 (lv_at hl 5 rfl) ?_
          refine cr_ald C hP 5 (f := vz 7) (k := cr_x x5) rfl i2 (cr_xe _) dX7_paidAll_35 ?_
          refine lv_iload_n hx hb dX7_paidAll_36 rfl (lv_at hl 1 rfl) ?_
          refine lv_iload_n hx hb dX7_paidAll_37 rfl (lv_at hl 2 rfl) ?_
          obtain ⟨q5, hq5, hE⟩ := cr_bind hE
          refine cr_vRq (n := 3) (As := [.int (vz 7 (cr_x x5)), .int x1, .int x2]) (rest := [.int (vz 8 (cr_x x5)), .int x4]) C hP hS (m_X7_gainAt L D ct az vz (vz 7 (cr_x x5)) x1 x2 q5 hq5) (cwV 3 hts gX7_paidAll_X7_gainAt rfl rfl rfl (by decide +kernel) ⟨Nat.le_of_ble_eq_true rfl, Nat.le_of_ble_eq_true rfl⟩) [0, 1, 2, 3, 4, 5, 6, 7] rfl 0 rfl rfl rfl hl.1 rfl (Nat.le_of_ble_eq_true rfl) dX7_paidAll_38 ⟨Nat.zero_le _, Nat.zero_le _⟩ (fun H locs hP hS => ?_)
          refine lv_goto (tgt := 57) hx hb dX7_paidAll_41 (by decide) ?_
          exact n57 (f_X7_paidAll_6 n) ih vz x1 x2 x3 x5 q5 (vz 8 (cr_x x5)) x4 hE _ _ _ hP hS (lv_sub hl [0, 1, 2, 3, 5] rfl)
  replace hE : (f_X7_paidAll_6 10100 vz x1 x2 x3 0 0) = some out := hE
  refine lv_iconst (v := 0) hx hb dX7_paidAll_0 (by decide) ?_
  refine lv_istore (lv' := [(4, .int 0), (0, .ref (az 0)), (1, .int x1), (2, .int x2), (3, .int x3)]) hx hb dX7_paidAll_1 hl (by decide) rfl (fun ls hl => ?_)
  refine lv_iconst (v := 0) hx hb dX7_paidAll_3 (by decide) ?_
  refine lv_istore (lv' := [(5, .int 0), (4, .int 0), (0, .ref (az 0)), (1, .int x1), (2, .int x2), (3, .int x3)]) hx hb dX7_paidAll_4 hl (by decide) rfl (fun ls hl => ?_)
  exact n6 10100 vz x1 x2 x3 0 0 hE _ _ _ hP hS (lv_sub hl [2, 3, 4, 5, 1, 0] rfl)

set_option maxHeartbeats 4000000 in
set_option maxRecDepth 100000 in
theorem m_X7_meet (L : Launch) (D : va_G) (ct : Nat → ClassId) (az : Nat → Nat) (vz : cr_V) (x1 : Int32) (sz : Nat) (out : Int32 × cr_V) (hE : f_X7_meet vz x1 = some out) : Met L yX7_meet wsX7_meet ({ frames := 5, cells := 0, slots := 0, locals := 119 } : Room) (cr_pW D ct (cr_wM ct az vz) sz [.ref (az 0), .int x1]) (cr_QW D (cr_wM ct az vz) sz (fun r u => (r, u) = out) (fun u : cr_V => cr_wM ct az u)) 0 0 (va_A (cr_wM ct az vz) sz) := by
  have k0 : (Cond.fieldLink RX7 102 "CupReceiptsModel" "places" "I") ∈ wsX7_meet := List.mem_of_getElem? (i := 5) rfl
  have k1 : (Cond.fieldLink RX7 7 "CupReceiptsModel" "s" "[I") ∈ wsX7_meet := List.mem_of_getElem? (i := 2) rfl
  have k2 : (Cond.fieldLink RX7 22 "CupReceiptsModel" "lots" "[I") ∈ wsX7_meet := List.mem_of_getElem? (i := 6) rfl
  have k3 : (Cond.fieldLink RX7 25 "CupReceiptsModel" "bagsOf" "[I") ∈ wsX7_meet := List.mem_of_getElem? (i := 7) rfl
  have k4 : (Cond.constant RX7 77 (-2000000002)) ∈ wsX7_meet := List.mem_of_getElem? (i := 4) rfl
  have k5 : (Cond.fieldLink RX7 105 "CupReceiptsModel" "wanting" "I") ∈ wsX7_meet := List.mem_of_getElem? (i := 3) rfl
  have k6 : (Cond.constant RX7 65 (-2000000001)) ∈ wsX7_meet := List.mem_of_getElem? (i := 1) rfl
  have hinX7 : ∀ w ∈ wsX70, w ∈ wsX7_meet := fun w h => List.mem_cons_of_mem _ (List.mem_append_right _ h)
  refine cr_metW (Qc := fun A => va_Qi (fun r u => (r, u) = out) (fun u t => cr_at D A ((fun u : cr_V => cr_wM ct az u) u) t) A) (by decide) rfl rfl (Nat.le_of_ble_eq_true rfl) ?_
  intro p e s m args below meth c ls A C hW hl
  obtain ⟨hx, hb, hml, hown, hts, hr, hlocks, hK, hN⟩ := id C
  have hl : lv_has ls 4 [(0, .ref (az 0)), (1, .int x1)] := hl
  have n106 :  ∀ (n : Nat), ∀ (vz : cr_V) (x1 : Int32) (x2 : Int32) (x3 : Int32) (hE : f_X7_meet_106  n vz x1 x2 x3 = some out) (H : Heap) (locs : List Loc) (ls : Array Slot) (hW : cr_wd D A s (cr_wM ct az vz) H locs) (hl : lv_has ls 4 [(0, .ref (az 0)), (1, .int x1), (2, .int x2), (3, .int x3)]), W p L e ({ frames := 5, cells := 0, slots := 0, locals := 119 } : Room) s m args below meth c H locs 0 0 (MQ below (va_Qi (fun r u => (r, u) = out) (fun u t => cr_at D A ((fun u : cr_V => cr_wM ct az u) u) t) A) args s 0 0 A) (F0 m 106 ls []) := by
    intro  n
    induction n with
    | zero =>
      intro vz x1 x2 x3 hE
      cases hE
    | succ n ih =>
      intro vz x1 x2 x3 hE H locs ls hW hl
      replace hE : (if (vz 9 0) ≤ x3 then ((f_X7_closes (cr_a (cr_a (cr_a vz 0 1 ((vz 0 1) + x2)) 0 2 (((cr_a vz 0 1 ((vz 0 1) + x2)) 0 2) + 1)) 0 4 (((cr_a (cr_a vz 0 1 ((vz 0 1) + x2)) 0 2 (((cr_a vz 0 1 ((vz 0 1) + x2)) 0 2) + 1)) 0 4) + ((cr_a (cr_a vz 0 1 ((vz 0 1) + x2)) 0 2 (((cr_a vz 0 1 ((vz 0 1) + x2)) 0 2) + 1)) 0 8))) x1).bind fun q2 => some (x2, q2)) else (if cr_in x3 12 = true then (f_X7_takes vz (vz 7 (cr_x x3)) (vz 8 (cr_x x3))).bind fun q4 => f_X7_meet_106 n q4 x1 x2 (x3 + 1) else none)) = some out := hE
      refine lv_iload_n hx hb dX7_meet_106 rfl (lv_at hl 3 rfl) ?_
      refine lv_aload_n hx hb dX7_meet_107 rfl (lv_at hl 0 rfl) ?_
      refine cr_get C hW.1 0 rfl rfl 9 (by decide) hinX7 k0 (v := .int (vz 9 0)) rfl dX7_meet_108 ?_
      refine lv_icmp_ge (tgt := 136) hx hb dX7_meet_111 (by decide) (fun c1 => ?_) (fun c1 => ?_)
      · rw [if_pos c1] at hE
        refine lv_aload_n hx hb dX7_meet_136 rfl (lv_at hl 0 rfl) ?_
        refine cr_get C hW.1 0 rfl rfl 0 (by decide) hinX7 k1 (v := .ref (az 1)) rfl dX7_meet_137 ?_
        refine lv_iconst (v := 1) hx hb dX7_meet_140 (by decide) ?_
        refine lv_dup2_11 hx hb dX7_meet_141 rfl rfl ?_
        refine cr_ald C hW.1 1 (f := vz 0) (k := 1) rfl (by decide) (by decide) dX7_meet_142 ?_
        refine lv_iload_n hx hb dX7_meet_143 rfl (lv_at hl 2 rfl) ?_
        refine lv_iadd hx hb dX7_meet_144 ?_
        refine cr_ast C hW 1 rfl (k := 1) (by decide) (by decide) (w' := cr_wM ct az (cr_a vz 0 1 ((vz 0 1) + x2))) rfl dX7_meet_145 (fun H locs hW => ?_)
        refine lv_aload_n hx hb dX7_meet_146 rfl (lv_at hl 0 rfl) ?_
        refine cr_get C hW.1 0 rfl rfl 0 (by decide) hinX7 k1 (v := .ref (az 1)) rfl dX7_meet_147 ?_
        refine lv_iconst (v := 2) hx hb dX7_meet_150 (by decide) ?_
        refine lv_dup2_11 hx hb dX7_meet_151 rfl rfl ?_
        refine cr_ald C hW.1 1 (f := (cr_a vz 0 1 ((vz 0 1) + x2)) 0) (k := 2) rfl (by decide) (by decide) dX7_meet_152 ?_
        refine lv_iconst (v := 1) hx hb dX7_meet_153 (by decide) ?_
        refine lv_iadd hx hb dX7_meet_154 ?_
        refine cr_ast C hW 1 rfl (k := 2) (by decide) (by decide) (w' := cr_wM ct az (cr_a (cr_a vz 0 1 ((vz 0 1) + x2)) 0 2 (((cr_a vz 0 1 ((vz 0 1) + x2)) 0 2) + 1))) rfl dX7_meet_155 (fun H locs hW => ?_)
        refine lv_aload_n hx hb dX7_meet_156 rfl (lv_at hl 0 rfl) ?_
        refine cr_get C hW.1 0 rfl rfl 0 (by decide) hinX7 k1 (v := .ref (az 1)) rfl dX7_meet_157 ?_
        refine lv_iconst (v := 4) hx hb dX7_meet_160 (by decide) ?_
        refine lv_dup2_11 hx hb dX7_meet_161 rfl rfl ?_
        refine cr_ald C hW.1 1 (f := (cr_a (cr_a vz 0 1 ((vz 0 1) + x2)) 0 2 (((cr_a vz 0 1 ((vz 0 1) + x2)) 0 2) + 1)) 0) (k := 4) rfl (by decide) (by decide) dX7_meet_162 ?_
        refine lv_aload_n hx hb dX7_meet_163 rfl (lv_at hl 0 rfl) ?_
        refine cr_get C hW.1 0 rfl rfl 0 (by decide) hinX7 k1 (v := .ref (az 1)) rfl dX7_meet_164 ?_
        refine lv_bipush (v := 8) hx hb dX7_meet_167 (by decide) ?_
        refine cr_ald C hW.1 1 (f := (cr_a (cr_a vz 0 1 ((vz 0 1) + x2)) 0 2 (((cr_a vz 0 1 ((vz 0 1) + x2)) 0 2) + 1)) 0) (k := 8) rfl (by decide) (by decide) dX7_meet_169 ?_
        refine lv_iadd hx hb dX7_meet_170 ?_
        refine cr_ast C hW 1 rfl (k := 4) (by decide) (by decide) (w' := cr_wM ct az (cr_a (cr_a (cr_a vz 0 1 ((vz 0 1) + x2)) 0 2 (((cr_a vz 0 1 ((vz 0 1) + x2)) 0 2) + 1)) 0 4 (((cr_a (cr_a vz 0 1 ((vz 0 1) + x2)) 0 2 (((cr_a vz 0 1 ((vz 0 1) + x2)) 0 2) + 1)) 0 4) + ((cr_a (cr_a vz 0 1 ((vz 0 1) + x2)) 0 2 (((cr_a vz 0 1 ((vz 0 1) + x2)) 0 2) + 1)) 0 8)))) rfl dX7_meet_171 (fun H locs hW => ?_)
        refine lv_aload_n hx hb dX7_meet_172 rfl (lv_at hl 0 rfl) ?_
        refine lv_iload_n hx hb dX7_meet_173 rfl (lv_at hl 1 rfl) ?_
        obtain ⟨q2, hq2, hE⟩ := cr_bind hE
        refine cr_vVq (n := 1) (As := [.int x1]) (rest := []) C hW (m_X7_closes L D ct az (cr_a (cr_a (cr_a vz 0 1 ((vz 0 1) + x2)) 0 2 (((cr_a vz 0 1 ((vz 0 1) + x2)) 0 2) + 1)) 0 4 (((cr_a (cr_a vz 0 1 ((vz 0 1) + x2)) 0 2 (((cr_a vz 0 1 ((vz 0 1) + x2)) 0 2) + 1)) 0 4) + ((cr_a (cr_a vz 0 1 ((vz 0 1) + x2)) 0 2 (((cr_a vz 0 1 ((vz 0 1) + x2)) 0 2) + 1)) 0 8))) x1 _ q2 hq2) (cwV 1 hts gX7_meet_X7_closes rfl rfl rfl (by decide +kernel) ⟨Nat.le_of_ble_eq_true rfl, Nat.le_of_ble_eq_true rfl⟩) [0, 1, 2, 3, 4, 5, 6, 7] [] [0, 1, 2, 3, 4, 5, 6, 7] (cr_wM ct az q2) rfl rfl rfl ⟨by decide +kernel, by decide +kernel, by decide +kernel, by decide +kernel⟩ 0 rfl rfl rfl hl.1 rfl (Nat.le_of_ble_eq_true rfl) dX7_meet_174 ⟨Nat.zero_le _, Nat.zero_le _⟩ (fun H locs hW => ?_)
        refine lv_iload_n hx hb dX7_meet_177 rfl (lv_at hl 2 rfl) ?_
        exact cr_retW C (w := (fun u : cr_V => cr_wM ct az u)) q2 hW (Option.some.inj hE) dX7_meet_178
      · rw [if_neg c1] at hE
        refine lv_aload_n hx hb dX7_meet_114 rfl (lv_at hl 0 rfl) ?_
        refine lv_aload_n hx hb dX7_meet_115 rfl (lv_at hl 0 rfl) ?_
        refine cr_get C hW.1 0 rfl rfl 7 (by decide) hinX7 k2 (v := .ref (az 8)) rfl dX7_meet_116 ?_
        refine lv_iload_n hx hb dX7_meet_119 rfl (lv_at hl 3 rfl) ?_
        obtain ⟨i3, hE⟩ := cr_ifn hE
        refine cr_ald C hW.1 5 (f := vz 7) (k := cr_x x3) rfl i3 (cr_xe _) dX7_meet_120 ?_
        refine lv_aload_n hx hb dX7_meet_121 rfl (lv_at hl 0 rfl) ?_
        refine cr_get C hW.1 0 rfl rfl 8 (by decide) hinX7 k3 (v := .ref (az 9)) rfl dX7_meet_122 ?_
        refine lv_iload_n hx hb dX7_meet_125 rfl (lv_at hl 3 rfl) ?_
        refine cr_ald C hW.1 6 (f := vz 8) (k := cr_x x3) rfl i3 (cr_xe _) dX7_meet_126 ?_
        obtain ⟨q4, hq4, hE⟩ := cr_bind hE
        refine cr_vVq (n := 2) (As := [.int (vz 7 (cr_x x3)), .int (vz 8 (cr_x x3))]) (rest := []) C hW (m_X7_takes L D ct az vz (vz 7 (cr_x x3)) (vz 8 (cr_x x3)) _ q4 hq4) (cwV 2 hts gX7_meet_X7_takes rfl rfl rfl (by decide +kernel) ⟨Nat.le_of_ble_eq_true rfl, Nat.le_of_ble_eq_true rfl⟩) [0, 1, 2, 3, 4, 5, 6, 7] [] [0, 1, 2, 3, 4, 5, 6, 7] (cr_wM ct az q4) rfl rfl rfl ⟨by decide +kernel, by decide +kernel, by decide +kernel, by decide +kernel⟩ 0 rfl rfl rfl hl.1 rfl (Nat.le_of_ble_eq_true rfl) dX7_meet_127 ⟨Nat.zero_le _, Nat.zero_le _⟩ (fun H locs hW => ?_)
        refine lv_iinc (v := x3 + 1) (lv' := [(3, .int (x3 + 1)), (0, .ref (az 0)), (1, .int x1), (2, .int x2)]) hx hb dX7_meet_130 hl (k := 3) rfl (by first | rfl | decide) (by decide) rfl (fun ls hl => ?_)
        refine lv_goto (tgt := 106) hx hb dX7_meet_133 (by decide) ?_
        exact ih q4 x1 x2 (x3 + 1) hE _ _ _ hW (lv_sub hl [1, 2, 3, 0] rfl)
  have n73 :  ∀ (n : Nat), ∀ (vz : cr_V) (x1 : Int32) (x2 : Int32) (x3 : Int32) (hE : f_X7_meet_73  n vz x1 x2 x3 = some out) (H : Heap) (locs : List Loc) (ls : Array Slot) (hW : cr_wd D A s (cr_wM ct az vz) H locs) (hl : lv_has ls 4 [(0, .ref (az 0)), (1, .int x1), (2, .int x2), (3, .int x3)]), W p L e ({ frames := 5, cells := 0, slots := 0, locals := 119 } : Room) s m args below meth c H locs 0 0 (MQ below (va_Qi (fun r u => (r, u) = out) (fun u t => cr_at D A ((fun u : cr_V => cr_wM ct az u) u) t) A) args s 0 0 A) (F0 m 73 ls []) := by
    intro  n
    induction n with
    | zero =>
      intro vz x1 x2 x3 hE
      cases hE
    | succ n ih =>
      intro vz x1 x2 x3 hE H locs ls hW hl
      replace hE : (if (vz 9 0) ≤ x3 then (f_X7_meet_106 10100 vz x1 x2 0) else (if cr_in x3 12 = true then (f_X7_of vz (vz 7 (cr_x x3)) 0).bind fun q7 => f_X7_meet_73 n (cr_a vz 7 (cr_x x3) q7) x1 x2 (x3 + 1) else none)) = some out := hE
      refine lv_iload_n hx hb dX7_meet_73 rfl (lv_at hl 3 rfl) ?_
      refine lv_aload_n hx hb dX7_meet_74 rfl (lv_at hl 0 rfl) ?_
      refine cr_get C hW.1 0 rfl rfl 9 (by decide) hinX7 k0 (v := .int (vz 9 0)) rfl dX7_meet_75 ?_
      refine lv_icmp_ge (tgt := 104) hx hb dX7_meet_78 (by decide) (fun c5 => ?_) (fun c5 => ?_)
      · rw [if_pos c5] at hE
        refine lv_iconst (v := 0) hx hb dX7_meet_104 (by decide) ?_
        refine lv_istore_n (lv' := [(3, .int 0), (0, .ref (az 0)), (1, .int x1), (2, .int x2)]) hx hb dX7_meet_105 rfl hl (by decide) rfl (fun ls hl => ?_)
        exact n106 10100 vz x1 x2 0 hE _ _ _ hW (lv_sub hl [1, 2, 3, 0] rfl)
      · rw [if_neg c5] at hE
        refine lv_aload_n hx hb dX7_meet_81 rfl (lv_at hl 0 rfl) ?_
        refine cr_get C hW.1 0 rfl rfl 7 (by decide) hinX7 k2 (v := .ref (az 8)) rfl dX7_meet_82 ?_
        refine lv_iload_n hx hb dX7_meet_85 rfl (lv_at hl 3 rfl) ?_
        refine lv_aload_n hx hb dX7_meet_86 rfl (lv_at hl 0 rfl) ?_
        refine lv_aload_n hx hb dX7_meet_87 rfl (lv_at hl 0 rfl) ?_
        refine cr_get C hW.1 0 rfl rfl 7 (by decide) hinX7 k2 (v := .ref (az 8)) rfl dX7_meet_88 ?_
        refine lv_iload_n hx hb dX7_meet_91 rfl (lv_at hl 3 rfl) ?_
        obtain ⟨i6, hE⟩ := cr_ifn hE
        refine cr_ald C hW.1 5 (f := vz 7) (k := cr_x x3) rfl i6 (cr_xe _) dX7_meet_92 ?_
        refine lv_iconst (v := 0) hx hb dX7_meet_93 (by decide) ?_
        obtain ⟨q7, hq7, hE⟩ := cr_bind hE
        refine cr_vRwq (n := 2) (As := [.int (vz 7 (cr_x x3)), .int 0]) (rest := [.int x3, .ref (az 8)]) C hW (m_X7_of L D ct az vz (vz 7 (cr_x x3)) 0 q7 hq7) (cwV 2 hts gX7_meet_X7_of rfl rfl rfl (by decide +kernel) ⟨Nat.le_of_ble_eq_true rfl, Nat.le_of_ble_eq_true rfl⟩) [0, 1, 2, 3, 4, 5, 6, 7] rfl 0 rfl rfl rfl hl.1 rfl (Nat.le_of_ble_eq_true rfl) dX7_meet_94 ⟨Nat.zero_le _, Nat.zero_le _⟩ (fun H locs hW => ?_)
        refine cr_ast C hW 5 rfl (k := (cr_x x3)) i6 (cr_xe _) (w' := cr_wM ct az (cr_a vz 7 (cr_x x3) q7)) rfl dX7_meet_97 (fun H locs hW => ?_)
        refine lv_iinc (v := x3 + 1) (lv' := [(3, .int (x3 + 1)), (0, .ref (az 0)), (1, .int x1), (2, .int x2)]) hx hb dX7_meet_98 hl (k := 3) rfl (by first | rfl | decide) (by decide) rfl (fun ls hl => ?_)
        refine lv_goto (tgt := 73) hx hb dX7_meet_101 (by decide) ?_
        exact ih (cr_a vz 7 (cr_x x3) q7) x1 x2 (x3 + 1) hE _ _ _ hW (lv_sub hl [1, 2, 3, 0] rfl)
  replace hE : ((f_X7_isContract vz x1).bind fun q8 => if q8 = 0 then (some ((-2000000001), vz)) else ((f_X7_priceOf vz x1).bind fun q10 => (f_X7_gives vz q10 (vz 0 0)).bind fun q11 => (f_X7_monthOf q11 x1).bind fun q12 => if q12 = (q11 0 0) then (if (q11 10 0) ≤ 0 then ((f_X7_changes q11).bind fun q15 => (f_X7_priceOf q15 x1).bind fun q16 => (f_X7_paidAll q15 q16 (q15 0 0) 0).bind fun q17 => f_X7_meet_73 10100 q15 x1 q17 0) else (some ((-2000000002), q11))) else (some ((-2000000002), q11)))) = some out := hE
  refine lv_aload_n hx hb dX7_meet_0 rfl (lv_at hl 0 rfl) ?_
  refine lv_iload_n hx hb dX7_meet_1 rfl (lv_at hl 1 rfl) ?_
  obtain ⟨q8, hq8, hE⟩ := cr_bind hE
  refine cr_vRwq (n := 1) (As := [.int x1]) (rest := []) C hW (m_X7_isContract L D ct az vz x1 q8 hq8) (cwV 1 hts gX7_meet_X7_isContract rfl rfl rfl (by decide +kernel) ⟨Nat.le_of_ble_eq_true rfl, Nat.le_of_ble_eq_true rfl⟩) [0, 1, 2, 3, 4, 5, 6, 7] rfl 0 rfl rfl rfl hl.1 rfl (Nat.le_of_ble_eq_true rfl) dX7_meet_2 ⟨Nat.zero_le _, Nat.zero_le _⟩ (fun H locs hW => ?_)
  refine lv_if_ne (tgt := 11) hx hb dX7_meet_5 (by decide) (fun c9 => ?_) (fun c9 => ?_)
  · rw [if_neg c9] at hE
    refine lv_aload_n hx hb dX7_meet_11 rfl (lv_at hl 0 rfl) ?_
    refine lv_aload_n hx hb dX7_meet_12 rfl (lv_at hl 0 rfl) ?_
    refine lv_iload_n hx hb dX7_meet_13 rfl (lv_at hl 1 rfl) ?_
    obtain ⟨q10, hq10, hE⟩ := cr_bind hE
    refine cr_vRwq (n := 1) (As := [.int x1]) (rest := [.ref (az 0)]) C hW (m_X7_priceOf L D ct az vz x1 q10 hq10) (cwV 1 hts gX7_meet_X7_priceOf rfl rfl rfl (by decide +kernel) ⟨Nat.le_of_ble_eq_true rfl, Nat.le_of_ble_eq_true rfl⟩) [0, 1, 2, 3, 4, 5, 6, 7] rfl 0 rfl rfl rfl hl.1 rfl (Nat.le_of_ble_eq_true rfl) dX7_meet_14 ⟨Nat.zero_le _, Nat.zero_le _⟩ (fun H locs hW => ?_)
    refine lv_aload_n hx hb dX7_meet_17 rfl (lv_at hl 0 rfl) ?_
    refine cr_get C hW.1 0 rfl rfl 0 (by decide) hinX7 k1 (v := .ref (az 1)) rfl dX7_meet_18 ?_
    refine lv_iconst (v := 0) hx hb dX7_meet_21 (by decide) ?_
    refine cr_ald C hW.1 1 (f := vz 0) (k := 0) rfl (by decide) (by decide) dX7_meet_22 ?_
    obtain ⟨q11, hq11, hE⟩ := cr_bind hE
    refine cr_vVq (n := 2) (As := [.int q10, .int (vz 0 0)]) (rest := []) C hW (m_X7_gives L D ct az vz q10 (vz 0 0) _ q11 hq11) (cwV 2 hts gX7_meet_X7_gives rfl rfl rfl (by decide +kernel) ⟨Nat.le_of_ble_eq_true rfl, Nat.le_of_ble_eq_true rfl⟩) [0, 1, 2, 3, 4, 5, 6, 7] [] [0, 1, 2, 3, 4, 5, 6, 7] (cr_wM ct az q11) rfl rfl rfl ⟨by decide +kernel, by decide +kernel, by decide +kernel, by decide +kernel⟩ 0 rfl rfl rfl hl.1 rfl (Nat.le_of_ble_eq_true rfl) dX7_meet_23 ⟨Nat.zero_le _, Nat.zero_le _⟩ (fun H locs hW => ?_)
    refine lv_aload_n hx hb dX7_meet_26 rfl (lv_at hl 0 rfl) ?_
    refine lv_iload_n hx hb dX7_meet_27 rfl (lv_at hl 1 rfl) ?_
    obtain ⟨q12, hq12, hE⟩ := cr_bind hE
    refine cr_vRwq (n := 1) (As := [.int x1]) (rest := []) C hW (m_X7_monthOf L D ct az q11 x1 q12 hq12) (cwV 1 hts gX7_meet_X7_monthOf rfl rfl rfl (by decide +kernel) ⟨Nat.le_of_ble_eq_true rfl, Nat.le_of_ble_eq_true rfl⟩) [0, 1, 2, 3, 4, 5, 6, 7] rfl 0 rfl rfl rfl hl.1 rfl (Nat.le_of_ble_eq_true rfl) dX7_meet_28 ⟨Nat.zero_le _, Nat.zero_le _⟩ (fun H locs hW => ?_)
    refine lv_aload_n hx hb dX7_meet_31 rfl (lv_at hl 0 rfl) ?_
    refine cr_get C hW.1 0 rfl rfl 0 (by decide) hinX7 k1 (v := .ref (az 1)) rfl dX7_meet_32 ?_
    refine lv_iconst (v := 0) hx hb dX7_meet_35 (by decide) ?_
    refine cr_ald C hW.1 1 (f := q11 0) (k := 0) rfl (by decide) (by decide) dX7_meet_36 ?_
    refine lv_icmp_ne (tgt := 47) hx hb dX7_meet_37 (by decide) (fun c13 => ?_) (fun c13 => ?_)
    · rw [if_neg c13] at hE
      refine cr_ldc C k4 dX7_meet_47 ?_
      exact cr_retW C (w := (fun u : cr_V => cr_wM ct az u)) q11 hW (Option.some.inj hE) dX7_meet_49
    · rw [if_pos c13] at hE
      refine lv_aload_n hx hb dX7_meet_40 rfl (lv_at hl 0 rfl) ?_
      refine cr_get C hW.1 0 rfl rfl 10 (by decide) hinX7 k5 (v := .int (q11 10 0)) rfl dX7_meet_41 ?_
      refine lv_if_le (tgt := 50) hx hb dX7_meet_44 (by decide) (fun c14 => ?_) (fun c14 => ?_)
      · rw [if_pos c14] at hE
        refine lv_aload_n hx hb dX7_meet_50 rfl (lv_at hl 0 rfl) ?_
        obtain ⟨q15, hq15, hE⟩ := cr_bind hE
        refine cr_vVq (n := 0) (As := []) (rest := []) C hW (m_X7_changes L D ct az q11 _ q15 hq15) (cwV 0 hts gX7_meet_X7_changes rfl rfl rfl (by decide +kernel) ⟨Nat.le_of_ble_eq_true rfl, Nat.le_of_ble_eq_true rfl⟩) [0, 1, 2, 3, 4, 5, 6, 7] [] [0, 1, 2, 3, 4, 5, 6, 7] (cr_wM ct az q15) rfl rfl rfl ⟨by decide +kernel, by decide +kernel, by decide +kernel, by decide +kernel⟩ 0 rfl rfl rfl hl.1 rfl (Nat.le_of_ble_eq_true rfl) dX7_meet_51 ⟨Nat.zero_le _, Nat.zero_le _⟩ (fun H locs hW => ?_)
        refine lv_aload_n hx hb dX7_meet_54 rfl (lv_at hl 0 rfl) ?_
        refine lv_aload_n hx hb dX7_meet_55 rfl (lv_at hl 0 rfl) ?_
        refine lv_iload_n hx hb dX7_meet_56 rfl (lv_at hl 1 rfl) ?_
        obtain ⟨q16, hq16, hE⟩ := cr_bind hE
        refine cr_vRwq (n := 1) (As := [.int x1]) (rest := [.ref (az 0)]) C hW (m_X7_priceOf L D ct az q15 x1 q16 hq16) (cwV 1 hts gX7_meet_X7_priceOf rfl rfl rfl (by decide +kernel) ⟨Nat.le_of_ble_eq_true rfl, Nat.le_of_ble_eq_true rfl⟩) [0, 1, 2, 3, 4, 5, 6, 7] rfl 0 rfl rfl rfl hl.1 rfl (Nat.le_of_ble_eq_true rfl) dX7_meet_57 ⟨Nat.zero_le _, Nat.zero_le _⟩ (fun H locs hW => ?_)
        refine lv_aload_n hx hb dX7_meet_60 rfl (lv_at hl 0 rfl) ?_
        refine cr_get C hW.1 0 rfl rfl 0 (by decide) hinX7 k1 (v := .ref (az 1)) rfl dX7_meet_61 ?_
        refine lv_iconst (v := 0) hx hb dX7_meet_64 (by decide) ?_
        refine cr_ald C hW.1 1 (f := q15 0) (k := 0) rfl (by decide) (by decide) dX7_meet_65 ?_
        refine lv_iconst (v := 0) hx hb dX7_meet_66 (by decide) ?_
        obtain ⟨q17, hq17, hE⟩ := cr_bind hE
        refine cr_vRwq (n := 3) (As := [.int q16, .int (q15 0 0), .int 0]) (rest := []) C hW (m_X7_paidAll L D ct az q15 q16 (q15 0 0) 0 q17 hq17) (cwV 3 hts gX7_meet_X7_paidAll rfl rfl rfl (by decide +kernel) ⟨Nat.le_of_ble_eq_true rfl, Nat.le_of_ble_eq_true rfl⟩) [0, 1, 2, 3, 4, 5, 6, 7] rfl 0 rfl rfl rfl hl.1 rfl (Nat.le_of_ble_eq_true rfl) dX7_meet_67 ⟨Nat.zero_le _, Nat.zero_le _⟩ (fun H locs hW => ?_)
        refine lv_istore_n (lv' := [(2, .int q17), (0, .ref (az 0)), (1, .int x1)]) hx hb dX7_meet_70 rfl hl (by decide) rfl (fun ls hl => ?_)
        refine lv_iconst (v := 0) hx hb dX7_meet_71 (by decide) ?_
        refine lv_istore_n (lv' := [(3, .int 0), (2, .int q17), (0, .ref (az 0)), (1, .int x1)]) hx hb dX7_meet_72 rfl hl (by decide) rfl (fun ls hl => ?_)
        exact n73 10100 q15 x1 q17 0 hE _ _ _ hW (lv_sub hl [2, 3, 1, 0] rfl)
      · rw [if_neg c14] at hE
        refine cr_ldc C k4 dX7_meet_47 ?_
        exact cr_retW C (w := (fun u : cr_V => cr_wM ct az u)) q11 hW (Option.some.inj hE) dX7_meet_49
  · rw [if_pos c9] at hE
    refine cr_ldc C k6 dX7_meet_8 ?_
    exact cr_retW C (w := (fun u : cr_V => cr_wM ct az u)) vz hW (Option.some.inj hE) dX7_meet_10

set_option maxHeartbeats 4000000 in
set_option maxRecDepth 100000 in
theorem m_X7_fails (L : Launch) (D : va_G) (ct : Nat → ClassId) (az : Nat → Nat) (vz : cr_V)  (sz : Nat) (out : Int32 × cr_V) (hE : f_X7_fails vz = some out) : Met L yX7_fails wsX7_fails ({ frames := 1, cells := 0, slots := 0, locals := 22 } : Room) (cr_pW D ct (cr_wM ct az vz) sz [.ref (az 0)]) (cr_QW D (cr_wM ct az vz) sz (fun r u => (r, u) = out) (fun u : cr_V => cr_wM ct az u)) 0 0 (va_A (cr_wM ct az vz) sz) := by
  have k0 : (Cond.fieldLink RX7 7 "CupReceiptsModel" "s" "[I") ∈ wsX7_fails := List.mem_of_getElem? (i := 1) rfl
  have hinX7 : ∀ w ∈ wsX70, w ∈ wsX7_fails := fun w h => List.mem_cons_of_mem _ (List.mem_append_right _ h)
  refine cr_metW (Qc := fun A => va_Qi (fun r u => (r, u) = out) (fun u t => cr_at D A ((fun u : cr_V => cr_wM ct az u) u) t) A) (by decide) rfl rfl (Nat.le_of_ble_eq_true rfl) ?_
  intro p e s m args below meth c ls A C hW hl
  obtain ⟨hx, hb, hml, hown, hts, hr, hlocks, hK, hN⟩ := id C
  have hl : lv_has ls 3 [(0, .ref (az 0))] := hl
  have n72 : ∀ (k12_ : cr_V → Int32 → Int32 → Option (Int32 × cr_V)) (ih12_ : ∀ (vz : cr_V) (x1 : Int32) (x2 : Int32) (hE : k12_ vz x1 x2 = some out) (H : Heap) (locs : List Loc) (ls : Array Slot) (hW : cr_wd D A s (cr_wM ct az vz) H locs) (hl : lv_has ls 3 [(0, .ref (az 0)), (1, .int x1), (2, .int x2)]), W p L e ({ frames := 1, cells := 0, slots := 0, locals := 22 } : Room) s m args below meth c H locs 0 0 (MQ below (va_Qi (fun r u => (r, u) = out) (fun u t => cr_at D A ((fun u : cr_V => cr_wM ct az u) u) t) A) args s 0 0 A) (F0 m 12 ls [])), ∀ (vz : cr_V) (x1 : Int32) (x2 : Int32) (hE : f_X7_fails_72 k12_ vz x1 x2 = some out) (H : Heap) (locs : List Loc) (ls : Array Slot) (hW : cr_wd D A s (cr_wM ct az vz) H locs) (hl : lv_has ls 3 [(0, .ref (az 0)), (1, .int x1), (2, .int x2)]), W p L e ({ frames := 1, cells := 0, slots := 0, locals := 22 } : Room) s m args below meth c H locs 0 0 (MQ below (va_Qi (fun r u => (r, u) = out) (fun u t => cr_at D A ((fun u : cr_V => cr_wM ct az u) u) t) A) args s 0 0 A) (F0 m 72 ls []) := by
    intro k12_ ih12_ vz x1 x2 hE H locs ls hW hl
    replace hE : (k12_ vz x1 (x2 + (-1))) = some out := hE
    refine lv_iinc (v := x2 + (-1)) (lv' := [(2, .int (x2 + (-1))), (0, .ref (az 0)), (1, .int x1)]) hx hb dX7_fails_72 hl (k := 2) rfl (by first | rfl | decide) (by decide) rfl (fun ls hl => ?_)
    refine lv_goto (tgt := 12) hx hb dX7_fails_75 (by decide) ?_
    exact ih12_ vz x1 (x2 + (-1)) hE _ _ _ hW (lv_sub hl [1, 2, 0] rfl)
  have n12 :  ∀ (n : Nat), ∀ (vz : cr_V) (x1 : Int32) (x2 : Int32) (hE : f_X7_fails_12  n vz x1 x2 = some out) (H : Heap) (locs : List Loc) (ls : Array Slot) (hW : cr_wd D A s (cr_wM ct az vz) H locs) (hl : lv_has ls 3 [(0, .ref (az 0)), (1, .int x1), (2, .int x2)]), W p L e ({ frames := 1, cells := 0, slots := 0, locals := 22 } : Room) s m args below meth c H locs 0 0 (MQ below (va_Qi (fun r u => (r, u) = out) (fun u t => cr_at D A ((fun u : cr_V => cr_wM ct az u) u) t) A) args s 0 0 A) (F0 m 12 ls []) := by
    intro  n
    induction n with
    | zero =>
      intro vz x1 x2 hE
      cases hE
    | succ n ih =>
      intro vz x1 x2 hE H locs ls hW hl
      replace hE : (if x2 < 0 then (some (x1, vz)) else ((f_X7_monthOf vz x2).bind fun q2 => if q2 = (vz 0 0) then ((f_X7_closes vz x2).bind fun q4 => f_X7_fails_72 (f_X7_fails_12 n) (cr_a (cr_a q4 0 1 ((q4 0 1) - ((q4 0 8) * (q4 0 12)))) 0 3 (((cr_a q4 0 1 ((q4 0 1) - ((q4 0 8) * (q4 0 12)))) 0 3) + 1)) (x1 + 1) x2) else (f_X7_fails_72 (f_X7_fails_12 n) vz x1 x2))) = some out := hE
      refine lv_iload_n hx hb dX7_fails_12 rfl (lv_at hl 2 rfl) ?_
      refine lv_if_lt (tgt := 78) hx hb dX7_fails_13 (by decide) (fun c1 => ?_) (fun c1 => ?_)
      · rw [if_pos c1] at hE
        refine lv_iload_n hx hb dX7_fails_78 rfl (lv_at hl 1 rfl) ?_
        exact cr_retW C (w := (fun u : cr_V => cr_wM ct az u)) vz hW (Option.some.inj hE) dX7_fails_79
      · rw [if_neg c1] at hE
        refine lv_aload_n hx hb dX7_fails_16 rfl (lv_at hl 0 rfl) ?_
        refine lv_iload_n hx hb dX7_fails_17 rfl (lv_at hl 2 rfl) ?_
        obtain ⟨q2, hq2, hE⟩ := cr_bind hE
        refine cr_vRwq (n := 1) (As := [.int x2]) (rest := []) C hW (m_X7_monthOf L D ct az vz x2 q2 hq2) (cwV 1 hts gX7_fails_X7_monthOf rfl rfl rfl (by decide +kernel) ⟨Nat.le_of_ble_eq_true rfl, Nat.le_of_ble_eq_true rfl⟩) [0, 1, 2, 3, 4, 5, 6, 7] rfl 0 rfl rfl rfl hl.1 rfl (Nat.le_of_ble_eq_true rfl) dX7_fails_18 ⟨Nat.zero_le _, Nat.zero_le _⟩ (fun H locs hW => ?_)
        refine lv_aload_n hx hb dX7_fails_21 rfl (lv_at hl 0 rfl) ?_
        refine cr_get C hW.1 0 rfl rfl 0 (by decide) hinX7 k0 (v := .ref (az 1)) rfl dX7_fails_22 ?_
        refine lv_iconst (v := 0) hx hb dX7_fails_25 (by decide) ?_
        refine cr_ald C hW.1 1 (f := vz 0) (k := 0) rfl (by decide) (by decide) dX7_fails_26 ?_
        refine lv_icmp_ne (tgt := 72) hx hb dX7_fails_27 (by decide) (fun c3 => ?_) (fun c3 => ?_)
        · rw [if_neg c3] at hE
          exact n72 (f_X7_fails_12 n) ih vz x1 x2 hE _ _ _ hW (lv_sub hl [0, 1, 2] rfl)
        · rw [if_pos c3] at hE
          refine lv_aload_n hx hb dX7_fails_30 rfl (lv_at hl 0 rfl) ?_
          refine lv_iload_n hx hb dX7_fails_31 rfl (lv_at hl 2 rfl) ?_
          obtain ⟨q4, hq4, hE⟩ := cr_bind hE
          refine cr_vVq (n := 1) (As := [.int x2]) (rest := []) C hW (m_X7_closes L D ct az vz x2 _ q4 hq4) (cwV 1 hts gX7_fails_X7_closes rfl rfl rfl (by decide +kernel) ⟨Nat.le_of_ble_eq_true rfl, Nat.le_of_ble_eq_true rfl⟩) [0, 1, 2, 3, 4, 5, 6, 7] [] [0, 1, 2, 3, 4, 5, 6, 7] (cr_wM ct az q4) rfl rfl rfl ⟨by decide +kernel, by decide +kernel, by decide +kernel, by decide +kernel⟩ 0 rfl rfl rfl hl.1 rfl (Nat.le_of_ble_eq_true rfl) dX7_fails_32 ⟨Nat.zero_le _, Nat.zero_le _⟩ (fun H locs hW => ?_)
          refine lv_aload_n hx hb dX7_fails_35 rfl (lv_at hl 0 rfl) ?_
          refine cr_get C hW.1 0 rfl rfl 0 (by decide) hinX7 k0 (v := .ref (az 1)) rfl dX7_fails_36 ?_
          refine lv_iconst (v := 1) hx hb dX7_fails_39 (by decide) ?_
          refine lv_dup2_11 hx hb dX7_fails_40 rfl rfl ?_
          refine cr_ald C hW.1 1 (f := q4 0) (k := 1) rfl (by decide) (by decide) dX7_fails_41 ?_
          refine lv_aload_n hx hb dX7_fails_42 rfl (lv_at hl 0 rfl) ?_
          refine cr_get C hW.1 0 rfl rfl 0 (by decide) hinX7 k0 (v := .ref (az 1)) rfl dX7_fails_43 ?_
          refine lv_bipush (v := 8) hx hb dX7_fails_46 (by decide) ?_
          refine cr_ald C hW.1 1 (f := q4 0) (k := 8) rfl (by decide) (by decide) dX7_fails_48 ?_
          refine lv_aload_n hx hb dX7_fails_49 rfl (lv_at hl 0 rfl) ?_
          refine cr_get C hW.1 0 rfl rfl 0 (by decide) hinX7 k0 (v := .ref (az 1)) rfl dX7_fails_50 ?_
          refine lv_bipush (v := 12) hx hb dX7_fails_53 (by decide) ?_
          refine cr_ald C hW.1 1 (f := q4 0) (k := 12) rfl (by decide) (by decide) dX7_fails_55 ?_
          refine lv_imul hx hb dX7_fails_56 ?_
          refine lv_isub hx hb dX7_fails_57 ?_
          refine cr_ast C hW 1 rfl (k := 1) (by decide) (by decide) (w' := cr_wM ct az (cr_a q4 0 1 ((q4 0 1) - ((q4 0 8) * (q4 0 12))))) rfl dX7_fails_58 (fun H locs hW => ?_)
          refine lv_aload_n hx hb dX7_fails_59 rfl (lv_at hl 0 rfl) ?_
          refine cr_get C hW.1 0 rfl rfl 0 (by decide) hinX7 k0 (v := .ref (az 1)) rfl dX7_fails_60 ?_
          refine lv_iconst (v := 3) hx hb dX7_fails_63 (by decide) ?_
          refine lv_dup2_11 hx hb dX7_fails_64 rfl rfl ?_
          refine cr_ald C hW.1 1 (f := (cr_a q4 0 1 ((q4 0 1) - ((q4 0 8) * (q4 0 12)))) 0) (k := 3) rfl (by decide) (by decide) dX7_fails_65 ?_
          refine lv_iconst (v := 1) hx hb dX7_fails_66 (by decide) ?_
          refine lv_iadd hx hb dX7_fails_67 ?_
          refine cr_ast C hW 1 rfl (k := 3) (by decide) (by decide) (w' := cr_wM ct az (cr_a (cr_a q4 0 1 ((q4 0 1) - ((q4 0 8) * (q4 0 12)))) 0 3 (((cr_a q4 0 1 ((q4 0 1) - ((q4 0 8) * (q4 0 12)))) 0 3) + 1))) rfl dX7_fails_68 (fun H locs hW => ?_)
          refine lv_iinc (v := x1 + 1) (lv' := [(1, .int (x1 + 1)), (0, .ref (az 0)), (2, .int x2)]) hx hb dX7_fails_69 hl (k := 1) rfl (by first | rfl | decide) (by decide) rfl (fun ls hl => ?_)
          exact n72 (f_X7_fails_12 n) ih (cr_a (cr_a q4 0 1 ((q4 0 1) - ((q4 0 8) * (q4 0 12)))) 0 3 (((cr_a q4 0 1 ((q4 0 1) - ((q4 0 8) * (q4 0 12)))) 0 3) + 1)) (x1 + 1) x2 hE _ _ _ hW (lv_sub hl [1, 0, 2] rfl)
  replace hE : (f_X7_fails_12 10100 vz 0 ((vz 0 7) - 1)) = some out := hE
  refine lv_iconst (v := 0) hx hb dX7_fails_0 (by decide) ?_
  refine lv_istore_n (lv' := [(1, .int 0), (0, .ref (az 0))]) hx hb dX7_fails_1 rfl hl (by decide) rfl (fun ls hl => ?_)
  refine lv_aload_n hx hb dX7_fails_2 rfl (lv_at hl 1 rfl) ?_
  refine cr_get C hW.1 0 rfl rfl 0 (by decide) hinX7 k0 (v := .ref (az 1)) rfl dX7_fails_3 ?_
  refine lv_bipush (v := 7) hx hb dX7_fails_6 (by decide) ?_
  refine cr_ald C hW.1 1 (f := vz 0) (k := 7) rfl (by decide) (by decide) dX7_fails_8 ?_
  refine lv_iconst (v := 1) hx hb dX7_fails_9 (by decide) ?_
  refine lv_isub hx hb dX7_fails_10 ?_
  refine lv_istore_n (lv' := [(2, .int ((vz 0 7) - 1)), (1, .int 0), (0, .ref (az 0))]) hx hb dX7_fails_11 rfl hl (by decide) rfl (fun ls hl => ?_)
  exact n12 10100 vz 0 ((vz 0 7) - 1) hE _ _ _ hW (lv_sub hl [2, 1, 0] rfl)

set_option maxHeartbeats 4000000 in
set_option maxRecDepth 100000 in
theorem m_X7_pass (L : Launch) (D : va_G) (ct : Nat → ClassId) (az : Nat → Nat) (vz : cr_V) (x1 : Int32) (sz : Nat) (out : Int32 × cr_V) (hE : f_X7_pass vz x1 = some out) : Met L yX7_pass wsX7_pass ({ frames := 2, cells := 0, slots := 0, locals := 44 } : Room) (cr_pW D ct (cr_wM ct az vz) sz [.ref (az 0), .int x1]) (cr_QW D (cr_wM ct az vz) sz (fun r u => (r, u) = out) (fun u : cr_V => cr_wM ct az u)) 0 0 (va_A (cr_wM ct az vz) sz) := by
  have k0 : (Cond.fieldLink RX7 7 "CupReceiptsModel" "s" "[I") ∈ wsX7_pass := List.mem_of_getElem? (i := 2) rfl
  have k1 : (Cond.constant RX7 66 (-2000000003)) ∈ wsX7_pass := List.mem_of_getElem? (i := 3) rfl
  have k2 : (Cond.constant RX7 65 (-2000000001)) ∈ wsX7_pass := List.mem_of_getElem? (i := 1) rfl
  have hinX7 : ∀ w ∈ wsX70, w ∈ wsX7_pass := fun w h => List.mem_cons_of_mem _ (List.mem_append_right _ h)
  refine cr_metW (Qc := fun A => va_Qi (fun r u => (r, u) = out) (fun u t => cr_at D A ((fun u : cr_V => cr_wM ct az u) u) t) A) (by decide) rfl rfl (Nat.le_of_ble_eq_true rfl) ?_
  intro p e s m args below meth c ls A C hW hl
  obtain ⟨hx, hb, hml, hown, hts, hr, hlocks, hK, hN⟩ := id C
  have hl : lv_has ls 4 [(0, .ref (az 0)), (1, .int x1)] := hl
  have n38 :  ∀ (n : Nat), ∀ (vz : cr_V) (x1 : Int32) (x2 : Int32) (x3 : Int32) (hE : f_X7_pass_38  n vz x1 x2 x3 = some out) (H : Heap) (locs : List Loc) (ls : Array Slot) (hW : cr_wd D A s (cr_wM ct az vz) H locs) (hl : lv_has ls 4 [(0, .ref (az 0)), (1, .int x1), (2, .int x2), (3, .int x3)]), W p L e ({ frames := 2, cells := 0, slots := 0, locals := 44 } : Room) s m args below meth c H locs 0 0 (MQ below (va_Qi (fun r u => (r, u) = out) (fun u t => cr_at D A ((fun u : cr_V => cr_wM ct az u) u) t) A) args s 0 0 A) (F0 m 38 ls []) := by
    intro  n
    induction n with
    | zero =>
      intro vz x1 x2 x3 hE
      cases hE
    | succ n ih =>
      intro vz x1 x2 x3 hE H locs ls hW hl
      replace hE : (if x1 ≤ x3 then (some (x2, vz)) else ((f_X7_fails vz).bind fun q2 => f_X7_pass_38 n (cr_a q2.2 0 0 ((q2.2 0 0) + 1)) x1 (x2 + q2.1) (x3 + 1))) = some out := hE
      refine lv_iload_n hx hb dX7_pass_38 rfl (lv_at hl 3 rfl) ?_
      refine lv_iload_n hx hb dX7_pass_39 rfl (lv_at hl 1 rfl) ?_
      refine lv_icmp_ge (tgt := 66) hx hb dX7_pass_40 (by decide) (fun c1 => ?_) (fun c1 => ?_)
      · rw [if_pos c1] at hE
        refine lv_iload_n hx hb dX7_pass_66 rfl (lv_at hl 2 rfl) ?_
        exact cr_retW C (w := (fun u : cr_V => cr_wM ct az u)) vz hW (Option.some.inj hE) dX7_pass_67
      · rw [if_neg c1] at hE
        refine lv_iload_n hx hb dX7_pass_43 rfl (lv_at hl 2 rfl) ?_
        refine lv_aload_n hx hb dX7_pass_44 rfl (lv_at hl 0 rfl) ?_
        obtain ⟨q2, hq2, hE⟩ := cr_bind hE
        refine cr_vWq (n := 0) (As := []) (rest := [.int x2]) C hW (m_X7_fails L D ct az vz _ q2 hq2) (cwV 0 hts gX7_pass_X7_fails rfl rfl rfl (by decide +kernel) ⟨Nat.le_of_ble_eq_true rfl, Nat.le_of_ble_eq_true rfl⟩) [0, 1, 2, 3, 4, 5, 6, 7] [] [0, 1, 2, 3, 4, 5, 6, 7] (cr_wM ct az q2.2) rfl rfl rfl ⟨by decide +kernel, by decide +kernel, by decide +kernel, by decide +kernel⟩ 0 rfl rfl rfl hl.1 rfl (Nat.le_of_ble_eq_true rfl) dX7_pass_45 ⟨Nat.zero_le _, Nat.zero_le _⟩ (fun H locs hW => ?_)
        refine lv_iadd hx hb dX7_pass_48 ?_
        refine lv_istore_n (lv' := [(2, .int (x2 + q2.1)), (0, .ref (az 0)), (1, .int x1), (3, .int x3)]) hx hb dX7_pass_49 rfl hl (by decide) rfl (fun ls hl => ?_)
        refine lv_aload_n hx hb dX7_pass_50 rfl (lv_at hl 1 rfl) ?_
        refine cr_get C hW.1 0 rfl rfl 0 (by decide) hinX7 k0 (v := .ref (az 1)) rfl dX7_pass_51 ?_
        refine lv_iconst (v := 0) hx hb dX7_pass_54 (by decide) ?_
        refine lv_dup2_11 hx hb dX7_pass_55 rfl rfl ?_
        refine cr_ald C hW.1 1 (f := q2.2 0) (k := 0) rfl (by decide) (by decide) dX7_pass_56 ?_
        refine lv_iconst (v := 1) hx hb dX7_pass_57 (by decide) ?_
        refine lv_iadd hx hb dX7_pass_58 ?_
        refine cr_ast C hW 1 rfl (k := 0) (by decide) (by decide) (w' := cr_wM ct az (cr_a q2.2 0 0 ((q2.2 0 0) + 1))) rfl dX7_pass_59 (fun H locs hW => ?_)
        refine lv_iinc (v := x3 + 1) (lv' := [(3, .int (x3 + 1)), (2, .int (x2 + q2.1)), (0, .ref (az 0)), (1, .int x1)]) hx hb dX7_pass_60 hl (k := 3) rfl (by first | rfl | decide) (by decide) rfl (fun ls hl => ?_)
        refine lv_goto (tgt := 38) hx hb dX7_pass_63 (by decide) ?_
        exact ih (cr_a q2.2 0 0 ((q2.2 0 0) + 1)) x1 (x2 + q2.1) (x3 + 1) hE _ _ _ hW (lv_sub hl [2, 3, 1, 0] rfl)
  replace hE : ((f_X7_in x1 1 24).bind fun q3 => if q3 = 0 then (some ((-2000000001), vz)) else (if ((vz 0 0) + x1) ≤ 999 then ((f_X7_changes vz).bind fun q6 => f_X7_pass_38 10100 q6 x1 0 0) else (some ((-2000000003), vz)))) = some out := hE
  refine lv_iload_n hx hb dX7_pass_0 rfl (lv_at hl 1 rfl) ?_
  refine lv_iconst (v := 1) hx hb dX7_pass_1 (by decide) ?_
  refine lv_bipush (v := 24) hx hb dX7_pass_2 (by decide) ?_
  obtain ⟨q3, hq3, hE⟩ := cr_bind hE
  refine cr_sRwq (n := 3) (As := [.int x1, .int 1, .int 24]) (rest := []) C hW (m_X7_in L D ct x1 1 24 q3 hq3) (va_cwS 3 hts gX7_pass_X7_in rfl rfl rfl (by decide +kernel) ⟨Nat.le_of_ble_eq_true rfl, Nat.le_of_ble_eq_true rfl⟩) rfl hl.1 rfl (Nat.le_of_ble_eq_true rfl) dX7_pass_4 ⟨Nat.zero_le _, Nat.zero_le _⟩ (fun H locs hW => ?_)
  refine lv_if_ne (tgt := 13) hx hb dX7_pass_7 (by decide) (fun c4 => ?_) (fun c4 => ?_)
  · rw [if_neg c4] at hE
    refine lv_aload_n hx hb dX7_pass_13 rfl (lv_at hl 0 rfl) ?_
    refine cr_get C hW.1 0 rfl rfl 0 (by decide) hinX7 k0 (v := .ref (az 1)) rfl dX7_pass_14 ?_
    refine lv_iconst (v := 0) hx hb dX7_pass_17 (by decide) ?_
    refine cr_ald C hW.1 1 (f := vz 0) (k := 0) rfl (by decide) (by decide) dX7_pass_18 ?_
    refine lv_iload_n hx hb dX7_pass_19 rfl (lv_at hl 1 rfl) ?_
    refine lv_iadd hx hb dX7_pass_20 ?_
    refine lv_sipush (v := 999) hx hb dX7_pass_21 (by decide) ?_
    refine lv_icmp_le (tgt := 30) hx hb dX7_pass_24 (by decide) (fun c5 => ?_) (fun c5 => ?_)
    · rw [if_pos c5] at hE
      refine lv_aload_n hx hb dX7_pass_30 rfl (lv_at hl 0 rfl) ?_
      obtain ⟨q6, hq6, hE⟩ := cr_bind hE
      refine cr_vVq (n := 0) (As := []) (rest := []) C hW (m_X7_changes L D ct az vz _ q6 hq6) (cwV 0 hts gX7_pass_X7_changes rfl rfl rfl (by decide +kernel) ⟨Nat.le_of_ble_eq_true rfl, Nat.le_of_ble_eq_true rfl⟩) [0, 1, 2, 3, 4, 5, 6, 7] [] [0, 1, 2, 3, 4, 5, 6, 7] (cr_wM ct az q6) rfl rfl rfl ⟨by decide +kernel, by decide +kernel, by decide +kernel, by decide +kernel⟩ 0 rfl rfl rfl hl.1 rfl (Nat.le_of_ble_eq_true rfl) dX7_pass_31 ⟨Nat.zero_le _, Nat.zero_le _⟩ (fun H locs hW => ?_)
      refine lv_iconst (v := 0) hx hb dX7_pass_34 (by decide) ?_
      refine lv_istore_n (lv' := [(2, .int 0), (0, .ref (az 0)), (1, .int x1)]) hx hb dX7_pass_35 rfl hl (by decide) rfl (fun ls hl => ?_)
      refine lv_iconst (v := 0) hx hb dX7_pass_36 (by decide) ?_
      refine lv_istore_n (lv' := [(3, .int 0), (2, .int 0), (0, .ref (az 0)), (1, .int x1)]) hx hb dX7_pass_37 rfl hl (by decide) rfl (fun ls hl => ?_)
      exact n38 10100 q6 x1 0 0 hE _ _ _ hW (lv_sub hl [2, 3, 1, 0] rfl)
    · rw [if_neg c5] at hE
      refine cr_ldc C k1 dX7_pass_27 ?_
      exact cr_retW C (w := (fun u : cr_V => cr_wM ct az u)) vz hW (Option.some.inj hE) dX7_pass_29
  · rw [if_pos c4] at hE
    refine cr_ldc C k2 dX7_pass_10 ?_
    exact cr_retW C (w := (fun u : cr_V => cr_wM ct az u)) vz hW (Option.some.inj hE) dX7_pass_12

set_option maxHeartbeats 4000000 in
set_option maxRecDepth 100000 in
theorem m_X7_set (L : Launch) (D : va_G) (ct : Nat → ClassId) (az : Nat → Nat) (vz : cr_V) (x1 : Int32) (x2 : Int32) (sz : Nat) (out : Int32 × cr_V) (hE : f_X7_set vz x1 x2 = some out) : Met L yX7_set wsX7_set ({ frames := 1, cells := 0, slots := 0, locals := 22 } : Room) (cr_pW D ct (cr_wM ct az vz) sz [.ref (az 0), .int x1, .int x2]) (cr_QW D (cr_wM ct az vz) sz (fun r u => (r, u) = out) (fun u : cr_V => cr_wM ct az u)) 0 0 (va_A (cr_wM ct az vz) sz) := by
  have k0 : (Cond.fieldLink RX7 7 "CupReceiptsModel" "s" "[I") ∈ wsX7_set := List.mem_of_getElem? (i := 2) rfl
  have k1 : (Cond.constant RX7 65 (-2000000001)) ∈ wsX7_set := List.mem_of_getElem? (i := 1) rfl
  have k2 : (Cond.constant RX7 77 (-2000000002)) ∈ wsX7_set := List.mem_of_getElem? (i := 3) rfl
  have hinX7 : ∀ w ∈ wsX70, w ∈ wsX7_set := fun w h => List.mem_cons_of_mem _ (List.mem_append_right _ h)
  refine cr_metW (Qc := fun A => va_Qi (fun r u => (r, u) = out) (fun u t => cr_at D A ((fun u : cr_V => cr_wM ct az u) u) t) A) (by decide) rfl rfl (Nat.le_of_ble_eq_true rfl) ?_
  intro p e s m args below meth c ls A C hW hl
  obtain ⟨hx, hb, hml, hown, hts, hr, hlocks, hK, hN⟩ := id C
  have hl : lv_has ls 6 [(0, .ref (az 0)), (1, .int x1), (2, .int x2)] := hl
  have n86 :  ∀ (vz : cr_V) (x1 : Int32) (x2 : Int32) (hE : f_X7_set_86  vz x1 x2 = some out) (H : Heap) (locs : List Loc) (ls : Array Slot) (hW : cr_wd D A s (cr_wM ct az vz) H locs) (hl : lv_has ls 6 [(0, .ref (az 0)), (1, .int x1), (2, .int x2)]), W p L e ({ frames := 1, cells := 0, slots := 0, locals := 22 } : Room) s m args below meth c H locs 0 0 (MQ below (va_Qi (fun r u => (r, u) = out) (fun u t => cr_at D A ((fun u : cr_V => cr_wM ct az u) u) t) A) args s 0 0 A) (F0 m 86 ls []) := by
    intro  vz x1 x2 hE H locs ls hW hl
    replace hE : ((f_X7_changes vz).bind fun q1 => if cr_in (8 + x1) 81 = true then some ((q1 0 (cr_x (8 + x1))), (cr_a q1 0 (cr_x (8 + x1)) x2)) else none) = some out := hE
    refine lv_aload_n hx hb dX7_set_86 rfl (lv_at hl 0 rfl) ?_
    obtain ⟨q1, hq1, hE⟩ := cr_bind hE
    refine cr_vVq (n := 0) (As := []) (rest := []) C hW (m_X7_changes L D ct az vz _ q1 hq1) (cwV 0 hts gX7_set_X7_changes rfl rfl rfl (by decide +kernel) ⟨Nat.le_of_ble_eq_true rfl, Nat.le_of_ble_eq_true rfl⟩) [0, 1, 2, 3, 4, 5, 6, 7] [] [0, 1, 2, 3, 4, 5, 6, 7] (cr_wM ct az q1) rfl rfl rfl ⟨by decide +kernel, by decide +kernel, by decide +kernel, by decide +kernel⟩ 0 rfl rfl rfl hl.1 rfl (Nat.le_of_ble_eq_true rfl) dX7_set_87 ⟨Nat.zero_le _, Nat.zero_le _⟩ (fun H locs hW => ?_)
    refine lv_aload_n hx hb dX7_set_90 rfl (lv_at hl 0 rfl) ?_
    refine cr_get C hW.1 0 rfl rfl 0 (by decide) hinX7 k0 (v := .ref (az 1)) rfl dX7_set_91 ?_
    refine lv_bipush (v := 8) hx hb dX7_set_94 (by decide) ?_
    refine lv_iload_n hx hb dX7_set_96 rfl (lv_at hl 1 rfl) ?_
    refine lv_iadd hx hb dX7_set_97 ?_
    obtain ⟨i2, hE⟩ := cr_ifn hE
    refine cr_ald C hW.1 1 (f := q1 0) (k := cr_x (8 + x1)) rfl i2 (cr_xe _) dX7_set_98 ?_
    refine lv_istore (lv' := [(5, .int (q1 0 (cr_x (8 + x1)))), (0, .ref (az 0)), (1, .int x1), (2, .int x2)]) hx hb dX7_set_99 hl (by decide) rfl (fun ls hl => ?_)
    refine lv_aload_n hx hb dX7_set_101 rfl (lv_at hl 1 rfl) ?_
    refine cr_get C hW.1 0 rfl rfl 0 (by decide) hinX7 k0 (v := .ref (az 1)) rfl dX7_set_102 ?_
    refine lv_bipush (v := 8) hx hb dX7_set_105 (by decide) ?_
    refine lv_iload_n hx hb dX7_set_107 rfl (lv_at hl 2 rfl) ?_
    refine lv_iadd hx hb dX7_set_108 ?_
    refine lv_iload_n hx hb dX7_set_109 rfl (lv_at hl 3 rfl) ?_
    refine cr_ast C hW 1 rfl (k := (cr_x (8 + x1))) i2 (cr_xe _) (w' := cr_wM ct az (cr_a q1 0 (cr_x (8 + x1)) x2)) rfl dX7_set_110 (fun H locs hW => ?_)
    refine lv_iload hx hb dX7_set_111 (lv_at hl 0 rfl) ?_
    exact cr_retW C (w := (fun u : cr_V => cr_wM ct az u)) (cr_a q1 0 (cr_x (8 + x1)) x2) hW (Option.some.inj hE) dX7_set_113
  have n45 :  ∀ (vz : cr_V) (x1 : Int32) (x2 : Int32) (x3 : Int32) (s0 : Int32) (hE : f_X7_set_45  vz x1 x2 x3 s0 = some out) (H : Heap) (locs : List Loc) (ls : Array Slot) (hW : cr_wd D A s (cr_wM ct az vz) H locs) (hl : lv_has ls 6 [(0, .ref (az 0)), (1, .int x1), (2, .int x2), (3, .int x3)]), W p L e ({ frames := 1, cells := 0, slots := 0, locals := 22 } : Room) s m args below meth c H locs 0 0 (MQ below (va_Qi (fun r u => (r, u) = out) (fun u t => cr_at D A ((fun u : cr_V => cr_wM ct az u) u) t) A) args s 0 0 A) (F0 m 45 ls [.int s0]) := by
    intro  vz x1 x2 x3 s0 hE H locs ls hW hl
    replace hE : ((f_X7_in x1 0 4).bind fun q3 => if q3 = 0 then (some ((-2000000001), vz)) else ((f_X7_in x2 x3 s0).bind fun q5 => if q5 = 0 then (some ((-2000000001), vz)) else (if x1 = 0 then (if (vz 0 7) ≤ 0 then (f_X7_set_86 vz x1 x2) else (some ((-2000000002), vz))) else (f_X7_set_86 vz x1 x2)))) = some out := hE
    refine lv_istore (lv' := [(4, .int s0), (0, .ref (az 0)), (1, .int x1), (2, .int x2), (3, .int x3)]) hx hb dX7_set_45 hl (by decide) rfl (fun ls hl => ?_)
    refine lv_iload_n hx hb dX7_set_47 rfl (lv_at hl 2 rfl) ?_
    refine lv_iconst (v := 0) hx hb dX7_set_48 (by decide) ?_
    refine lv_iconst (v := 4) hx hb dX7_set_49 (by decide) ?_
    obtain ⟨q3, hq3, hE⟩ := cr_bind hE
    refine cr_sRwq (n := 3) (As := [.int x1, .int 0, .int 4]) (rest := []) C hW (m_X7_in L D ct x1 0 4 q3 hq3) (va_cwS 3 hts gX7_set_X7_in rfl rfl rfl (by decide +kernel) ⟨Nat.le_of_ble_eq_true rfl, Nat.le_of_ble_eq_true rfl⟩) rfl hl.1 rfl (Nat.le_of_ble_eq_true rfl) dX7_set_50 ⟨Nat.zero_le _, Nat.zero_le _⟩ (fun H locs hW => ?_)
    refine lv_if_eq (tgt := 66) hx hb dX7_set_53 (by decide) (fun c4 => ?_) (fun c4 => ?_)
    · rw [if_pos c4] at hE
      refine cr_ldc C k1 dX7_set_66 ?_
      exact cr_retW C (w := (fun u : cr_V => cr_wM ct az u)) vz hW (Option.some.inj hE) dX7_set_68
    · rw [if_neg c4] at hE
      refine lv_iload_n hx hb dX7_set_56 rfl (lv_at hl 3 rfl) ?_
      refine lv_iload_n hx hb dX7_set_57 rfl (lv_at hl 4 rfl) ?_
      refine lv_iload hx hb dX7_set_58 (lv_at hl 0 rfl) ?_
      obtain ⟨q5, hq5, hE⟩ := cr_bind hE
      refine cr_sRwq (n := 3) (As := [.int x2, .int x3, .int s0]) (rest := []) C hW (m_X7_in L D ct x2 x3 s0 q5 hq5) (va_cwS 3 hts gX7_set_X7_in rfl rfl rfl (by decide +kernel) ⟨Nat.le_of_ble_eq_true rfl, Nat.le_of_ble_eq_true rfl⟩) rfl hl.1 rfl (Nat.le_of_ble_eq_true rfl) dX7_set_60 ⟨Nat.zero_le _, Nat.zero_le _⟩ (fun H locs hW => ?_)
      refine lv_if_ne (tgt := 69) hx hb dX7_set_63 (by decide) (fun c6 => ?_) (fun c6 => ?_)
      · rw [if_neg c6] at hE
        refine lv_iload_n hx hb dX7_set_69 rfl (lv_at hl 2 rfl) ?_
        refine lv_if_ne (tgt := 86) hx hb dX7_set_70 (by decide) (fun c7 => ?_) (fun c7 => ?_)
        · rw [if_neg c7] at hE
          exact n86 vz x1 x2 hE _ _ _ hW (lv_sub hl [1, 2, 3] rfl)
        · rw [if_pos c7] at hE
          refine lv_aload_n hx hb dX7_set_73 rfl (lv_at hl 1 rfl) ?_
          refine cr_get C hW.1 0 rfl rfl 0 (by decide) hinX7 k0 (v := .ref (az 1)) rfl dX7_set_74 ?_
          refine lv_bipush (v := 7) hx hb dX7_set_77 (by decide) ?_
          refine cr_ald C hW.1 1 (f := vz 0) (k := 7) rfl (by decide) (by decide) dX7_set_79 ?_
          refine lv_if_le (tgt := 86) hx hb dX7_set_80 (by decide) (fun c8 => ?_) (fun c8 => ?_)
          · rw [if_pos c8] at hE
            exact n86 vz x1 x2 hE _ _ _ hW (lv_sub hl [1, 2, 3] rfl)
          · rw [if_neg c8] at hE
            refine cr_ldc C k2 dX7_set_83 ?_
            exact cr_retW C (w := (fun u : cr_V => cr_wM ct az u)) vz hW (Option.some.inj hE) dX7_set_85
      · rw [if_pos c6] at hE
        refine cr_ldc C k1 dX7_set_66 ?_
        exact cr_retW C (w := (fun u : cr_V => cr_wM ct az u)) vz hW (Option.some.inj hE) dX7_set_68
  have n10 :  ∀ (vz : cr_V) (x1 : Int32) (x2 : Int32) (s0 : Int32) (hE : f_X7_set_10  vz x1 x2 s0 = some out) (H : Heap) (locs : List Loc) (ls : Array Slot) (hW : cr_wd D A s (cr_wM ct az vz) H locs) (hl : lv_has ls 6 [(0, .ref (az 0)), (1, .int x1), (2, .int x2)]), W p L e ({ frames := 1, cells := 0, slots := 0, locals := 22 } : Room) s m args below meth c H locs 0 0 (MQ below (va_Qi (fun r u => (r, u) = out) (fun u t => cr_at D A ((fun u : cr_V => cr_wM ct az u) u) t) A) args s 0 0 A) (F0 m 10 ls [.int s0]) := by
    intro  vz x1 x2 s0 hE H locs ls hW hl
    replace hE : (if x1 = 0 then (f_X7_set_45 vz x1 x2 s0 250) else (if x1 = 1 then (f_X7_set_45 vz x1 x2 s0 4095) else (if x1 = 4 then (f_X7_set_45 vz x1 x2 s0 999) else (f_X7_set_45 vz x1 x2 s0 50)))) = some out := hE
    refine lv_istore_n (lv' := [(3, .int s0), (0, .ref (az 0)), (1, .int x1), (2, .int x2)]) hx hb dX7_set_10 rfl hl (by decide) rfl (fun ls hl => ?_)
    refine lv_iload_n hx hb dX7_set_11 rfl (lv_at hl 2 rfl) ?_
    refine lv_if_ne (tgt := 21) hx hb dX7_set_12 (by decide) (fun c9 => ?_) (fun c9 => ?_)
    · rw [if_neg c9] at hE
      refine lv_iload_n hx hb dX7_set_21 rfl (lv_at hl 2 rfl) ?_
      refine lv_iconst (v := 1) hx hb dX7_set_22 (by decide) ?_
      refine lv_icmp_ne (tgt := 32) hx hb dX7_set_23 (by decide) (fun c10 => ?_) (fun c10 => ?_)
      · rw [if_neg c10] at hE
        refine lv_iload_n hx hb dX7_set_32 rfl (lv_at hl 2 rfl) ?_
        refine lv_iconst (v := 4) hx hb dX7_set_33 (by decide) ?_
        refine lv_icmp_ne (tgt := 43) hx hb dX7_set_34 (by decide) (fun c11 => ?_) (fun c11 => ?_)
        · rw [if_neg c11] at hE
          refine lv_bipush (v := 50) hx hb dX7_set_43 (by decide) ?_
          exact n45 vz x1 x2 s0 50 hE _ _ _ hW (lv_sub hl [1, 2, 3, 0] rfl)
        · rw [if_pos c11] at hE
          refine lv_sipush (v := 999) hx hb dX7_set_37 (by decide) ?_
          refine lv_goto (tgt := 45) hx hb dX7_set_40 (by decide) ?_
          exact n45 vz x1 x2 s0 999 hE _ _ _ hW (lv_sub hl [1, 2, 3, 0] rfl)
      · rw [if_pos c10] at hE
        refine lv_sipush (v := 4095) hx hb dX7_set_26 (by decide) ?_
        refine lv_goto (tgt := 45) hx hb dX7_set_29 (by decide) ?_
        exact n45 vz x1 x2 s0 4095 hE _ _ _ hW (lv_sub hl [1, 2, 3, 0] rfl)
    · rw [if_pos c9] at hE
      refine lv_sipush (v := 250) hx hb dX7_set_15 (by decide) ?_
      refine lv_goto (tgt := 45) hx hb dX7_set_18 (by decide) ?_
      exact n45 vz x1 x2 s0 250 hE _ _ _ hW (lv_sub hl [1, 2, 3, 0] rfl)
  replace hE : (if 2 ≤ x1 then (f_X7_set_10 vz x1 x2 0) else (f_X7_set_10 vz x1 x2 1)) = some out := hE
  refine lv_iload_n hx hb dX7_set_0 rfl (lv_at hl 1 rfl) ?_
  refine lv_iconst (v := 2) hx hb dX7_set_1 (by decide) ?_
  refine lv_icmp_ge (tgt := 9) hx hb dX7_set_2 (by decide) (fun c12 => ?_) (fun c12 => ?_)
  · rw [if_pos c12] at hE
    refine lv_iconst (v := 0) hx hb dX7_set_9 (by decide) ?_
    exact n10 vz x1 x2 0 hE _ _ _ hW (lv_sub hl [0, 1, 2] rfl)
  · rw [if_neg c12] at hE
    refine lv_iconst (v := 1) hx hb dX7_set_5 (by decide) ?_
    refine lv_goto (tgt := 10) hx hb dX7_set_6 (by decide) ?_
    exact n10 vz x1 x2 1 hE _ _ _ hW (lv_sub hl [0, 1, 2] rfl)

set_option maxHeartbeats 4000000 in
set_option maxRecDepth 100000 in
theorem m_X7_lotOf (L : Launch) (D : va_G) (ct : Nat → ClassId) (az : Nat → Nat) (vz : cr_V) (x1 : Int32) (x2 : Int32) (out : Int32) (hE : f_X7_lotOf vz x1 x2 = some out) : Met L yX7_lotOf wsX7_lotOf ({ frames := 3, cells := 0, slots := 0, locals := 66 } : Room) (cr_pR D ct (cr_wM ct az vz) [.ref (az 0), .int x1, .int x2]) (cr_QR (fun r => r = out)) 0 0 cr_no := by
  have k0 : (Cond.constant RX7 65 (-2000000001)) ∈ wsX7_lotOf := List.mem_of_getElem? (i := 1) rfl
  have k1 : (Cond.fieldLink RX7 7 "CupReceiptsModel" "s" "[I") ∈ wsX7_lotOf := List.mem_of_getElem? (i := 2) rfl
  have hinX7 : ∀ w ∈ wsX70, w ∈ wsX7_lotOf := fun w h => List.mem_cons_of_mem _ (List.mem_append_right _ h)
  refine cr_metR (by decide) rfl rfl (Nat.le_of_ble_eq_true rfl) ?_
  intro p e s m args below meth c ls C hP hS hl
  obtain ⟨hx, hb, hml, hown, hts, hr, hlocks, hK, hN⟩ := id C
  have hl : lv_has ls 4 [(0, .ref (az 0)), (1, .int x1), (2, .int x2)] := hl
  replace hE : ((f_X7_isLot vz x1).bind fun q1 => if q1 = 0 then (some (-2000000001)) else ((f_X7_in x2 0 6).bind fun q3 => if q3 = 0 then (some (-2000000001)) else ((f_X7_placeOf vz x1).bind fun q5 => if x2 = 0 then ((f_X7_of vz q5 (x2 + 1)).bind fun q7 => some q7) else (if x2 = 1 then ((f_X7_of vz q5 (x2 + 1)).bind fun q9 => some q9) else (if x2 = 2 then ((f_X7_of vz q5 (x2 + 1)).bind fun q11 => some q11) else (if x2 = 3 then ((f_X7_cupOf vz q5).bind fun q13 => some q13) else (if x2 = 4 then ((f_X7_cupOf vz q5).bind fun q15 => (f_X7_bandOf q15).bind fun q16 => if cr_in (13 + q16) 81 = true then some (vz 0 (cr_x (13 + q16))) else none) else (if x2 = 5 then ((f_X7_lateAt vz q5 (vz 0 0)).bind fun q19 => some q19) else ((f_X7_cupOf vz q5).bind fun q20 => (f_X7_bandOf q20).bind fun q21 => some q21))))))))) = some out := hE
  refine lv_aload_n hx hb dX7_lotOf_0 rfl (lv_at hl 0 rfl) ?_
  refine lv_iload_n hx hb dX7_lotOf_1 rfl (lv_at hl 1 rfl) ?_
  obtain ⟨q1, hq1, hE⟩ := cr_bind hE
  refine cr_vRq (n := 1) (As := [.int x1]) (rest := []) C hP hS (m_X7_isLot L D ct az vz x1 q1 hq1) (cwV 1 hts gX7_lotOf_X7_isLot rfl rfl rfl (by decide +kernel) ⟨Nat.le_of_ble_eq_true rfl, Nat.le_of_ble_eq_true rfl⟩) [0, 1, 2, 3, 4, 5, 6, 7] rfl 0 rfl rfl rfl hl.1 rfl (Nat.le_of_ble_eq_true rfl) dX7_lotOf_2 ⟨Nat.zero_le _, Nat.zero_le _⟩ (fun H locs hP hS => ?_)
  refine lv_if_eq (tgt := 18) hx hb dX7_lotOf_5 (by decide) (fun c2 => ?_) (fun c2 => ?_)
  · rw [if_pos c2] at hE
    refine cr_ldc C k0 dX7_lotOf_18 ?_
    exact cr_retR C hS (Option.some.inj hE) dX7_lotOf_20
  · rw [if_neg c2] at hE
    refine lv_iload_n hx hb dX7_lotOf_8 rfl (lv_at hl 2 rfl) ?_
    refine lv_iconst (v := 0) hx hb dX7_lotOf_9 (by decide) ?_
    refine lv_bipush (v := 6) hx hb dX7_lotOf_10 (by decide) ?_
    obtain ⟨q3, hq3, hE⟩ := cr_bind hE
    refine cr_sRq (n := 3) (As := [.int x2, .int 0, .int 6]) (rest := []) C hP hS (m_X7_in L D ct x2 0 6 q3 hq3) (va_cwS 3 hts gX7_lotOf_X7_in rfl rfl rfl (by decide +kernel) ⟨Nat.le_of_ble_eq_true rfl, Nat.le_of_ble_eq_true rfl⟩) rfl hl.1 rfl (Nat.le_of_ble_eq_true rfl) dX7_lotOf_12 ⟨Nat.zero_le _, Nat.zero_le _⟩ (fun H locs hP hS => ?_)
    refine lv_if_ne (tgt := 21) hx hb dX7_lotOf_15 (by decide) (fun c4 => ?_) (fun c4 => ?_)
    · rw [if_neg c4] at hE
      refine lv_aload_n hx hb dX7_lotOf_21 rfl (lv_at hl 0 rfl) ?_
      refine lv_iload_n hx hb dX7_lotOf_22 rfl (lv_at hl 1 rfl) ?_
      obtain ⟨q5, hq5, hE⟩ := cr_bind hE
      refine cr_vRq (n := 1) (As := [.int x1]) (rest := []) C hP hS (m_X7_placeOf L D ct az vz x1 q5 hq5) (cwV 1 hts gX7_lotOf_X7_placeOf rfl rfl rfl (by decide +kernel) ⟨Nat.le_of_ble_eq_true rfl, Nat.le_of_ble_eq_true rfl⟩) [0, 1, 2, 3, 4, 5, 6, 7] rfl 0 rfl rfl rfl hl.1 rfl (Nat.le_of_ble_eq_true rfl) dX7_lotOf_23 ⟨Nat.zero_le _, Nat.zero_le _⟩ (fun H locs hP hS => ?_)
      refine lv_istore_n (lv' := [(3, .int q5), (0, .ref (az 0)), (1, .int x1), (2, .int x2)]) hx hb dX7_lotOf_26 rfl hl (by decide) rfl (fun ls hl => ?_)
      refine lv_iload_n hx hb dX7_lotOf_27 rfl (lv_at hl 3 rfl) ?_
      by_cases c6 : x2 = 0
      · rw [if_pos c6] at hE
        refine lv_tableIn (tgt := 68) (off := 40) hx hb dX7_lotOf_28 (by rw [c6]; decide) (by rw [c6]; decide) (by rw [c6]; rfl) (by decide) ?_
        refine lv_aload_n hx hb dX7_lotOf_68 rfl (lv_at hl 1 rfl) ?_
        refine lv_iload_n hx hb dX7_lotOf_69 rfl (lv_at hl 0 rfl) ?_
        refine lv_iload_n hx hb dX7_lotOf_70 rfl (lv_at hl 3 rfl) ?_
        refine lv_iconst (v := 1) hx hb dX7_lotOf_71 (by decide) ?_
        refine lv_iadd hx hb dX7_lotOf_72 ?_
        obtain ⟨q7, hq7, hE⟩ := cr_bind hE
        refine cr_vRq (n := 2) (As := [.int q5, .int (x2 + 1)]) (rest := []) C hP hS (m_X7_of L D ct az vz q5 (x2 + 1) q7 hq7) (cwV 2 hts gX7_lotOf_X7_of rfl rfl rfl (by decide +kernel) ⟨Nat.le_of_ble_eq_true rfl, Nat.le_of_ble_eq_true rfl⟩) [0, 1, 2, 3, 4, 5, 6, 7] rfl 0 rfl rfl rfl hl.1 rfl (Nat.le_of_ble_eq_true rfl) dX7_lotOf_73 ⟨Nat.zero_le _, Nat.zero_le _⟩ (fun H locs hP hS => ?_)
        exact cr_retR C hS (Option.some.inj hE) dX7_lotOf_76
      · rw [if_neg c6] at hE
        by_cases c8 : x2 = 1
        · rw [if_pos c8] at hE
          refine lv_tableIn (tgt := 68) (off := 40) hx hb dX7_lotOf_28 (by rw [c8]; decide) (by rw [c8]; decide) (by rw [c8]; rfl) (by decide) ?_
          refine lv_aload_n hx hb dX7_lotOf_68 rfl (lv_at hl 1 rfl) ?_
          refine lv_iload_n hx hb dX7_lotOf_69 rfl (lv_at hl 0 rfl) ?_
          refine lv_iload_n hx hb dX7_lotOf_70 rfl (lv_at hl 3 rfl) ?_
          refine lv_iconst (v := 1) hx hb dX7_lotOf_71 (by decide) ?_
          refine lv_iadd hx hb dX7_lotOf_72 ?_
          obtain ⟨q9, hq9, hE⟩ := cr_bind hE
          refine cr_vRq (n := 2) (As := [.int q5, .int (x2 + 1)]) (rest := []) C hP hS (m_X7_of L D ct az vz q5 (x2 + 1) q9 hq9) (cwV 2 hts gX7_lotOf_X7_of rfl rfl rfl (by decide +kernel) ⟨Nat.le_of_ble_eq_true rfl, Nat.le_of_ble_eq_true rfl⟩) [0, 1, 2, 3, 4, 5, 6, 7] rfl 0 rfl rfl rfl hl.1 rfl (Nat.le_of_ble_eq_true rfl) dX7_lotOf_73 ⟨Nat.zero_le _, Nat.zero_le _⟩ (fun H locs hP hS => ?_)
          exact cr_retR C hS (Option.some.inj hE) dX7_lotOf_76
        · rw [if_neg c8] at hE
          by_cases c10 : x2 = 2
          · rw [if_pos c10] at hE
            refine lv_tableIn (tgt := 68) (off := 40) hx hb dX7_lotOf_28 (by rw [c10]; decide) (by rw [c10]; decide) (by rw [c10]; rfl) (by decide) ?_
            refine lv_aload_n hx hb dX7_lotOf_68 rfl (lv_at hl 1 rfl) ?_
            refine lv_iload_n hx hb dX7_lotOf_69 rfl (lv_at hl 0 rfl) ?_
            refine lv_iload_n hx hb dX7_lotOf_70 rfl (lv_at hl 3 rfl) ?_
            refine lv_iconst (v := 1) hx hb dX7_lotOf_71 (by decide) ?_
            refine lv_iadd hx hb dX7_lotOf_72 ?_
            obtain ⟨q11, hq11, hE⟩ := cr_bind hE
            refine cr_vRq (n := 2) (As := [.int q5, .int (x2 + 1)]) (rest := []) C hP hS (m_X7_of L D ct az vz q5 (x2 + 1) q11 hq11) (cwV 2 hts gX7_lotOf_X7_of rfl rfl rfl (by decide +kernel) ⟨Nat.le_of_ble_eq_true rfl, Nat.le_of_ble_eq_true rfl⟩) [0, 1, 2, 3, 4, 5, 6, 7] rfl 0 rfl rfl rfl hl.1 rfl (Nat.le_of_ble_eq_true rfl) dX7_lotOf_73 ⟨Nat.zero_le _, Nat.zero_le _⟩ (fun H locs hP hS => ?_)
            exact cr_retR C hS (Option.some.inj hE) dX7_lotOf_76
          · rw [if_neg c10] at hE
            by_cases c12 : x2 = 3
            · rw [if_pos c12] at hE
              refine lv_tableIn (tgt := 77) (off := 49) hx hb dX7_lotOf_28 (by rw [c12]; decide) (by rw [c12]; decide) (by rw [c12]; rfl) (by decide) ?_
              refine lv_aload_n hx hb dX7_lotOf_77 rfl (lv_at hl 1 rfl) ?_
              refine lv_iload_n hx hb dX7_lotOf_78 rfl (lv_at hl 0 rfl) ?_
              obtain ⟨q13, hq13, hE⟩ := cr_bind hE
              refine cr_vRq (n := 1) (As := [.int q5]) (rest := []) C hP hS (m_X7_cupOf L D ct az vz q5 q13 hq13) (cwV 1 hts gX7_lotOf_X7_cupOf rfl rfl rfl (by decide +kernel) ⟨Nat.le_of_ble_eq_true rfl, Nat.le_of_ble_eq_true rfl⟩) [0, 1, 2, 3, 4, 5, 6, 7] rfl 0 rfl rfl rfl hl.1 rfl (Nat.le_of_ble_eq_true rfl) dX7_lotOf_79 ⟨Nat.zero_le _, Nat.zero_le _⟩ (fun H locs hP hS => ?_)
              exact cr_retR C hS (Option.some.inj hE) dX7_lotOf_82
            · rw [if_neg c12] at hE
              by_cases c14 : x2 = 4
              · rw [if_pos c14] at hE
                refine lv_tableIn (tgt := 83) (off := 55) hx hb dX7_lotOf_28 (by rw [c14]; decide) (by rw [c14]; decide) (by rw [c14]; rfl) (by decide) ?_
                refine lv_aload_n hx hb dX7_lotOf_83 rfl (lv_at hl 1 rfl) ?_
                refine cr_get C hP 0 rfl rfl 0 (by decide) hinX7 k1 (v := .ref (az 1)) rfl dX7_lotOf_84 ?_
                refine lv_bipush (v := 13) hx hb dX7_lotOf_87 (by decide) ?_
                refine lv_aload_n hx hb dX7_lotOf_89 rfl (lv_at hl 1 rfl) ?_
                refine lv_iload_n hx hb dX7_lotOf_90 rfl (lv_at hl 0 rfl) ?_
                obtain ⟨q15, hq15, hE⟩ := cr_bind hE
                refine cr_vRq (n := 1) (As := [.int q5]) (rest := [.int 13, .ref (az 1)]) C hP hS (m_X7_cupOf L D ct az vz q5 q15 hq15) (cwV 1 hts gX7_lotOf_X7_cupOf rfl rfl rfl (by decide +kernel) ⟨Nat.le_of_ble_eq_true rfl, Nat.le_of_ble_eq_true rfl⟩) [0, 1, 2, 3, 4, 5, 6, 7] rfl 0 rfl rfl rfl hl.1 rfl (Nat.le_of_ble_eq_true rfl) dX7_lotOf_91 ⟨Nat.zero_le _, Nat.zero_le _⟩ (fun H locs hP hS => ?_)
                obtain ⟨q16, hq16, hE⟩ := cr_bind hE
                refine cr_sRq (n := 1) (As := [.int q15]) (rest := [.int 13, .ref (az 1)]) C hP hS (m_X7_bandOf L D ct q15 q16 hq16) (va_cwS 1 hts gX7_lotOf_X7_bandOf rfl rfl rfl (by decide +kernel) ⟨Nat.le_of_ble_eq_true rfl, Nat.le_of_ble_eq_true rfl⟩) rfl hl.1 rfl (Nat.le_of_ble_eq_true rfl) dX7_lotOf_94 ⟨Nat.zero_le _, Nat.zero_le _⟩ (fun H locs hP hS => ?_)
                refine lv_iadd hx hb dX7_lotOf_97 ?_
                obtain ⟨i17, hE⟩ := cr_ifn hE
                refine cr_ald C hP 1 (f := vz 0) (k := cr_x (13 + q16)) rfl i17 (cr_xe _) dX7_lotOf_98 ?_
                exact cr_retR C hS (Option.some.inj hE) dX7_lotOf_99
              · rw [if_neg c14] at hE
                by_cases c18 : x2 = 5
                · rw [if_pos c18] at hE
                  refine lv_tableIn (tgt := 100) (off := 72) hx hb dX7_lotOf_28 (by rw [c18]; decide) (by rw [c18]; decide) (by rw [c18]; rfl) (by decide) ?_
                  refine lv_aload_n hx hb dX7_lotOf_100 rfl (lv_at hl 1 rfl) ?_
                  refine lv_iload_n hx hb dX7_lotOf_101 rfl (lv_at hl 0 rfl) ?_
                  refine lv_aload_n hx hb dX7_lotOf_102 rfl (lv_at hl 1 rfl) ?_
                  refine cr_get C hP 0 rfl rfl 0 (by decide) hinX7 k1 (v := .ref (az 1)) rfl dX7_lotOf_103 ?_
                  refine lv_iconst (v := 0) hx hb dX7_lotOf_106 (by decide) ?_
                  refine cr_ald C hP 1 (f := vz 0) (k := 0) rfl (by decide) (by decide) dX7_lotOf_107 ?_
                  obtain ⟨q19, hq19, hE⟩ := cr_bind hE
                  refine cr_vRq (n := 2) (As := [.int q5, .int (vz 0 0)]) (rest := []) C hP hS (m_X7_lateAt L D ct az vz q5 (vz 0 0) q19 hq19) (cwV 2 hts gX7_lotOf_X7_lateAt rfl rfl rfl (by decide +kernel) ⟨Nat.le_of_ble_eq_true rfl, Nat.le_of_ble_eq_true rfl⟩) [0, 1, 2, 3, 4, 5, 6, 7] rfl 0 rfl rfl rfl hl.1 rfl (Nat.le_of_ble_eq_true rfl) dX7_lotOf_108 ⟨Nat.zero_le _, Nat.zero_le _⟩ (fun H locs hP hS => ?_)
                  exact cr_retR C hS (Option.some.inj hE) dX7_lotOf_111
                · rw [if_neg c18] at hE
                  refine lv_tableOut (tgt := 112) hx hb dX7_lotOf_28 (by have e0 := cr_ne (n := 0) (by decide) c6; have e1 := cr_ne (n := 1) (by decide) c8; have e2 := cr_ne (n := 2) (by decide) c10; have e3 := cr_ne (n := 3) (by decide) c12; have e4 := cr_ne (n := 4) (by decide) c14; have e5 := cr_ne (n := 5) (by decide) c18; omega) (by decide) ?_
                  refine lv_aload_n hx hb dX7_lotOf_112 rfl (lv_at hl 1 rfl) ?_
                  refine lv_iload_n hx hb dX7_lotOf_113 rfl (lv_at hl 0 rfl) ?_
                  obtain ⟨q20, hq20, hE⟩ := cr_bind hE
                  refine cr_vRq (n := 1) (As := [.int q5]) (rest := []) C hP hS (m_X7_cupOf L D ct az vz q5 q20 hq20) (cwV 1 hts gX7_lotOf_X7_cupOf rfl rfl rfl (by decide +kernel) ⟨Nat.le_of_ble_eq_true rfl, Nat.le_of_ble_eq_true rfl⟩) [0, 1, 2, 3, 4, 5, 6, 7] rfl 0 rfl rfl rfl hl.1 rfl (Nat.le_of_ble_eq_true rfl) dX7_lotOf_114 ⟨Nat.zero_le _, Nat.zero_le _⟩ (fun H locs hP hS => ?_)
                  obtain ⟨q21, hq21, hE⟩ := cr_bind hE
                  refine cr_sRq (n := 1) (As := [.int q20]) (rest := []) C hP hS (m_X7_bandOf L D ct q20 q21 hq21) (va_cwS 1 hts gX7_lotOf_X7_bandOf rfl rfl rfl (by decide +kernel) ⟨Nat.le_of_ble_eq_true rfl, Nat.le_of_ble_eq_true rfl⟩) rfl hl.1 rfl (Nat.le_of_ble_eq_true rfl) dX7_lotOf_117 ⟨Nat.zero_le _, Nat.zero_le _⟩ (fun H locs hP hS => ?_)
                  exact cr_retR C hS (Option.some.inj hE) dX7_lotOf_120
    · rw [if_pos c4] at hE
      refine cr_ldc C k0 dX7_lotOf_18 ?_
      exact cr_retR C hS (Option.some.inj hE) dX7_lotOf_20

set_option maxHeartbeats 4000000 in
set_option maxRecDepth 100000 in
theorem m_X7_numberOf (L : Launch) (D : va_G) (ct : Nat → ClassId) (az : Nat → Nat) (vz : cr_V) (x1 : Int32) (out : Int32) (hE : f_X7_numberOf vz x1 = some out) : Met L yX7_numberOf wsX7_numberOf ({ frames := 1, cells := 0, slots := 0, locals := 22 } : Room) (cr_pR D ct (cr_wM ct az vz) [.ref (az 0), .int x1]) (cr_QR (fun r => r = out)) 0 0 cr_no := by
  have k0 : (Cond.fieldLink RX7 7 "CupReceiptsModel" "s" "[I") ∈ wsX7_numberOf := List.mem_of_getElem? (i := 2) rfl
  have k1 : (Cond.constant RX7 43 (-2000000004)) ∈ wsX7_numberOf := List.mem_of_getElem? (i := 3) rfl
  have k2 : (Cond.constant RX7 65 (-2000000001)) ∈ wsX7_numberOf := List.mem_of_getElem? (i := 1) rfl
  have hinX7 : ∀ w ∈ wsX70, w ∈ wsX7_numberOf := fun w h => List.mem_cons_of_mem _ (List.mem_append_right _ h)
  refine cr_metR (by decide) rfl rfl (Nat.le_of_ble_eq_true rfl) ?_
  intro p e s m args below meth c ls C hP hS hl
  obtain ⟨hx, hb, hml, hown, hts, hr, hlocks, hK, hN⟩ := id C
  have hl : lv_has ls 2 [(0, .ref (az 0)), (1, .int x1)] := hl
  replace hE : (if 0 ≤ x1 then (if x1 < (vz 0 6) then ((f_X7_of vz x1 0).bind fun q3 => some q3) else (some (-2000000004))) else (some (-2000000001))) = some out := hE
  refine lv_iload_n hx hb dX7_numberOf_0 rfl (lv_at hl 1 rfl) ?_
  refine lv_if_ge (tgt := 9) hx hb dX7_numberOf_1 (by decide) (fun c1 => ?_) (fun c1 => ?_)
  · rw [if_pos c1] at hE
    refine lv_iload_n hx hb dX7_numberOf_9 rfl (lv_at hl 1 rfl) ?_
    refine lv_aload_n hx hb dX7_numberOf_10 rfl (lv_at hl 0 rfl) ?_
    refine cr_get C hP 0 rfl rfl 0 (by decide) hinX7 k0 (v := .ref (az 1)) rfl dX7_numberOf_11 ?_
    refine lv_bipush (v := 6) hx hb dX7_numberOf_14 (by decide) ?_
    refine cr_ald C hP 1 (f := vz 0) (k := 6) rfl (by decide) (by decide) dX7_numberOf_16 ?_
    refine lv_icmp_lt (tgt := 25) hx hb dX7_numberOf_17 (by decide) (fun c2 => ?_) (fun c2 => ?_)
    · rw [if_pos c2] at hE
      refine lv_aload_n hx hb dX7_numberOf_25 rfl (lv_at hl 0 rfl) ?_
      refine lv_iload_n hx hb dX7_numberOf_26 rfl (lv_at hl 1 rfl) ?_
      refine lv_iconst (v := 0) hx hb dX7_numberOf_27 (by decide) ?_
      obtain ⟨q3, hq3, hE⟩ := cr_bind hE
      refine cr_vRq (n := 2) (As := [.int x1, .int 0]) (rest := []) C hP hS (m_X7_of L D ct az vz x1 0 q3 hq3) (cwV 2 hts gX7_numberOf_X7_of rfl rfl rfl (by decide +kernel) ⟨Nat.le_of_ble_eq_true rfl, Nat.le_of_ble_eq_true rfl⟩) [0, 1, 2, 3, 4, 5, 6, 7] rfl 0 rfl rfl rfl hl.1 rfl (Nat.le_of_ble_eq_true rfl) dX7_numberOf_28 ⟨Nat.zero_le _, Nat.zero_le _⟩ (fun H locs hP hS => ?_)
      exact cr_retR C hS (Option.some.inj hE) dX7_numberOf_31
    · rw [if_neg c2] at hE
      refine cr_ldc C k1 dX7_numberOf_20 ?_
      refine lv_goto (tgt := 31) hx hb dX7_numberOf_22 (by decide) ?_
      exact cr_retR C hS (Option.some.inj hE) dX7_numberOf_31
  · rw [if_neg c1] at hE
    refine cr_ldc C k2 dX7_numberOf_4 ?_
    refine lv_goto (tgt := 31) hx hb dX7_numberOf_6 (by decide) ?_
    exact cr_retR C hS (Option.some.inj hE) dX7_numberOf_31

set_option maxHeartbeats 4000000 in
set_option maxRecDepth 100000 in
theorem m_X7_contractOf (L : Launch) (D : va_G) (ct : Nat → ClassId) (az : Nat → Nat) (vz : cr_V) (x1 : Int32) (x2 : Int32) (out : Int32) (hE : f_X7_contractOf vz x1 x2 = some out) : Met L yX7_contractOf wsX7_contractOf ({ frames := 1, cells := 0, slots := 0, locals := 22 } : Room) (cr_pR D ct (cr_wM ct az vz) [.ref (az 0), .int x1, .int x2]) (cr_QR (fun r => r = out)) 0 0 cr_no := by
  have k0 : (Cond.constant RX7 65 (-2000000001)) ∈ wsX7_contractOf := List.mem_of_getElem? (i := 1) rfl
  have k1 : (Cond.fieldLink RX7 7 "CupReceiptsModel" "s" "[I") ∈ wsX7_contractOf := List.mem_of_getElem? (i := 2) rfl
  have hinX7 : ∀ w ∈ wsX70, w ∈ wsX7_contractOf := fun w h => List.mem_cons_of_mem _ (List.mem_append_right _ h)
  refine cr_metR (by decide) rfl rfl (Nat.le_of_ble_eq_true rfl) ?_
  intro p e s m args below meth c ls C hP hS hl
  obtain ⟨hx, hb, hml, hown, hts, hr, hlocks, hK, hN⟩ := id C
  have hl : lv_has ls 3 [(0, .ref (az 0)), (1, .int x1), (2, .int x2)] := hl
  replace hE : ((f_X7_isContract vz x1).bind fun q1 => if q1 = 0 then (some (-2000000001)) else ((f_X7_in x2 0 2).bind fun q3 => if q3 = 0 then (some (-2000000001)) else (if x2 = 0 then ((f_X7_monthOf vz x1).bind fun q9 => some q9) else (if x2 = 1 then ((f_X7_priceOf vz x1).bind fun q8 => some q8) else ((f_X7_monthOf vz x1).bind fun q7 => some (q7 - (vz 0 0))))))) = some out := hE
  refine lv_aload_n hx hb dX7_contractOf_0 rfl (lv_at hl 0 rfl) ?_
  refine lv_iload_n hx hb dX7_contractOf_1 rfl (lv_at hl 1 rfl) ?_
  obtain ⟨q1, hq1, hE⟩ := cr_bind hE
  refine cr_vRq (n := 1) (As := [.int x1]) (rest := []) C hP hS (m_X7_isContract L D ct az vz x1 q1 hq1) (cwV 1 hts gX7_contractOf_X7_isContract rfl rfl rfl (by decide +kernel) ⟨Nat.le_of_ble_eq_true rfl, Nat.le_of_ble_eq_true rfl⟩) [0, 1, 2, 3, 4, 5, 6, 7] rfl 0 rfl rfl rfl hl.1 rfl (Nat.le_of_ble_eq_true rfl) dX7_contractOf_2 ⟨Nat.zero_le _, Nat.zero_le _⟩ (fun H locs hP hS => ?_)
  refine lv_if_eq (tgt := 17) hx hb dX7_contractOf_5 (by decide) (fun c2 => ?_) (fun c2 => ?_)
  · rw [if_pos c2] at hE
    refine cr_ldc C k0 dX7_contractOf_17 ?_
    exact cr_retR C hS (Option.some.inj hE) dX7_contractOf_19
  · rw [if_neg c2] at hE
    refine lv_iload_n hx hb dX7_contractOf_8 rfl (lv_at hl 2 rfl) ?_
    refine lv_iconst (v := 0) hx hb dX7_contractOf_9 (by decide) ?_
    refine lv_iconst (v := 2) hx hb dX7_contractOf_10 (by decide) ?_
    obtain ⟨q3, hq3, hE⟩ := cr_bind hE
    refine cr_sRq (n := 3) (As := [.int x2, .int 0, .int 2]) (rest := []) C hP hS (m_X7_in L D ct x2 0 2 q3 hq3) (va_cwS 3 hts gX7_contractOf_X7_in rfl rfl rfl (by decide +kernel) ⟨Nat.le_of_ble_eq_true rfl, Nat.le_of_ble_eq_true rfl⟩) rfl hl.1 rfl (Nat.le_of_ble_eq_true rfl) dX7_contractOf_11 ⟨Nat.zero_le _, Nat.zero_le _⟩ (fun H locs hP hS => ?_)
    refine lv_if_ne (tgt := 20) hx hb dX7_contractOf_14 (by decide) (fun c4 => ?_) (fun c4 => ?_)
    · rw [if_neg c4] at hE
      refine lv_iload_n hx hb dX7_contractOf_20 rfl (lv_at hl 2 rfl) ?_
      refine lv_if_ne (tgt := 32) hx hb dX7_contractOf_21 (by decide) (fun c5 => ?_) (fun c5 => ?_)
      · rw [if_neg c5] at hE
        refine lv_iload_n hx hb dX7_contractOf_32 rfl (lv_at hl 2 rfl) ?_
        refine lv_iconst (v := 1) hx hb dX7_contractOf_33 (by decide) ?_
        refine lv_icmp_ne (tgt := 45) hx hb dX7_contractOf_34 (by decide) (fun c6 => ?_) (fun c6 => ?_)
        · rw [if_neg c6] at hE
          refine lv_aload_n hx hb dX7_contractOf_45 rfl (lv_at hl 0 rfl) ?_
          refine lv_iload_n hx hb dX7_contractOf_46 rfl (lv_at hl 1 rfl) ?_
          obtain ⟨q7, hq7, hE⟩ := cr_bind hE
          refine cr_vRq (n := 1) (As := [.int x1]) (rest := []) C hP hS (m_X7_monthOf L D ct az vz x1 q7 hq7) (cwV 1 hts gX7_contractOf_X7_monthOf rfl rfl rfl (by decide +kernel) ⟨Nat.le_of_ble_eq_true rfl, Nat.le_of_ble_eq_true rfl⟩) [0, 1, 2, 3, 4, 5, 6, 7] rfl 0 rfl rfl rfl hl.1 rfl (Nat.le_of_ble_eq_true rfl) dX7_contractOf_47 ⟨Nat.zero_le _, Nat.zero_le _⟩ (fun H locs hP hS => ?_)
          refine lv_aload_n hx hb dX7_contractOf_50 rfl (lv_at hl 0 rfl) ?_
          refine cr_get C hP 0 rfl rfl 0 (by decide) hinX7 k1 (v := .ref (az 1)) rfl dX7_contractOf_51 ?_
          refine lv_iconst (v := 0) hx hb dX7_contractOf_54 (by decide) ?_
          refine cr_ald C hP 1 (f := vz 0) (k := 0) rfl (by decide) (by decide) dX7_contractOf_55 ?_
          refine lv_isub hx hb dX7_contractOf_56 ?_
          exact cr_retR C hS (Option.some.inj hE) dX7_contractOf_57
        · rw [if_pos c6] at hE
          refine lv_aload_n hx hb dX7_contractOf_37 rfl (lv_at hl 0 rfl) ?_
          refine lv_iload_n hx hb dX7_contractOf_38 rfl (lv_at hl 1 rfl) ?_
          obtain ⟨q8, hq8, hE⟩ := cr_bind hE
          refine cr_vRq (n := 1) (As := [.int x1]) (rest := []) C hP hS (m_X7_priceOf L D ct az vz x1 q8 hq8) (cwV 1 hts gX7_contractOf_X7_priceOf rfl rfl rfl (by decide +kernel) ⟨Nat.le_of_ble_eq_true rfl, Nat.le_of_ble_eq_true rfl⟩) [0, 1, 2, 3, 4, 5, 6, 7] rfl 0 rfl rfl rfl hl.1 rfl (Nat.le_of_ble_eq_true rfl) dX7_contractOf_39 ⟨Nat.zero_le _, Nat.zero_le _⟩ (fun H locs hP hS => ?_)
          refine lv_goto (tgt := 57) hx hb dX7_contractOf_42 (by decide) ?_
          exact cr_retR C hS (Option.some.inj hE) dX7_contractOf_57
      · rw [if_pos c5] at hE
        refine lv_aload_n hx hb dX7_contractOf_24 rfl (lv_at hl 0 rfl) ?_
        refine lv_iload_n hx hb dX7_contractOf_25 rfl (lv_at hl 1 rfl) ?_
        obtain ⟨q9, hq9, hE⟩ := cr_bind hE
        refine cr_vRq (n := 1) (As := [.int x1]) (rest := []) C hP hS (m_X7_monthOf L D ct az vz x1 q9 hq9) (cwV 1 hts gX7_contractOf_X7_monthOf rfl rfl rfl (by decide +kernel) ⟨Nat.le_of_ble_eq_true rfl, Nat.le_of_ble_eq_true rfl⟩) [0, 1, 2, 3, 4, 5, 6, 7] rfl 0 rfl rfl rfl hl.1 rfl (Nat.le_of_ble_eq_true rfl) dX7_contractOf_26 ⟨Nat.zero_le _, Nat.zero_le _⟩ (fun H locs hP hS => ?_)
        refine lv_goto (tgt := 57) hx hb dX7_contractOf_29 (by decide) ?_
        exact cr_retR C hS (Option.some.inj hE) dX7_contractOf_57
    · rw [if_pos c4] at hE
      refine cr_ldc C k0 dX7_contractOf_17 ?_
      exact cr_retR C hS (Option.some.inj hE) dX7_contractOf_19

set_option maxHeartbeats 4000000 in
set_option maxRecDepth 100000 in
theorem m_X7_paid (L : Launch) (D : va_G) (ct : Nat → ClassId) (az : Nat → Nat) (vz : cr_V) (x1 : Int32) (x2 : Int32) (x3 : Int32) (out : Int32) (hE : f_X7_paid vz x1 x2 x3 = some out) : Met L yX7_paid wsX7_paid ({ frames := 4, cells := 0, slots := 0, locals := 92 } : Room) (cr_pR D ct (cr_wM ct az vz) [.ref (az 0), .int x1, .int x2, .int x3]) (cr_QR (fun r => r = out)) 0 0 cr_no := by
  have k0 : (Cond.constant RX7 65 (-2000000001)) ∈ wsX7_paid := List.mem_of_getElem? (i := 1) rfl
  have k1 : (Cond.fieldLink RX7 7 "CupReceiptsModel" "s" "[I") ∈ wsX7_paid := List.mem_of_getElem? (i := 3) rfl
  have k2 : (Cond.constant RX7 43 (-2000000004)) ∈ wsX7_paid := List.mem_of_getElem? (i := 2) rfl
  have hinX7 : ∀ w ∈ wsX70, w ∈ wsX7_paid := fun w h => List.mem_cons_of_mem _ (List.mem_append_right _ h)
  refine cr_metR (by decide) rfl rfl (Nat.le_of_ble_eq_true rfl) ?_
  intro p e s m args below meth c ls C hP hS hl
  obtain ⟨hx, hb, hml, hown, hts, hr, hlocks, hK, hN⟩ := id C
  have hl : lv_has ls 5 [(0, .ref (az 0)), (1, .int x1), (2, .int x2), (3, .int x3)] := hl
  replace hE : ((f_X7_isLot vz x1).bind fun q1 => if q1 = 0 then (some (-2000000001)) else ((f_X7_in x2 1 999).bind fun q3 => if q3 = 0 then (some (-2000000001)) else ((f_X7_in x3 0 1).bind fun q5 => if q5 = 0 then (some (-2000000001)) else ((f_X7_placeOf vz x1).bind fun q7 => (f_X7_cupOf vz q7).bind fun q8 => if 70 ≤ q8 then (if x3 = 0 then ((f_X7_paidAt vz q7 x2 (vz 0 0)).bind fun q12 => some q12) else ((f_X7_gainAt vz q7 x2 (vz 0 0)).bind fun q11 => some (q11 + 10000))) else (some (-2000000004)))))) = some out := hE
  refine lv_aload_n hx hb dX7_paid_0 rfl (lv_at hl 0 rfl) ?_
  refine lv_iload_n hx hb dX7_paid_1 rfl (lv_at hl 1 rfl) ?_
  obtain ⟨q1, hq1, hE⟩ := cr_bind hE
  refine cr_vRq (n := 1) (As := [.int x1]) (rest := []) C hP hS (m_X7_isLot L D ct az vz x1 q1 hq1) (cwV 1 hts gX7_paid_X7_isLot rfl rfl rfl (by decide +kernel) ⟨Nat.le_of_ble_eq_true rfl, Nat.le_of_ble_eq_true rfl⟩) [0, 1, 2, 3, 4, 5, 6, 7] rfl 0 rfl rfl rfl hl.1 rfl (Nat.le_of_ble_eq_true rfl) dX7_paid_2 ⟨Nat.zero_le _, Nat.zero_le _⟩ (fun H locs hP hS => ?_)
  refine lv_if_eq (tgt := 28) hx hb dX7_paid_5 (by decide) (fun c2 => ?_) (fun c2 => ?_)
  · rw [if_pos c2] at hE
    refine cr_ldc C k0 dX7_paid_28 ?_
    exact cr_retR C hS (Option.some.inj hE) dX7_paid_30
  · rw [if_neg c2] at hE
    refine lv_iload_n hx hb dX7_paid_8 rfl (lv_at hl 2 rfl) ?_
    refine lv_iconst (v := 1) hx hb dX7_paid_9 (by decide) ?_
    refine lv_sipush (v := 999) hx hb dX7_paid_10 (by decide) ?_
    obtain ⟨q3, hq3, hE⟩ := cr_bind hE
    refine cr_sRq (n := 3) (As := [.int x2, .int 1, .int 999]) (rest := []) C hP hS (m_X7_in L D ct x2 1 999 q3 hq3) (va_cwS 3 hts gX7_paid_X7_in rfl rfl rfl (by decide +kernel) ⟨Nat.le_of_ble_eq_true rfl, Nat.le_of_ble_eq_true rfl⟩) rfl hl.1 rfl (Nat.le_of_ble_eq_true rfl) dX7_paid_13 ⟨Nat.zero_le _, Nat.zero_le _⟩ (fun H locs hP hS => ?_)
    refine lv_if_eq (tgt := 28) hx hb dX7_paid_16 (by decide) (fun c4 => ?_) (fun c4 => ?_)
    · rw [if_pos c4] at hE
      refine cr_ldc C k0 dX7_paid_28 ?_
      exact cr_retR C hS (Option.some.inj hE) dX7_paid_30
    · rw [if_neg c4] at hE
      refine lv_iload_n hx hb dX7_paid_19 rfl (lv_at hl 3 rfl) ?_
      refine lv_iconst (v := 0) hx hb dX7_paid_20 (by decide) ?_
      refine lv_iconst (v := 1) hx hb dX7_paid_21 (by decide) ?_
      obtain ⟨q5, hq5, hE⟩ := cr_bind hE
      refine cr_sRq (n := 3) (As := [.int x3, .int 0, .int 1]) (rest := []) C hP hS (m_X7_in L D ct x3 0 1 q5 hq5) (va_cwS 3 hts gX7_paid_X7_in rfl rfl rfl (by decide +kernel) ⟨Nat.le_of_ble_eq_true rfl, Nat.le_of_ble_eq_true rfl⟩) rfl hl.1 rfl (Nat.le_of_ble_eq_true rfl) dX7_paid_22 ⟨Nat.zero_le _, Nat.zero_le _⟩ (fun H locs hP hS => ?_)
      refine lv_if_ne (tgt := 31) hx hb dX7_paid_25 (by decide) (fun c6 => ?_) (fun c6 => ?_)
      · rw [if_neg c6] at hE
        refine lv_aload_n hx hb dX7_paid_31 rfl (lv_at hl 0 rfl) ?_
        refine lv_iload_n hx hb dX7_paid_32 rfl (lv_at hl 1 rfl) ?_
        obtain ⟨q7, hq7, hE⟩ := cr_bind hE
        refine cr_vRq (n := 1) (As := [.int x1]) (rest := []) C hP hS (m_X7_placeOf L D ct az vz x1 q7 hq7) (cwV 1 hts gX7_paid_X7_placeOf rfl rfl rfl (by decide +kernel) ⟨Nat.le_of_ble_eq_true rfl, Nat.le_of_ble_eq_true rfl⟩) [0, 1, 2, 3, 4, 5, 6, 7] rfl 0 rfl rfl rfl hl.1 rfl (Nat.le_of_ble_eq_true rfl) dX7_paid_33 ⟨Nat.zero_le _, Nat.zero_le _⟩ (fun H locs hP hS => ?_)
        refine lv_istore (lv' := [(4, .int q7), (0, .ref (az 0)), (1, .int x1), (2, .int x2), (3, .int x3)]) hx hb dX7_paid_36 hl (by decide) rfl (fun ls hl => ?_)
        refine lv_aload_n hx hb dX7_paid_38 rfl (lv_at hl 1 rfl) ?_
        refine lv_iload hx hb dX7_paid_39 (lv_at hl 0 rfl) ?_
        obtain ⟨q8, hq8, hE⟩ := cr_bind hE
        refine cr_vRq (n := 1) (As := [.int q7]) (rest := []) C hP hS (m_X7_cupOf L D ct az vz q7 q8 hq8) (cwV 1 hts gX7_paid_X7_cupOf rfl rfl rfl (by decide +kernel) ⟨Nat.le_of_ble_eq_true rfl, Nat.le_of_ble_eq_true rfl⟩) [0, 1, 2, 3, 4, 5, 6, 7] rfl 0 rfl rfl rfl hl.1 rfl (Nat.le_of_ble_eq_true rfl) dX7_paid_41 ⟨Nat.zero_le _, Nat.zero_le _⟩ (fun H locs hP hS => ?_)
        refine lv_bipush (v := 70) hx hb dX7_paid_44 (by decide) ?_
        refine lv_icmp_ge (tgt := 52) hx hb dX7_paid_46 (by decide) (fun c9 => ?_) (fun c9 => ?_)
        · rw [if_pos c9] at hE
          refine lv_iload_n hx hb dX7_paid_52 rfl (lv_at hl 4 rfl) ?_
          refine lv_if_ne (tgt := 72) hx hb dX7_paid_53 (by decide) (fun c10 => ?_) (fun c10 => ?_)
          · rw [if_neg c10] at hE
            refine lv_aload_n hx hb dX7_paid_72 rfl (lv_at hl 1 rfl) ?_
            refine lv_iload hx hb dX7_paid_73 (lv_at hl 0 rfl) ?_
            refine lv_iload_n hx hb dX7_paid_75 rfl (lv_at hl 3 rfl) ?_
            refine lv_aload_n hx hb dX7_paid_76 rfl (lv_at hl 1 rfl) ?_
            refine cr_get C hP 0 rfl rfl 0 (by decide) hinX7 k1 (v := .ref (az 1)) rfl dX7_paid_77 ?_
            refine lv_iconst (v := 0) hx hb dX7_paid_80 (by decide) ?_
            refine cr_ald C hP 1 (f := vz 0) (k := 0) rfl (by decide) (by decide) dX7_paid_81 ?_
            obtain ⟨q11, hq11, hE⟩ := cr_bind hE
            refine cr_vRq (n := 3) (As := [.int q7, .int x2, .int (vz 0 0)]) (rest := []) C hP hS (m_X7_gainAt L D ct az vz q7 x2 (vz 0 0) q11 hq11) (cwV 3 hts gX7_paid_X7_gainAt rfl rfl rfl (by decide +kernel) ⟨Nat.le_of_ble_eq_true rfl, Nat.le_of_ble_eq_true rfl⟩) [0, 1, 2, 3, 4, 5, 6, 7] rfl 0 rfl rfl rfl hl.1 rfl (Nat.le_of_ble_eq_true rfl) dX7_paid_82 ⟨Nat.zero_le _, Nat.zero_le _⟩ (fun H locs hP hS => ?_)
            refine lv_sipush (v := 10000) hx hb dX7_paid_85 (by decide) ?_
            refine lv_iadd hx hb dX7_paid_88 ?_
            exact cr_retR C hS (Option.some.inj hE) dX7_paid_89
          · rw [if_pos c10] at hE
            refine lv_aload_n hx hb dX7_paid_56 rfl (lv_at hl 1 rfl) ?_
            refine lv_iload hx hb dX7_paid_57 (lv_at hl 0 rfl) ?_
            refine lv_iload_n hx hb dX7_paid_59 rfl (lv_at hl 3 rfl) ?_
            refine lv_aload_n hx hb dX7_paid_60 rfl (lv_at hl 1 rfl) ?_
            refine cr_get C hP 0 rfl rfl 0 (by decide) hinX7 k1 (v := .ref (az 1)) rfl dX7_paid_61 ?_
            refine lv_iconst (v := 0) hx hb dX7_paid_64 (by decide) ?_
            refine cr_ald C hP 1 (f := vz 0) (k := 0) rfl (by decide) (by decide) dX7_paid_65 ?_
            obtain ⟨q12, hq12, hE⟩ := cr_bind hE
            refine cr_vRq (n := 3) (As := [.int q7, .int x2, .int (vz 0 0)]) (rest := []) C hP hS (m_X7_paidAt L D ct az vz q7 x2 (vz 0 0) q12 hq12) (cwV 3 hts gX7_paid_X7_paidAt rfl rfl rfl (by decide +kernel) ⟨Nat.le_of_ble_eq_true rfl, Nat.le_of_ble_eq_true rfl⟩) [0, 1, 2, 3, 4, 5, 6, 7] rfl 0 rfl rfl rfl hl.1 rfl (Nat.le_of_ble_eq_true rfl) dX7_paid_66 ⟨Nat.zero_le _, Nat.zero_le _⟩ (fun H locs hP hS => ?_)
            refine lv_goto (tgt := 89) hx hb dX7_paid_69 (by decide) ?_
            exact cr_retR C hS (Option.some.inj hE) dX7_paid_89
        · rw [if_neg c9] at hE
          refine cr_ldc C k2 dX7_paid_49 ?_
          exact cr_retR C hS (Option.some.inj hE) dX7_paid_51
      · rw [if_pos c6] at hE
        refine cr_ldc C k0 dX7_paid_28 ?_
        exact cr_retR C hS (Option.some.inj hE) dX7_paid_30

set_option maxHeartbeats 4000000 in
set_option maxRecDepth 100000 in
theorem m_X7_given (L : Launch) (D : va_G) (ct : Nat → ClassId) (az : Nat → Nat) (vz : cr_V) (x1 : Int32) (x2 : Int32) (x3 : Int32) (sz : Nat) (out : Int32 × cr_V) (hE : f_X7_given vz x1 x2 x3 = some out) : Met L yX7_given wsX7_given ({ frames := 5, cells := 0, slots := 0, locals := 119 } : Room) (cr_pW D ct (cr_wM ct az vz) sz [.ref (az 0), .int x1, .int x2, .int x3]) (cr_QW D (cr_wM ct az vz) sz (fun r u => (r, u) = out) (fun u : cr_V => cr_wM ct az u)) 0 0 (va_A (cr_wM ct az vz) sz) := by
  have k0 : (Cond.constant RX7 65 (-2000000001)) ∈ wsX7_given := List.mem_of_getElem? (i := 1) rfl
  have k1 : (Cond.fieldLink RX7 7 "CupReceiptsModel" "s" "[I") ∈ wsX7_given := List.mem_of_getElem? (i := 2) rfl
  have k2 : (Cond.fieldLink RX7 102 "CupReceiptsModel" "places" "I") ∈ wsX7_given := List.mem_of_getElem? (i := 3) rfl
  have k3 : (Cond.fieldLink RX7 25 "CupReceiptsModel" "bagsOf" "[I") ∈ wsX7_given := List.mem_of_getElem? (i := 6) rfl
  have k4 : (Cond.fieldLink RX7 22 "CupReceiptsModel" "lots" "[I") ∈ wsX7_given := List.mem_of_getElem? (i := 5) rfl
  have k5 : (Cond.constant RX7 43 (-2000000004)) ∈ wsX7_given := List.mem_of_getElem? (i := 4) rfl
  have hinX7 : ∀ w ∈ wsX70, w ∈ wsX7_given := fun w h => List.mem_cons_of_mem _ (List.mem_append_right _ h)
  refine cr_metW (Qc := fun A => va_Qi (fun r u => (r, u) = out) (fun u t => cr_at D A ((fun u : cr_V => cr_wM ct az u) u) t) A) (by decide) rfl rfl (Nat.le_of_ble_eq_true rfl) ?_
  intro p e s m args below meth c ls A C hW hl
  obtain ⟨hx, hb, hml, hown, hts, hr, hlocks, hK, hN⟩ := id C
  have hl : lv_has ls 4 [(0, .ref (az 0)), (1, .int x1), (2, .int x2), (3, .int x3)] := hl
  replace hE : ((f_X7_isContract vz x1).bind fun q1 => if q1 = 0 then (some ((-2000000001), vz)) else (if x2 < 0 then (some ((-2000000001), vz)) else ((f_X7_in x3 0 1).bind fun q4 => if q4 = 0 then (some ((-2000000001), vz)) else ((f_X7_priceOf vz x1).bind fun q6 => (f_X7_gives vz q6 (vz 0 0)).bind fun q7 => if x2 < (q7 9 0) then (if x3 = 0 then (if cr_in x2 12 = true then (f_X7_of q7 (q7 7 (cr_x x2)) 0).bind fun q12 => some (q12, q7) else none) else (if cr_in x2 12 = true then some ((q7 8 (cr_x x2)), q7) else none)) else (some ((-2000000004), q7)))))) = some out := hE
  refine lv_aload_n hx hb dX7_given_0 rfl (lv_at hl 0 rfl) ?_
  refine lv_iload_n hx hb dX7_given_1 rfl (lv_at hl 1 rfl) ?_
  obtain ⟨q1, hq1, hE⟩ := cr_bind hE
  refine cr_vRwq (n := 1) (As := [.int x1]) (rest := []) C hW (m_X7_isContract L D ct az vz x1 q1 hq1) (cwV 1 hts gX7_given_X7_isContract rfl rfl rfl (by decide +kernel) ⟨Nat.le_of_ble_eq_true rfl, Nat.le_of_ble_eq_true rfl⟩) [0, 1, 2, 3, 4, 5, 6, 7] rfl 0 rfl rfl rfl hl.1 rfl (Nat.le_of_ble_eq_true rfl) dX7_given_2 ⟨Nat.zero_le _, Nat.zero_le _⟩ (fun H locs hW => ?_)
  refine lv_if_eq (tgt := 21) hx hb dX7_given_5 (by decide) (fun c2 => ?_) (fun c2 => ?_)
  · rw [if_pos c2] at hE
    refine cr_ldc C k0 dX7_given_21 ?_
    exact cr_retW C (w := (fun u : cr_V => cr_wM ct az u)) vz hW (Option.some.inj hE) dX7_given_23
  · rw [if_neg c2] at hE
    refine lv_iload_n hx hb dX7_given_8 rfl (lv_at hl 2 rfl) ?_
    refine lv_if_lt (tgt := 21) hx hb dX7_given_9 (by decide) (fun c3 => ?_) (fun c3 => ?_)
    · rw [if_pos c3] at hE
      refine cr_ldc C k0 dX7_given_21 ?_
      exact cr_retW C (w := (fun u : cr_V => cr_wM ct az u)) vz hW (Option.some.inj hE) dX7_given_23
    · rw [if_neg c3] at hE
      refine lv_iload_n hx hb dX7_given_12 rfl (lv_at hl 3 rfl) ?_
      refine lv_iconst (v := 0) hx hb dX7_given_13 (by decide) ?_
      refine lv_iconst (v := 1) hx hb dX7_given_14 (by decide) ?_
      obtain ⟨q4, hq4, hE⟩ := cr_bind hE
      refine cr_sRwq (n := 3) (As := [.int x3, .int 0, .int 1]) (rest := []) C hW (m_X7_in L D ct x3 0 1 q4 hq4) (va_cwS 3 hts gX7_given_X7_in rfl rfl rfl (by decide +kernel) ⟨Nat.le_of_ble_eq_true rfl, Nat.le_of_ble_eq_true rfl⟩) rfl hl.1 rfl (Nat.le_of_ble_eq_true rfl) dX7_given_15 ⟨Nat.zero_le _, Nat.zero_le _⟩ (fun H locs hW => ?_)
      refine lv_if_ne (tgt := 24) hx hb dX7_given_18 (by decide) (fun c5 => ?_) (fun c5 => ?_)
      · rw [if_neg c5] at hE
        refine lv_aload_n hx hb dX7_given_24 rfl (lv_at hl 0 rfl) ?_
        refine lv_aload_n hx hb dX7_given_25 rfl (lv_at hl 0 rfl) ?_
        refine lv_iload_n hx hb dX7_given_26 rfl (lv_at hl 1 rfl) ?_
        obtain ⟨q6, hq6, hE⟩ := cr_bind hE
        refine cr_vRwq (n := 1) (As := [.int x1]) (rest := [.ref (az 0)]) C hW (m_X7_priceOf L D ct az vz x1 q6 hq6) (cwV 1 hts gX7_given_X7_priceOf rfl rfl rfl (by decide +kernel) ⟨Nat.le_of_ble_eq_true rfl, Nat.le_of_ble_eq_true rfl⟩) [0, 1, 2, 3, 4, 5, 6, 7] rfl 0 rfl rfl rfl hl.1 rfl (Nat.le_of_ble_eq_true rfl) dX7_given_27 ⟨Nat.zero_le _, Nat.zero_le _⟩ (fun H locs hW => ?_)
        refine lv_aload_n hx hb dX7_given_30 rfl (lv_at hl 0 rfl) ?_
        refine cr_get C hW.1 0 rfl rfl 0 (by decide) hinX7 k1 (v := .ref (az 1)) rfl dX7_given_31 ?_
        refine lv_iconst (v := 0) hx hb dX7_given_34 (by decide) ?_
        refine cr_ald C hW.1 1 (f := vz 0) (k := 0) rfl (by decide) (by decide) dX7_given_35 ?_
        obtain ⟨q7, hq7, hE⟩ := cr_bind hE
        refine cr_vVq (n := 2) (As := [.int q6, .int (vz 0 0)]) (rest := []) C hW (m_X7_gives L D ct az vz q6 (vz 0 0) _ q7 hq7) (cwV 2 hts gX7_given_X7_gives rfl rfl rfl (by decide +kernel) ⟨Nat.le_of_ble_eq_true rfl, Nat.le_of_ble_eq_true rfl⟩) [0, 1, 2, 3, 4, 5, 6, 7] [] [0, 1, 2, 3, 4, 5, 6, 7] (cr_wM ct az q7) rfl rfl rfl ⟨by decide +kernel, by decide +kernel, by decide +kernel, by decide +kernel⟩ 0 rfl rfl rfl hl.1 rfl (Nat.le_of_ble_eq_true rfl) dX7_given_36 ⟨Nat.zero_le _, Nat.zero_le _⟩ (fun H locs hW => ?_)
        refine lv_iload_n hx hb dX7_given_39 rfl (lv_at hl 2 rfl) ?_
        refine lv_aload_n hx hb dX7_given_40 rfl (lv_at hl 0 rfl) ?_
        refine cr_get C hW.1 0 rfl rfl 9 (by decide) hinX7 k2 (v := .int (q7 9 0)) rfl dX7_given_41 ?_
        refine lv_icmp_lt (tgt := 52) hx hb dX7_given_44 (by decide) (fun c8 => ?_) (fun c8 => ?_)
        · rw [if_pos c8] at hE
          refine lv_iload_n hx hb dX7_given_52 rfl (lv_at hl 3 rfl) ?_
          refine lv_if_ne (tgt := 70) hx hb dX7_given_53 (by decide) (fun c9 => ?_) (fun c9 => ?_)
          · rw [if_neg c9] at hE
            refine lv_aload_n hx hb dX7_given_70 rfl (lv_at hl 0 rfl) ?_
            refine cr_get C hW.1 0 rfl rfl 8 (by decide) hinX7 k3 (v := .ref (az 9)) rfl dX7_given_71 ?_
            refine lv_iload_n hx hb dX7_given_74 rfl (lv_at hl 2 rfl) ?_
            obtain ⟨i10, hE⟩ := cr_ifn hE
            refine cr_ald C hW.1 6 (f := q7 8) (k := cr_x x2) rfl i10 (cr_xe _) dX7_given_75 ?_
            exact cr_retW C (w := (fun u : cr_V => cr_wM ct az u)) q7 hW (Option.some.inj hE) dX7_given_76
          · rw [if_pos c9] at hE
            refine lv_aload_n hx hb dX7_given_56 rfl (lv_at hl 0 rfl) ?_
            refine lv_aload_n hx hb dX7_given_57 rfl (lv_at hl 0 rfl) ?_
            refine cr_get C hW.1 0 rfl rfl 7 (by decide) hinX7 k4 (v := .ref (az 8)) rfl dX7_given_58 ?_
            refine lv_iload_n hx hb dX7_given_61 rfl (lv_at hl 2 rfl) ?_
            obtain ⟨i11, hE⟩ := cr_ifn hE
            refine cr_ald C hW.1 5 (f := q7 7) (k := cr_x x2) rfl i11 (cr_xe _) dX7_given_62 ?_
            refine lv_iconst (v := 0) hx hb dX7_given_63 (by decide) ?_
            obtain ⟨q12, hq12, hE⟩ := cr_bind hE
            refine cr_vRwq (n := 2) (As := [.int (q7 7 (cr_x x2)), .int 0]) (rest := []) C hW (m_X7_of L D ct az q7 (q7 7 (cr_x x2)) 0 q12 hq12) (cwV 2 hts gX7_given_X7_of rfl rfl rfl (by decide +kernel) ⟨Nat.le_of_ble_eq_true rfl, Nat.le_of_ble_eq_true rfl⟩) [0, 1, 2, 3, 4, 5, 6, 7] rfl 0 rfl rfl rfl hl.1 rfl (Nat.le_of_ble_eq_true rfl) dX7_given_64 ⟨Nat.zero_le _, Nat.zero_le _⟩ (fun H locs hW => ?_)
            refine lv_goto (tgt := 76) hx hb dX7_given_67 (by decide) ?_
            exact cr_retW C (w := (fun u : cr_V => cr_wM ct az u)) q7 hW (Option.some.inj hE) dX7_given_76
        · rw [if_neg c8] at hE
          refine cr_ldc C k5 dX7_given_47 ?_
          refine lv_goto (tgt := 76) hx hb dX7_given_49 (by decide) ?_
          exact cr_retW C (w := (fun u : cr_V => cr_wM ct az u)) q7 hW (Option.some.inj hE) dX7_given_76
      · rw [if_pos c5] at hE
        refine cr_ldc C k0 dX7_given_21 ?_
        exact cr_retW C (w := (fun u : cr_V => cr_wM ct az u)) vz hW (Option.some.inj hE) dX7_given_23

set_option maxHeartbeats 4000000 in
set_option maxRecDepth 100000 in
theorem m_X7_lift (L : Launch) (D : va_G) (ct : Nat → ClassId) (az : Nat → Nat) (vz : cr_V) (x1 : Int32) (x2 : Int32) (x3 : Int32) (out : Int32) (hE : f_X7_lift vz x1 x2 x3 = some out) : Met L yX7_lift wsX7_lift ({ frames := 3, cells := 0, slots := 0, locals := 66 } : Room) (cr_pR D ct (cr_wM ct az vz) [.ref (az 0), .int x1, .int x2, .int x3]) (cr_QR (fun r => r = out)) 0 0 cr_no := by
  have k0 : (Cond.constant RX7 43 (-2000000004)) ∈ wsX7_lift := List.mem_of_getElem? (i := 2) rfl
  have k1 : (Cond.constant RX7 65 (-2000000001)) ∈ wsX7_lift := List.mem_of_getElem? (i := 1) rfl
  refine cr_metR (by decide) rfl rfl (Nat.le_of_ble_eq_true rfl) ?_
  intro p e s m args below meth c ls C hP hS hl
  obtain ⟨hx, hb, hml, hown, hts, hr, hlocks, hK, hN⟩ := id C
  have hl : lv_has ls 7 [(0, .ref (az 0)), (1, .int x1), (2, .int x2), (3, .int x3)] := hl
  have n52 :  ∀ (n : Nat), ∀ (vz : cr_V) (x3 : Int32) (x4 : Int32) (x5 : Int32) (x6 : Int32) (hE : f_X7_lift_52  n vz x3 x4 x5 x6 = some out) (H : Heap) (locs : List Loc) (ls : Array Slot) (hP : va_P D vwCl (cr_wM ct az vz) H) (hS : va_S cr_no s.heap H locs) (hl : lv_has ls 7 [(0, .ref (az 0)), (3, .int x3), (4, .int x4), (5, .int x5), (6, .int x6)]), W p L e ({ frames := 3, cells := 0, slots := 0, locals := 66 } : Room) s m args below meth c H locs 0 0 (MQ below (cr_QR (fun r => r = out)) args s 0 0 cr_no) (F0 m 52 ls []) := by
    intro  n
    induction n with
    | zero =>
      intro vz x3 x4 x5 x6 hE
      cases hE
    | succ n ih =>
      intro vz x3 x4 x5 x6 hE H locs ls hP hS hl
      replace hE : ((f_X7_of vz x5 1).bind fun q1 => if q1 < x6 then (some (-2000000004)) else ((f_X7_of vz x4 1).bind fun q3 => (f_X7_cupOf vz x4).bind fun q4 => (f_X7_cupOf vz x5).bind fun q5 => (f_X7_blended q3 q4 x6 q5).bind fun q6 => if q6 < x3 then (f_X7_lift_52 n vz x3 x4 x5 (x6 + 1)) else (some x6))) = some out := hE
      refine lv_iload hx hb dX7_lift_52 (lv_at hl 4 rfl) ?_
      refine lv_aload_n hx hb dX7_lift_54 rfl (lv_at hl 0 rfl) ?_
      refine lv_iload hx hb dX7_lift_55 (lv_at hl 3 rfl) ?_
      refine lv_iconst (v := 1) hx hb dX7_lift_57 (by decide) ?_
      obtain ⟨q1, hq1, hE⟩ := cr_bind hE
      refine cr_vRq (n := 2) (As := [.int x5, .int 1]) (rest := [.int x6]) C hP hS (m_X7_of L D ct az vz x5 1 q1 hq1) (cwV 2 hts gX7_lift_X7_of rfl rfl rfl (by decide +kernel) ⟨Nat.le_of_ble_eq_true rfl, Nat.le_of_ble_eq_true rfl⟩) [0, 1, 2, 3, 4, 5, 6, 7] rfl 0 rfl rfl rfl hl.1 rfl (Nat.le_of_ble_eq_true rfl) dX7_lift_58 ⟨Nat.zero_le _, Nat.zero_le _⟩ (fun H locs hP hS => ?_)
      refine lv_icmp_gt (tgt := 101) hx hb dX7_lift_61 (by decide) (fun c2 => ?_) (fun c2 => ?_)
      · rw [if_pos c2] at hE
        refine cr_ldc C k0 dX7_lift_101 ?_
        exact cr_retR C hS (Option.some.inj hE) dX7_lift_103
      · rw [if_neg c2] at hE
        refine lv_aload_n hx hb dX7_lift_64 rfl (lv_at hl 0 rfl) ?_
        refine lv_iload hx hb dX7_lift_65 (lv_at hl 2 rfl) ?_
        refine lv_iconst (v := 1) hx hb dX7_lift_67 (by decide) ?_
        obtain ⟨q3, hq3, hE⟩ := cr_bind hE
        refine cr_vRq (n := 2) (As := [.int x4, .int 1]) (rest := []) C hP hS (m_X7_of L D ct az vz x4 1 q3 hq3) (cwV 2 hts gX7_lift_X7_of rfl rfl rfl (by decide +kernel) ⟨Nat.le_of_ble_eq_true rfl, Nat.le_of_ble_eq_true rfl⟩) [0, 1, 2, 3, 4, 5, 6, 7] rfl 0 rfl rfl rfl hl.1 rfl (Nat.le_of_ble_eq_true rfl) dX7_lift_68 ⟨Nat.zero_le _, Nat.zero_le _⟩ (fun H locs hP hS => ?_)
        refine lv_aload_n hx hb dX7_lift_71 rfl (lv_at hl 0 rfl) ?_
        refine lv_iload hx hb dX7_lift_72 (lv_at hl 2 rfl) ?_
        obtain ⟨q4, hq4, hE⟩ := cr_bind hE
        refine cr_vRq (n := 1) (As := [.int x4]) (rest := [.int q3]) C hP hS (m_X7_cupOf L D ct az vz x4 q4 hq4) (cwV 1 hts gX7_lift_X7_cupOf rfl rfl rfl (by decide +kernel) ⟨Nat.le_of_ble_eq_true rfl, Nat.le_of_ble_eq_true rfl⟩) [0, 1, 2, 3, 4, 5, 6, 7] rfl 0 rfl rfl rfl hl.1 rfl (Nat.le_of_ble_eq_true rfl) dX7_lift_74 ⟨Nat.zero_le _, Nat.zero_le _⟩ (fun H locs hP hS => ?_)
        refine lv_iload hx hb dX7_lift_77 (lv_at hl 4 rfl) ?_
        refine lv_aload_n hx hb dX7_lift_79 rfl (lv_at hl 0 rfl) ?_
        refine lv_iload hx hb dX7_lift_80 (lv_at hl 3 rfl) ?_
        obtain ⟨q5, hq5, hE⟩ := cr_bind hE
        refine cr_vRq (n := 1) (As := [.int x5]) (rest := [.int x6, .int q4, .int q3]) C hP hS (m_X7_cupOf L D ct az vz x5 q5 hq5) (cwV 1 hts gX7_lift_X7_cupOf rfl rfl rfl (by decide +kernel) ⟨Nat.le_of_ble_eq_true rfl, Nat.le_of_ble_eq_true rfl⟩) [0, 1, 2, 3, 4, 5, 6, 7] rfl 0 rfl rfl rfl hl.1 rfl (Nat.le_of_ble_eq_true rfl) dX7_lift_82 ⟨Nat.zero_le _, Nat.zero_le _⟩ (fun H locs hP hS => ?_)
        obtain ⟨q6, hq6, hE⟩ := cr_bind hE
        refine cr_sRq (n := 4) (As := [.int q3, .int q4, .int x6, .int q5]) (rest := []) C hP hS (m_X7_blended L D ct q3 q4 x6 q5 q6 hq6) (va_cwS 4 hts gX7_lift_X7_blended rfl rfl rfl (by decide +kernel) ⟨Nat.le_of_ble_eq_true rfl, Nat.le_of_ble_eq_true rfl⟩) rfl hl.1 rfl (Nat.le_of_ble_eq_true rfl) dX7_lift_85 ⟨Nat.zero_le _, Nat.zero_le _⟩ (fun H locs hP hS => ?_)
        refine lv_iload_n hx hb dX7_lift_88 rfl (lv_at hl 1 rfl) ?_
        refine lv_icmp_lt (tgt := 95) hx hb dX7_lift_89 (by decide) (fun c7 => ?_) (fun c7 => ?_)
        · rw [if_pos c7] at hE
          refine lv_iinc (v := x6 + 1) (lv' := [(6, .int (x6 + 1)), (0, .ref (az 0)), (3, .int x3), (4, .int x4), (5, .int x5)]) hx hb dX7_lift_95 hl (k := 4) rfl (by first | rfl | decide) (by decide) rfl (fun ls hl => ?_)
          refine lv_goto (tgt := 52) hx hb dX7_lift_98 (by decide) ?_
          exact ih vz x3 x4 x5 (x6 + 1) hE _ _ _ hP hS (lv_sub hl [1, 2, 3, 4, 0] rfl)
        · rw [if_neg c7] at hE
          refine lv_iload hx hb dX7_lift_92 (lv_at hl 4 rfl) ?_
          exact cr_retR C hS (Option.some.inj hE) dX7_lift_94
  replace hE : ((f_X7_isLot vz x1).bind fun q8 => if q8 = 0 then (some (-2000000001)) else ((f_X7_isLot vz x2).bind fun q10 => if q10 = 0 then (some (-2000000001)) else (if x1 = x2 then (some (-2000000001)) else ((f_X7_in x3 60 100).bind fun q13 => if q13 = 0 then (some (-2000000001)) else ((f_X7_placeOf vz x1).bind fun q15 => (f_X7_placeOf vz x2).bind fun q16 => f_X7_lift_52 10100 vz x3 q15 q16 1))))) = some out := hE
  refine lv_aload_n hx hb dX7_lift_0 rfl (lv_at hl 0 rfl) ?_
  refine lv_iload_n hx hb dX7_lift_1 rfl (lv_at hl 1 rfl) ?_
  obtain ⟨q8, hq8, hE⟩ := cr_bind hE
  refine cr_vRq (n := 1) (As := [.int x1]) (rest := []) C hP hS (m_X7_isLot L D ct az vz x1 q8 hq8) (cwV 1 hts gX7_lift_X7_isLot rfl rfl rfl (by decide +kernel) ⟨Nat.le_of_ble_eq_true rfl, Nat.le_of_ble_eq_true rfl⟩) [0, 1, 2, 3, 4, 5, 6, 7] rfl 0 rfl rfl rfl hl.1 rfl (Nat.le_of_ble_eq_true rfl) dX7_lift_2 ⟨Nat.zero_le _, Nat.zero_le _⟩ (fun H locs hP hS => ?_)
  refine lv_if_eq (tgt := 32) hx hb dX7_lift_5 (by decide) (fun c9 => ?_) (fun c9 => ?_)
  · rw [if_pos c9] at hE
    refine cr_ldc C k1 dX7_lift_32 ?_
    exact cr_retR C hS (Option.some.inj hE) dX7_lift_34
  · rw [if_neg c9] at hE
    refine lv_aload_n hx hb dX7_lift_8 rfl (lv_at hl 0 rfl) ?_
    refine lv_iload_n hx hb dX7_lift_9 rfl (lv_at hl 2 rfl) ?_
    obtain ⟨q10, hq10, hE⟩ := cr_bind hE
    refine cr_vRq (n := 1) (As := [.int x2]) (rest := []) C hP hS (m_X7_isLot L D ct az vz x2 q10 hq10) (cwV 1 hts gX7_lift_X7_isLot rfl rfl rfl (by decide +kernel) ⟨Nat.le_of_ble_eq_true rfl, Nat.le_of_ble_eq_true rfl⟩) [0, 1, 2, 3, 4, 5, 6, 7] rfl 0 rfl rfl rfl hl.1 rfl (Nat.le_of_ble_eq_true rfl) dX7_lift_10 ⟨Nat.zero_le _, Nat.zero_le _⟩ (fun H locs hP hS => ?_)
    refine lv_if_eq (tgt := 32) hx hb dX7_lift_13 (by decide) (fun c11 => ?_) (fun c11 => ?_)
    · rw [if_pos c11] at hE
      refine cr_ldc C k1 dX7_lift_32 ?_
      exact cr_retR C hS (Option.some.inj hE) dX7_lift_34
    · rw [if_neg c11] at hE
      refine lv_iload_n hx hb dX7_lift_16 rfl (lv_at hl 1 rfl) ?_
      refine lv_iload_n hx hb dX7_lift_17 rfl (lv_at hl 2 rfl) ?_
      refine lv_icmp_eq (tgt := 32) hx hb dX7_lift_18 (by decide) (fun c12 => ?_) (fun c12 => ?_)
      · rw [if_pos c12] at hE
        refine cr_ldc C k1 dX7_lift_32 ?_
        exact cr_retR C hS (Option.some.inj hE) dX7_lift_34
      · rw [if_neg c12] at hE
        refine lv_iload_n hx hb dX7_lift_21 rfl (lv_at hl 3 rfl) ?_
        refine lv_bipush (v := 60) hx hb dX7_lift_22 (by decide) ?_
        refine lv_bipush (v := 100) hx hb dX7_lift_24 (by decide) ?_
        obtain ⟨q13, hq13, hE⟩ := cr_bind hE
        refine cr_sRq (n := 3) (As := [.int x3, .int 60, .int 100]) (rest := []) C hP hS (m_X7_in L D ct x3 60 100 q13 hq13) (va_cwS 3 hts gX7_lift_X7_in rfl rfl rfl (by decide +kernel) ⟨Nat.le_of_ble_eq_true rfl, Nat.le_of_ble_eq_true rfl⟩) rfl hl.1 rfl (Nat.le_of_ble_eq_true rfl) dX7_lift_26 ⟨Nat.zero_le _, Nat.zero_le _⟩ (fun H locs hP hS => ?_)
        refine lv_if_ne (tgt := 35) hx hb dX7_lift_29 (by decide) (fun c14 => ?_) (fun c14 => ?_)
        · rw [if_neg c14] at hE
          refine lv_aload_n hx hb dX7_lift_35 rfl (lv_at hl 0 rfl) ?_
          refine lv_iload_n hx hb dX7_lift_36 rfl (lv_at hl 1 rfl) ?_
          obtain ⟨q15, hq15, hE⟩ := cr_bind hE
          refine cr_vRq (n := 1) (As := [.int x1]) (rest := []) C hP hS (m_X7_placeOf L D ct az vz x1 q15 hq15) (cwV 1 hts gX7_lift_X7_placeOf rfl rfl rfl (by decide +kernel) ⟨Nat.le_of_ble_eq_true rfl, Nat.le_of_ble_eq_true rfl⟩) [0, 1, 2, 3, 4, 5, 6, 7] rfl 0 rfl rfl rfl hl.1 rfl (Nat.le_of_ble_eq_true rfl) dX7_lift_37 ⟨Nat.zero_le _, Nat.zero_le _⟩ (fun H locs hP hS => ?_)
          refine lv_istore (lv' := [(4, .int q15), (0, .ref (az 0)), (1, .int x1), (2, .int x2), (3, .int x3)]) hx hb dX7_lift_40 hl (by decide) rfl (fun ls hl => ?_)
          refine lv_aload_n hx hb dX7_lift_42 rfl (lv_at hl 1 rfl) ?_
          refine lv_iload_n hx hb dX7_lift_43 rfl (lv_at hl 3 rfl) ?_
          obtain ⟨q16, hq16, hE⟩ := cr_bind hE
          refine cr_vRq (n := 1) (As := [.int x2]) (rest := []) C hP hS (m_X7_placeOf L D ct az vz x2 q16 hq16) (cwV 1 hts gX7_lift_X7_placeOf rfl rfl rfl (by decide +kernel) ⟨Nat.le_of_ble_eq_true rfl, Nat.le_of_ble_eq_true rfl⟩) [0, 1, 2, 3, 4, 5, 6, 7] rfl 0 rfl rfl rfl hl.1 rfl (Nat.le_of_ble_eq_true rfl) dX7_lift_44 ⟨Nat.zero_le _, Nat.zero_le _⟩ (fun H locs hP hS => ?_)
          refine lv_istore (lv' := [(5, .int q16), (4, .int q15), (0, .ref (az 0)), (1, .int x1), (2, .int x2), (3, .int x3)]) hx hb dX7_lift_47 hl (by decide) rfl (fun ls hl => ?_)
          refine lv_iconst (v := 1) hx hb dX7_lift_49 (by decide) ?_
          refine lv_istore (lv' := [(6, .int 1), (5, .int q16), (4, .int q15), (0, .ref (az 0)), (1, .int x1), (2, .int x2), (3, .int x3)]) hx hb dX7_lift_50 hl (by decide) rfl (fun ls hl => ?_)
          exact n52 10100 vz x3 q15 q16 1 hE _ _ _ hP hS (lv_sub hl [3, 6, 2, 1, 0] rfl)
        · rw [if_pos c14] at hE
          refine cr_ldc C k1 dX7_lift_32 ?_
          exact cr_retR C hS (Option.some.inj hE) dX7_lift_34

set_option maxHeartbeats 4000000 in
set_option maxRecDepth 100000 in
theorem m_X7_bestMonth (L : Launch) (D : va_G) (ct : Nat → ClassId) (az : Nat → Nat) (vz : cr_V) (x1 : Int32) (x2 : Int32) (sz : Nat) (out : Int32 × cr_V) (hE : f_X7_bestMonth vz x1 x2 = some out) : Met L yX7_bestMonth wsX7_bestMonth ({ frames := 5, cells := 0, slots := 0, locals := 119 } : Room) (cr_pW D ct (cr_wM ct az vz) sz [.ref (az 0), .int x1, .int x2]) (cr_QW D (cr_wM ct az vz) sz (fun r u => (r, u) = out) (fun u : cr_V => cr_wM ct az u)) 0 0 (va_A (cr_wM ct az vz) sz) := by
  have k0 : (Cond.constant RX7 125 (1000000)) ∈ wsX7_bestMonth := List.mem_of_getElem? (i := 5) rfl
  have k1 : (Cond.fieldLink RX7 7 "CupReceiptsModel" "s" "[I") ∈ wsX7_bestMonth := List.mem_of_getElem? (i := 3) rfl
  have k2 : (Cond.fieldLink RX7 105 "CupReceiptsModel" "wanting" "I") ∈ wsX7_bestMonth := List.mem_of_getElem? (i := 4) rfl
  have k3 : (Cond.constant RX7 65 (-2000000001)) ∈ wsX7_bestMonth := List.mem_of_getElem? (i := 1) rfl
  have k4 : (Cond.constant RX7 43 (-2000000004)) ∈ wsX7_bestMonth := List.mem_of_getElem? (i := 2) rfl
  have hinX7 : ∀ w ∈ wsX70, w ∈ wsX7_bestMonth := fun w h => List.mem_cons_of_mem _ (List.mem_append_right _ h)
  refine cr_metW (Qc := fun A => va_Qi (fun r u => (r, u) = out) (fun u t => cr_at D A ((fun u : cr_V => cr_wM ct az u) u) t) A) (by decide) rfl rfl (Nat.le_of_ble_eq_true rfl) ?_
  intro p e s m args below meth c ls A C hW hl
  obtain ⟨hx, hb, hml, hown, hts, hr, hlocks, hK, hN⟩ := id C
  have hl : lv_has ls 8 [(0, .ref (az 0)), (1, .int x1), (2, .int x2)] := hl
  have n101 : ∀ (k32_ : cr_V → Int32 → Int32 → Int32 → Int32 → Int32 → Option (Int32 × cr_V)) (ih32_ : ∀ (vz : cr_V) (x1 : Int32) (x2 : Int32) (x3 : Int32) (x4 : Int32) (x5 : Int32) (hE : k32_ vz x1 x2 x3 x4 x5 = some out) (H : Heap) (locs : List Loc) (ls : Array Slot) (hW : cr_wd D A s (cr_wM ct az vz) H locs) (hl : lv_has ls 8 [(0, .ref (az 0)), (1, .int x1), (2, .int x2), (3, .int x3), (4, .int x4), (5, .int x5)]), W p L e ({ frames := 5, cells := 0, slots := 0, locals := 119 } : Room) s m args below meth c H locs 0 0 (MQ below (va_Qi (fun r u => (r, u) = out) (fun u t => cr_at D A ((fun u : cr_V => cr_wM ct az u) u) t) A) args s 0 0 A) (F0 m 32 ls [])), ∀ (vz : cr_V) (x1 : Int32) (x2 : Int32) (x3 : Int32) (x4 : Int32) (x5 : Int32) (hE : f_X7_bestMonth_101 k32_ vz x1 x2 x3 x4 x5 = some out) (H : Heap) (locs : List Loc) (ls : Array Slot) (hW : cr_wd D A s (cr_wM ct az vz) H locs) (hl : lv_has ls 8 [(0, .ref (az 0)), (1, .int x1), (2, .int x2), (3, .int x3), (4, .int x4), (5, .int x5)]), W p L e ({ frames := 5, cells := 0, slots := 0, locals := 119 } : Room) s m args below meth c H locs 0 0 (MQ below (va_Qi (fun r u => (r, u) = out) (fun u t => cr_at D A ((fun u : cr_V => cr_wM ct az u) u) t) A) args s 0 0 A) (F0 m 101 ls []) := by
    intro k32_ ih32_ vz x1 x2 x3 x4 x5 hE H locs ls hW hl
    replace hE : (k32_ vz x1 x2 x3 x4 (x5 + 1)) = some out := hE
    refine lv_iinc (v := x5 + 1) (lv' := [(5, .int (x5 + 1)), (0, .ref (az 0)), (1, .int x1), (2, .int x2), (3, .int x3), (4, .int x4)]) hx hb dX7_bestMonth_101 hl (k := 5) rfl (by first | rfl | decide) (by decide) rfl (fun ls hl => ?_)
    refine lv_goto (tgt := 32) hx hb dX7_bestMonth_104 (by decide) ?_
    exact ih32_ vz x1 x2 x3 x4 (x5 + 1) hE _ _ _ hW (lv_sub hl [1, 2, 3, 4, 5, 0] rfl)
  have n94 : ∀ (k32_ : cr_V → Int32 → Int32 → Int32 → Int32 → Int32 → Option (Int32 × cr_V)) (ih32_ : ∀ (vz : cr_V) (x1 : Int32) (x2 : Int32) (x3 : Int32) (x4 : Int32) (x5 : Int32) (hE : k32_ vz x1 x2 x3 x4 x5 = some out) (H : Heap) (locs : List Loc) (ls : Array Slot) (hW : cr_wd D A s (cr_wM ct az vz) H locs) (hl : lv_has ls 8 [(0, .ref (az 0)), (1, .int x1), (2, .int x2), (3, .int x3), (4, .int x4), (5, .int x5)]), W p L e ({ frames := 5, cells := 0, slots := 0, locals := 119 } : Room) s m args below meth c H locs 0 0 (MQ below (va_Qi (fun r u => (r, u) = out) (fun u t => cr_at D A ((fun u : cr_V => cr_wM ct az u) u) t) A) args s 0 0 A) (F0 m 32 ls [])), ∀ (vz : cr_V) (x1 : Int32) (x2 : Int32) (x5 : Int32) (x7 : Int32) (hE : f_X7_bestMonth_94 k32_ vz x1 x2 x5 x7 = some out) (H : Heap) (locs : List Loc) (ls : Array Slot) (hW : cr_wd D A s (cr_wM ct az vz) H locs) (hl : lv_has ls 8 [(0, .ref (az 0)), (1, .int x1), (2, .int x2), (5, .int x5), (7, .int x7)]), W p L e ({ frames := 5, cells := 0, slots := 0, locals := 119 } : Room) s m args below meth c H locs 0 0 (MQ below (va_Qi (fun r u => (r, u) = out) (fun u t => cr_at D A ((fun u : cr_V => cr_wM ct az u) u) t) A) args s 0 0 A) (F0 m 94 ls []) := by
    intro k32_ ih32_ vz x1 x2 x5 x7 hE H locs ls hW hl
    replace hE : (f_X7_bestMonth_101 k32_ vz x1 x2 x5 x7 x5) = some out := hE
    refine lv_iload hx hb dX7_bestMonth_94 (lv_at hl 3 rfl) ?_
    refine lv_istore_n (lv' := [(3, .int x5), (0, .ref (az 0)), (1, .int x1), (2, .int x2), (5, .int x5), (7, .int x7)]) hx hb dX7_bestMonth_96 rfl hl (by decide) rfl (fun ls hl => ?_)
    refine lv_iload hx hb dX7_bestMonth_97 (lv_at hl 5 rfl) ?_
    refine lv_istore (lv' := [(4, .int x7), (3, .int x5), (0, .ref (az 0)), (1, .int x1), (2, .int x2), (5, .int x5), (7, .int x7)]) hx hb dX7_bestMonth_99 hl (by decide) rfl (fun ls hl => ?_)
    exact n101 k32_ ih32_ vz x1 x2 x5 x7 x5 hE _ _ _ hW (lv_sub hl [2, 3, 4, 1, 0, 5] rfl)
  have n115 :  ∀ (vz : cr_V) (x3 : Int32) (hE : f_X7_bestMonth_115  vz x3 = some out) (H : Heap) (locs : List Loc) (ls : Array Slot) (hW : cr_wd D A s (cr_wM ct az vz) H locs) (hl : lv_has ls 8 [(3, .int x3)]), W p L e ({ frames := 5, cells := 0, slots := 0, locals := 119 } : Room) s m args below meth c H locs 0 0 (MQ below (va_Qi (fun r u => (r, u) = out) (fun u t => cr_at D A ((fun u : cr_V => cr_wM ct az u) u) t) A) args s 0 0 A) (F0 m 115 ls []) := by
    intro  vz x3 hE H locs ls hW hl
    replace hE : (some (x3, vz)) = some out := hE
    refine lv_iload_n hx hb dX7_bestMonth_115 rfl (lv_at hl 0 rfl) ?_
    refine lv_goto (tgt := 124) hx hb dX7_bestMonth_116 (by decide) ?_
    exact cr_retW C (w := (fun u : cr_V => cr_wM ct az u)) vz hW (Option.some.inj hE) dX7_bestMonth_124
  have n32 :  ∀ (n : Nat), ∀ (vz : cr_V) (x1 : Int32) (x2 : Int32) (x3 : Int32) (x4 : Int32) (x5 : Int32) (hE : f_X7_bestMonth_32  n vz x1 x2 x3 x4 x5 = some out) (H : Heap) (locs : List Loc) (ls : Array Slot) (hW : cr_wd D A s (cr_wM ct az vz) H locs) (hl : lv_has ls 8 [(0, .ref (az 0)), (1, .int x1), (2, .int x2), (3, .int x3), (4, .int x4), (5, .int x5)]), W p L e ({ frames := 5, cells := 0, slots := 0, locals := 119 } : Room) s m args below meth c H locs 0 0 (MQ below (va_Qi (fun r u => (r, u) = out) (fun u t => cr_at D A ((fun u : cr_V => cr_wM ct az u) u) t) A) args s 0 0 A) (F0 m 32 ls []) := by
    intro  n
    induction n with
    | zero =>
      intro vz x1 x2 x3 x4 x5 hE
      cases hE
    | succ n ih =>
      intro vz x1 x2 x3 x4 x5 hE H locs ls hW hl
      replace hE : (if 24 ≤ x5 then (if x3 < 0 then (f_X7_bestMonth_115 vz x3) else (if x2 = 0 then (f_X7_bestMonth_115 vz x3) else (some ((x4 + 1000000), vz)))) else ((f_X7_gives vz x1 ((vz 0 0) + x5)).bind fun q4 => (f_X7_paidAll q4 x1 ((vz 0 0) + x5) 1).bind fun q5 => (f_X7_isDelivery q4 ((vz 0 0) + x5)).bind fun q6 => if q6 = 0 then (f_X7_bestMonth_101 (f_X7_bestMonth_32 n) q4 x1 x2 x3 x4 x5) else (if (q4 10 0) = 0 then (if x3 < 0 then (f_X7_bestMonth_94 (f_X7_bestMonth_32 n) q4 x1 x2 x5 q5) else (if q5 ≤ x4 then (f_X7_bestMonth_101 (f_X7_bestMonth_32 n) q4 x1 x2 x3 x4 x5) else (f_X7_bestMonth_94 (f_X7_bestMonth_32 n) q4 x1 x2 x5 q5))) else (f_X7_bestMonth_101 (f_X7_bestMonth_32 n) q4 x1 x2 x3 x4 x5)))) = some out := hE
      refine lv_iload hx hb dX7_bestMonth_32 (lv_at hl 5 rfl) ?_
      refine lv_bipush (v := 24) hx hb dX7_bestMonth_34 (by decide) ?_
      refine lv_icmp_ge (tgt := 107) hx hb dX7_bestMonth_36 (by decide) (fun c1 => ?_) (fun c1 => ?_)
      · rw [if_pos c1] at hE
        refine lv_iload_n hx hb dX7_bestMonth_107 rfl (lv_at hl 3 rfl) ?_
        refine lv_if_lt (tgt := 115) hx hb dX7_bestMonth_108 (by decide) (fun c2 => ?_) (fun c2 => ?_)
        · rw [if_pos c2] at hE
          exact n115 vz x3 hE _ _ _ hW (lv_sub hl [3] rfl)
        · rw [if_neg c2] at hE
          refine lv_iload_n hx hb dX7_bestMonth_111 rfl (lv_at hl 2 rfl) ?_
          refine lv_if_ne (tgt := 119) hx hb dX7_bestMonth_112 (by decide) (fun c3 => ?_) (fun c3 => ?_)
          · rw [if_neg c3] at hE
            refine lv_iload hx hb dX7_bestMonth_119 (lv_at hl 4 rfl) ?_
            refine cr_ldc C k0 dX7_bestMonth_121 ?_
            refine lv_iadd hx hb dX7_bestMonth_123 ?_
            exact cr_retW C (w := (fun u : cr_V => cr_wM ct az u)) vz hW (Option.some.inj hE) dX7_bestMonth_124
          · rw [if_pos c3] at hE
            exact n115 vz x3 hE _ _ _ hW (lv_sub hl [3] rfl)
      · rw [if_neg c1] at hE
        refine lv_aload_n hx hb dX7_bestMonth_39 rfl (lv_at hl 0 rfl) ?_
        refine cr_get C hW.1 0 rfl rfl 0 (by decide) hinX7 k1 (v := .ref (az 1)) rfl dX7_bestMonth_40 ?_
        refine lv_iconst (v := 0) hx hb dX7_bestMonth_43 (by decide) ?_
        refine cr_ald C hW.1 1 (f := vz 0) (k := 0) rfl (by decide) (by decide) dX7_bestMonth_44 ?_
        refine lv_iload hx hb dX7_bestMonth_45 (lv_at hl 5 rfl) ?_
        refine lv_iadd hx hb dX7_bestMonth_47 ?_
        refine lv_istore (lv' := [(6, .int ((vz 0 0) + x5)), (0, .ref (az 0)), (1, .int x1), (2, .int x2), (3, .int x3), (4, .int x4), (5, .int x5)]) hx hb dX7_bestMonth_48 hl (by decide) rfl (fun ls hl => ?_)
        refine lv_aload_n hx hb dX7_bestMonth_50 rfl (lv_at hl 1 rfl) ?_
        refine lv_iload_n hx hb dX7_bestMonth_51 rfl (lv_at hl 2 rfl) ?_
        refine lv_iload hx hb dX7_bestMonth_52 (lv_at hl 0 rfl) ?_
        obtain ⟨q4, hq4, hE⟩ := cr_bind hE
        refine cr_vVq (n := 2) (As := [.int x1, .int ((vz 0 0) + x5)]) (rest := []) C hW (m_X7_gives L D ct az vz x1 ((vz 0 0) + x5) _ q4 hq4) (cwV 2 hts gX7_bestMonth_X7_gives rfl rfl rfl (by decide +kernel) ⟨Nat.le_of_ble_eq_true rfl, Nat.le_of_ble_eq_true rfl⟩) [0, 1, 2, 3, 4, 5, 6, 7] [] [0, 1, 2, 3, 4, 5, 6, 7] (cr_wM ct az q4) rfl rfl rfl ⟨by decide +kernel, by decide +kernel, by decide +kernel, by decide +kernel⟩ 0 rfl rfl rfl hl.1 rfl (Nat.le_of_ble_eq_true rfl) dX7_bestMonth_54 ⟨Nat.zero_le _, Nat.zero_le _⟩ (fun H locs hW => ?_)
        refine lv_aload_n hx hb dX7_bestMonth_57 rfl (lv_at hl 1 rfl) ?_
        refine lv_iload_n hx hb dX7_bestMonth_58 rfl (lv_at hl 2 rfl) ?_
        refine lv_iload hx hb dX7_bestMonth_59 (lv_at hl 0 rfl) ?_
        refine lv_iconst (v := 1) hx hb dX7_bestMonth_61 (by decide) ?_
        obtain ⟨q5, hq5, hE⟩ := cr_bind hE
        refine cr_vRwq (n := 3) (As := [.int x1, .int ((vz 0 0) + x5), .int 1]) (rest := []) C hW (m_X7_paidAll L D ct az q4 x1 ((vz 0 0) + x5) 1 q5 hq5) (cwV 3 hts gX7_bestMonth_X7_paidAll rfl rfl rfl (by decide +kernel) ⟨Nat.le_of_ble_eq_true rfl, Nat.le_of_ble_eq_true rfl⟩) [0, 1, 2, 3, 4, 5, 6, 7] rfl 0 rfl rfl rfl hl.1 rfl (Nat.le_of_ble_eq_true rfl) dX7_bestMonth_62 ⟨Nat.zero_le _, Nat.zero_le _⟩ (fun H locs hW => ?_)
        refine lv_istore (lv' := [(7, .int q5), (6, .int ((vz 0 0) + x5)), (0, .ref (az 0)), (1, .int x1), (2, .int x2), (3, .int x3), (4, .int x4), (5, .int x5)]) hx hb dX7_bestMonth_65 hl (by decide) rfl (fun ls hl => ?_)
        refine lv_aload_n hx hb dX7_bestMonth_67 rfl (lv_at hl 2 rfl) ?_
        refine lv_iload hx hb dX7_bestMonth_68 (lv_at hl 1 rfl) ?_
        obtain ⟨q6, hq6, hE⟩ := cr_bind hE
        refine cr_vRwq (n := 1) (As := [.int ((vz 0 0) + x5)]) (rest := []) C hW (m_X7_isDelivery L D ct az q4 ((vz 0 0) + x5) q6 hq6) (cwV 1 hts gX7_bestMonth_X7_isDelivery rfl rfl rfl (by decide +kernel) ⟨Nat.le_of_ble_eq_true rfl, Nat.le_of_ble_eq_true rfl⟩) [0, 1, 2, 3, 4, 5, 6, 7] rfl 0 rfl rfl rfl hl.1 rfl (Nat.le_of_ble_eq_true rfl) dX7_bestMonth_70 ⟨Nat.zero_le _, Nat.zero_le _⟩ (fun H locs hW => ?_)
        refine lv_if_eq (tgt := 101) hx hb dX7_bestMonth_73 (by decide) (fun c7 => ?_) (fun c7 => ?_)
        · rw [if_pos c7] at hE
          exact n101 (f_X7_bestMonth_32 n) ih q4 x1 x2 x3 x4 x5 hE _ _ _ hW (lv_sub hl [2, 3, 4, 5, 6, 7] rfl)
        · rw [if_neg c7] at hE
          refine lv_aload_n hx hb dX7_bestMonth_76 rfl (lv_at hl 2 rfl) ?_
          refine cr_get C hW.1 0 rfl rfl 10 (by decide) hinX7 k2 (v := .int (q4 10 0)) rfl dX7_bestMonth_77 ?_
          refine lv_if_ne (tgt := 101) hx hb dX7_bestMonth_80 (by decide) (fun c8 => ?_) (fun c8 => ?_)
          · rw [if_neg c8] at hE
            exact n101 (f_X7_bestMonth_32 n) ih q4 x1 x2 x3 x4 x5 hE _ _ _ hW (lv_sub hl [2, 3, 4, 5, 6, 7] rfl)
          · rw [if_pos c8] at hE
            refine lv_iload_n hx hb dX7_bestMonth_83 rfl (lv_at hl 5 rfl) ?_
            refine lv_if_lt (tgt := 94) hx hb dX7_bestMonth_84 (by decide) (fun c9 => ?_) (fun c9 => ?_)
            · rw [if_pos c9] at hE
              exact n94 (f_X7_bestMonth_32 n) ih q4 x1 x2 x5 q5 hE _ _ _ hW (lv_sub hl [2, 3, 4, 7, 0] rfl)
            · rw [if_neg c9] at hE
              refine lv_iload hx hb dX7_bestMonth_87 (lv_at hl 0 rfl) ?_
              refine lv_iload hx hb dX7_bestMonth_89 (lv_at hl 6 rfl) ?_
              refine lv_icmp_le (tgt := 101) hx hb dX7_bestMonth_91 (by decide) (fun c10 => ?_) (fun c10 => ?_)
              · rw [if_pos c10] at hE
                exact n101 (f_X7_bestMonth_32 n) ih q4 x1 x2 x3 x4 x5 hE _ _ _ hW (lv_sub hl [2, 3, 4, 5, 6, 7] rfl)
              · rw [if_neg c10] at hE
                exact n94 (f_X7_bestMonth_32 n) ih q4 x1 x2 x5 q5 hE _ _ _ hW (lv_sub hl [2, 3, 4, 7, 0] rfl)
  replace hE : ((f_X7_in x1 1 999).bind fun q11 => if q11 = 0 then (some ((-2000000001), vz)) else ((f_X7_in x2 0 1).bind fun q13 => if q13 = 0 then (some ((-2000000001), vz)) else (f_X7_bestMonth_32 10100 vz x1 x2 (-2000000004) 0 0))) = some out := hE
  refine lv_iload_n hx hb dX7_bestMonth_0 rfl (lv_at hl 1 rfl) ?_
  refine lv_iconst (v := 1) hx hb dX7_bestMonth_1 (by decide) ?_
  refine lv_sipush (v := 999) hx hb dX7_bestMonth_2 (by decide) ?_
  obtain ⟨q11, hq11, hE⟩ := cr_bind hE
  refine cr_sRwq (n := 3) (As := [.int x1, .int 1, .int 999]) (rest := []) C hW (m_X7_in L D ct x1 1 999 q11 hq11) (va_cwS 3 hts gX7_bestMonth_X7_in rfl rfl rfl (by decide +kernel) ⟨Nat.le_of_ble_eq_true rfl, Nat.le_of_ble_eq_true rfl⟩) rfl hl.1 rfl (Nat.le_of_ble_eq_true rfl) dX7_bestMonth_5 ⟨Nat.zero_le _, Nat.zero_le _⟩ (fun H locs hW => ?_)
  refine lv_if_eq (tgt := 20) hx hb dX7_bestMonth_8 (by decide) (fun c12 => ?_) (fun c12 => ?_)
  · rw [if_pos c12] at hE
    refine cr_ldc C k3 dX7_bestMonth_20 ?_
    exact cr_retW C (w := (fun u : cr_V => cr_wM ct az u)) vz hW (Option.some.inj hE) dX7_bestMonth_22
  · rw [if_neg c12] at hE
    refine lv_iload_n hx hb dX7_bestMonth_11 rfl (lv_at hl 2 rfl) ?_
    refine lv_iconst (v := 0) hx hb dX7_bestMonth_12 (by decide) ?_
    refine lv_iconst (v := 1) hx hb dX7_bestMonth_13 (by decide) ?_
    obtain ⟨q13, hq13, hE⟩ := cr_bind hE
    refine cr_sRwq (n := 3) (As := [.int x2, .int 0, .int 1]) (rest := []) C hW (m_X7_in L D ct x2 0 1 q13 hq13) (va_cwS 3 hts gX7_bestMonth_X7_in rfl rfl rfl (by decide +kernel) ⟨Nat.le_of_ble_eq_true rfl, Nat.le_of_ble_eq_true rfl⟩) rfl hl.1 rfl (Nat.le_of_ble_eq_true rfl) dX7_bestMonth_14 ⟨Nat.zero_le _, Nat.zero_le _⟩ (fun H locs hW => ?_)
    refine lv_if_ne (tgt := 23) hx hb dX7_bestMonth_17 (by decide) (fun c14 => ?_) (fun c14 => ?_)
    · rw [if_neg c14] at hE
      refine cr_ldc C k4 dX7_bestMonth_23 ?_
      refine lv_istore_n (lv' := [(3, .int (-2000000004)), (0, .ref (az 0)), (1, .int x1), (2, .int x2)]) hx hb dX7_bestMonth_25 rfl hl (by decide) rfl (fun ls hl => ?_)
      refine lv_iconst (v := 0) hx hb dX7_bestMonth_26 (by decide) ?_
      refine lv_istore (lv' := [(4, .int 0), (3, .int (-2000000004)), (0, .ref (az 0)), (1, .int x1), (2, .int x2)]) hx hb dX7_bestMonth_27 hl (by decide) rfl (fun ls hl => ?_)
      refine lv_iconst (v := 0) hx hb dX7_bestMonth_29 (by decide) ?_
      refine lv_istore (lv' := [(5, .int 0), (4, .int 0), (3, .int (-2000000004)), (0, .ref (az 0)), (1, .int x1), (2, .int x2)]) hx hb dX7_bestMonth_30 hl (by decide) rfl (fun ls hl => ?_)
      exact n32 10100 vz x1 x2 (-2000000004) 0 0 hE _ _ _ hW (lv_sub hl [3, 4, 5, 2, 1, 0] rfl)
    · rw [if_pos c14] at hE
      refine cr_ldc C k3 dX7_bestMonth_20 ?_
      exact cr_retW C (w := (fun u : cr_V => cr_wM ct az u)) vz hW (Option.some.inj hE) dX7_bestMonth_22

set_option maxHeartbeats 4000000 in
set_option maxRecDepth 100000 in
theorem m_X7_bags (L : Launch) (D : va_G) (ct : Nat → ClassId) (az : Nat → Nat) (vz : cr_V) (x1 : Int32) (out : Int32) (hE : f_X7_bags vz x1 = some out) : Met L yX7_bags wsX7_bags ({ frames := 3, cells := 0, slots := 0, locals := 66 } : Room) (cr_pR D ct (cr_wM ct az vz) [.ref (az 0), .int x1]) (cr_QR (fun r => r = out)) 0 0 cr_no := by
  have k0 : (Cond.fieldLink RX7 7 "CupReceiptsModel" "s" "[I") ∈ wsX7_bags := List.mem_of_getElem? (i := 1) rfl
  have hinX7 : ∀ w ∈ wsX70, w ∈ wsX7_bags := fun w h => List.mem_cons_of_mem _ (List.mem_append_right _ h)
  refine cr_metR (by decide) rfl rfl (Nat.le_of_ble_eq_true rfl) ?_
  intro p e s m args below meth c ls C hP hS hl
  obtain ⟨hx, hb, hml, hown, hts, hr, hlocks, hK, hN⟩ := id C
  have hl : lv_has ls 4 [(0, .ref (az 0)), (1, .int x1)] := hl
  have n35 : ∀ (k4_ : cr_V → Int32 → Int32 → Int32 → Option (Int32)) (ih4_ : ∀ (vz : cr_V) (x1 : Int32) (x2 : Int32) (x3 : Int32) (hE : k4_ vz x1 x2 x3 = some out) (H : Heap) (locs : List Loc) (ls : Array Slot) (hP : va_P D vwCl (cr_wM ct az vz) H) (hS : va_S cr_no s.heap H locs) (hl : lv_has ls 4 [(0, .ref (az 0)), (1, .int x1), (2, .int x2), (3, .int x3)]), W p L e ({ frames := 3, cells := 0, slots := 0, locals := 66 } : Room) s m args below meth c H locs 0 0 (MQ below (cr_QR (fun r => r = out)) args s 0 0 cr_no) (F0 m 4 ls [])), ∀ (vz : cr_V) (x1 : Int32) (x3 : Int32) (s0 : Int32) (s1 : Int32) (hE : f_X7_bags_35 k4_ vz x1 x3 s0 s1 = some out) (H : Heap) (locs : List Loc) (ls : Array Slot) (hP : va_P D vwCl (cr_wM ct az vz) H) (hS : va_S cr_no s.heap H locs) (hl : lv_has ls 4 [(0, .ref (az 0)), (1, .int x1), (3, .int x3)]), W p L e ({ frames := 3, cells := 0, slots := 0, locals := 66 } : Room) s m args below meth c H locs 0 0 (MQ below (cr_QR (fun r => r = out)) args s 0 0 cr_no) (F0 m 35 ls [.int s0, .int s1]) := by
    intro k4_ ih4_ vz x1 x3 s0 s1 hE H locs ls hP hS hl
    replace hE : (k4_ vz x1 (s1 + s0) (x3 + 1)) = some out := hE
    refine lv_iadd hx hb dX7_bags_35 ?_
    refine lv_istore_n (lv' := [(2, .int (s1 + s0)), (0, .ref (az 0)), (1, .int x1), (3, .int x3)]) hx hb dX7_bags_36 rfl hl (by decide) rfl (fun ls hl => ?_)
    refine lv_iinc (v := x3 + 1) (lv' := [(3, .int (x3 + 1)), (2, .int (s1 + s0)), (0, .ref (az 0)), (1, .int x1)]) hx hb dX7_bags_37 hl (k := 3) rfl (by first | rfl | decide) (by decide) rfl (fun ls hl => ?_)
    refine lv_goto (tgt := 4) hx hb dX7_bags_40 (by decide) ?_
    exact ih4_ vz x1 (s1 + s0) (x3 + 1) hE _ _ _ hP hS (lv_sub hl [2, 3, 1, 0] rfl)
  have n4 :  ∀ (n : Nat), ∀ (vz : cr_V) (x1 : Int32) (x2 : Int32) (x3 : Int32) (hE : f_X7_bags_4  n vz x1 x2 x3 = some out) (H : Heap) (locs : List Loc) (ls : Array Slot) (hP : va_P D vwCl (cr_wM ct az vz) H) (hS : va_S cr_no s.heap H locs) (hl : lv_has ls 4 [(0, .ref (az 0)), (1, .int x1), (2, .int x2), (3, .int x3)]), W p L e ({ frames := 3, cells := 0, slots := 0, locals := 66 } : Room) s m args below meth c H locs 0 0 (MQ below (cr_QR (fun r => r = out)) args s 0 0 cr_no) (F0 m 4 ls []) := by
    intro  n
    induction n with
    | zero =>
      intro vz x1 x2 x3 hE
      cases hE
    | succ n ih =>
      intro vz x1 x2 x3 hE H locs ls hP hS hl
      replace hE : (if (vz 0 6) ≤ x3 then (some x2) else ((f_X7_cupOf vz x3).bind fun q2 => if q2 < x1 then (f_X7_bags_35 (f_X7_bags_4 n) vz x1 x3 0 x2) else ((f_X7_of vz x3 1).bind fun q4 => f_X7_bags_35 (f_X7_bags_4 n) vz x1 x3 q4 x2))) = some out := hE
      refine lv_iload_n hx hb dX7_bags_4 rfl (lv_at hl 3 rfl) ?_
      refine lv_aload_n hx hb dX7_bags_5 rfl (lv_at hl 0 rfl) ?_
      refine cr_get C hP 0 rfl rfl 0 (by decide) hinX7 k0 (v := .ref (az 1)) rfl dX7_bags_6 ?_
      refine lv_bipush (v := 6) hx hb dX7_bags_9 (by decide) ?_
      refine cr_ald C hP 1 (f := vz 0) (k := 6) rfl (by decide) (by decide) dX7_bags_11 ?_
      refine lv_icmp_ge (tgt := 43) hx hb dX7_bags_12 (by decide) (fun c1 => ?_) (fun c1 => ?_)
      · rw [if_pos c1] at hE
        refine lv_iload_n hx hb dX7_bags_43 rfl (lv_at hl 2 rfl) ?_
        exact cr_retR C hS (Option.some.inj hE) dX7_bags_44
      · rw [if_neg c1] at hE
        refine lv_iload_n hx hb dX7_bags_15 rfl (lv_at hl 2 rfl) ?_
        refine lv_aload_n hx hb dX7_bags_16 rfl (lv_at hl 0 rfl) ?_
        refine lv_iload_n hx hb dX7_bags_17 rfl (lv_at hl 3 rfl) ?_
        obtain ⟨q2, hq2, hE⟩ := cr_bind hE
        refine cr_vRq (n := 1) (As := [.int x3]) (rest := [.int x2]) C hP hS (m_X7_cupOf L D ct az vz x3 q2 hq2) (cwV 1 hts gX7_bags_X7_cupOf rfl rfl rfl (by decide +kernel) ⟨Nat.le_of_ble_eq_true rfl, Nat.le_of_ble_eq_true rfl⟩) [0, 1, 2, 3, 4, 5, 6, 7] rfl 0 rfl rfl rfl hl.1 rfl (Nat.le_of_ble_eq_true rfl) dX7_bags_18 ⟨Nat.zero_le _, Nat.zero_le _⟩ (fun H locs hP hS => ?_)
        refine lv_iload_n hx hb dX7_bags_21 rfl (lv_at hl 1 rfl) ?_
        refine lv_icmp_lt (tgt := 34) hx hb dX7_bags_22 (by decide) (fun c3 => ?_) (fun c3 => ?_)
        · rw [if_pos c3] at hE
          refine lv_iconst (v := 0) hx hb dX7_bags_34 (by decide) ?_
          exact n35 (f_X7_bags_4 n) ih vz x1 x3 0 x2 hE _ _ _ hP hS (lv_sub hl [0, 1, 3] rfl)
        · rw [if_neg c3] at hE
          refine lv_aload_n hx hb dX7_bags_25 rfl (lv_at hl 0 rfl) ?_
          refine lv_iload_n hx hb dX7_bags_26 rfl (lv_at hl 3 rfl) ?_
          refine lv_iconst (v := 1) hx hb dX7_bags_27 (by decide) ?_
          obtain ⟨q4, hq4, hE⟩ := cr_bind hE
          refine cr_vRq (n := 2) (As := [.int x3, .int 1]) (rest := [.int x2]) C hP hS (m_X7_of L D ct az vz x3 1 q4 hq4) (cwV 2 hts gX7_bags_X7_of rfl rfl rfl (by decide +kernel) ⟨Nat.le_of_ble_eq_true rfl, Nat.le_of_ble_eq_true rfl⟩) [0, 1, 2, 3, 4, 5, 6, 7] rfl 0 rfl rfl rfl hl.1 rfl (Nat.le_of_ble_eq_true rfl) dX7_bags_28 ⟨Nat.zero_le _, Nat.zero_le _⟩ (fun H locs hP hS => ?_)
          refine lv_goto (tgt := 35) hx hb dX7_bags_31 (by decide) ?_
          exact n35 (f_X7_bags_4 n) ih vz x1 x3 q4 x2 hE _ _ _ hP hS (lv_sub hl [0, 1, 3] rfl)
  replace hE : (f_X7_bags_4 10100 vz x1 0 0) = some out := hE
  refine lv_iconst (v := 0) hx hb dX7_bags_0 (by decide) ?_
  refine lv_istore_n (lv' := [(2, .int 0), (0, .ref (az 0)), (1, .int x1)]) hx hb dX7_bags_1 rfl hl (by decide) rfl (fun ls hl => ?_)
  refine lv_iconst (v := 0) hx hb dX7_bags_2 (by decide) ?_
  refine lv_istore_n (lv' := [(3, .int 0), (2, .int 0), (0, .ref (az 0)), (1, .int x1)]) hx hb dX7_bags_3 rfl hl (by decide) rfl (fun ls hl => ?_)
  exact n4 10100 vz x1 0 0 hE _ _ _ hP hS (lv_sub hl [2, 3, 1, 0] rfl)

set_option maxHeartbeats 4000000 in
set_option maxRecDepth 100000 in
theorem m_X7_count (L : Launch) (D : va_G) (ct : Nat → ClassId) (az : Nat → Nat) (vz : cr_V) (x1 : Int32) (out : Int32) (hE : f_X7_count vz x1 = some out) : Met L yX7_count wsX7_count ({ frames := 4, cells := 0, slots := 0, locals := 89 } : Room) (cr_pR D ct (cr_wM ct az vz) [.ref (az 0), .int x1]) (cr_QR (fun r => r = out)) 0 0 cr_no := by
  have k0 : (Cond.fieldLink RX7 7 "CupReceiptsModel" "s" "[I") ∈ wsX7_count := List.mem_of_getElem? (i := 1) rfl
  have k1 : (Cond.fieldLink RX7 35 "CupReceiptsModel" "pasts" "I") ∈ wsX7_count := List.mem_of_getElem? (i := 2) rfl
  have k2 : (Cond.fieldLink RX7 135 "CupReceiptsModel" "typed" "I") ∈ wsX7_count := List.mem_of_getElem? (i := 3) rfl
  have k3 : (Cond.constant RX7 65 (-2000000001)) ∈ wsX7_count := List.mem_of_getElem? (i := 4) rfl
  have hinX7 : ∀ w ∈ wsX70, w ∈ wsX7_count := fun w h => List.mem_cons_of_mem _ (List.mem_append_right _ h)
  refine cr_metR (by decide) rfl rfl (Nat.le_of_ble_eq_true rfl) ?_
  intro p e s m args below meth c ls C hP hS hl
  obtain ⟨hx, hb, hml, hown, hts, hr, hlocks, hK, hN⟩ := id C
  have hl : lv_has ls 2 [(0, .ref (az 0)), (1, .int x1)] := hl
  replace hE : (if x1 = 0 then (some (vz 0 6)) else (if x1 = 1 then ((f_X7_bags vz 0).bind fun q3 => some q3) else (if x1 = 2 then (some (vz 0 0)) else (if x1 = 3 then (some (vz 0 7)) else (if x1 = 4 then (some (vz 0 1)) else (if x1 = 5 then (if cr_in ((2 + x1) - 5) 81 = true then some (vz 0 (cr_x ((2 + x1) - 5))) else none) else (if x1 = 6 then (if cr_in ((2 + x1) - 5) 81 = true then some (vz 0 (cr_x ((2 + x1) - 5))) else none) else (if x1 = 7 then (if cr_in ((2 + x1) - 5) 81 = true then some (vz 0 (cr_x ((2 + x1) - 5))) else none) else (if x1 = 8 then ((f_X7_bags vz 70).bind fun q14 => some q14) else (if x1 = 9 then (some (vz 0 5)) else (if x1 = 10 then (some (vz 3 0)) else (if x1 = 11 then (some (vz 6 0)) else ((f_X7_in x1 20 24).bind fun q18 => if q18 = 0 then (some (-2000000001)) else (if cr_in ((8 + x1) - 20) 81 = true then some (vz 0 (cr_x ((8 + x1) - 20))) else none)))))))))))))) = some out := hE
  refine lv_iload_n hx hb dX7_count_0 rfl (lv_at hl 1 rfl) ?_
  by_cases c1 : x1 = 0
  · rw [if_pos c1] at hE
    refine lv_tableIn (tgt := 64) (off := 63) hx hb dX7_count_1 (by rw [c1]; decide) (by rw [c1]; decide) (by rw [c1]; rfl) (by decide) ?_
    refine lv_aload_n hx hb dX7_count_64 rfl (lv_at hl 0 rfl) ?_
    refine cr_get C hP 0 rfl rfl 0 (by decide) hinX7 k0 (v := .ref (az 1)) rfl dX7_count_65 ?_
    refine lv_bipush (v := 6) hx hb dX7_count_68 (by decide) ?_
    refine cr_ald C hP 1 (f := vz 0) (k := 6) rfl (by decide) (by decide) dX7_count_70 ?_
    exact cr_retR C hS (Option.some.inj hE) dX7_count_71
  · rw [if_neg c1] at hE
    by_cases c2 : x1 = 1
    · rw [if_pos c2] at hE
      refine lv_tableIn (tgt := 72) (off := 71) hx hb dX7_count_1 (by rw [c2]; decide) (by rw [c2]; decide) (by rw [c2]; rfl) (by decide) ?_
      refine lv_aload_n hx hb dX7_count_72 rfl (lv_at hl 0 rfl) ?_
      refine lv_iconst (v := 0) hx hb dX7_count_73 (by decide) ?_
      obtain ⟨q3, hq3, hE⟩ := cr_bind hE
      refine cr_vRq (n := 1) (As := [.int 0]) (rest := []) C hP hS (m_X7_bags L D ct az vz 0 q3 hq3) (cwV 1 hts gX7_count_X7_bags rfl rfl rfl (by decide +kernel) ⟨Nat.le_of_ble_eq_true rfl, Nat.le_of_ble_eq_true rfl⟩) [0, 1, 2, 3, 4, 5, 6, 7] rfl 0 rfl rfl rfl hl.1 rfl (Nat.le_of_ble_eq_true rfl) dX7_count_74 ⟨Nat.zero_le _, Nat.zero_le _⟩ (fun H locs hP hS => ?_)
      exact cr_retR C hS (Option.some.inj hE) dX7_count_77
    · rw [if_neg c2] at hE
      by_cases c4 : x1 = 2
      · rw [if_pos c4] at hE
        refine lv_tableIn (tgt := 78) (off := 77) hx hb dX7_count_1 (by rw [c4]; decide) (by rw [c4]; decide) (by rw [c4]; rfl) (by decide) ?_
        refine lv_aload_n hx hb dX7_count_78 rfl (lv_at hl 0 rfl) ?_
        refine cr_get C hP 0 rfl rfl 0 (by decide) hinX7 k0 (v := .ref (az 1)) rfl dX7_count_79 ?_
        refine lv_iconst (v := 0) hx hb dX7_count_82 (by decide) ?_
        refine cr_ald C hP 1 (f := vz 0) (k := 0) rfl (by decide) (by decide) dX7_count_83 ?_
        exact cr_retR C hS (Option.some.inj hE) dX7_count_84
      · rw [if_neg c4] at hE
        by_cases c5 : x1 = 3
        · rw [if_pos c5] at hE
          refine lv_tableIn (tgt := 85) (off := 84) hx hb dX7_count_1 (by rw [c5]; decide) (by rw [c5]; decide) (by rw [c5]; rfl) (by decide) ?_
          refine lv_aload_n hx hb dX7_count_85 rfl (lv_at hl 0 rfl) ?_
          refine cr_get C hP 0 rfl rfl 0 (by decide) hinX7 k0 (v := .ref (az 1)) rfl dX7_count_86 ?_
          refine lv_bipush (v := 7) hx hb dX7_count_89 (by decide) ?_
          refine cr_ald C hP 1 (f := vz 0) (k := 7) rfl (by decide) (by decide) dX7_count_91 ?_
          exact cr_retR C hS (Option.some.inj hE) dX7_count_92
        · rw [if_neg c5] at hE
          by_cases c6 : x1 = 4
          · rw [if_pos c6] at hE
            refine lv_tableIn (tgt := 93) (off := 92) hx hb dX7_count_1 (by rw [c6]; decide) (by rw [c6]; decide) (by rw [c6]; rfl) (by decide) ?_
            refine lv_aload_n hx hb dX7_count_93 rfl (lv_at hl 0 rfl) ?_
            refine cr_get C hP 0 rfl rfl 0 (by decide) hinX7 k0 (v := .ref (az 1)) rfl dX7_count_94 ?_
            refine lv_iconst (v := 1) hx hb dX7_count_97 (by decide) ?_
            refine cr_ald C hP 1 (f := vz 0) (k := 1) rfl (by decide) (by decide) dX7_count_98 ?_
            exact cr_retR C hS (Option.some.inj hE) dX7_count_99
          · rw [if_neg c6] at hE
            by_cases c7 : x1 = 5
            · rw [if_pos c7] at hE
              refine lv_tableIn (tgt := 100) (off := 99) hx hb dX7_count_1 (by rw [c7]; decide) (by rw [c7]; decide) (by rw [c7]; rfl) (by decide) ?_
              refine lv_aload_n hx hb dX7_count_100 rfl (lv_at hl 0 rfl) ?_
              refine cr_get C hP 0 rfl rfl 0 (by decide) hinX7 k0 (v := .ref (az 1)) rfl dX7_count_101 ?_
              refine lv_iconst (v := 2) hx hb dX7_count_104 (by decide) ?_
              refine lv_iload_n hx hb dX7_count_105 rfl (lv_at hl 1 rfl) ?_
              refine lv_iadd hx hb dX7_count_106 ?_
              refine lv_iconst (v := 5) hx hb dX7_count_107 (by decide) ?_
              refine lv_isub hx hb dX7_count_108 ?_
              obtain ⟨i8, hE⟩ := cr_ifn hE
              refine cr_ald C hP 1 (f := vz 0) (k := cr_x ((2 + x1) - 5)) rfl i8 (cr_xe _) dX7_count_109 ?_
              exact cr_retR C hS (Option.some.inj hE) dX7_count_110
            · rw [if_neg c7] at hE
              by_cases c9 : x1 = 6
              · rw [if_pos c9] at hE
                refine lv_tableIn (tgt := 100) (off := 99) hx hb dX7_count_1 (by rw [c9]; decide) (by rw [c9]; decide) (by rw [c9]; rfl) (by decide) ?_
                refine lv_aload_n hx hb dX7_count_100 rfl (lv_at hl 0 rfl) ?_
                refine cr_get C hP 0 rfl rfl 0 (by decide) hinX7 k0 (v := .ref (az 1)) rfl dX7_count_101 ?_
                refine lv_iconst (v := 2) hx hb dX7_count_104 (by decide) ?_
                refine lv_iload_n hx hb dX7_count_105 rfl (lv_at hl 1 rfl) ?_
                refine lv_iadd hx hb dX7_count_106 ?_
                refine lv_iconst (v := 5) hx hb dX7_count_107 (by decide) ?_
                refine lv_isub hx hb dX7_count_108 ?_
                obtain ⟨i10, hE⟩ := cr_ifn hE
                refine cr_ald C hP 1 (f := vz 0) (k := cr_x ((2 + x1) - 5)) rfl i10 (cr_xe _) dX7_count_109 ?_
                exact cr_retR C hS (Option.some.inj hE) dX7_count_110
              · rw [if_neg c9] at hE
                by_cases c11 : x1 = 7
                · rw [if_pos c11] at hE
                  refine lv_tableIn (tgt := 100) (off := 99) hx hb dX7_count_1 (by rw [c11]; decide) (by rw [c11]; decide) (by rw [c11]; rfl) (by decide) ?_
                  refine lv_aload_n hx hb dX7_count_100 rfl (lv_at hl 0 rfl) ?_
                  refine cr_get C hP 0 rfl rfl 0 (by decide) hinX7 k0 (v := .ref (az 1)) rfl dX7_count_101 ?_
                  refine lv_iconst (v := 2) hx hb dX7_count_104 (by decide) ?_
                  refine lv_iload_n hx hb dX7_count_105 rfl (lv_at hl 1 rfl) ?_
                  refine lv_iadd hx hb dX7_count_106 ?_
                  refine lv_iconst (v := 5) hx hb dX7_count_107 (by decide) ?_
                  refine lv_isub hx hb dX7_count_108 ?_
                  obtain ⟨i12, hE⟩ := cr_ifn hE
                  refine cr_ald C hP 1 (f := vz 0) (k := cr_x ((2 + x1) - 5)) rfl i12 (cr_xe _) dX7_count_109 ?_
                  exact cr_retR C hS (Option.some.inj hE) dX7_count_110
                · rw [if_neg c11] at hE
                  by_cases c13 : x1 = 8
                  · rw [if_pos c13] at hE
                    refine lv_tableIn (tgt := 111) (off := 110) hx hb dX7_count_1 (by rw [c13]; decide) (by rw [c13]; decide) (by rw [c13]; rfl) (by decide) ?_
                    refine lv_aload_n hx hb dX7_count_111 rfl (lv_at hl 0 rfl) ?_
                    refine lv_bipush (v := 70) hx hb dX7_count_112 (by decide) ?_
                    obtain ⟨q14, hq14, hE⟩ := cr_bind hE
                    refine cr_vRq (n := 1) (As := [.int 70]) (rest := []) C hP hS (m_X7_bags L D ct az vz 70 q14 hq14) (cwV 1 hts gX7_count_X7_bags rfl rfl rfl (by decide +kernel) ⟨Nat.le_of_ble_eq_true rfl, Nat.le_of_ble_eq_true rfl⟩) [0, 1, 2, 3, 4, 5, 6, 7] rfl 0 rfl rfl rfl hl.1 rfl (Nat.le_of_ble_eq_true rfl) dX7_count_114 ⟨Nat.zero_le _, Nat.zero_le _⟩ (fun H locs hP hS => ?_)
                    exact cr_retR C hS (Option.some.inj hE) dX7_count_117
                  · rw [if_neg c13] at hE
                    by_cases c15 : x1 = 9
                    · rw [if_pos c15] at hE
                      refine lv_tableIn (tgt := 118) (off := 117) hx hb dX7_count_1 (by rw [c15]; decide) (by rw [c15]; decide) (by rw [c15]; rfl) (by decide) ?_
                      refine lv_aload_n hx hb dX7_count_118 rfl (lv_at hl 0 rfl) ?_
                      refine cr_get C hP 0 rfl rfl 0 (by decide) hinX7 k0 (v := .ref (az 1)) rfl dX7_count_119 ?_
                      refine lv_iconst (v := 5) hx hb dX7_count_122 (by decide) ?_
                      refine cr_ald C hP 1 (f := vz 0) (k := 5) rfl (by decide) (by decide) dX7_count_123 ?_
                      exact cr_retR C hS (Option.some.inj hE) dX7_count_124
                    · rw [if_neg c15] at hE
                      by_cases c16 : x1 = 10
                      · rw [if_pos c16] at hE
                        refine lv_tableIn (tgt := 125) (off := 124) hx hb dX7_count_1 (by rw [c16]; decide) (by rw [c16]; decide) (by rw [c16]; rfl) (by decide) ?_
                        refine lv_aload_n hx hb dX7_count_125 rfl (lv_at hl 0 rfl) ?_
                        refine cr_get C hP 0 rfl rfl 3 (by decide) hinX7 k1 (v := .int (vz 3 0)) rfl dX7_count_126 ?_
                        exact cr_retR C hS (Option.some.inj hE) dX7_count_129
                      · rw [if_neg c16] at hE
                        by_cases c17 : x1 = 11
                        · rw [if_pos c17] at hE
                          refine lv_tableIn (tgt := 130) (off := 129) hx hb dX7_count_1 (by rw [c17]; decide) (by rw [c17]; decide) (by rw [c17]; rfl) (by decide) ?_
                          refine lv_aload_n hx hb dX7_count_130 rfl (lv_at hl 0 rfl) ?_
                          refine cr_get C hP 0 rfl rfl 6 (by decide) hinX7 k2 (v := .int (vz 6 0)) rfl dX7_count_131 ?_
                          exact cr_retR C hS (Option.some.inj hE) dX7_count_134
                        · rw [if_neg c17] at hE
                          refine lv_tableOut (tgt := 135) hx hb dX7_count_1 (by have e0 := cr_ne (n := 0) (by decide) c1; have e1 := cr_ne (n := 1) (by decide) c2; have e2 := cr_ne (n := 2) (by decide) c4; have e3 := cr_ne (n := 3) (by decide) c5; have e4 := cr_ne (n := 4) (by decide) c6; have e5 := cr_ne (n := 5) (by decide) c7; have e6 := cr_ne (n := 6) (by decide) c9; have e7 := cr_ne (n := 7) (by decide) c11; have e8 := cr_ne (n := 8) (by decide) c13; have e9 := cr_ne (n := 9) (by decide) c15; have e10 := cr_ne (n := 10) (by decide) c16; have e11 := cr_ne (n := 11) (by decide) c17; omega) (by decide) ?_
                          refine lv_iload_n hx hb dX7_count_135 rfl (lv_at hl 1 rfl) ?_
                          refine lv_bipush (v := 20) hx hb dX7_count_136 (by decide) ?_
                          refine lv_bipush (v := 24) hx hb dX7_count_138 (by decide) ?_
                          obtain ⟨q18, hq18, hE⟩ := cr_bind hE
                          refine cr_sRq (n := 3) (As := [.int x1, .int 20, .int 24]) (rest := []) C hP hS (m_X7_in L D ct x1 20 24 q18 hq18) (va_cwS 3 hts gX7_count_X7_in rfl rfl rfl (by decide +kernel) ⟨Nat.le_of_ble_eq_true rfl, Nat.le_of_ble_eq_true rfl⟩) rfl hl.1 rfl (Nat.le_of_ble_eq_true rfl) dX7_count_140 ⟨Nat.zero_le _, Nat.zero_le _⟩ (fun H locs hP hS => ?_)
                          refine lv_if_eq (tgt := 161) hx hb dX7_count_143 (by decide) (fun c19 => ?_) (fun c19 => ?_)
                          · rw [if_pos c19] at hE
                            refine cr_ldc C k3 dX7_count_161 ?_
                            exact cr_retR C hS (Option.some.inj hE) dX7_count_163
                          · rw [if_neg c19] at hE
                            refine lv_aload_n hx hb dX7_count_146 rfl (lv_at hl 0 rfl) ?_
                            refine cr_get C hP 0 rfl rfl 0 (by decide) hinX7 k0 (v := .ref (az 1)) rfl dX7_count_147 ?_
                            refine lv_bipush (v := 8) hx hb dX7_count_150 (by decide) ?_
                            refine lv_iload_n hx hb dX7_count_152 rfl (lv_at hl 1 rfl) ?_
                            refine lv_iadd hx hb dX7_count_153 ?_
                            refine lv_bipush (v := 20) hx hb dX7_count_154 (by decide) ?_
                            refine lv_isub hx hb dX7_count_156 ?_
                            obtain ⟨i20, hE⟩ := cr_ifn hE
                            refine cr_ald C hP 1 (f := vz 0) (k := cr_x ((8 + x1) - 20)) rfl i20 (cr_xe _) dX7_count_157 ?_
                            refine lv_goto (tgt := 163) hx hb dX7_count_158 (by decide) ?_
                            exact cr_retR C hS (Option.some.inj hE) dX7_count_163

set_option maxHeartbeats 4000000 in
set_option maxRecDepth 100000 in
theorem m_X7_undo (L : Launch) (D : va_G) (ct : Nat → ClassId) (az : Nat → Nat) (vz : cr_V)  (sz : Nat) (out : Int32 × cr_V) (hE : f_X7_undo vz = some out) : Met L yX7_undo wsX7_undo ({ frames := 0, cells := 0, slots := 0, locals := 0 } : Room) (cr_pW D ct (cr_wM ct az vz) sz [.ref (az 0)]) (cr_QW D (cr_wM ct az vz) sz (fun r u => (r, u) = out) (fun u : cr_V => cr_wM ct az u)) 0 0 (va_A (cr_wM ct az vz) sz) := by
  have k0 : (Cond.fieldLink RX7 35 "CupReceiptsModel" "pasts" "I") ∈ wsX7_undo := List.mem_of_getElem? (i := 1) rfl
  have k1 : (Cond.fieldLink RX7 7 "CupReceiptsModel" "s" "[I") ∈ wsX7_undo := List.mem_of_getElem? (i := 3) rfl
  have k2 : (Cond.fieldLink RX7 13 "CupReceiptsModel" "past" "[I") ∈ wsX7_undo := List.mem_of_getElem? (i := 4) rfl
  have k3 : (Cond.constant RX7 77 (-2000000002)) ∈ wsX7_undo := List.mem_of_getElem? (i := 2) rfl
  have hinX7 : ∀ w ∈ wsX70, w ∈ wsX7_undo := fun w h => List.mem_cons_of_mem _ (List.mem_append_right _ h)
  refine cr_metW (Qc := fun A => va_Qi (fun r u => (r, u) = out) (fun u t => cr_at D A ((fun u : cr_V => cr_wM ct az u) u) t) A) (by decide) rfl rfl (Nat.le_of_ble_eq_true rfl) ?_
  intro p e s m args below meth c ls A C hW hl
  obtain ⟨hx, hb, hml, hown, hts, hr, hlocks, hK, hN⟩ := id C
  have hl : lv_has ls 2 [(0, .ref (az 0))] := hl
  have n22 :  ∀ (n : Nat), ∀ (vz : cr_V) (x1 : Int32) (hE : f_X7_undo_22  n vz x1 = some out) (H : Heap) (locs : List Loc) (ls : Array Slot) (hW : cr_wd D A s (cr_wM ct az vz) H locs) (hl : lv_has ls 2 [(0, .ref (az 0)), (1, .int x1)]), W p L e ({ frames := 0, cells := 0, slots := 0, locals := 0 } : Room) s m args below meth c H locs 0 0 (MQ below (va_Qi (fun r u => (r, u) = out) (fun u t => cr_at D A ((fun u : cr_V => cr_wM ct az u) u) t) A) args s 0 0 A) (F0 m 22 ls []) := by
    intro  n
    induction n with
    | zero =>
      intro vz x1 hE
      cases hE
    | succ n ih =>
      intro vz x1 hE H locs ls hW hl
      replace hE : (if 81 ≤ x1 then (some ((vz 3 0), vz)) else (if cr_in ((81 * (vz 3 0)) + x1) 324 = true then if cr_in x1 81 = true then f_X7_undo_22 n (cr_a vz 0 (cr_x x1) (vz 1 (cr_x ((81 * (vz 3 0)) + x1)))) (x1 + 1) else none else none)) = some out := hE
      refine lv_iload_n hx hb dX7_undo_22 rfl (lv_at hl 1 rfl) ?_
      refine lv_bipush (v := 81) hx hb dX7_undo_23 (by decide) ?_
      refine lv_icmp_ge (tgt := 54) hx hb dX7_undo_25 (by decide) (fun c1 => ?_) (fun c1 => ?_)
      · rw [if_pos c1] at hE
        refine lv_aload_n hx hb dX7_undo_54 rfl (lv_at hl 0 rfl) ?_
        refine cr_get C hW.1 0 rfl rfl 3 (by decide) hinX7 k0 (v := .int (vz 3 0)) rfl dX7_undo_55 ?_
        exact cr_retW C (w := (fun u : cr_V => cr_wM ct az u)) vz hW (Option.some.inj hE) dX7_undo_58
      · rw [if_neg c1] at hE
        refine lv_aload_n hx hb dX7_undo_28 rfl (lv_at hl 0 rfl) ?_
        refine cr_get C hW.1 0 rfl rfl 0 (by decide) hinX7 k1 (v := .ref (az 1)) rfl dX7_undo_29 ?_
        refine lv_iload_n hx hb dX7_undo_32 rfl (lv_at hl 1 rfl) ?_
        refine lv_aload_n hx hb dX7_undo_33 rfl (lv_at hl 0 rfl) ?_
        refine cr_get C hW.1 0 rfl rfl 1 (by decide) hinX7 k2 (v := .ref (az 2)) rfl dX7_undo_34 ?_
        refine lv_bipush (v := 81) hx hb dX7_undo_37 (by decide) ?_
        refine lv_aload_n hx hb dX7_undo_39 rfl (lv_at hl 0 rfl) ?_
        refine cr_get C hW.1 0 rfl rfl 3 (by decide) hinX7 k0 (v := .int (vz 3 0)) rfl dX7_undo_40 ?_
        refine lv_imul hx hb dX7_undo_43 ?_
        refine lv_iload_n hx hb dX7_undo_44 rfl (lv_at hl 1 rfl) ?_
        refine lv_iadd hx hb dX7_undo_45 ?_
        obtain ⟨i2, hE⟩ := cr_ifn hE
        refine cr_ald C hW.1 2 (f := vz 1) (k := cr_x ((81 * (vz 3 0)) + x1)) rfl i2 (cr_xe _) dX7_undo_46 ?_
        obtain ⟨i3, hE⟩ := cr_ifn hE
        refine cr_ast C hW 1 rfl (k := (cr_x x1)) i3 (cr_xe _) (w' := cr_wM ct az (cr_a vz 0 (cr_x x1) (vz 1 (cr_x ((81 * (vz 3 0)) + x1))))) rfl dX7_undo_47 (fun H locs hW => ?_)
        refine lv_iinc (v := x1 + 1) (lv' := [(1, .int (x1 + 1)), (0, .ref (az 0))]) hx hb dX7_undo_48 hl (k := 1) rfl (by first | rfl | decide) (by decide) rfl (fun ls hl => ?_)
        refine lv_goto (tgt := 22) hx hb dX7_undo_51 (by decide) ?_
        exact ih (cr_a vz 0 (cr_x x1) (vz 1 (cr_x ((81 * (vz 3 0)) + x1)))) (x1 + 1) hE _ _ _ hW (lv_sub hl [1, 0] rfl)
  replace hE : (if (vz 3 0) = 0 then (some ((-2000000002), vz)) else (f_X7_undo_22 10100 (cr_i vz 3 ((vz 3 0) - 1)) 0)) = some out := hE
  refine lv_aload_n hx hb dX7_undo_0 rfl (lv_at hl 0 rfl) ?_
  refine cr_get C hW.1 0 rfl rfl 3 (by decide) hinX7 k0 (v := .int (vz 3 0)) rfl dX7_undo_1 ?_
  refine lv_if_ne (tgt := 10) hx hb dX7_undo_4 (by decide) (fun c4 => ?_) (fun c4 => ?_)
  · rw [if_neg c4] at hE
    refine lv_aload_n hx hb dX7_undo_10 rfl (lv_at hl 0 rfl) ?_
    refine lv_dup hx hb dX7_undo_11 rfl ?_
    refine cr_get C hW.1 0 rfl rfl 3 (by decide) hinX7 k0 (v := .int (vz 3 0)) rfl dX7_undo_12 ?_
    refine lv_iconst (v := 1) hx hb dX7_undo_15 (by decide) ?_
    refine lv_isub hx hb dX7_undo_16 ?_
    refine cr_put C hW 0 rfl rfl tyX7 tyX7_ok nmX7 3 (by decide) hinX7 k0 rfl rfl rfl rfl (Nat.le_of_ble_eq_true rfl) (w' := cr_wM ct az (cr_i vz 3 ((vz 3 0) - 1))) rfl dX7_undo_17 (fun H locs hW => ?_)
    refine lv_iconst (v := 0) hx hb dX7_undo_20 (by decide) ?_
    refine lv_istore_n (lv' := [(1, .int 0), (0, .ref (az 0))]) hx hb dX7_undo_21 rfl hl (by decide) rfl (fun ls hl => ?_)
    exact n22 10100 (cr_i vz 3 ((vz 3 0) - 1)) 0 hE _ _ _ hW (lv_sub hl [1, 0] rfl)
  · rw [if_pos c4] at hE
    refine cr_ldc C k3 dX7_undo_7 ?_
    exact cr_retW C (w := (fun u : cr_V => cr_wM ct az u)) vz hW (Option.some.inj hE) dX7_undo_9

set_option maxHeartbeats 4000000 in
set_option maxRecDepth 100000 in
theorem m_X7_type (L : Launch) (D : va_G) (ct : Nat → ClassId) (az : Nat → Nat) (vz : cr_V) (x1 : Int32) (sz : Nat) (out : Int32 × cr_V) (hE : f_X7_type vz x1 = some out) : Met L yX7_type wsX7_type ({ frames := 1, cells := 0, slots := 0, locals := 22 } : Room) (cr_pW D ct (cr_wM ct az vz) sz [.ref (az 0), .int x1]) (cr_QW D (cr_wM ct az vz) sz (fun r u => (r, u) = out) (fun u : cr_V => cr_wM ct az u)) 0 0 (va_A (cr_wM ct az vz) sz) := by
  have k0 : (Cond.fieldLink RX7 135 "CupReceiptsModel" "typed" "I") ∈ wsX7_type := List.mem_of_getElem? (i := 2) rfl
  have k1 : (Cond.fieldLink RX7 19 "CupReceiptsModel" "text" "[I") ∈ wsX7_type := List.mem_of_getElem? (i := 4) rfl
  have k2 : (Cond.constant RX7 66 (-2000000003)) ∈ wsX7_type := List.mem_of_getElem? (i := 3) rfl
  have k3 : (Cond.constant RX7 65 (-2000000001)) ∈ wsX7_type := List.mem_of_getElem? (i := 1) rfl
  have hinX7 : ∀ w ∈ wsX70, w ∈ wsX7_type := fun w h => List.mem_cons_of_mem _ (List.mem_append_right _ h)
  refine cr_metW (Qc := fun A => va_Qi (fun r u => (r, u) = out) (fun u t => cr_at D A ((fun u : cr_V => cr_wM ct az u) u) t) A) (by decide) rfl rfl (Nat.le_of_ble_eq_true rfl) ?_
  intro p e s m args below meth c ls A C hW hl
  obtain ⟨hx, hb, hml, hown, hts, hr, hlocks, hK, hN⟩ := id C
  have hl : lv_has ls 2 [(0, .ref (az 0)), (1, .int x1)] := hl
  replace hE : ((f_X7_in x1 32 126).bind fun q1 => if q1 = 0 then (some ((-2000000001), vz)) else (if (vz 6 0) = 60 then (some ((-2000000003), vz)) else (if cr_in (vz 6 0) 60 = true then some (((vz 6 0) + 1), (cr_i (cr_a vz 5 (cr_x (vz 6 0)) x1) 6 ((vz 6 0) + 1))) else none))) = some out := hE
  refine lv_iload_n hx hb dX7_type_0 rfl (lv_at hl 1 rfl) ?_
  refine lv_bipush (v := 32) hx hb dX7_type_1 (by decide) ?_
  refine lv_bipush (v := 126) hx hb dX7_type_3 (by decide) ?_
  obtain ⟨q1, hq1, hE⟩ := cr_bind hE
  refine cr_sRwq (n := 3) (As := [.int x1, .int 32, .int 126]) (rest := []) C hW (m_X7_in L D ct x1 32 126 q1 hq1) (va_cwS 3 hts gX7_type_X7_in rfl rfl rfl (by decide +kernel) ⟨Nat.le_of_ble_eq_true rfl, Nat.le_of_ble_eq_true rfl⟩) rfl hl.1 rfl (Nat.le_of_ble_eq_true rfl) dX7_type_5 ⟨Nat.zero_le _, Nat.zero_le _⟩ (fun H locs hW => ?_)
  refine lv_if_ne (tgt := 14) hx hb dX7_type_8 (by decide) (fun c2 => ?_) (fun c2 => ?_)
  · rw [if_neg c2] at hE
    refine lv_aload_n hx hb dX7_type_14 rfl (lv_at hl 0 rfl) ?_
    refine cr_get C hW.1 0 rfl rfl 6 (by decide) hinX7 k0 (v := .int (vz 6 0)) rfl dX7_type_15 ?_
    refine lv_bipush (v := 60) hx hb dX7_type_18 (by decide) ?_
    refine lv_icmp_ne (tgt := 26) hx hb dX7_type_20 (by decide) (fun c3 => ?_) (fun c3 => ?_)
    · rw [if_neg c3] at hE
      refine lv_aload_n hx hb dX7_type_26 rfl (lv_at hl 0 rfl) ?_
      refine cr_get C hW.1 0 rfl rfl 5 (by decide) hinX7 k1 (v := .ref (az 6)) rfl dX7_type_27 ?_
      refine lv_aload_n hx hb dX7_type_30 rfl (lv_at hl 0 rfl) ?_
      refine cr_get C hW.1 0 rfl rfl 6 (by decide) hinX7 k0 (v := .int (vz 6 0)) rfl dX7_type_31 ?_
      refine lv_iload_n hx hb dX7_type_34 rfl (lv_at hl 1 rfl) ?_
      obtain ⟨i4, hE⟩ := cr_ifn hE
      refine cr_ast C hW 4 rfl (k := (cr_x (vz 6 0))) i4 (cr_xe _) (w' := cr_wM ct az (cr_a vz 5 (cr_x (vz 6 0)) x1)) rfl dX7_type_35 (fun H locs hW => ?_)
      refine lv_aload_n hx hb dX7_type_36 rfl (lv_at hl 0 rfl) ?_
      refine lv_dup hx hb dX7_type_37 rfl ?_
      refine cr_get C hW.1 0 rfl rfl 6 (by decide) hinX7 k0 (v := .int (vz 6 0)) rfl dX7_type_38 ?_
      refine lv_iconst (v := 1) hx hb dX7_type_41 (by decide) ?_
      refine lv_iadd hx hb dX7_type_42 ?_
      refine cr_put C hW 0 rfl rfl tyX7 tyX7_ok nmX7 6 (by decide) hinX7 k0 rfl rfl rfl rfl (Nat.le_of_ble_eq_true rfl) (w' := cr_wM ct az (cr_i (cr_a vz 5 (cr_x (vz 6 0)) x1) 6 ((vz 6 0) + 1))) rfl dX7_type_43 (fun H locs hW => ?_)
      refine lv_aload_n hx hb dX7_type_46 rfl (lv_at hl 0 rfl) ?_
      refine cr_get C hW.1 0 rfl rfl 6 (by decide) hinX7 k0 (v := .int ((vz 6 0) + 1)) rfl dX7_type_47 ?_
      exact cr_retW C (w := (fun u : cr_V => cr_wM ct az u)) (cr_i (cr_a vz 5 (cr_x (vz 6 0)) x1) 6 ((vz 6 0) + 1)) hW (Option.some.inj hE) dX7_type_50
    · rw [if_pos c3] at hE
      refine cr_ldc C k2 dX7_type_23 ?_
      exact cr_retW C (w := (fun u : cr_V => cr_wM ct az u)) vz hW (Option.some.inj hE) dX7_type_25
  · rw [if_pos c2] at hE
    refine cr_ldc C k3 dX7_type_11 ?_
    exact cr_retW C (w := (fun u : cr_V => cr_wM ct az u)) vz hW (Option.some.inj hE) dX7_type_13

set_option maxHeartbeats 4000000 in
set_option maxRecDepth 100000 in
theorem m_X7_clearText (L : Launch) (D : va_G) (ct : Nat → ClassId) (az : Nat → Nat) (vz : cr_V)  (sz : Nat) (out : Int32 × cr_V) (hE : f_X7_clearText vz = some out) : Met L yX7_clearText wsX7_clearText ({ frames := 0, cells := 0, slots := 0, locals := 0 } : Room) (cr_pW D ct (cr_wM ct az vz) sz [.ref (az 0)]) (cr_QW D (cr_wM ct az vz) sz (fun r u => (r, u) = out) (fun u : cr_V => cr_wM ct az u)) 0 0 (va_A (cr_wM ct az vz) sz) := by
  have k0 : (Cond.fieldLink RX7 135 "CupReceiptsModel" "typed" "I") ∈ wsX7_clearText := List.mem_of_getElem? (i := 1) rfl
  have hinX7 : ∀ w ∈ wsX70, w ∈ wsX7_clearText := fun w h => List.mem_cons_of_mem _ (List.mem_append_right _ h)
  refine cr_metW (Qc := fun A => va_Qi (fun r u => (r, u) = out) (fun u t => cr_at D A ((fun u : cr_V => cr_wM ct az u) u) t) A) (by decide) rfl rfl (Nat.le_of_ble_eq_true rfl) ?_
  intro p e s m args below meth c ls A C hW hl
  obtain ⟨hx, hb, hml, hown, hts, hr, hlocks, hK, hN⟩ := id C
  have hl : lv_has ls 2 [(0, .ref (az 0))] := hl
  replace hE : (some ((vz 6 0), (cr_i vz 6 0))) = some out := hE
  refine lv_aload_n hx hb dX7_clearText_0 rfl (lv_at hl 0 rfl) ?_
  refine cr_get C hW.1 0 rfl rfl 6 (by decide) hinX7 k0 (v := .int (vz 6 0)) rfl dX7_clearText_1 ?_
  refine lv_istore_n (lv' := [(1, .int (vz 6 0)), (0, .ref (az 0))]) hx hb dX7_clearText_4 rfl hl (by decide) rfl (fun ls hl => ?_)
  refine lv_aload_n hx hb dX7_clearText_5 rfl (lv_at hl 1 rfl) ?_
  refine lv_iconst (v := 0) hx hb dX7_clearText_6 (by decide) ?_
  refine cr_put C hW 0 rfl rfl tyX7 tyX7_ok nmX7 6 (by decide) hinX7 k0 rfl rfl rfl rfl (Nat.le_of_ble_eq_true rfl) (w' := cr_wM ct az (cr_i vz 6 0)) rfl dX7_clearText_7 (fun H locs hW => ?_)
  refine lv_iload_n hx hb dX7_clearText_10 rfl (lv_at hl 0 rfl) ?_
  exact cr_retW C (w := (fun u : cr_V => cr_wM ct az u)) (cr_i vz 6 0) hW (Option.some.inj hE) dX7_clearText_11

set_option maxHeartbeats 4000000 in
set_option maxRecDepth 100000 in
theorem m_X7_isAt (L : Launch) (D : va_G) (ct : Nat → ClassId) (az : Nat → Nat) (vz : cr_V) (x1 : Int32) (x2 : Int32) (out : Int32) (hE : f_X7_isAt vz x1 x2 = some out) : Met L yX7_isAt wsX7_isAt ({ frames := 1, cells := 0, slots := 0, locals := 22 } : Room) (cr_pR D ct (cr_wM ct az vz) [.ref (az 0), .int x1, .int x2]) (cr_QR (fun r => r = out)) 0 0 cr_no := by
  have k0 : (Cond.fieldLink RX7 138 "CupReceiptsModel" "spot" "I") ∈ wsX7_isAt := List.mem_of_getElem? (i := 1) rfl
  have k1 : (Cond.fieldLink RX7 135 "CupReceiptsModel" "typed" "I") ∈ wsX7_isAt := List.mem_of_getElem? (i := 2) rfl
  have k2 : (Cond.fieldLink RX7 19 "CupReceiptsModel" "text" "[I") ∈ wsX7_isAt := List.mem_of_getElem? (i := 3) rfl
  have hinX7 : ∀ w ∈ wsX70, w ∈ wsX7_isAt := fun w h => List.mem_cons_of_mem _ (List.mem_append_right _ h)
  refine cr_metR (by decide) rfl rfl (Nat.le_of_ble_eq_true rfl) ?_
  intro p e s m args below meth c ls C hP hS hl
  obtain ⟨hx, hb, hml, hown, hts, hr, hlocks, hK, hN⟩ := id C
  have hl : lv_has ls 3 [(0, .ref (az 0)), (1, .int x1), (2, .int x2)] := hl
  replace hE : (if (vz 6 0) ≤ (vz 11 0) then (some 0) else (if cr_in (vz 11 0) 60 = true then (f_X7_in (vz 5 (cr_x (vz 11 0))) x1 x2).bind fun q3 => if q3 = 0 then (some 0) else (some 1) else none)) = some out := hE
  refine lv_aload_n hx hb dX7_isAt_0 rfl (lv_at hl 0 rfl) ?_
  refine cr_get C hP 0 rfl rfl 11 (by decide) hinX7 k0 (v := .int (vz 11 0)) rfl dX7_isAt_1 ?_
  refine lv_aload_n hx hb dX7_isAt_4 rfl (lv_at hl 0 rfl) ?_
  refine cr_get C hP 0 rfl rfl 6 (by decide) hinX7 k1 (v := .int (vz 6 0)) rfl dX7_isAt_5 ?_
  refine lv_icmp_ge (tgt := 32) hx hb dX7_isAt_8 (by decide) (fun c1 => ?_) (fun c1 => ?_)
  · rw [if_pos c1] at hE
    refine lv_iconst (v := 0) hx hb dX7_isAt_32 (by decide) ?_
    exact cr_retRz C hS rfl (Option.some.inj hE) dX7_isAt_33
  · rw [if_neg c1] at hE
    refine lv_aload_n hx hb dX7_isAt_11 rfl (lv_at hl 0 rfl) ?_
    refine cr_get C hP 0 rfl rfl 5 (by decide) hinX7 k2 (v := .ref (az 6)) rfl dX7_isAt_12 ?_
    refine lv_aload_n hx hb dX7_isAt_15 rfl (lv_at hl 0 rfl) ?_
    refine cr_get C hP 0 rfl rfl 11 (by decide) hinX7 k0 (v := .int (vz 11 0)) rfl dX7_isAt_16 ?_
    obtain ⟨i2, hE⟩ := cr_ifn hE
    refine cr_ald C hP 4 (f := vz 5) (k := cr_x (vz 11 0)) rfl i2 (cr_xe _) dX7_isAt_19 ?_
    refine lv_iload_n hx hb dX7_isAt_20 rfl (lv_at hl 1 rfl) ?_
    refine lv_iload_n hx hb dX7_isAt_21 rfl (lv_at hl 2 rfl) ?_
    obtain ⟨q3, hq3, hE⟩ := cr_bind hE
    refine cr_sRq (n := 3) (As := [.int (vz 5 (cr_x (vz 11 0))), .int x1, .int x2]) (rest := []) C hP hS (m_X7_in L D ct (vz 5 (cr_x (vz 11 0))) x1 x2 q3 hq3) (va_cwS 3 hts gX7_isAt_X7_in rfl rfl rfl (by decide +kernel) ⟨Nat.le_of_ble_eq_true rfl, Nat.le_of_ble_eq_true rfl⟩) rfl hl.1 rfl (Nat.le_of_ble_eq_true rfl) dX7_isAt_22 ⟨Nat.zero_le _, Nat.zero_le _⟩ (fun H locs hP hS => ?_)
    refine lv_if_eq (tgt := 32) hx hb dX7_isAt_25 (by decide) (fun c4 => ?_) (fun c4 => ?_)
    · rw [if_pos c4] at hE
      refine lv_iconst (v := 0) hx hb dX7_isAt_32 (by decide) ?_
      exact cr_retRz C hS rfl (Option.some.inj hE) dX7_isAt_33
    · rw [if_neg c4] at hE
      refine lv_iconst (v := 1) hx hb dX7_isAt_28 (by decide) ?_
      refine lv_goto (tgt := 33) hx hb dX7_isAt_29 (by decide) ?_
      exact cr_retRz C hS rfl (Option.some.inj hE) dX7_isAt_33

set_option maxHeartbeats 4000000 in
set_option maxRecDepth 100000 in
theorem m_X7_sign (L : Launch) (D : va_G) (ct : Nat → ClassId) (az : Nat → Nat) (vz : cr_V) (x1 : Int32) (sz : Nat) (out : Int32 × cr_V) (hE : f_X7_sign vz x1 = some out) : Met L yX7_sign wsX7_sign ({ frames := 2, cells := 0, slots := 0, locals := 44 } : Room) (cr_pW D ct (cr_wM ct az vz) sz [.ref (az 0), .int x1]) (cr_QW D (cr_wM ct az vz) sz (fun r u => (r, u) = out) (fun u : cr_V => cr_wM ct az u)) 0 0 (va_A (cr_wM ct az vz) sz) := by
  have k0 : (Cond.fieldLink RX7 138 "CupReceiptsModel" "spot" "I") ∈ wsX7_sign := List.mem_of_getElem? (i := 1) rfl
  have hinX7 : ∀ w ∈ wsX70, w ∈ wsX7_sign := fun w h => List.mem_cons_of_mem _ (List.mem_append_right _ h)
  refine cr_metW (Qc := fun A => va_Qi (fun r u => (r, u) = out) (fun u t => cr_at D A ((fun u : cr_V => cr_wM ct az u) u) t) A) (by decide) rfl rfl (Nat.le_of_ble_eq_true rfl) ?_
  intro p e s m args below meth c ls A C hW hl
  obtain ⟨hx, hb, hml, hown, hts, hr, hlocks, hK, hN⟩ := id C
  have hl : lv_has ls 3 [(0, .ref (az 0)), (1, .int x1)] := hl
  have n21 :  ∀ (vz : cr_V) (x2 : Int32) (s0 : Int32) (s1 : Int32) (hE : f_X7_sign_21  vz x2 s0 s1 = some out) (H : Heap) (locs : List Loc) (ls : Array Slot) (hW : cr_wd D A s (cr_wM ct az vz) H locs) (hl : lv_has ls 3 [(2, .int x2)]), W p L e ({ frames := 2, cells := 0, slots := 0, locals := 44 } : Room) s m args below meth c H locs 0 0 (MQ below (va_Qi (fun r u => (r, u) = out) (fun u t => cr_at D A ((fun u : cr_V => cr_wM ct az u) u) t) A) args s 0 0 A) (F0 m 21 ls [.int s0, .int s1, .ref (az 0)]) := by
    intro  vz x2 s0 s1 hE H locs ls hW hl
    replace hE : (if cr_bool x2 = true then some (x2, (cr_i vz 11 (s1 + s0))) else none) = some out := hE
    refine lv_iadd hx hb dX7_sign_21 ?_
    refine cr_put C hW 0 rfl rfl tyX7 tyX7_ok nmX7 11 (by decide) hinX7 k0 rfl rfl rfl rfl (Nat.le_of_ble_eq_true rfl) (w' := cr_wM ct az (cr_i vz 11 (s1 + s0))) rfl dX7_sign_22 (fun H locs hW => ?_)
    refine lv_iload_n hx hb dX7_sign_25 rfl (lv_at hl 0 rfl) ?_
    obtain ⟨z1, hE⟩ := cr_ifn hE
    exact cr_retWz C (w := (fun u : cr_V => cr_wM ct az u)) (cr_i vz 11 (s1 + s0)) hW (cr_boolN z1) (Option.some.inj hE) dX7_sign_26
  replace hE : ((f_X7_isAt vz x1 x1).bind fun q2 => if q2 = 0 then (f_X7_sign_21 vz q2 0 (vz 11 0)) else (f_X7_sign_21 vz q2 1 (vz 11 0))) = some out := hE
  refine lv_aload_n hx hb dX7_sign_0 rfl (lv_at hl 0 rfl) ?_
  refine lv_iload_n hx hb dX7_sign_1 rfl (lv_at hl 1 rfl) ?_
  refine lv_iload_n hx hb dX7_sign_2 rfl (lv_at hl 1 rfl) ?_
  obtain ⟨q2, hq2, hE⟩ := cr_bind hE
  refine cr_vRwq (n := 2) (As := [.int x1, .int x1]) (rest := []) C hW (m_X7_isAt L D ct az vz x1 x1 q2 hq2) (cwV 2 hts gX7_sign_X7_isAt rfl rfl rfl (by decide +kernel) ⟨Nat.le_of_ble_eq_true rfl, Nat.le_of_ble_eq_true rfl⟩) [0, 1, 2, 3, 4, 5, 6, 7] rfl 0 rfl rfl rfl hl.1 rfl (Nat.le_of_ble_eq_true rfl) dX7_sign_3 ⟨Nat.zero_le _, Nat.zero_le _⟩ (fun H locs hW => ?_)
  refine lv_istore_n (lv' := [(2, .int q2), (0, .ref (az 0)), (1, .int x1)]) hx hb dX7_sign_6 rfl hl (by decide) rfl (fun ls hl => ?_)
  refine lv_aload_n hx hb dX7_sign_7 rfl (lv_at hl 1 rfl) ?_
  refine lv_dup hx hb dX7_sign_8 rfl ?_
  refine cr_get C hW.1 0 rfl rfl 11 (by decide) hinX7 k0 (v := .int (vz 11 0)) rfl dX7_sign_9 ?_
  refine lv_iload_n hx hb dX7_sign_12 rfl (lv_at hl 0 rfl) ?_
  refine lv_if_eq (tgt := 20) hx hb dX7_sign_13 (by decide) (fun c3 => ?_) (fun c3 => ?_)
  · rw [if_pos c3] at hE
    refine lv_iconst (v := 0) hx hb dX7_sign_20 (by decide) ?_
    exact n21 vz q2 0 (vz 11 0) hE _ _ _ hW (lv_sub hl [0] rfl)
  · rw [if_neg c3] at hE
    refine lv_iconst (v := 1) hx hb dX7_sign_16 (by decide) ?_
    refine lv_goto (tgt := 21) hx hb dX7_sign_17 (by decide) ?_
    exact n21 vz q2 1 (vz 11 0) hE _ _ _ hW (lv_sub hl [0] rfl)

set_option maxHeartbeats 4000000 in
set_option maxRecDepth 100000 in
theorem m_X7_number (L : Launch) (D : va_G) (ct : Nat → ClassId) (az : Nat → Nat) (vz : cr_V) (x1 : Int32) (sz : Nat) (out : Int32 × cr_V) (hE : f_X7_number vz x1 = some out) : Met L yX7_number wsX7_number ({ frames := 2, cells := 0, slots := 0, locals := 44 } : Room) (cr_pW D ct (cr_wM ct az vz) sz [.ref (az 0), .int x1]) (cr_QW D (cr_wM ct az vz) sz (fun r u => (r, u) = out) (fun u : cr_V => cr_wM ct az u)) 0 0 (va_A (cr_wM ct az vz) sz) := by
  have k0 : (Cond.fieldLink RX7 138 "CupReceiptsModel" "spot" "I") ∈ wsX7_number := List.mem_of_getElem? (i := 1) rfl
  have k1 : (Cond.fieldLink RX7 28 "CupReceiptsModel" "told" "[I") ∈ wsX7_number := List.mem_of_getElem? (i := 2) rfl
  have k2 : (Cond.fieldLink RX7 19 "CupReceiptsModel" "text" "[I") ∈ wsX7_number := List.mem_of_getElem? (i := 3) rfl
  have hinX7 : ∀ w ∈ wsX70, w ∈ wsX7_number := fun w h => List.mem_cons_of_mem _ (List.mem_append_right _ h)
  refine cr_metW (Qc := fun A => va_Qi (fun r u => (r, u) = out) (fun u t => cr_at D A ((fun u : cr_V => cr_wM ct az u) u) t) A) (by decide) rfl rfl (Nat.le_of_ble_eq_true rfl) ?_
  intro p e s m args below meth c ls A C hW hl
  obtain ⟨hx, hb, hml, hown, hts, hr, hlocks, hK, hN⟩ := id C
  have hl : lv_has ls 3 [(0, .ref (az 0)), (1, .int x1)] := hl
  have n74 :  ∀ (vz : cr_V) (x2 : Int32) (hE : f_X7_number_74  vz x2 = some out) (H : Heap) (locs : List Loc) (ls : Array Slot) (hW : cr_wd D A s (cr_wM ct az vz) H locs) (hl : lv_has ls 3 [(0, .ref (az 0)), (2, .int x2)]), W p L e ({ frames := 2, cells := 0, slots := 0, locals := 44 } : Room) s m args below meth c H locs 0 0 (MQ below (va_Qi (fun r u => (r, u) = out) (fun u t => cr_at D A ((fun u : cr_V => cr_wM ct az u) u) t) A) args s 0 0 A) (F0 m 74 ls []) := by
    intro  vz x2 hE H locs ls hW hl
    replace hE : (if (vz 11 0) ≤ x2 then (some (0, vz)) else (some (1, vz))) = some out := hE
    refine lv_aload_n hx hb dX7_number_74 rfl (lv_at hl 0 rfl) ?_
    refine cr_get C hW.1 0 rfl rfl 11 (by decide) hinX7 k0 (v := .int (vz 11 0)) rfl dX7_number_75 ?_
    refine lv_iload_n hx hb dX7_number_78 rfl (lv_at hl 1 rfl) ?_
    refine lv_icmp_le (tgt := 86) hx hb dX7_number_79 (by decide) (fun c1 => ?_) (fun c1 => ?_)
    · rw [if_pos c1] at hE
      refine lv_iconst (v := 0) hx hb dX7_number_86 (by decide) ?_
      exact cr_retWz C (w := (fun u : cr_V => cr_wM ct az u)) vz hW rfl (Option.some.inj hE) dX7_number_87
    · rw [if_neg c1] at hE
      refine lv_iconst (v := 1) hx hb dX7_number_82 (by decide) ?_
      refine lv_goto (tgt := 87) hx hb dX7_number_83 (by decide) ?_
      exact cr_retWz C (w := (fun u : cr_V => cr_wM ct az u)) vz hW rfl (Option.some.inj hE) dX7_number_87
  have n12 :  ∀ (n : Nat), ∀ (vz : cr_V) (x1 : Int32) (x2 : Int32) (hE : f_X7_number_12  n vz x1 x2 = some out) (H : Heap) (locs : List Loc) (ls : Array Slot) (hW : cr_wd D A s (cr_wM ct az vz) H locs) (hl : lv_has ls 3 [(0, .ref (az 0)), (1, .int x1), (2, .int x2)]), W p L e ({ frames := 2, cells := 0, slots := 0, locals := 44 } : Room) s m args below meth c H locs 0 0 (MQ below (va_Qi (fun r u => (r, u) = out) (fun u t => cr_at D A ((fun u : cr_V => cr_wM ct az u) u) t) A) args s 0 0 A) (F0 m 12 ls []) := by
    intro  n
    induction n with
    | zero =>
      intro vz x1 x2 hE
      cases hE
    | succ n ih =>
      intro vz x1 x2 hE H locs ls hW hl
      replace hE : ((f_X7_isAt vz 48 57).bind fun q2 => if q2 = 0 then (f_X7_number_74 vz x2) else (if 4 ≤ ((vz 11 0) - x2) then (f_X7_number_74 vz x2) else (if cr_in x1 4 = true then if cr_in (vz 11 0) 60 = true then f_X7_number_12 n (cr_i (cr_a vz 17 (cr_x x1) (((10 * (vz 17 (cr_x x1))) + (vz 5 (cr_x (vz 11 0)))) - 48)) 11 ((vz 11 0) + 1)) x1 x2 else none else none))) = some out := hE
      refine lv_aload_n hx hb dX7_number_12 rfl (lv_at hl 0 rfl) ?_
      refine lv_bipush (v := 48) hx hb dX7_number_13 (by decide) ?_
      refine lv_bipush (v := 57) hx hb dX7_number_15 (by decide) ?_
      obtain ⟨q2, hq2, hE⟩ := cr_bind hE
      refine cr_vRwq (n := 2) (As := [.int 48, .int 57]) (rest := []) C hW (m_X7_isAt L D ct az vz 48 57 q2 hq2) (cwV 2 hts gX7_number_X7_isAt rfl rfl rfl (by decide +kernel) ⟨Nat.le_of_ble_eq_true rfl, Nat.le_of_ble_eq_true rfl⟩) [0, 1, 2, 3, 4, 5, 6, 7] rfl 0 rfl rfl rfl hl.1 rfl (Nat.le_of_ble_eq_true rfl) dX7_number_17 ⟨Nat.zero_le _, Nat.zero_le _⟩ (fun H locs hW => ?_)
      refine lv_if_eq (tgt := 74) hx hb dX7_number_20 (by decide) (fun c3 => ?_) (fun c3 => ?_)
      · rw [if_pos c3] at hE
        exact n74 vz x2 hE _ _ _ hW (lv_sub hl [0, 2] rfl)
      · rw [if_neg c3] at hE
        refine lv_aload_n hx hb dX7_number_23 rfl (lv_at hl 0 rfl) ?_
        refine cr_get C hW.1 0 rfl rfl 11 (by decide) hinX7 k0 (v := .int (vz 11 0)) rfl dX7_number_24 ?_
        refine lv_iload_n hx hb dX7_number_27 rfl (lv_at hl 2 rfl) ?_
        refine lv_isub hx hb dX7_number_28 ?_
        refine lv_iconst (v := 4) hx hb dX7_number_29 (by decide) ?_
        refine lv_icmp_ge (tgt := 74) hx hb dX7_number_30 (by decide) (fun c4 => ?_) (fun c4 => ?_)
        · rw [if_pos c4] at hE
          exact n74 vz x2 hE _ _ _ hW (lv_sub hl [0, 2] rfl)
        · rw [if_neg c4] at hE
          refine lv_aload_n hx hb dX7_number_33 rfl (lv_at hl 0 rfl) ?_
          refine cr_get C hW.1 0 rfl rfl 17 (by decide) hinX7 k1 (v := .ref (az 18)) rfl dX7_number_34 ?_
          refine lv_iload_n hx hb dX7_number_37 rfl (lv_at hl 1 rfl) ?_
          refine lv_bipush (v := 10) hx hb dX7_number_38 (by decide) ?_
          refine lv_aload_n hx hb dX7_number_40 rfl (lv_at hl 0 rfl) ?_
          refine cr_get C hW.1 0 rfl rfl 17 (by decide) hinX7 k1 (v := .ref (az 18)) rfl dX7_number_41 ?_
          refine lv_iload_n hx hb dX7_number_44 rfl (lv_at hl 1 rfl) ?_
          obtain ⟨i5, hE⟩ := cr_ifn hE
          refine cr_ald C hW.1 7 (f := vz 17) (k := cr_x x1) rfl i5 (cr_xe _) dX7_number_45 ?_
          refine lv_imul hx hb dX7_number_46 ?_
          refine lv_aload_n hx hb dX7_number_47 rfl (lv_at hl 0 rfl) ?_
          refine cr_get C hW.1 0 rfl rfl 5 (by decide) hinX7 k2 (v := .ref (az 6)) rfl dX7_number_48 ?_
          refine lv_aload_n hx hb dX7_number_51 rfl (lv_at hl 0 rfl) ?_
          refine cr_get C hW.1 0 rfl rfl 11 (by decide) hinX7 k0 (v := .int (vz 11 0)) rfl dX7_number_52 ?_
          obtain ⟨i6, hE⟩ := cr_ifn hE
          refine cr_ald C hW.1 4 (f := vz 5) (k := cr_x (vz 11 0)) rfl i6 (cr_xe _) dX7_number_55 ?_
          refine lv_iadd hx hb dX7_number_56 ?_
          refine lv_bipush (v := 48) hx hb dX7_number_57 (by decide) ?_
          refine lv_isub hx hb dX7_number_59 ?_
          refine cr_ast C hW 7 rfl (k := (cr_x x1)) i5 (cr_xe _) (w' := cr_wM ct az (cr_a vz 17 (cr_x x1) (((10 * (vz 17 (cr_x x1))) + (vz 5 (cr_x (vz 11 0)))) - 48))) rfl dX7_number_60 (fun H locs hW => ?_)
          refine lv_aload_n hx hb dX7_number_61 rfl (lv_at hl 0 rfl) ?_
          refine lv_dup hx hb dX7_number_62 rfl ?_
          refine cr_get C hW.1 0 rfl rfl 11 (by decide) hinX7 k0 (v := .int (vz 11 0)) rfl dX7_number_63 ?_
          refine lv_iconst (v := 1) hx hb dX7_number_66 (by decide) ?_
          refine lv_iadd hx hb dX7_number_67 ?_
          refine cr_put C hW 0 rfl rfl tyX7 tyX7_ok nmX7 11 (by decide) hinX7 k0 rfl rfl rfl rfl (Nat.le_of_ble_eq_true rfl) (w' := cr_wM ct az (cr_i (cr_a vz 17 (cr_x x1) (((10 * (vz 17 (cr_x x1))) + (vz 5 (cr_x (vz 11 0)))) - 48)) 11 ((vz 11 0) + 1))) rfl dX7_number_68 (fun H locs hW => ?_)
          refine lv_goto (tgt := 12) hx hb dX7_number_71 (by decide) ?_
          exact ih (cr_i (cr_a vz 17 (cr_x x1) (((10 * (vz 17 (cr_x x1))) + (vz 5 (cr_x (vz 11 0)))) - 48)) 11 ((vz 11 0) + 1)) x1 x2 hE _ _ _ hW (lv_sub hl [0, 1, 2] rfl)
  replace hE : (if cr_in x1 4 = true then f_X7_number_12 10100 (cr_a vz 17 (cr_x x1) 0) x1 (vz 11 0) else none) = some out := hE
  refine lv_aload_n hx hb dX7_number_0 rfl (lv_at hl 0 rfl) ?_
  refine cr_get C hW.1 0 rfl rfl 11 (by decide) hinX7 k0 (v := .int (vz 11 0)) rfl dX7_number_1 ?_
  refine lv_istore_n (lv' := [(2, .int (vz 11 0)), (0, .ref (az 0)), (1, .int x1)]) hx hb dX7_number_4 rfl hl (by decide) rfl (fun ls hl => ?_)
  refine lv_aload_n hx hb dX7_number_5 rfl (lv_at hl 1 rfl) ?_
  refine cr_get C hW.1 0 rfl rfl 17 (by decide) hinX7 k1 (v := .ref (az 18)) rfl dX7_number_6 ?_
  refine lv_iload_n hx hb dX7_number_9 rfl (lv_at hl 2 rfl) ?_
  refine lv_iconst (v := 0) hx hb dX7_number_10 (by decide) ?_
  obtain ⟨i7, hE⟩ := cr_ifn hE
  refine cr_ast C hW 7 rfl (k := (cr_x x1)) i7 (cr_xe _) (w' := cr_wM ct az (cr_a vz 17 (cr_x x1) 0)) rfl dX7_number_11 (fun H locs hW => ?_)
  exact n12 10100 (cr_a vz 17 (cr_x x1) 0) x1 (vz 11 0) hE _ _ _ hW (lv_sub hl [1, 2, 0] rfl)

set_option maxHeartbeats 4000000 in
set_option maxRecDepth 100000 in
theorem m_X7_numbersOf (L : Launch) (D : va_G) (ct : Nat → ClassId)   (x0 : Int32) (out : Int32) (hE : f_X7_numbersOf x0 = some out) : Met L yX7_numbersOf wsX7_numbersOf ({ frames := 0, cells := 0, slots := 0, locals := 0 } : Room) (cr_pR D ct ([]) [.int x0]) (cr_QR (fun r => r = out)) 0 0 cr_no := by
  refine cr_metR (by decide) rfl rfl (Nat.le_of_ble_eq_true rfl) ?_
  intro p e s m args below meth c ls C hP hS hl
  obtain ⟨hx, hb, hml, hown, hts, hr, hlocks, hK, hN⟩ := id C
  have hl : lv_has ls 1 [(0, .int x0)] := hl
  have n44 :  ∀  (hE : f_X7_numbersOf_44  = some out) (H : Heap) (locs : List Loc) (ls : Array Slot) (hP : va_P D vwCl ([]) H) (hS : va_S cr_no s.heap H locs) (hl : lv_has ls 1 []), W p L e ({ frames := 0, cells := 0, slots := 0, locals := 0 } : Room) s m args below meth c H locs 0 0 (MQ below (cr_QR (fun r => r = out)) args s 0 0 cr_no) (F0 m 44 ls []) := by
    intro   hE H locs ls hP hS hl
    replace hE : (some 1) = some out := hE
    refine lv_iconst (v := 1) hx hb dX7_numbersOf_44 (by decide) ?_
    refine lv_goto (tgt := 49) hx hb dX7_numbersOf_45 (by decide) ?_
    exact cr_retR C hS (Option.some.inj hE) dX7_numbersOf_49
  have n12 :  ∀  (hE : f_X7_numbersOf_12  = some out) (H : Heap) (locs : List Loc) (ls : Array Slot) (hP : va_P D vwCl ([]) H) (hS : va_S cr_no s.heap H locs) (hl : lv_has ls 1 []), W p L e ({ frames := 0, cells := 0, slots := 0, locals := 0 } : Room) s m args below meth c H locs 0 0 (MQ below (cr_QR (fun r => r = out)) args s 0 0 cr_no) (F0 m 12 ls []) := by
    intro   hE H locs ls hP hS hl
    replace hE : (some 2) = some out := hE
    refine lv_iconst (v := 2) hx hb dX7_numbersOf_12 (by decide) ?_
    refine lv_goto (tgt := 49) hx hb dX7_numbersOf_13 (by decide) ?_
    exact cr_retR C hS (Option.some.inj hE) dX7_numbersOf_49
  replace hE : (if x0 = 108 then (f_X7_numbersOf_12) else (if x0 = 115 then (f_X7_numbersOf_12) else (if x0 = 98 then (some 4) else (if x0 = 99 then (f_X7_numbersOf_44) else (if x0 = 100 then (f_X7_numbersOf_44) else (if x0 = 109 then (f_X7_numbersOf_44) else (some 0))))))) = some out := hE
  refine lv_iload_n hx hb dX7_numbersOf_0 rfl (lv_at hl 0 rfl) ?_
  refine lv_bipush (v := 108) hx hb dX7_numbersOf_1 (by decide) ?_
  refine lv_icmp_eq (tgt := 12) hx hb dX7_numbersOf_3 (by decide) (fun c1 => ?_) (fun c1 => ?_)
  · rw [if_pos c1] at hE
    exact n12  hE _ _ _ hP hS (lv_sub hl [] rfl)
  · rw [if_neg c1] at hE
    refine lv_iload_n hx hb dX7_numbersOf_6 rfl (lv_at hl 0 rfl) ?_
    refine lv_bipush (v := 115) hx hb dX7_numbersOf_7 (by decide) ?_
    refine lv_icmp_ne (tgt := 16) hx hb dX7_numbersOf_9 (by decide) (fun c2 => ?_) (fun c2 => ?_)
    · rw [if_neg c2] at hE
      refine lv_iload_n hx hb dX7_numbersOf_16 rfl (lv_at hl 0 rfl) ?_
      refine lv_bipush (v := 98) hx hb dX7_numbersOf_17 (by decide) ?_
      refine lv_icmp_ne (tgt := 26) hx hb dX7_numbersOf_19 (by decide) (fun c3 => ?_) (fun c3 => ?_)
      · rw [if_neg c3] at hE
        refine lv_iload_n hx hb dX7_numbersOf_26 rfl (lv_at hl 0 rfl) ?_
        refine lv_bipush (v := 99) hx hb dX7_numbersOf_27 (by decide) ?_
        refine lv_icmp_eq (tgt := 44) hx hb dX7_numbersOf_29 (by decide) (fun c4 => ?_) (fun c4 => ?_)
        · rw [if_pos c4] at hE
          exact n44  hE _ _ _ hP hS (lv_sub hl [] rfl)
        · rw [if_neg c4] at hE
          refine lv_iload_n hx hb dX7_numbersOf_32 rfl (lv_at hl 0 rfl) ?_
          refine lv_bipush (v := 100) hx hb dX7_numbersOf_33 (by decide) ?_
          refine lv_icmp_eq (tgt := 44) hx hb dX7_numbersOf_35 (by decide) (fun c5 => ?_) (fun c5 => ?_)
          · rw [if_pos c5] at hE
            exact n44  hE _ _ _ hP hS (lv_sub hl [] rfl)
          · rw [if_neg c5] at hE
            refine lv_iload_n hx hb dX7_numbersOf_38 rfl (lv_at hl 0 rfl) ?_
            refine lv_bipush (v := 109) hx hb dX7_numbersOf_39 (by decide) ?_
            refine lv_icmp_ne (tgt := 48) hx hb dX7_numbersOf_41 (by decide) (fun c6 => ?_) (fun c6 => ?_)
            · rw [if_neg c6] at hE
              refine lv_iconst (v := 0) hx hb dX7_numbersOf_48 (by decide) ?_
              exact cr_retR C hS (Option.some.inj hE) dX7_numbersOf_49
            · rw [if_pos c6] at hE
              exact n44  hE _ _ _ hP hS (lv_sub hl [] rfl)
      · rw [if_pos c3] at hE
        refine lv_iconst (v := 4) hx hb dX7_numbersOf_22 (by decide) ?_
        refine lv_goto (tgt := 49) hx hb dX7_numbersOf_23 (by decide) ?_
        exact cr_retR C hS (Option.some.inj hE) dX7_numbersOf_49
    · rw [if_pos c2] at hE
      exact n12  hE _ _ _ hP hS (lv_sub hl [] rfl)

set_option maxHeartbeats 4000000 in
set_option maxRecDepth 100000 in
theorem m_X7_reads (L : Launch) (D : va_G) (ct : Nat → ClassId) (az : Nat → Nat) (vz : cr_V)  (sz : Nat) (out : Int32 × cr_V) (hE : f_X7_reads vz = some out) : Met L yX7_reads wsX7_reads ({ frames := 3, cells := 0, slots := 0, locals := 66 } : Room) (cr_pW D ct (cr_wM ct az vz) sz [.ref (az 0)]) (cr_QW D (cr_wM ct az vz) sz (fun r u => (r, u) = out) (fun u : cr_V => cr_wM ct az u)) 0 0 (va_A (cr_wM ct az vz) sz) := by
  have k0 : (Cond.fieldLink RX7 145 "CupReceiptsModel" "order" "I") ∈ wsX7_reads := List.mem_of_getElem? (i := 3) rfl
  have k1 : (Cond.fieldLink RX7 138 "CupReceiptsModel" "spot" "I") ∈ wsX7_reads := List.mem_of_getElem? (i := 2) rfl
  have k2 : (Cond.fieldLink RX7 19 "CupReceiptsModel" "text" "[I") ∈ wsX7_reads := List.mem_of_getElem? (i := 1) rfl
  have hinX7 : ∀ w ∈ wsX70, w ∈ wsX7_reads := fun w h => List.mem_cons_of_mem _ (List.mem_append_right _ h)
  refine cr_metW (Qc := fun A => va_Qi (fun r u => (r, u) = out) (fun u t => cr_at D A ((fun u : cr_V => cr_wM ct az u) u) t) A) (by decide) rfl rfl (Nat.le_of_ble_eq_true rfl) ?_
  intro p e s m args below meth c ls A C hW hl
  obtain ⟨hx, hb, hml, hown, hts, hr, hlocks, hK, hN⟩ := id C
  have hl : lv_has ls 4 [(0, .ref (az 0))] := hl
  have n91 : ∀ (k60_ : cr_V → Int32 → Int32 → Int32 → Option (Int32 × cr_V)) (ih60_ : ∀ (vz : cr_V) (x1 : Int32) (x2 : Int32) (x3 : Int32) (hE : k60_ vz x1 x2 x3 = some out) (H : Heap) (locs : List Loc) (ls : Array Slot) (hW : cr_wd D A s (cr_wM ct az vz) H locs) (hl : lv_has ls 4 [(0, .ref (az 0)), (1, .int x1), (2, .int x2), (3, .int x3)]), W p L e ({ frames := 3, cells := 0, slots := 0, locals := 66 } : Room) s m args below meth c H locs 0 0 (MQ below (va_Qi (fun r u => (r, u) = out) (fun u t => cr_at D A ((fun u : cr_V => cr_wM ct az u) u) t) A) args s 0 0 A) (F0 m 60 ls [])), ∀ (vz : cr_V) (x1 : Int32) (x3 : Int32) (s0 : Int32) (hE : f_X7_reads_91 k60_ vz x1 x3 s0 = some out) (H : Heap) (locs : List Loc) (ls : Array Slot) (hW : cr_wd D A s (cr_wM ct az vz) H locs) (hl : lv_has ls 4 [(0, .ref (az 0)), (1, .int x1), (3, .int x3)]), W p L e ({ frames := 3, cells := 0, slots := 0, locals := 66 } : Room) s m args below meth c H locs 0 0 (MQ below (va_Qi (fun r u => (r, u) = out) (fun u t => cr_at D A ((fun u : cr_V => cr_wM ct az u) u) t) A) args s 0 0 A) (F0 m 91 ls [.int s0]) := by
    intro k60_ ih60_ vz x1 x3 s0 hE H locs ls hW hl
    replace hE : (k60_ vz x1 s0 (x3 + 1)) = some out := hE
    refine lv_istore_n (lv' := [(2, .int s0), (0, .ref (az 0)), (1, .int x1), (3, .int x3)]) hx hb dX7_reads_91 rfl hl (by decide) rfl (fun ls hl => ?_)
    refine lv_iinc (v := x3 + 1) (lv' := [(3, .int (x3 + 1)), (2, .int s0), (0, .ref (az 0)), (1, .int x1)]) hx hb dX7_reads_92 hl (k := 3) rfl (by first | rfl | decide) (by decide) rfl (fun ls hl => ?_)
    refine lv_goto (tgt := 60) hx hb dX7_reads_95 (by decide) ?_
    exact ih60_ vz x1 s0 (x3 + 1) hE _ _ _ hW (lv_sub hl [2, 3, 1, 0] rfl)
  have n90 : ∀ (k60_ : cr_V → Int32 → Int32 → Int32 → Option (Int32 × cr_V)) (ih60_ : ∀ (vz : cr_V) (x1 : Int32) (x2 : Int32) (x3 : Int32) (hE : k60_ vz x1 x2 x3 = some out) (H : Heap) (locs : List Loc) (ls : Array Slot) (hW : cr_wd D A s (cr_wM ct az vz) H locs) (hl : lv_has ls 4 [(0, .ref (az 0)), (1, .int x1), (2, .int x2), (3, .int x3)]), W p L e ({ frames := 3, cells := 0, slots := 0, locals := 66 } : Room) s m args below meth c H locs 0 0 (MQ below (va_Qi (fun r u => (r, u) = out) (fun u t => cr_at D A ((fun u : cr_V => cr_wM ct az u) u) t) A) args s 0 0 A) (F0 m 60 ls [])), ∀ (vz : cr_V) (x1 : Int32) (x3 : Int32) (hE : f_X7_reads_90 k60_ vz x1 x3 = some out) (H : Heap) (locs : List Loc) (ls : Array Slot) (hW : cr_wd D A s (cr_wM ct az vz) H locs) (hl : lv_has ls 4 [(0, .ref (az 0)), (1, .int x1), (3, .int x3)]), W p L e ({ frames := 3, cells := 0, slots := 0, locals := 66 } : Room) s m args below meth c H locs 0 0 (MQ below (va_Qi (fun r u => (r, u) = out) (fun u t => cr_at D A ((fun u : cr_V => cr_wM ct az u) u) t) A) args s 0 0 A) (F0 m 90 ls []) := by
    intro k60_ ih60_ vz x1 x3 hE H locs ls hW hl
    replace hE : (f_X7_reads_91 k60_ vz x1 x3 0) = some out := hE
    refine lv_iconst (v := 0) hx hb dX7_reads_90 (by decide) ?_
    exact n91 k60_ ih60_ vz x1 x3 0 hE _ _ _ hW (lv_sub hl [0, 1, 2] rfl)
  have n98 :  ∀ (vz : cr_V) (x2 : Int32) (hE : f_X7_reads_98  vz x2 = some out) (H : Heap) (locs : List Loc) (ls : Array Slot) (hW : cr_wd D A s (cr_wM ct az vz) H locs) (hl : lv_has ls 4 [(0, .ref (az 0)), (2, .int x2)]), W p L e ({ frames := 3, cells := 0, slots := 0, locals := 66 } : Room) s m args below meth c H locs 0 0 (MQ below (va_Qi (fun r u => (r, u) = out) (fun u t => cr_at D A ((fun u : cr_V => cr_wM ct az u) u) t) A) args s 0 0 A) (F0 m 98 ls []) := by
    intro  vz x2 hE H locs ls hW hl
    replace hE : (if x2 = 0 then (some (0, vz)) else ((f_X7_sign vz 59).bind fun q2 => if q2.1 = 0 then (some (0, q2.2)) else (some (1, q2.2)))) = some out := hE
    refine lv_iload_n hx hb dX7_reads_98 rfl (lv_at hl 1 rfl) ?_
    refine lv_if_eq (tgt := 115) hx hb dX7_reads_99 (by decide) (fun c1 => ?_) (fun c1 => ?_)
    · rw [if_pos c1] at hE
      refine lv_iconst (v := 0) hx hb dX7_reads_115 (by decide) ?_
      exact cr_retWz C (w := (fun u : cr_V => cr_wM ct az u)) vz hW rfl (Option.some.inj hE) dX7_reads_116
    · rw [if_neg c1] at hE
      refine lv_aload_n hx hb dX7_reads_102 rfl (lv_at hl 0 rfl) ?_
      refine lv_bipush (v := 59) hx hb dX7_reads_103 (by decide) ?_
      obtain ⟨q2, hq2, hE⟩ := cr_bind hE
      refine cr_vWq (n := 1) (As := [.int 59]) (rest := []) C hW (m_X7_sign L D ct az vz 59 _ q2 hq2) (cwV 1 hts gX7_reads_X7_sign rfl rfl rfl (by decide +kernel) ⟨Nat.le_of_ble_eq_true rfl, Nat.le_of_ble_eq_true rfl⟩) [0, 1, 2, 3, 4, 5, 6, 7] [] [0, 1, 2, 3, 4, 5, 6, 7] (cr_wM ct az q2.2) rfl rfl rfl ⟨by decide +kernel, by decide +kernel, by decide +kernel, by decide +kernel⟩ 0 rfl rfl rfl hl.1 rfl (Nat.le_of_ble_eq_true rfl) dX7_reads_105 ⟨Nat.zero_le _, Nat.zero_le _⟩ (fun H locs hW => ?_)
      refine lv_if_eq (tgt := 115) hx hb dX7_reads_108 (by decide) (fun c3 => ?_) (fun c3 => ?_)
      · rw [if_pos c3] at hE
        refine lv_iconst (v := 0) hx hb dX7_reads_115 (by decide) ?_
        exact cr_retWz C (w := (fun u : cr_V => cr_wM ct az u)) q2.2 hW rfl (Option.some.inj hE) dX7_reads_116
      · rw [if_neg c3] at hE
        refine lv_iconst (v := 1) hx hb dX7_reads_111 (by decide) ?_
        refine lv_goto (tgt := 116) hx hb dX7_reads_112 (by decide) ?_
        exact cr_retWz C (w := (fun u : cr_V => cr_wM ct az u)) q2.2 hW rfl (Option.some.inj hE) dX7_reads_116
  have n60 :  ∀ (n : Nat), ∀ (vz : cr_V) (x1 : Int32) (x2 : Int32) (x3 : Int32) (hE : f_X7_reads_60  n vz x1 x2 x3 = some out) (H : Heap) (locs : List Loc) (ls : Array Slot) (hW : cr_wd D A s (cr_wM ct az vz) H locs) (hl : lv_has ls 4 [(0, .ref (az 0)), (1, .int x1), (2, .int x2), (3, .int x3)]), W p L e ({ frames := 3, cells := 0, slots := 0, locals := 66 } : Room) s m args below meth c H locs 0 0 (MQ below (va_Qi (fun r u => (r, u) = out) (fun u t => cr_at D A ((fun u : cr_V => cr_wM ct az u) u) t) A) args s 0 0 A) (F0 m 60 ls []) := by
    intro  n
    induction n with
    | zero =>
      intro vz x1 x2 x3 hE
      cases hE
    | succ n ih =>
      intro vz x1 x2 x3 hE H locs ls hW hl
      replace hE : (if x1 ≤ x3 then (f_X7_reads_98 vz x2) else (if x2 = 0 then (f_X7_reads_98 vz x2) else ((f_X7_sign vz 44).bind fun q6 => if q6.1 = 0 then (f_X7_reads_90 (f_X7_reads_60 n) q6.2 x1 x3) else ((f_X7_number q6.2 x3).bind fun q8 => if q8.1 = 0 then (f_X7_reads_90 (f_X7_reads_60 n) q8.2 x1 x3) else (f_X7_reads_91 (f_X7_reads_60 n) q8.2 x1 x3 1))))) = some out := hE
      refine lv_iload_n hx hb dX7_reads_60 rfl (lv_at hl 3 rfl) ?_
      refine lv_iload_n hx hb dX7_reads_61 rfl (lv_at hl 1 rfl) ?_
      refine lv_icmp_ge (tgt := 98) hx hb dX7_reads_62 (by decide) (fun c4 => ?_) (fun c4 => ?_)
      · rw [if_pos c4] at hE
        exact n98 vz x2 hE _ _ _ hW (lv_sub hl [0, 2] rfl)
      · rw [if_neg c4] at hE
        refine lv_iload_n hx hb dX7_reads_65 rfl (lv_at hl 2 rfl) ?_
        refine lv_if_eq (tgt := 98) hx hb dX7_reads_66 (by decide) (fun c5 => ?_) (fun c5 => ?_)
        · rw [if_pos c5] at hE
          exact n98 vz x2 hE _ _ _ hW (lv_sub hl [0, 2] rfl)
        · rw [if_neg c5] at hE
          refine lv_aload_n hx hb dX7_reads_69 rfl (lv_at hl 0 rfl) ?_
          refine lv_bipush (v := 44) hx hb dX7_reads_70 (by decide) ?_
          obtain ⟨q6, hq6, hE⟩ := cr_bind hE
          refine cr_vWq (n := 1) (As := [.int 44]) (rest := []) C hW (m_X7_sign L D ct az vz 44 _ q6 hq6) (cwV 1 hts gX7_reads_X7_sign rfl rfl rfl (by decide +kernel) ⟨Nat.le_of_ble_eq_true rfl, Nat.le_of_ble_eq_true rfl⟩) [0, 1, 2, 3, 4, 5, 6, 7] [] [0, 1, 2, 3, 4, 5, 6, 7] (cr_wM ct az q6.2) rfl rfl rfl ⟨by decide +kernel, by decide +kernel, by decide +kernel, by decide +kernel⟩ 0 rfl rfl rfl hl.1 rfl (Nat.le_of_ble_eq_true rfl) dX7_reads_72 ⟨Nat.zero_le _, Nat.zero_le _⟩ (fun H locs hW => ?_)
          refine lv_if_eq (tgt := 90) hx hb dX7_reads_75 (by decide) (fun c7 => ?_) (fun c7 => ?_)
          · rw [if_pos c7] at hE
            exact n90 (f_X7_reads_60 n) ih q6.2 x1 x3 hE _ _ _ hW (lv_sub hl [0, 1, 3] rfl)
          · rw [if_neg c7] at hE
            refine lv_aload_n hx hb dX7_reads_78 rfl (lv_at hl 0 rfl) ?_
            refine lv_iload_n hx hb dX7_reads_79 rfl (lv_at hl 3 rfl) ?_
            obtain ⟨q8, hq8, hE⟩ := cr_bind hE
            refine cr_vWq (n := 1) (As := [.int x3]) (rest := []) C hW (m_X7_number L D ct az q6.2 x3 _ q8 hq8) (cwV 1 hts gX7_reads_X7_number rfl rfl rfl (by decide +kernel) ⟨Nat.le_of_ble_eq_true rfl, Nat.le_of_ble_eq_true rfl⟩) [0, 1, 2, 3, 4, 5, 6, 7] [] [0, 1, 2, 3, 4, 5, 6, 7] (cr_wM ct az q8.2) rfl rfl rfl ⟨by decide +kernel, by decide +kernel, by decide +kernel, by decide +kernel⟩ 0 rfl rfl rfl hl.1 rfl (Nat.le_of_ble_eq_true rfl) dX7_reads_80 ⟨Nat.zero_le _, Nat.zero_le _⟩ (fun H locs hW => ?_)
            refine lv_if_eq (tgt := 90) hx hb dX7_reads_83 (by decide) (fun c9 => ?_) (fun c9 => ?_)
            · rw [if_pos c9] at hE
              exact n90 (f_X7_reads_60 n) ih q8.2 x1 x3 hE _ _ _ hW (lv_sub hl [0, 1, 3] rfl)
            · rw [if_neg c9] at hE
              refine lv_iconst (v := 1) hx hb dX7_reads_86 (by decide) ?_
              refine lv_goto (tgt := 91) hx hb dX7_reads_87 (by decide) ?_
              exact n91 (f_X7_reads_60 n) ih q8.2 x1 x3 1 hE _ _ _ hW (lv_sub hl [0, 1, 3] rfl)
  have n25 :  ∀ (vz : cr_V) (s0 : Int32) (hE : f_X7_reads_25  vz s0 = some out) (H : Heap) (locs : List Loc) (ls : Array Slot) (hW : cr_wd D A s (cr_wM ct az vz) H locs) (hl : lv_has ls 4 [(0, .ref (az 0))]), W p L e ({ frames := 3, cells := 0, slots := 0, locals := 66 } : Room) s m args below meth c H locs 0 0 (MQ below (va_Qi (fun r u => (r, u) = out) (fun u t => cr_at D A ((fun u : cr_V => cr_wM ct az u) u) t) A) args s 0 0 A) (F0 m 25 ls [.int s0, .ref (az 0)]) := by
    intro  vz s0 hE H locs ls hW hl
    replace hE : ((f_X7_numbersOf s0).bind fun q10 => if q10 = 0 then (some (0, (cr_i vz 16 s0))) else ((f_X7_number (cr_i (cr_i vz 16 s0) 11 ((vz 11 0) + 1)) 0).bind fun q12 => f_X7_reads_60 10100 q12.2 q10 q12.1 1)) = some out := hE
    refine cr_put C hW 0 rfl rfl tyX7 tyX7_ok nmX7 16 (by decide) hinX7 k0 rfl rfl rfl rfl (Nat.le_of_ble_eq_true rfl) (w' := cr_wM ct az (cr_i vz 16 s0)) rfl dX7_reads_25 (fun H locs hW => ?_)
    refine lv_aload_n hx hb dX7_reads_28 rfl (lv_at hl 0 rfl) ?_
    refine cr_get C hW.1 0 rfl rfl 16 (by decide) hinX7 k0 (v := .int s0) rfl dX7_reads_29 ?_
    obtain ⟨q10, hq10, hE⟩ := cr_bind hE
    refine cr_sRwq (n := 1) (As := [.int s0]) (rest := []) C hW (m_X7_numbersOf L D ct s0 q10 hq10) (va_cwS 1 hts gX7_reads_X7_numbersOf rfl rfl rfl (by decide +kernel) ⟨Nat.le_of_ble_eq_true rfl, Nat.le_of_ble_eq_true rfl⟩) rfl hl.1 rfl (Nat.le_of_ble_eq_true rfl) dX7_reads_32 ⟨Nat.zero_le _, Nat.zero_le _⟩ (fun H locs hW => ?_)
    refine lv_istore_n (lv' := [(1, .int q10), (0, .ref (az 0))]) hx hb dX7_reads_35 rfl hl (by decide) rfl (fun ls hl => ?_)
    refine lv_iload_n hx hb dX7_reads_36 rfl (lv_at hl 0 rfl) ?_
    refine lv_if_ne (tgt := 42) hx hb dX7_reads_37 (by decide) (fun c11 => ?_) (fun c11 => ?_)
    · rw [if_neg c11] at hE
      refine lv_aload_n hx hb dX7_reads_42 rfl (lv_at hl 1 rfl) ?_
      refine lv_dup hx hb dX7_reads_43 rfl ?_
      refine cr_get C hW.1 0 rfl rfl 11 (by decide) hinX7 k1 (v := .int (vz 11 0)) rfl dX7_reads_44 ?_
      refine lv_iconst (v := 1) hx hb dX7_reads_47 (by decide) ?_
      refine lv_iadd hx hb dX7_reads_48 ?_
      refine cr_put C hW 0 rfl rfl tyX7 tyX7_ok nmX7 11 (by decide) hinX7 k1 rfl rfl rfl rfl (Nat.le_of_ble_eq_true rfl) (w' := cr_wM ct az (cr_i (cr_i vz 16 s0) 11 ((vz 11 0) + 1))) rfl dX7_reads_49 (fun H locs hW => ?_)
      refine lv_aload_n hx hb dX7_reads_52 rfl (lv_at hl 1 rfl) ?_
      refine lv_iconst (v := 0) hx hb dX7_reads_53 (by decide) ?_
      obtain ⟨q12, hq12, hE⟩ := cr_bind hE
      refine cr_vWq (n := 1) (As := [.int 0]) (rest := []) C hW (m_X7_number L D ct az (cr_i (cr_i vz 16 s0) 11 ((vz 11 0) + 1)) 0 _ q12 hq12) (cwV 1 hts gX7_reads_X7_number rfl rfl rfl (by decide +kernel) ⟨Nat.le_of_ble_eq_true rfl, Nat.le_of_ble_eq_true rfl⟩) [0, 1, 2, 3, 4, 5, 6, 7] [] [0, 1, 2, 3, 4, 5, 6, 7] (cr_wM ct az q12.2) rfl rfl rfl ⟨by decide +kernel, by decide +kernel, by decide +kernel, by decide +kernel⟩ 0 rfl rfl rfl hl.1 rfl (Nat.le_of_ble_eq_true rfl) dX7_reads_54 ⟨Nat.zero_le _, Nat.zero_le _⟩ (fun H locs hW => ?_)
      refine lv_istore_n (lv' := [(2, .int q12.1), (1, .int q10), (0, .ref (az 0))]) hx hb dX7_reads_57 rfl hl (by decide) rfl (fun ls hl => ?_)
      refine lv_iconst (v := 1) hx hb dX7_reads_58 (by decide) ?_
      refine lv_istore_n (lv' := [(3, .int 1), (2, .int q12.1), (1, .int q10), (0, .ref (az 0))]) hx hb dX7_reads_59 rfl hl (by decide) rfl (fun ls hl => ?_)
      exact n60 10100 q12.2 q10 q12.1 1 hE _ _ _ hW (lv_sub hl [3, 2, 1, 0] rfl)
    · rw [if_pos c11] at hE
      refine lv_iconst (v := 0) hx hb dX7_reads_40 (by decide) ?_
      exact cr_retWz C (w := (fun u : cr_V => cr_wM ct az u)) (cr_i vz 16 s0) hW rfl (Option.some.inj hE) dX7_reads_41
  replace hE : ((f_X7_isAt vz 33 126).bind fun q13 => if q13 = 0 then (f_X7_reads_25 vz 0) else (if cr_in (vz 11 0) 60 = true then f_X7_reads_25 vz (vz 5 (cr_x (vz 11 0))) else none)) = some out := hE
  refine lv_aload_n hx hb dX7_reads_0 rfl (lv_at hl 0 rfl) ?_
  refine lv_aload_n hx hb dX7_reads_1 rfl (lv_at hl 0 rfl) ?_
  refine lv_bipush (v := 33) hx hb dX7_reads_2 (by decide) ?_
  refine lv_bipush (v := 126) hx hb dX7_reads_4 (by decide) ?_
  obtain ⟨q13, hq13, hE⟩ := cr_bind hE
  refine cr_vRwq (n := 2) (As := [.int 33, .int 126]) (rest := [.ref (az 0)]) C hW (m_X7_isAt L D ct az vz 33 126 q13 hq13) (cwV 2 hts gX7_reads_X7_isAt rfl rfl rfl (by decide +kernel) ⟨Nat.le_of_ble_eq_true rfl, Nat.le_of_ble_eq_true rfl⟩) [0, 1, 2, 3, 4, 5, 6, 7] rfl 0 rfl rfl rfl hl.1 rfl (Nat.le_of_ble_eq_true rfl) dX7_reads_6 ⟨Nat.zero_le _, Nat.zero_le _⟩ (fun H locs hW => ?_)
  refine lv_if_eq (tgt := 24) hx hb dX7_reads_9 (by decide) (fun c14 => ?_) (fun c14 => ?_)
  · rw [if_pos c14] at hE
    refine lv_iconst (v := 0) hx hb dX7_reads_24 (by decide) ?_
    exact n25 vz 0 hE _ _ _ hW (lv_sub hl [0] rfl)
  · rw [if_neg c14] at hE
    refine lv_aload_n hx hb dX7_reads_12 rfl (lv_at hl 0 rfl) ?_
    refine cr_get C hW.1 0 rfl rfl 5 (by decide) hinX7 k2 (v := .ref (az 6)) rfl dX7_reads_13 ?_
    refine lv_aload_n hx hb dX7_reads_16 rfl (lv_at hl 0 rfl) ?_
    refine cr_get C hW.1 0 rfl rfl 11 (by decide) hinX7 k1 (v := .int (vz 11 0)) rfl dX7_reads_17 ?_
    obtain ⟨i15, hE⟩ := cr_ifn hE
    refine cr_ald C hW.1 4 (f := vz 5) (k := cr_x (vz 11 0)) rfl i15 (cr_xe _) dX7_reads_20 ?_
    refine lv_goto (tgt := 25) hx hb dX7_reads_21 (by decide) ?_
    exact n25 vz (vz 5 (cr_x (vz 11 0))) hE _ _ _ hW (lv_sub hl [0] rfl)

set_option maxHeartbeats 4000000 in
set_option maxRecDepth 100000 in
theorem m_X7_calls (L : Launch) (D : va_G) (ct : Nat → ClassId) (az : Nat → Nat) (vz : cr_V)  (sz : Nat) (out : Int32 × cr_V) (hE : f_X7_calls vz = some out) : Met L yX7_calls wsX7_calls ({ frames := 6, cells := 0, slots := 0, locals := 142 } : Room) (cr_pW D ct (cr_wM ct az vz) sz [.ref (az 0)]) (cr_QW D (cr_wM ct az vz) sz (fun r u => (r, u) = out) (fun u : cr_V => cr_wM ct az u)) 0 0 (va_A (cr_wM ct az vz) sz) := by
  have k0 : (Cond.fieldLink RX7 145 "CupReceiptsModel" "order" "I") ∈ wsX7_calls := List.mem_of_getElem? (i := 1) rfl
  have k1 : (Cond.fieldLink RX7 28 "CupReceiptsModel" "told" "[I") ∈ wsX7_calls := List.mem_of_getElem? (i := 2) rfl
  have hinX7 : ∀ w ∈ wsX70, w ∈ wsX7_calls := fun w h => List.mem_cons_of_mem _ (List.mem_append_right _ h)
  refine cr_metW (Qc := fun A => va_Qi (fun r u => (r, u) = out) (fun u t => cr_at D A ((fun u : cr_V => cr_wM ct az u) u) t) A) (by decide) rfl rfl (Nat.le_of_ble_eq_true rfl) ?_
  intro p e s m args below meth c ls A C hW hl
  obtain ⟨hx, hb, hml, hown, hts, hr, hlocks, hK, hN⟩ := id C
  have hl : lv_has ls 1 [(0, .ref (az 0))] := hl
  replace hE : (if (vz 16 0) = 98 then ((f_X7_blend vz (vz 17 0) (vz 17 1) (vz 17 2) (vz 17 3)).bind fun q2 => some (q2.1, q2.2)) else (if (vz 16 0) = 99 then ((f_X7_cup vz (vz 17 0)).bind fun q4 => some (q4.1, q4.2)) else (if (vz 16 0) = 100 then ((f_X7_meet vz (vz 17 0)).bind fun q6 => some (q6.1, q6.2)) else (if (vz 16 0) = 108 then ((f_X7_lot vz (vz 17 0) (vz 17 1)).bind fun q8 => some (q8.1, q8.2)) else (if (vz 16 0) = 115 then ((f_X7_sell vz (vz 17 0) (vz 17 1)).bind fun q10 => some (q10.1, q10.2)) else ((f_X7_pass vz (vz 17 0)).bind fun q11 => some (q11.1, q11.2))))))) = some out := hE
  refine lv_aload_n hx hb dX7_calls_0 rfl (lv_at hl 0 rfl) ?_
  refine cr_get C hW.1 0 rfl rfl 16 (by decide) hinX7 k0 (v := .int (vz 16 0)) rfl dX7_calls_1 ?_
  by_cases c1 : (vz 16 0) = 98
  · rw [if_pos c1] at hE
    refine lv_lookup (tgt := 73) (off := 69) hx hb dX7_calls_4 (by decide) (by rw [c1]; rfl) (by decide) ?_
    refine lv_aload_n hx hb dX7_calls_73 rfl (lv_at hl 0 rfl) ?_
    refine lv_aload_n hx hb dX7_calls_74 rfl (lv_at hl 0 rfl) ?_
    refine cr_get C hW.1 0 rfl rfl 17 (by decide) hinX7 k1 (v := .ref (az 18)) rfl dX7_calls_75 ?_
    refine lv_iconst (v := 0) hx hb dX7_calls_78 (by decide) ?_
    refine cr_ald C hW.1 7 (f := vz 17) (k := 0) rfl (by decide) (by decide) dX7_calls_79 ?_
    refine lv_aload_n hx hb dX7_calls_80 rfl (lv_at hl 0 rfl) ?_
    refine cr_get C hW.1 0 rfl rfl 17 (by decide) hinX7 k1 (v := .ref (az 18)) rfl dX7_calls_81 ?_
    refine lv_iconst (v := 1) hx hb dX7_calls_84 (by decide) ?_
    refine cr_ald C hW.1 7 (f := vz 17) (k := 1) rfl (by decide) (by decide) dX7_calls_85 ?_
    refine lv_aload_n hx hb dX7_calls_86 rfl (lv_at hl 0 rfl) ?_
    refine cr_get C hW.1 0 rfl rfl 17 (by decide) hinX7 k1 (v := .ref (az 18)) rfl dX7_calls_87 ?_
    refine lv_iconst (v := 2) hx hb dX7_calls_90 (by decide) ?_
    refine cr_ald C hW.1 7 (f := vz 17) (k := 2) rfl (by decide) (by decide) dX7_calls_91 ?_
    refine lv_aload_n hx hb dX7_calls_92 rfl (lv_at hl 0 rfl) ?_
    refine cr_get C hW.1 0 rfl rfl 17 (by decide) hinX7 k1 (v := .ref (az 18)) rfl dX7_calls_93 ?_
    refine lv_iconst (v := 3) hx hb dX7_calls_96 (by decide) ?_
    refine cr_ald C hW.1 7 (f := vz 17) (k := 3) rfl (by decide) (by decide) dX7_calls_97 ?_
    obtain ⟨q2, hq2, hE⟩ := cr_bind hE
    refine cr_vWq (n := 4) (As := [.int (vz 17 0), .int (vz 17 1), .int (vz 17 2), .int (vz 17 3)]) (rest := []) C hW (m_X7_blend L D ct az vz (vz 17 0) (vz 17 1) (vz 17 2) (vz 17 3) _ q2 hq2) (cwV 4 hts gX7_calls_X7_blend rfl rfl rfl (by decide +kernel) ⟨Nat.le_of_ble_eq_true rfl, Nat.le_of_ble_eq_true rfl⟩) [0, 1, 2, 3, 4, 5, 6, 7] [] [0, 1, 2, 3, 4, 5, 6, 7] (cr_wM ct az q2.2) rfl rfl rfl ⟨by decide +kernel, by decide +kernel, by decide +kernel, by decide +kernel⟩ 0 rfl rfl rfl hl.1 rfl (Nat.le_of_ble_eq_true rfl) dX7_calls_98 ⟨Nat.zero_le _, Nat.zero_le _⟩ (fun H locs hW => ?_)
    exact cr_retW C (w := (fun u : cr_V => cr_wM ct az u)) q2.2 hW (Option.some.inj hE) dX7_calls_101
  · rw [if_neg c1] at hE
    by_cases c3 : (vz 16 0) = 99
    · rw [if_pos c3] at hE
      refine lv_lookup (tgt := 102) (off := 98) hx hb dX7_calls_4 (by decide) (by rw [c3]; rfl) (by decide) ?_
      refine lv_aload_n hx hb dX7_calls_102 rfl (lv_at hl 0 rfl) ?_
      refine lv_aload_n hx hb dX7_calls_103 rfl (lv_at hl 0 rfl) ?_
      refine cr_get C hW.1 0 rfl rfl 17 (by decide) hinX7 k1 (v := .ref (az 18)) rfl dX7_calls_104 ?_
      refine lv_iconst (v := 0) hx hb dX7_calls_107 (by decide) ?_
      refine cr_ald C hW.1 7 (f := vz 17) (k := 0) rfl (by decide) (by decide) dX7_calls_108 ?_
      obtain ⟨q4, hq4, hE⟩ := cr_bind hE
      refine cr_vWq (n := 1) (As := [.int (vz 17 0)]) (rest := []) C hW (m_X7_cup L D ct az vz (vz 17 0) _ q4 hq4) (cwV 1 hts gX7_calls_X7_cup rfl rfl rfl (by decide +kernel) ⟨Nat.le_of_ble_eq_true rfl, Nat.le_of_ble_eq_true rfl⟩) [0, 1, 2, 3, 4, 5, 6, 7] [] [0, 1, 2, 3, 4, 5, 6, 7] (cr_wM ct az q4.2) rfl rfl rfl ⟨by decide +kernel, by decide +kernel, by decide +kernel, by decide +kernel⟩ 0 rfl rfl rfl hl.1 rfl (Nat.le_of_ble_eq_true rfl) dX7_calls_109 ⟨Nat.zero_le _, Nat.zero_le _⟩ (fun H locs hW => ?_)
      exact cr_retW C (w := (fun u : cr_V => cr_wM ct az u)) q4.2 hW (Option.some.inj hE) dX7_calls_112
    · rw [if_neg c3] at hE
      by_cases c5 : (vz 16 0) = 100
      · rw [if_pos c5] at hE
        refine lv_lookup (tgt := 130) (off := 126) hx hb dX7_calls_4 (by decide) (by rw [c5]; rfl) (by decide) ?_
        refine lv_aload_n hx hb dX7_calls_130 rfl (lv_at hl 0 rfl) ?_
        refine lv_aload_n hx hb dX7_calls_131 rfl (lv_at hl 0 rfl) ?_
        refine cr_get C hW.1 0 rfl rfl 17 (by decide) hinX7 k1 (v := .ref (az 18)) rfl dX7_calls_132 ?_
        refine lv_iconst (v := 0) hx hb dX7_calls_135 (by decide) ?_
        refine cr_ald C hW.1 7 (f := vz 17) (k := 0) rfl (by decide) (by decide) dX7_calls_136 ?_
        obtain ⟨q6, hq6, hE⟩ := cr_bind hE
        refine cr_vWq (n := 1) (As := [.int (vz 17 0)]) (rest := []) C hW (m_X7_meet L D ct az vz (vz 17 0) _ q6 hq6) (cwV 1 hts gX7_calls_X7_meet rfl rfl rfl (by decide +kernel) ⟨Nat.le_of_ble_eq_true rfl, Nat.le_of_ble_eq_true rfl⟩) [0, 1, 2, 3, 4, 5, 6, 7] [] [0, 1, 2, 3, 4, 5, 6, 7] (cr_wM ct az q6.2) rfl rfl rfl ⟨by decide +kernel, by decide +kernel, by decide +kernel, by decide +kernel⟩ 0 rfl rfl rfl hl.1 rfl (Nat.le_of_ble_eq_true rfl) dX7_calls_137 ⟨Nat.zero_le _, Nat.zero_le _⟩ (fun H locs hW => ?_)
        exact cr_retW C (w := (fun u : cr_V => cr_wM ct az u)) q6.2 hW (Option.some.inj hE) dX7_calls_140
      · rw [if_neg c5] at hE
        by_cases c7 : (vz 16 0) = 108
        · rw [if_pos c7] at hE
          refine lv_lookup (tgt := 56) (off := 52) hx hb dX7_calls_4 (by decide) (by rw [c7]; rfl) (by decide) ?_
          refine lv_aload_n hx hb dX7_calls_56 rfl (lv_at hl 0 rfl) ?_
          refine lv_aload_n hx hb dX7_calls_57 rfl (lv_at hl 0 rfl) ?_
          refine cr_get C hW.1 0 rfl rfl 17 (by decide) hinX7 k1 (v := .ref (az 18)) rfl dX7_calls_58 ?_
          refine lv_iconst (v := 0) hx hb dX7_calls_61 (by decide) ?_
          refine cr_ald C hW.1 7 (f := vz 17) (k := 0) rfl (by decide) (by decide) dX7_calls_62 ?_
          refine lv_aload_n hx hb dX7_calls_63 rfl (lv_at hl 0 rfl) ?_
          refine cr_get C hW.1 0 rfl rfl 17 (by decide) hinX7 k1 (v := .ref (az 18)) rfl dX7_calls_64 ?_
          refine lv_iconst (v := 1) hx hb dX7_calls_67 (by decide) ?_
          refine cr_ald C hW.1 7 (f := vz 17) (k := 1) rfl (by decide) (by decide) dX7_calls_68 ?_
          obtain ⟨q8, hq8, hE⟩ := cr_bind hE
          refine cr_vWq (n := 2) (As := [.int (vz 17 0), .int (vz 17 1)]) (rest := []) C hW (m_X7_lot L D ct az vz (vz 17 0) (vz 17 1) _ q8 hq8) (cwV 2 hts gX7_calls_X7_lot rfl rfl rfl (by decide +kernel) ⟨Nat.le_of_ble_eq_true rfl, Nat.le_of_ble_eq_true rfl⟩) [0, 1, 2, 3, 4, 5, 6, 7] [] [0, 1, 2, 3, 4, 5, 6, 7] (cr_wM ct az q8.2) rfl rfl rfl ⟨by decide +kernel, by decide +kernel, by decide +kernel, by decide +kernel⟩ 0 rfl rfl rfl hl.1 rfl (Nat.le_of_ble_eq_true rfl) dX7_calls_69 ⟨Nat.zero_le _, Nat.zero_le _⟩ (fun H locs hW => ?_)
          exact cr_retW C (w := (fun u : cr_V => cr_wM ct az u)) q8.2 hW (Option.some.inj hE) dX7_calls_72
        · rw [if_neg c7] at hE
          by_cases c9 : (vz 16 0) = 115
          · rw [if_pos c9] at hE
            refine lv_lookup (tgt := 113) (off := 109) hx hb dX7_calls_4 (by decide) (by rw [c9]; rfl) (by decide) ?_
            refine lv_aload_n hx hb dX7_calls_113 rfl (lv_at hl 0 rfl) ?_
            refine lv_aload_n hx hb dX7_calls_114 rfl (lv_at hl 0 rfl) ?_
            refine cr_get C hW.1 0 rfl rfl 17 (by decide) hinX7 k1 (v := .ref (az 18)) rfl dX7_calls_115 ?_
            refine lv_iconst (v := 0) hx hb dX7_calls_118 (by decide) ?_
            refine cr_ald C hW.1 7 (f := vz 17) (k := 0) rfl (by decide) (by decide) dX7_calls_119 ?_
            refine lv_aload_n hx hb dX7_calls_120 rfl (lv_at hl 0 rfl) ?_
            refine cr_get C hW.1 0 rfl rfl 17 (by decide) hinX7 k1 (v := .ref (az 18)) rfl dX7_calls_121 ?_
            refine lv_iconst (v := 1) hx hb dX7_calls_124 (by decide) ?_
            refine cr_ald C hW.1 7 (f := vz 17) (k := 1) rfl (by decide) (by decide) dX7_calls_125 ?_
            obtain ⟨q10, hq10, hE⟩ := cr_bind hE
            refine cr_vWq (n := 2) (As := [.int (vz 17 0), .int (vz 17 1)]) (rest := []) C hW (m_X7_sell L D ct az vz (vz 17 0) (vz 17 1) _ q10 hq10) (cwV 2 hts gX7_calls_X7_sell rfl rfl rfl (by decide +kernel) ⟨Nat.le_of_ble_eq_true rfl, Nat.le_of_ble_eq_true rfl⟩) [0, 1, 2, 3, 4, 5, 6, 7] [] [0, 1, 2, 3, 4, 5, 6, 7] (cr_wM ct az q10.2) rfl rfl rfl ⟨by decide +kernel, by decide +kernel, by decide +kernel, by decide +kernel⟩ 0 rfl rfl rfl hl.1 rfl (Nat.le_of_ble_eq_true rfl) dX7_calls_126 ⟨Nat.zero_le _, Nat.zero_le _⟩ (fun H locs hW => ?_)
            exact cr_retW C (w := (fun u : cr_V => cr_wM ct az u)) q10.2 hW (Option.some.inj hE) dX7_calls_129
          · rw [if_neg c9] at hE
            refine lv_lookup (tgt := 141) (off := 137) hx hb dX7_calls_4 (by decide) (by have e0 := cr_ne (n := 98) (by decide) c1; have e1 := cr_ne (n := 99) (by decide) c3; have e2 := cr_ne (n := 100) (by decide) c5; have e3 := cr_ne (n := 108) (by decide) c7; have e4 := cr_ne (n := 115) (by decide) c9; simp [Op.lookupswitch.offset, Ne.symm, *]) (by decide) ?_
            refine lv_aload_n hx hb dX7_calls_141 rfl (lv_at hl 0 rfl) ?_
            refine lv_aload_n hx hb dX7_calls_142 rfl (lv_at hl 0 rfl) ?_
            refine cr_get C hW.1 0 rfl rfl 17 (by decide) hinX7 k1 (v := .ref (az 18)) rfl dX7_calls_143 ?_
            refine lv_iconst (v := 0) hx hb dX7_calls_146 (by decide) ?_
            refine cr_ald C hW.1 7 (f := vz 17) (k := 0) rfl (by decide) (by decide) dX7_calls_147 ?_
            obtain ⟨q11, hq11, hE⟩ := cr_bind hE
            refine cr_vWq (n := 1) (As := [.int (vz 17 0)]) (rest := []) C hW (m_X7_pass L D ct az vz (vz 17 0) _ q11 hq11) (cwV 1 hts gX7_calls_X7_pass rfl rfl rfl (by decide +kernel) ⟨Nat.le_of_ble_eq_true rfl, Nat.le_of_ble_eq_true rfl⟩) [0, 1, 2, 3, 4, 5, 6, 7] [] [0, 1, 2, 3, 4, 5, 6, 7] (cr_wM ct az q11.2) rfl rfl rfl ⟨by decide +kernel, by decide +kernel, by decide +kernel, by decide +kernel⟩ 0 rfl rfl rfl hl.1 rfl (Nat.le_of_ble_eq_true rfl) dX7_calls_148 ⟨Nat.zero_le _, Nat.zero_le _⟩ (fun H locs hW => ?_)
            exact cr_retW C (w := (fun u : cr_V => cr_wM ct az u)) q11.2 hW (Option.some.inj hE) dX7_calls_151

set_option maxHeartbeats 4000000 in
set_option maxRecDepth 100000 in
theorem m_X7_plays (L : Launch) (D : va_G) (ct : Nat → ClassId) (az : Nat → Nat) (vz : cr_V)  (sz : Nat) (out : Int32 × cr_V) (hE : f_X7_plays vz = some out) : Met L yX7_plays wsX7_plays ({ frames := 7, cells := 0, slots := 0, locals := 162 } : Room) (cr_pW D ct (cr_wM ct az vz) sz [.ref (az 0)]) (cr_QW D (cr_wM ct az vz) sz (fun r u => (r, u) = out) (fun u : cr_V => cr_wM ct az u)) 0 0 (va_A (cr_wM ct az vz) sz) := by
  have k0 : (Cond.fieldLink RX7 191 "CupReceiptsModel" "cause" "I") ∈ wsX7_plays := List.mem_of_getElem? (i := 8) rfl
  have k1 : (Cond.fieldLink RX7 178 "CupReceiptsModel" "orders" "I") ∈ wsX7_plays := List.mem_of_getElem? (i := 4) rfl
  have k2 : (Cond.fieldLink RX7 188 "CupReceiptsModel" "reason" "I") ∈ wsX7_plays := List.mem_of_getElem? (i := 7) rfl
  have k3 : (Cond.fieldLink RX7 138 "CupReceiptsModel" "spot" "I") ∈ wsX7_plays := List.mem_of_getElem? (i := 2) rfl
  have k4 : (Cond.fieldLink RX7 175 "CupReceiptsModel" "from" "I") ∈ wsX7_plays := List.mem_of_getElem? (i := 3) rfl
  have k5 : (Cond.constant RX7 65 (-2000000001)) ∈ wsX7_plays := List.mem_of_getElem? (i := 6) rfl
  have k6 : (Cond.fieldLink RX7 31 "CupReceiptsModel" "runs" "Z") ∈ wsX7_plays := List.mem_of_getElem? (i := 1) rfl
  have k7 : (Cond.fieldLink RX7 135 "CupReceiptsModel" "typed" "I") ∈ wsX7_plays := List.mem_of_getElem? (i := 5) rfl
  have hinX7 : ∀ w ∈ wsX70, w ∈ wsX7_plays := fun w h => List.mem_cons_of_mem _ (List.mem_append_right _ h)
  refine cr_metW (Qc := fun A => va_Qi (fun r u => (r, u) = out) (fun u t => cr_at D A ((fun u : cr_V => cr_wM ct az u) u) t) A) (by decide) rfl rfl (Nat.le_of_ble_eq_true rfl) ?_
  intro p e s m args below meth c ls A C hW hl
  obtain ⟨hx, hb, hml, hown, hts, hr, hlocks, hK, hN⟩ := id C
  have hl : lv_has ls 4 [(0, .ref (az 0))] := hl
  have n110 : ∀ (k22_ : cr_V → Int32 → Option (Int32 × cr_V)) (ih22_ : ∀ (vz : cr_V) (x1 : Int32) (hE : k22_ vz x1 = some out) (H : Heap) (locs : List Loc) (ls : Array Slot) (hW : cr_wd D A s (cr_wM ct az vz) H locs) (hl : lv_has ls 4 [(0, .ref (az 0)), (1, .int x1)]), W p L e ({ frames := 7, cells := 0, slots := 0, locals := 162 } : Room) s m args below meth c H locs 0 0 (MQ below (va_Qi (fun r u => (r, u) = out) (fun u t => cr_at D A ((fun u : cr_V => cr_wM ct az u) u) t) A) args s 0 0 A) (F0 m 22 ls [])), ∀ (vz : cr_V) (x1 : Int32) (s0 : Int32) (hE : f_X7_plays_110 k22_ vz x1 s0 = some out) (H : Heap) (locs : List Loc) (ls : Array Slot) (hW : cr_wd D A s (cr_wM ct az vz) H locs) (hl : lv_has ls 4 [(0, .ref (az 0)), (1, .int x1)]), W p L e ({ frames := 7, cells := 0, slots := 0, locals := 162 } : Room) s m args below meth c H locs 0 0 (MQ below (va_Qi (fun r u => (r, u) = out) (fun u t => cr_at D A ((fun u : cr_V => cr_wM ct az u) u) t) A) args s 0 0 A) (F0 m 110 ls [.int s0, .ref (az 0)]) := by
    intro k22_ ih22_ vz x1 s0 hE H locs ls hW hl
    replace hE : (k22_ (cr_i (cr_i vz 14 s0) 15 ((vz 15 0) + 1)) x1) = some out := hE
    refine cr_put C hW 0 rfl rfl tyX7 tyX7_ok nmX7 14 (by decide) hinX7 k0 rfl rfl rfl rfl (Nat.le_of_ble_eq_true rfl) (w' := cr_wM ct az (cr_i vz 14 s0)) rfl dX7_plays_110 (fun H locs hW => ?_)
    refine lv_aload_n hx hb dX7_plays_113 rfl (lv_at hl 0 rfl) ?_
    refine lv_dup hx hb dX7_plays_114 rfl ?_
    refine cr_get C hW.1 0 rfl rfl 15 (by decide) hinX7 k1 (v := .int (vz 15 0)) rfl dX7_plays_115 ?_
    refine lv_iconst (v := 1) hx hb dX7_plays_118 (by decide) ?_
    refine lv_iadd hx hb dX7_plays_119 ?_
    refine cr_put C hW 0 rfl rfl tyX7 tyX7_ok nmX7 15 (by decide) hinX7 k1 rfl rfl rfl rfl (Nat.le_of_ble_eq_true rfl) (w' := cr_wM ct az (cr_i (cr_i vz 14 s0) 15 ((vz 15 0) + 1))) rfl dX7_plays_120 (fun H locs hW => ?_)
    refine lv_goto (tgt := 22) hx hb dX7_plays_123 (by decide) ?_
    exact ih22_ (cr_i (cr_i vz 14 s0) 15 ((vz 15 0) + 1)) x1 hE _ _ _ hW (lv_sub hl [0, 1] rfl)
  have n89 : ∀ (k22_ : cr_V → Int32 → Option (Int32 × cr_V)) (ih22_ : ∀ (vz : cr_V) (x1 : Int32) (hE : k22_ vz x1 = some out) (H : Heap) (locs : List Loc) (ls : Array Slot) (hW : cr_wd D A s (cr_wM ct az vz) H locs) (hl : lv_has ls 4 [(0, .ref (az 0)), (1, .int x1)]), W p L e ({ frames := 7, cells := 0, slots := 0, locals := 162 } : Room) s m args below meth c H locs 0 0 (MQ below (va_Qi (fun r u => (r, u) = out) (fun u t => cr_at D A ((fun u : cr_V => cr_wM ct az u) u) t) A) args s 0 0 A) (F0 m 22 ls [])), ∀ (vz : cr_V) (x1 : Int32) (x2 : Int32) (x3 : Int32) (s0 : Int32) (hE : f_X7_plays_89 k22_ vz x1 x2 x3 s0 = some out) (H : Heap) (locs : List Loc) (ls : Array Slot) (hW : cr_wd D A s (cr_wM ct az vz) H locs) (hl : lv_has ls 4 [(0, .ref (az 0)), (1, .int x1), (2, .int x2), (3, .int x3)]), W p L e ({ frames := 7, cells := 0, slots := 0, locals := 162 } : Room) s m args below meth c H locs 0 0 (MQ below (va_Qi (fun r u => (r, u) = out) (fun u t => cr_at D A ((fun u : cr_V => cr_wM ct az u) u) t) A) args s 0 0 A) (F0 m 89 ls [.int s0, .ref (az 0)]) := by
    intro k22_ ih22_ vz x1 x2 x3 s0 hE H locs ls hW hl
    replace hE : (if x2 = 0 then (f_X7_plays_110 k22_ (cr_i vz 13 s0) x1 ((vz 11 0) - (vz 12 0))) else (f_X7_plays_110 k22_ (cr_i vz 13 s0) x1 x3)) = some out := hE
    refine cr_put C hW 0 rfl rfl tyX7 tyX7_ok nmX7 13 (by decide) hinX7 k2 rfl rfl rfl rfl (Nat.le_of_ble_eq_true rfl) (w' := cr_wM ct az (cr_i vz 13 s0)) rfl dX7_plays_89 (fun H locs hW => ?_)
    refine lv_aload_n hx hb dX7_plays_92 rfl (lv_at hl 0 rfl) ?_
    refine lv_iload_n hx hb dX7_plays_93 rfl (lv_at hl 2 rfl) ?_
    refine lv_if_eq (tgt := 101) hx hb dX7_plays_94 (by decide) (fun c1 => ?_) (fun c1 => ?_)
    · rw [if_pos c1] at hE
      refine lv_aload_n hx hb dX7_plays_101 rfl (lv_at hl 0 rfl) ?_
      refine cr_get C hW.1 0 rfl rfl 11 (by decide) hinX7 k3 (v := .int (vz 11 0)) rfl dX7_plays_102 ?_
      refine lv_aload_n hx hb dX7_plays_105 rfl (lv_at hl 0 rfl) ?_
      refine cr_get C hW.1 0 rfl rfl 12 (by decide) hinX7 k4 (v := .int (vz 12 0)) rfl dX7_plays_106 ?_
      refine lv_isub hx hb dX7_plays_109 ?_
      exact n110 k22_ ih22_ (cr_i vz 13 s0) x1 ((vz 11 0) - (vz 12 0)) hE _ _ _ hW (lv_sub hl [0, 1] rfl)
    · rw [if_neg c1] at hE
      refine lv_iload_n hx hb dX7_plays_97 rfl (lv_at hl 3 rfl) ?_
      refine lv_goto (tgt := 110) hx hb dX7_plays_98 (by decide) ?_
      exact n110 k22_ ih22_ (cr_i vz 13 s0) x1 x3 hE _ _ _ hW (lv_sub hl [0, 1] rfl)
  have n78 : ∀ (k22_ : cr_V → Int32 → Option (Int32 × cr_V)) (ih22_ : ∀ (vz : cr_V) (x1 : Int32) (hE : k22_ vz x1 = some out) (H : Heap) (locs : List Loc) (ls : Array Slot) (hW : cr_wd D A s (cr_wM ct az vz) H locs) (hl : lv_has ls 4 [(0, .ref (az 0)), (1, .int x1)]), W p L e ({ frames := 7, cells := 0, slots := 0, locals := 162 } : Room) s m args below meth c H locs 0 0 (MQ below (va_Qi (fun r u => (r, u) = out) (fun u t => cr_at D A ((fun u : cr_V => cr_wM ct az u) u) t) A) args s 0 0 A) (F0 m 22 ls [])), ∀ (vz : cr_V) (x2 : Int32) (x3 : Int32) (s0 : Int32) (hE : f_X7_plays_78 k22_ vz x2 x3 s0 = some out) (H : Heap) (locs : List Loc) (ls : Array Slot) (hW : cr_wd D A s (cr_wM ct az vz) H locs) (hl : lv_has ls 4 [(0, .ref (az 0)), (2, .int x2), (3, .int x3)]), W p L e ({ frames := 7, cells := 0, slots := 0, locals := 162 } : Room) s m args below meth c H locs 0 0 (MQ below (va_Qi (fun r u => (r, u) = out) (fun u t => cr_at D A ((fun u : cr_V => cr_wM ct az u) u) t) A) args s 0 0 A) (F0 m 78 ls [.int s0]) := by
    intro k22_ ih22_ vz x2 x3 s0 hE H locs ls hW hl
    replace hE : (if x2 = 0 then (f_X7_plays_89 k22_ vz s0 x2 x3 1) else (f_X7_plays_89 k22_ vz s0 x2 x3 2)) = some out := hE
    refine lv_istore_n (lv' := [(1, .int s0), (0, .ref (az 0)), (2, .int x2), (3, .int x3)]) hx hb dX7_plays_78 rfl hl (by decide) rfl (fun ls hl => ?_)
    refine lv_aload_n hx hb dX7_plays_79 rfl (lv_at hl 1 rfl) ?_
    refine lv_iload_n hx hb dX7_plays_80 rfl (lv_at hl 2 rfl) ?_
    refine lv_if_eq (tgt := 88) hx hb dX7_plays_81 (by decide) (fun c2 => ?_) (fun c2 => ?_)
    · rw [if_pos c2] at hE
      refine lv_iconst (v := 1) hx hb dX7_plays_88 (by decide) ?_
      exact n89 k22_ ih22_ vz s0 x2 x3 1 hE _ _ _ hW (lv_sub hl [1, 0, 2, 3] rfl)
    · rw [if_neg c2] at hE
      refine lv_iconst (v := 2) hx hb dX7_plays_84 (by decide) ?_
      refine lv_goto (tgt := 89) hx hb dX7_plays_85 (by decide) ?_
      exact n89 k22_ ih22_ vz s0 x2 x3 2 hE _ _ _ hW (lv_sub hl [1, 0, 2, 3] rfl)
  have n77 : ∀ (k22_ : cr_V → Int32 → Option (Int32 × cr_V)) (ih22_ : ∀ (vz : cr_V) (x1 : Int32) (hE : k22_ vz x1 = some out) (H : Heap) (locs : List Loc) (ls : Array Slot) (hW : cr_wd D A s (cr_wM ct az vz) H locs) (hl : lv_has ls 4 [(0, .ref (az 0)), (1, .int x1)]), W p L e ({ frames := 7, cells := 0, slots := 0, locals := 162 } : Room) s m args below meth c H locs 0 0 (MQ below (va_Qi (fun r u => (r, u) = out) (fun u t => cr_at D A ((fun u : cr_V => cr_wM ct az u) u) t) A) args s 0 0 A) (F0 m 22 ls [])), ∀ (vz : cr_V) (x2 : Int32) (x3 : Int32) (hE : f_X7_plays_77 k22_ vz x2 x3 = some out) (H : Heap) (locs : List Loc) (ls : Array Slot) (hW : cr_wd D A s (cr_wM ct az vz) H locs) (hl : lv_has ls 4 [(0, .ref (az 0)), (2, .int x2), (3, .int x3)]), W p L e ({ frames := 7, cells := 0, slots := 0, locals := 162 } : Room) s m args below meth c H locs 0 0 (MQ below (va_Qi (fun r u => (r, u) = out) (fun u t => cr_at D A ((fun u : cr_V => cr_wM ct az u) u) t) A) args s 0 0 A) (F0 m 77 ls []) := by
    intro k22_ ih22_ vz x2 x3 hE H locs ls hW hl
    replace hE : (f_X7_plays_78 k22_ vz x2 x3 0) = some out := hE
    refine lv_iconst (v := 0) hx hb dX7_plays_77 (by decide) ?_
    exact n78 k22_ ih22_ vz x2 x3 0 hE _ _ _ hW (lv_sub hl [0, 1, 2] rfl)
  have n62 : ∀ (k22_ : cr_V → Int32 → Option (Int32 × cr_V)) (ih22_ : ∀ (vz : cr_V) (x1 : Int32) (hE : k22_ vz x1 = some out) (H : Heap) (locs : List Loc) (ls : Array Slot) (hW : cr_wd D A s (cr_wM ct az vz) H locs) (hl : lv_has ls 4 [(0, .ref (az 0)), (1, .int x1)]), W p L e ({ frames := 7, cells := 0, slots := 0, locals := 162 } : Room) s m args below meth c H locs 0 0 (MQ below (va_Qi (fun r u => (r, u) = out) (fun u t => cr_at D A ((fun u : cr_V => cr_wM ct az u) u) t) A) args s 0 0 A) (F0 m 22 ls [])), ∀ (vz : cr_V) (x2 : Int32) (s0 : Int32) (hE : f_X7_plays_62 k22_ vz x2 s0 = some out) (H : Heap) (locs : List Loc) (ls : Array Slot) (hW : cr_wd D A s (cr_wM ct az vz) H locs) (hl : lv_has ls 4 [(0, .ref (az 0)), (2, .int x2)]), W p L e ({ frames := 7, cells := 0, slots := 0, locals := 162 } : Room) s m args below meth c H locs 0 0 (MQ below (va_Qi (fun r u => (r, u) = out) (fun u t => cr_at D A ((fun u : cr_V => cr_wM ct az u) u) t) A) args s 0 0 A) (F0 m 62 ls [.int s0]) := by
    intro k22_ ih22_ vz x2 s0 hE H locs ls hW hl
    replace hE : (if x2 = 0 then (f_X7_plays_77 k22_ vz x2 s0) else (if s0 ≤ (-2000000001) then (f_X7_plays_77 k22_ vz x2 s0) else (f_X7_plays_78 k22_ vz x2 s0 1))) = some out := hE
    refine lv_istore_n (lv' := [(3, .int s0), (0, .ref (az 0)), (2, .int x2)]) hx hb dX7_plays_62 rfl hl (by decide) rfl (fun ls hl => ?_)
    refine lv_iload_n hx hb dX7_plays_63 rfl (lv_at hl 2 rfl) ?_
    refine lv_if_eq (tgt := 77) hx hb dX7_plays_64 (by decide) (fun c3 => ?_) (fun c3 => ?_)
    · rw [if_pos c3] at hE
      exact n77 k22_ ih22_ vz x2 s0 hE _ _ _ hW (lv_sub hl [1, 2, 0] rfl)
    · rw [if_neg c3] at hE
      refine lv_iload_n hx hb dX7_plays_67 rfl (lv_at hl 0 rfl) ?_
      refine cr_ldc C k5 dX7_plays_68 ?_
      refine lv_icmp_le (tgt := 77) hx hb dX7_plays_70 (by decide) (fun c4 => ?_) (fun c4 => ?_)
      · rw [if_pos c4] at hE
        exact n77 k22_ ih22_ vz x2 s0 hE _ _ _ hW (lv_sub hl [1, 2, 0] rfl)
      · rw [if_neg c4] at hE
        refine lv_iconst (v := 1) hx hb dX7_plays_73 (by decide) ?_
        refine lv_goto (tgt := 78) hx hb dX7_plays_74 (by decide) ?_
        exact n78 k22_ ih22_ vz x2 s0 1 hE _ _ _ hW (lv_sub hl [1, 2, 0] rfl)
  have n126 :  ∀ (vz : cr_V) (x1 : Int32) (hE : f_X7_plays_126  vz x1 = some out) (H : Heap) (locs : List Loc) (ls : Array Slot) (hW : cr_wd D A s (cr_wM ct az vz) H locs) (hl : lv_has ls 4 [(0, .ref (az 0)), (1, .int x1)]), W p L e ({ frames := 7, cells := 0, slots := 0, locals := 162 } : Room) s m args below meth c H locs 0 0 (MQ below (va_Qi (fun r u => (r, u) = out) (fun u t => cr_at D A ((fun u : cr_V => cr_wM ct az u) u) t) A) args s 0 0 A) (F0 m 126 ls []) := by
    intro  vz x1 hE H locs ls hW hl
    replace hE : (if cr_bool x1 = true then some (x1, (cr_i vz 4 0)) else none) = some out := hE
    refine lv_aload_n hx hb dX7_plays_126 rfl (lv_at hl 0 rfl) ?_
    refine lv_iconst (v := 0) hx hb dX7_plays_127 (by decide) ?_
    refine cr_put C hW 0 rfl rfl tyX7 tyX7_ok nmX7 4 (by decide) hinX7 k6 rfl rfl rfl rfl (Nat.le_of_ble_eq_true rfl) (w' := cr_wM ct az (cr_i vz 4 0)) rfl dX7_plays_128 (fun H locs hW => ?_)
    refine lv_iload_n hx hb dX7_plays_131 rfl (lv_at hl 1 rfl) ?_
    obtain ⟨z5, hE⟩ := cr_ifn hE
    exact cr_retWz C (w := (fun u : cr_V => cr_wM ct az u)) (cr_i vz 4 0) hW (cr_boolN z5) (Option.some.inj hE) dX7_plays_132
  have n22 :  ∀ (n : Nat), ∀ (vz : cr_V) (x1 : Int32) (hE : f_X7_plays_22  n vz x1 = some out) (H : Heap) (locs : List Loc) (ls : Array Slot) (hW : cr_wd D A s (cr_wM ct az vz) H locs) (hl : lv_has ls 4 [(0, .ref (az 0)), (1, .int x1)]), W p L e ({ frames := 7, cells := 0, slots := 0, locals := 162 } : Room) s m args below meth c H locs 0 0 (MQ below (va_Qi (fun r u => (r, u) = out) (fun u t => cr_at D A ((fun u : cr_V => cr_wM ct az u) u) t) A) args s 0 0 A) (F0 m 22 ls []) := by
    intro  n
    induction n with
    | zero =>
      intro vz x1 hE
      cases hE
    | succ n ih =>
      intro vz x1 hE H locs ls hW hl
      replace hE : (if (vz 6 0) ≤ (vz 11 0) then (f_X7_plays_126 vz x1) else (if x1 = 0 then (f_X7_plays_126 vz x1) else ((f_X7_reads (cr_i vz 12 (vz 11 0))).bind fun q8 => if q8.1 = 0 then (f_X7_plays_62 (f_X7_plays_22 n) q8.2 q8.1 0) else ((f_X7_calls q8.2).bind fun q10 => f_X7_plays_62 (f_X7_plays_22 n) q10.2 q8.1 q10.1)))) = some out := hE
      refine lv_aload_n hx hb dX7_plays_22 rfl (lv_at hl 0 rfl) ?_
      refine cr_get C hW.1 0 rfl rfl 11 (by decide) hinX7 k3 (v := .int (vz 11 0)) rfl dX7_plays_23 ?_
      refine lv_aload_n hx hb dX7_plays_26 rfl (lv_at hl 0 rfl) ?_
      refine cr_get C hW.1 0 rfl rfl 6 (by decide) hinX7 k7 (v := .int (vz 6 0)) rfl dX7_plays_27 ?_
      refine lv_icmp_ge (tgt := 126) hx hb dX7_plays_30 (by decide) (fun c6 => ?_) (fun c6 => ?_)
      · rw [if_pos c6] at hE
        exact n126 vz x1 hE _ _ _ hW (lv_sub hl [0, 1] rfl)
      · rw [if_neg c6] at hE
        refine lv_iload_n hx hb dX7_plays_33 rfl (lv_at hl 1 rfl) ?_
        refine lv_if_eq (tgt := 126) hx hb dX7_plays_34 (by decide) (fun c7 => ?_) (fun c7 => ?_)
        · rw [if_pos c7] at hE
          exact n126 vz x1 hE _ _ _ hW (lv_sub hl [0, 1] rfl)
        · rw [if_neg c7] at hE
          refine lv_aload_n hx hb dX7_plays_37 rfl (lv_at hl 0 rfl) ?_
          refine lv_aload_n hx hb dX7_plays_38 rfl (lv_at hl 0 rfl) ?_
          refine cr_get C hW.1 0 rfl rfl 11 (by decide) hinX7 k3 (v := .int (vz 11 0)) rfl dX7_plays_39 ?_
          refine cr_put C hW 0 rfl rfl tyX7 tyX7_ok nmX7 12 (by decide) hinX7 k4 rfl rfl rfl rfl (Nat.le_of_ble_eq_true rfl) (w' := cr_wM ct az (cr_i vz 12 (vz 11 0))) rfl dX7_plays_42 (fun H locs hW => ?_)
          refine lv_aload_n hx hb dX7_plays_45 rfl (lv_at hl 0 rfl) ?_
          obtain ⟨q8, hq8, hE⟩ := cr_bind hE
          refine cr_vWq (n := 0) (As := []) (rest := []) C hW (m_X7_reads L D ct az (cr_i vz 12 (vz 11 0)) _ q8 hq8) (cwV 0 hts gX7_plays_X7_reads rfl rfl rfl (by decide +kernel) ⟨Nat.le_of_ble_eq_true rfl, Nat.le_of_ble_eq_true rfl⟩) [0, 1, 2, 3, 4, 5, 6, 7] [] [0, 1, 2, 3, 4, 5, 6, 7] (cr_wM ct az q8.2) rfl rfl rfl ⟨by decide +kernel, by decide +kernel, by decide +kernel, by decide +kernel⟩ 0 rfl rfl rfl hl.1 rfl (Nat.le_of_ble_eq_true rfl) dX7_plays_46 ⟨Nat.zero_le _, Nat.zero_le _⟩ (fun H locs hW => ?_)
          refine lv_istore_n (lv' := [(2, .int q8.1), (0, .ref (az 0)), (1, .int x1)]) hx hb dX7_plays_49 rfl hl (by decide) rfl (fun ls hl => ?_)
          refine lv_iload_n hx hb dX7_plays_50 rfl (lv_at hl 0 rfl) ?_
          refine lv_if_eq (tgt := 61) hx hb dX7_plays_51 (by decide) (fun c9 => ?_) (fun c9 => ?_)
          · rw [if_pos c9] at hE
            refine lv_iconst (v := 0) hx hb dX7_plays_61 (by decide) ?_
            exact n62 (f_X7_plays_22 n) ih q8.2 q8.1 0 hE _ _ _ hW (lv_sub hl [1, 0] rfl)
          · rw [if_neg c9] at hE
            refine lv_aload_n hx hb dX7_plays_54 rfl (lv_at hl 1 rfl) ?_
            obtain ⟨q10, hq10, hE⟩ := cr_bind hE
            refine cr_vWq (n := 0) (As := []) (rest := []) C hW (m_X7_calls L D ct az q8.2 _ q10 hq10) (cwV 0 hts gX7_plays_X7_calls rfl rfl rfl (by decide +kernel) ⟨Nat.le_of_ble_eq_true rfl, Nat.le_of_ble_eq_true rfl⟩) [0, 1, 2, 3, 4, 5, 6, 7] [] [0, 1, 2, 3, 4, 5, 6, 7] (cr_wM ct az q10.2) rfl rfl rfl ⟨by decide +kernel, by decide +kernel, by decide +kernel, by decide +kernel⟩ 0 rfl rfl rfl hl.1 rfl (Nat.le_of_ble_eq_true rfl) dX7_plays_55 ⟨Nat.zero_le _, Nat.zero_le _⟩ (fun H locs hW => ?_)
            refine lv_goto (tgt := 62) hx hb dX7_plays_58 (by decide) ?_
            exact n62 (f_X7_plays_22 n) ih q10.2 q8.1 q10.1 hE _ _ _ hW (lv_sub hl [1, 0] rfl)
  replace hE : (f_X7_plays_22 10100 (cr_i (cr_i (cr_i (cr_i vz 4 1) 11 0) 12 0) 15 0) 1) = some out := hE
  refine lv_aload_n hx hb dX7_plays_0 rfl (lv_at hl 0 rfl) ?_
  refine lv_iconst (v := 1) hx hb dX7_plays_1 (by decide) ?_
  refine cr_put C hW 0 rfl rfl tyX7 tyX7_ok nmX7 4 (by decide) hinX7 k6 rfl rfl rfl rfl (Nat.le_of_ble_eq_true rfl) (w' := cr_wM ct az (cr_i vz 4 1)) rfl dX7_plays_2 (fun H locs hW => ?_)
  refine lv_aload_n hx hb dX7_plays_5 rfl (lv_at hl 0 rfl) ?_
  refine lv_iconst (v := 0) hx hb dX7_plays_6 (by decide) ?_
  refine cr_put C hW 0 rfl rfl tyX7 tyX7_ok nmX7 11 (by decide) hinX7 k3 rfl rfl rfl rfl (Nat.le_of_ble_eq_true rfl) (w' := cr_wM ct az (cr_i (cr_i vz 4 1) 11 0)) rfl dX7_plays_7 (fun H locs hW => ?_)
  refine lv_aload_n hx hb dX7_plays_10 rfl (lv_at hl 0 rfl) ?_
  refine lv_iconst (v := 0) hx hb dX7_plays_11 (by decide) ?_
  refine cr_put C hW 0 rfl rfl tyX7 tyX7_ok nmX7 12 (by decide) hinX7 k4 rfl rfl rfl rfl (Nat.le_of_ble_eq_true rfl) (w' := cr_wM ct az (cr_i (cr_i (cr_i vz 4 1) 11 0) 12 0)) rfl dX7_plays_12 (fun H locs hW => ?_)
  refine lv_aload_n hx hb dX7_plays_15 rfl (lv_at hl 0 rfl) ?_
  refine lv_iconst (v := 0) hx hb dX7_plays_16 (by decide) ?_
  refine cr_put C hW 0 rfl rfl tyX7 tyX7_ok nmX7 15 (by decide) hinX7 k1 rfl rfl rfl rfl (Nat.le_of_ble_eq_true rfl) (w' := cr_wM ct az (cr_i (cr_i (cr_i (cr_i vz 4 1) 11 0) 12 0) 15 0)) rfl dX7_plays_17 (fun H locs hW => ?_)
  refine lv_iconst (v := 1) hx hb dX7_plays_20 (by decide) ?_
  refine lv_istore_n (lv' := [(1, .int 1), (0, .ref (az 0))]) hx hb dX7_plays_21 rfl hl (by decide) rfl (fun ls hl => ?_)
  exact n22 10100 (cr_i (cr_i (cr_i (cr_i vz 4 1) 11 0) 12 0) 15 0) 1 hE _ _ _ hW (lv_sub hl [1, 0] rfl)

set_option maxHeartbeats 4000000 in
set_option maxRecDepth 100000 in
theorem m_X7_fault (L : Launch) (D : va_G) (ct : Nat → ClassId) (az : Nat → Nat) (vz : cr_V) (x1 : Int32) (sz : Nat) (out : Int32 × cr_V) (hE : f_X7_fault vz x1 = some out) : Met L yX7_fault wsX7_fault ({ frames := 8, cells := 0, slots := 0, locals := 185 } : Room) (cr_pW D ct (cr_wM ct az vz) sz [.ref (az 0), .int x1]) (cr_QW D (cr_wM ct az vz) sz (fun r u => (r, u) = out) (fun u : cr_V => cr_wM ct az u)) 0 0 (va_A (cr_wM ct az vz) sz) := by
  have k0 : (Cond.fieldLink RX7 7 "CupReceiptsModel" "s" "[I") ∈ wsX7_fault := List.mem_of_getElem? (i := 2) rfl
  have k1 : (Cond.fieldLink RX7 16 "CupReceiptsModel" "held" "[I") ∈ wsX7_fault := List.mem_of_getElem? (i := 3) rfl
  have k2 : (Cond.fieldLink RX7 191 "CupReceiptsModel" "cause" "I") ∈ wsX7_fault := List.mem_of_getElem? (i := 7) rfl
  have k3 : (Cond.fieldLink RX7 188 "CupReceiptsModel" "reason" "I") ∈ wsX7_fault := List.mem_of_getElem? (i := 6) rfl
  have k4 : (Cond.fieldLink RX7 175 "CupReceiptsModel" "from" "I") ∈ wsX7_fault := List.mem_of_getElem? (i := 5) rfl
  have k5 : (Cond.constant RX7 43 (-2000000004)) ∈ wsX7_fault := List.mem_of_getElem? (i := 4) rfl
  have k6 : (Cond.constant RX7 65 (-2000000001)) ∈ wsX7_fault := List.mem_of_getElem? (i := 1) rfl
  have hinX7 : ∀ w ∈ wsX70, w ∈ wsX7_fault := fun w h => List.mem_cons_of_mem _ (List.mem_append_right _ h)
  refine cr_metW (Qc := fun A => va_Qi (fun r u => (r, u) = out) (fun u t => cr_at D A ((fun u : cr_V => cr_wM ct az u) u) t) A) (by decide) rfl rfl (Nat.le_of_ble_eq_true rfl) ?_
  intro p e s m args below meth c ls A C hW hl
  obtain ⟨hx, hb, hml, hown, hts, hr, hlocks, hK, hN⟩ := id C
  have hl : lv_has ls 3 [(0, .ref (az 0)), (1, .int x1)] := hl
  replace hE : ((f_X7_in x1 0 2).bind fun q1 => if q1 = 0 then (some ((-2000000001), vz)) else ((f_X7_copies (fun _ => vz 0) (fun _ => vz 2)).bind fun q3 => (f_X7_plays (cr_c vz 2 (q3 0))).bind fun q4 => (f_X7_copies (fun _ => q4.2 2) (fun _ => q4.2 0)).bind fun q5 => if q4.1 = 0 then (if x1 = 0 then (some ((q4.2 12 0), (cr_c q4.2 0 (q5 0)))) else (if x1 = 1 then (some ((q4.2 13 0), (cr_c q4.2 0 (q5 0)))) else (some ((q4.2 14 0), (cr_c q4.2 0 (q5 0)))))) else (some ((-2000000004), (cr_c q4.2 0 (q5 0)))))) = some out := hE
  refine lv_iload_n hx hb dX7_fault_0 rfl (lv_at hl 1 rfl) ?_
  refine lv_iconst (v := 0) hx hb dX7_fault_1 (by decide) ?_
  refine lv_iconst (v := 2) hx hb dX7_fault_2 (by decide) ?_
  obtain ⟨q1, hq1, hE⟩ := cr_bind hE
  refine cr_sRwq (n := 3) (As := [.int x1, .int 0, .int 2]) (rest := []) C hW (m_X7_in L D ct x1 0 2 q1 hq1) (va_cwS 3 hts gX7_fault_X7_in rfl rfl rfl (by decide +kernel) ⟨Nat.le_of_ble_eq_true rfl, Nat.le_of_ble_eq_true rfl⟩) rfl hl.1 rfl (Nat.le_of_ble_eq_true rfl) dX7_fault_3 ⟨Nat.zero_le _, Nat.zero_le _⟩ (fun H locs hW => ?_)
  refine lv_if_ne (tgt := 12) hx hb dX7_fault_6 (by decide) (fun c2 => ?_) (fun c2 => ?_)
  · rw [if_neg c2] at hE
    refine lv_aload_n hx hb dX7_fault_12 rfl (lv_at hl 0 rfl) ?_
    refine cr_get C hW.1 0 rfl rfl 0 (by decide) hinX7 k0 (v := .ref (az 1)) rfl dX7_fault_13 ?_
    refine lv_aload_n hx hb dX7_fault_16 rfl (lv_at hl 0 rfl) ?_
    refine cr_get C hW.1 0 rfl rfl 2 (by decide) hinX7 k1 (v := .ref (az 3)) rfl dX7_fault_17 ?_
    obtain ⟨q3, hq3, hE⟩ := cr_bind hE
    refine cr_sVq (n := 2) (As := [.ref (az 1), .ref (az 3)]) (rest := []) C hW (m_X7_copies L D ct (fun _ => az 1) (fun _ => az 3) (fun _ => vz 0) (fun _ => vz 2) _ q3 hq3) (va_cwS 2 hts gX7_fault_X7_copies rfl rfl rfl (by decide +kernel) ⟨Nat.le_of_ble_eq_true rfl, Nat.le_of_ble_eq_true rfl⟩) [1, 3] [0, 2, 4, 5, 6, 7] [0, 6, 1, 7, 2, 3, 4, 5] (cr_wM ct az (cr_c vz 2 (q3 0))) rfl rfl rfl ⟨by decide +kernel, by decide +kernel, by decide +kernel, by decide +kernel⟩ rfl hl.1 rfl (Nat.le_of_ble_eq_true rfl) dX7_fault_20 ⟨Nat.zero_le _, Nat.zero_le _⟩ (fun H locs hW => ?_)
    refine lv_aload_n hx hb dX7_fault_23 rfl (lv_at hl 0 rfl) ?_
    obtain ⟨q4, hq4, hE⟩ := cr_bind hE
    refine cr_vWq (n := 0) (As := []) (rest := []) C hW (m_X7_plays L D ct az (cr_c vz 2 (q3 0)) _ q4 hq4) (cwV 0 hts gX7_fault_X7_plays rfl rfl rfl (by decide +kernel) ⟨Nat.le_of_ble_eq_true rfl, Nat.le_of_ble_eq_true rfl⟩) [0, 1, 2, 3, 4, 5, 6, 7] [] [0, 1, 2, 3, 4, 5, 6, 7] (cr_wM ct az q4.2) rfl rfl rfl ⟨by decide +kernel, by decide +kernel, by decide +kernel, by decide +kernel⟩ 0 rfl rfl rfl hl.1 rfl (Nat.le_of_ble_eq_true rfl) dX7_fault_24 ⟨Nat.zero_le _, Nat.zero_le _⟩ (fun H locs hW => ?_)
    refine lv_istore_n (lv' := [(2, .int q4.1), (0, .ref (az 0)), (1, .int x1)]) hx hb dX7_fault_27 rfl hl (by decide) rfl (fun ls hl => ?_)
    refine lv_aload_n hx hb dX7_fault_28 rfl (lv_at hl 1 rfl) ?_
    refine cr_get C hW.1 0 rfl rfl 2 (by decide) hinX7 k1 (v := .ref (az 3)) rfl dX7_fault_29 ?_
    refine lv_aload_n hx hb dX7_fault_32 rfl (lv_at hl 1 rfl) ?_
    refine cr_get C hW.1 0 rfl rfl 0 (by decide) hinX7 k0 (v := .ref (az 1)) rfl dX7_fault_33 ?_
    obtain ⟨q5, hq5, hE⟩ := cr_bind hE
    refine cr_sVq (n := 2) (As := [.ref (az 3), .ref (az 1)]) (rest := []) C hW (m_X7_copies L D ct (fun _ => az 3) (fun _ => az 1) (fun _ => q4.2 2) (fun _ => q4.2 0) _ q5 hq5) (va_cwS 2 hts gX7_fault_X7_copies rfl rfl rfl (by decide +kernel) ⟨Nat.le_of_ble_eq_true rfl, Nat.le_of_ble_eq_true rfl⟩) [3, 1] [0, 2, 4, 5, 6, 7] [0, 7, 1, 6, 2, 3, 4, 5] (cr_wM ct az (cr_c q4.2 0 (q5 0))) rfl rfl rfl ⟨by decide +kernel, by decide +kernel, by decide +kernel, by decide +kernel⟩ rfl hl.1 rfl (Nat.le_of_ble_eq_true rfl) dX7_fault_36 ⟨Nat.zero_le _, Nat.zero_le _⟩ (fun H locs hW => ?_)
    refine lv_iload_n hx hb dX7_fault_39 rfl (lv_at hl 0 rfl) ?_
    refine lv_if_eq (tgt := 48) hx hb dX7_fault_40 (by decide) (fun c6 => ?_) (fun c6 => ?_)
    · rw [if_pos c6] at hE
      refine lv_iload_n hx hb dX7_fault_48 rfl (lv_at hl 2 rfl) ?_
      refine lv_if_ne (tgt := 59) hx hb dX7_fault_49 (by decide) (fun c7 => ?_) (fun c7 => ?_)
      · rw [if_neg c7] at hE
        refine lv_iload_n hx hb dX7_fault_59 rfl (lv_at hl 2 rfl) ?_
        refine lv_iconst (v := 1) hx hb dX7_fault_60 (by decide) ?_
        refine lv_icmp_ne (tgt := 71) hx hb dX7_fault_61 (by decide) (fun c8 => ?_) (fun c8 => ?_)
        · rw [if_neg c8] at hE
          refine lv_aload_n hx hb dX7_fault_71 rfl (lv_at hl 1 rfl) ?_
          refine cr_get C hW.1 0 rfl rfl 14 (by decide) hinX7 k2 (v := .int (q4.2 14 0)) rfl dX7_fault_72 ?_
          exact cr_retW C (w := (fun u : cr_V => cr_wM ct az u)) (cr_c q4.2 0 (q5 0)) hW (Option.some.inj hE) dX7_fault_75
        · rw [if_pos c8] at hE
          refine lv_aload_n hx hb dX7_fault_64 rfl (lv_at hl 1 rfl) ?_
          refine cr_get C hW.1 0 rfl rfl 13 (by decide) hinX7 k3 (v := .int (q4.2 13 0)) rfl dX7_fault_65 ?_
          refine lv_goto (tgt := 75) hx hb dX7_fault_68 (by decide) ?_
          exact cr_retW C (w := (fun u : cr_V => cr_wM ct az u)) (cr_c q4.2 0 (q5 0)) hW (Option.some.inj hE) dX7_fault_75
      · rw [if_pos c7] at hE
        refine lv_aload_n hx hb dX7_fault_52 rfl (lv_at hl 1 rfl) ?_
        refine cr_get C hW.1 0 rfl rfl 12 (by decide) hinX7 k4 (v := .int (q4.2 12 0)) rfl dX7_fault_53 ?_
        refine lv_goto (tgt := 75) hx hb dX7_fault_56 (by decide) ?_
        exact cr_retW C (w := (fun u : cr_V => cr_wM ct az u)) (cr_c q4.2 0 (q5 0)) hW (Option.some.inj hE) dX7_fault_75
    · rw [if_neg c6] at hE
      refine cr_ldc C k5 dX7_fault_43 ?_
      refine lv_goto (tgt := 75) hx hb dX7_fault_45 (by decide) ?_
      exact cr_retW C (w := (fun u : cr_V => cr_wM ct az u)) (cr_c q4.2 0 (q5 0)) hW (Option.some.inj hE) dX7_fault_75
  · rw [if_pos c2] at hE
    refine cr_ldc C k6 dX7_fault_9 ?_
    exact cr_retW C (w := (fun u : cr_V => cr_wM ct az u)) vz hW (Option.some.inj hE) dX7_fault_11

set_option maxHeartbeats 4000000 in
set_option maxRecDepth 100000 in
theorem m_X7_play (L : Launch) (D : va_G) (ct : Nat → ClassId) (az : Nat → Nat) (vz : cr_V)  (sz : Nat) (out : Int32 × cr_V) (hE : f_X7_play vz = some out) : Met L yX7_play wsX7_play ({ frames := 8, cells := 0, slots := 0, locals := 185 } : Room) (cr_pW D ct (cr_wM ct az vz) sz [.ref (az 0)]) (cr_QW D (cr_wM ct az vz) sz (fun r u => (r, u) = out) (fun u : cr_V => cr_wM ct az u)) 0 0 (va_A (cr_wM ct az vz) sz) := by
  have k0 : (Cond.fieldLink RX7 7 "CupReceiptsModel" "s" "[I") ∈ wsX7_play := List.mem_of_getElem? (i := 1) rfl
  have k1 : (Cond.fieldLink RX7 16 "CupReceiptsModel" "held" "[I") ∈ wsX7_play := List.mem_of_getElem? (i := 2) rfl
  have k2 : (Cond.constant RX7 43 (-2000000004)) ∈ wsX7_play := List.mem_of_getElem? (i := 5) rfl
  have k3 : (Cond.fieldLink RX7 178 "CupReceiptsModel" "orders" "I") ∈ wsX7_play := List.mem_of_getElem? (i := 4) rfl
  have k4 : (Cond.constant RX7 77 (-2000000002)) ∈ wsX7_play := List.mem_of_getElem? (i := 3) rfl
  have hinX7 : ∀ w ∈ wsX70, w ∈ wsX7_play := fun w h => List.mem_cons_of_mem _ (List.mem_append_right _ h)
  refine cr_metW (Qc := fun A => va_Qi (fun r u => (r, u) = out) (fun u t => cr_at D A ((fun u : cr_V => cr_wM ct az u) u) t) A) (by decide) rfl rfl (Nat.le_of_ble_eq_true rfl) ?_
  intro p e s m args below meth c ls A C hW hl
  obtain ⟨hx, hb, hml, hown, hts, hr, hlocks, hK, hN⟩ := id C
  have hl : lv_has ls 2 [(0, .ref (az 0))] := hl
  replace hE : ((f_X7_copies (fun _ => vz 0) (fun _ => vz 2)).bind fun q1 => (f_X7_plays (cr_c vz 2 (q1 0))).bind fun q2 => (f_X7_copies (fun _ => q2.2 2) (fun _ => q2.2 0)).bind fun q3 => if q2.1 = 0 then (some ((-2000000002), (cr_c q2.2 0 (q3 0)))) else ((f_X7_changes (cr_c q2.2 0 (q3 0))).bind fun q5 => (f_X7_plays q5).bind fun q6 => if q6.1 = 0 then (some ((-2000000004), q6.2)) else (some ((q6.2 15 0), q6.2)))) = some out := hE
  refine lv_aload_n hx hb dX7_play_0 rfl (lv_at hl 0 rfl) ?_
  refine cr_get C hW.1 0 rfl rfl 0 (by decide) hinX7 k0 (v := .ref (az 1)) rfl dX7_play_1 ?_
  refine lv_aload_n hx hb dX7_play_4 rfl (lv_at hl 0 rfl) ?_
  refine cr_get C hW.1 0 rfl rfl 2 (by decide) hinX7 k1 (v := .ref (az 3)) rfl dX7_play_5 ?_
  obtain ⟨q1, hq1, hE⟩ := cr_bind hE
  refine cr_sVq (n := 2) (As := [.ref (az 1), .ref (az 3)]) (rest := []) C hW (m_X7_copies L D ct (fun _ => az 1) (fun _ => az 3) (fun _ => vz 0) (fun _ => vz 2) _ q1 hq1) (va_cwS 2 hts gX7_play_X7_copies rfl rfl rfl (by decide +kernel) ⟨Nat.le_of_ble_eq_true rfl, Nat.le_of_ble_eq_true rfl⟩) [1, 3] [0, 2, 4, 5, 6, 7] [0, 6, 1, 7, 2, 3, 4, 5] (cr_wM ct az (cr_c vz 2 (q1 0))) rfl rfl rfl ⟨by decide +kernel, by decide +kernel, by decide +kernel, by decide +kernel⟩ rfl hl.1 rfl (Nat.le_of_ble_eq_true rfl) dX7_play_8 ⟨Nat.zero_le _, Nat.zero_le _⟩ (fun H locs hW => ?_)
  refine lv_aload_n hx hb dX7_play_11 rfl (lv_at hl 0 rfl) ?_
  obtain ⟨q2, hq2, hE⟩ := cr_bind hE
  refine cr_vWq (n := 0) (As := []) (rest := []) C hW (m_X7_plays L D ct az (cr_c vz 2 (q1 0)) _ q2 hq2) (cwV 0 hts gX7_play_X7_plays rfl rfl rfl (by decide +kernel) ⟨Nat.le_of_ble_eq_true rfl, Nat.le_of_ble_eq_true rfl⟩) [0, 1, 2, 3, 4, 5, 6, 7] [] [0, 1, 2, 3, 4, 5, 6, 7] (cr_wM ct az q2.2) rfl rfl rfl ⟨by decide +kernel, by decide +kernel, by decide +kernel, by decide +kernel⟩ 0 rfl rfl rfl hl.1 rfl (Nat.le_of_ble_eq_true rfl) dX7_play_12 ⟨Nat.zero_le _, Nat.zero_le _⟩ (fun H locs hW => ?_)
  refine lv_istore_n (lv' := [(1, .int q2.1), (0, .ref (az 0))]) hx hb dX7_play_15 rfl hl (by decide) rfl (fun ls hl => ?_)
  refine lv_aload_n hx hb dX7_play_16 rfl (lv_at hl 1 rfl) ?_
  refine cr_get C hW.1 0 rfl rfl 2 (by decide) hinX7 k1 (v := .ref (az 3)) rfl dX7_play_17 ?_
  refine lv_aload_n hx hb dX7_play_20 rfl (lv_at hl 1 rfl) ?_
  refine cr_get C hW.1 0 rfl rfl 0 (by decide) hinX7 k0 (v := .ref (az 1)) rfl dX7_play_21 ?_
  obtain ⟨q3, hq3, hE⟩ := cr_bind hE
  refine cr_sVq (n := 2) (As := [.ref (az 3), .ref (az 1)]) (rest := []) C hW (m_X7_copies L D ct (fun _ => az 3) (fun _ => az 1) (fun _ => q2.2 2) (fun _ => q2.2 0) _ q3 hq3) (va_cwS 2 hts gX7_play_X7_copies rfl rfl rfl (by decide +kernel) ⟨Nat.le_of_ble_eq_true rfl, Nat.le_of_ble_eq_true rfl⟩) [3, 1] [0, 2, 4, 5, 6, 7] [0, 7, 1, 6, 2, 3, 4, 5] (cr_wM ct az (cr_c q2.2 0 (q3 0))) rfl rfl rfl ⟨by decide +kernel, by decide +kernel, by decide +kernel, by decide +kernel⟩ rfl hl.1 rfl (Nat.le_of_ble_eq_true rfl) dX7_play_24 ⟨Nat.zero_le _, Nat.zero_le _⟩ (fun H locs hW => ?_)
  refine lv_iload_n hx hb dX7_play_27 rfl (lv_at hl 0 rfl) ?_
  refine lv_if_ne (tgt := 34) hx hb dX7_play_28 (by decide) (fun c4 => ?_) (fun c4 => ?_)
  · rw [if_neg c4] at hE
    refine lv_aload_n hx hb dX7_play_34 rfl (lv_at hl 1 rfl) ?_
    obtain ⟨q5, hq5, hE⟩ := cr_bind hE
    refine cr_vVq (n := 0) (As := []) (rest := []) C hW (m_X7_changes L D ct az (cr_c q2.2 0 (q3 0)) _ q5 hq5) (cwV 0 hts gX7_play_X7_changes rfl rfl rfl (by decide +kernel) ⟨Nat.le_of_ble_eq_true rfl, Nat.le_of_ble_eq_true rfl⟩) [0, 1, 2, 3, 4, 5, 6, 7] [] [0, 1, 2, 3, 4, 5, 6, 7] (cr_wM ct az q5) rfl rfl rfl ⟨by decide +kernel, by decide +kernel, by decide +kernel, by decide +kernel⟩ 0 rfl rfl rfl hl.1 rfl (Nat.le_of_ble_eq_true rfl) dX7_play_35 ⟨Nat.zero_le _, Nat.zero_le _⟩ (fun H locs hW => ?_)
    refine lv_aload_n hx hb dX7_play_38 rfl (lv_at hl 1 rfl) ?_
    obtain ⟨q6, hq6, hE⟩ := cr_bind hE
    refine cr_vWq (n := 0) (As := []) (rest := []) C hW (m_X7_plays L D ct az q5 _ q6 hq6) (cwV 0 hts gX7_play_X7_plays rfl rfl rfl (by decide +kernel) ⟨Nat.le_of_ble_eq_true rfl, Nat.le_of_ble_eq_true rfl⟩) [0, 1, 2, 3, 4, 5, 6, 7] [] [0, 1, 2, 3, 4, 5, 6, 7] (cr_wM ct az q6.2) rfl rfl rfl ⟨by decide +kernel, by decide +kernel, by decide +kernel, by decide +kernel⟩ 0 rfl rfl rfl hl.1 rfl (Nat.le_of_ble_eq_true rfl) dX7_play_39 ⟨Nat.zero_le _, Nat.zero_le _⟩ (fun H locs hW => ?_)
    refine lv_if_eq (tgt := 52) hx hb dX7_play_42 (by decide) (fun c7 => ?_) (fun c7 => ?_)
    · rw [if_pos c7] at hE
      refine cr_ldc C k2 dX7_play_52 ?_
      exact cr_retW C (w := (fun u : cr_V => cr_wM ct az u)) q6.2 hW (Option.some.inj hE) dX7_play_54
    · rw [if_neg c7] at hE
      refine lv_aload_n hx hb dX7_play_45 rfl (lv_at hl 1 rfl) ?_
      refine cr_get C hW.1 0 rfl rfl 15 (by decide) hinX7 k3 (v := .int (q6.2 15 0)) rfl dX7_play_46 ?_
      refine lv_goto (tgt := 54) hx hb dX7_play_49 (by decide) ?_
      exact cr_retW C (w := (fun u : cr_V => cr_wM ct az u)) q6.2 hW (Option.some.inj hE) dX7_play_54
  · rw [if_pos c4] at hE
    refine cr_ldc C k4 dX7_play_31 ?_
    exact cr_retW C (w := (fun u : cr_V => cr_wM ct az u)) (cr_c q2.2 0 (q3 0)) hW (Option.some.inj hE) dX7_play_33
