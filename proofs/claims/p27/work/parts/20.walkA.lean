set_option maxHeartbeats 4000000 in
set_option maxRecDepth 100000 in
theorem m_X4_rowOf (L : Launch) (D : va_G) (ct : Nat → ClassId) (al : Nat → Nat) (vl : cr_V) (x1 : Int32) (out : Int32) (hE : f_X4_rowOf vl x1 = some out) : Met L yX4_rowOf wsX4_rowOf ({ frames := 0, cells := 0, slots := 0, locals := 0 } : Room) (cr_pR D ct (cr_wL ct al vl) [.ref (al 0), .int x1]) (cr_QR (fun r => r = out)) 0 0 cr_no := by
  have k0 : (Cond.fieldLink RX4 24 "CupReceipts$Lots" "size" "I") ∈ wsX4_rowOf := List.mem_of_getElem? (i := 1) rfl
  have k1 : (Cond.fieldLink RX4 9 "CupReceipts$Lots" "numbers" "[I") ∈ wsX4_rowOf := List.mem_of_getElem? (i := 2) rfl
  have hinX4 : ∀ w ∈ wsX40, w ∈ wsX4_rowOf := fun w h => List.mem_cons_of_mem _ (List.mem_append_right _ h)
  refine cr_metR (by decide) rfl rfl (Nat.le_of_ble_eq_true rfl) ?_
  intro p e s m args below meth c ls C hP hS hl
  obtain ⟨hx, hb, hml, hown, hts, hr, hlocks, hK, hN⟩ := id C
  have hl : lv_has ls 3 [(0, .ref (al 0)), (1, .int x1)] := hl
  have n2 :  ∀ (n : Nat), ∀ (vl : cr_V) (x1 : Int32) (x2 : Int32) (hE : f_X4_rowOf_2  n vl x1 x2 = some out) (H : Heap) (locs : List Loc) (ls : Array Slot) (hP : va_P D vwCl (cr_wL ct al vl) H) (hS : va_S cr_no s.heap H locs) (hl : lv_has ls 3 [(0, .ref (al 0)), (1, .int x1), (2, .int x2)]), W p L e ({ frames := 0, cells := 0, slots := 0, locals := 0 } : Room) s m args below meth c H locs 0 0 (MQ below (cr_QR (fun r => r = out)) args s 0 0 cr_no) (F0 m 2 ls []) := by
    intro  n
    induction n with
    | zero =>
      intro vl x1 x2 hE
      cases hE
    | succ n ih =>
      intro vl x1 x2 hE H locs ls hP hS hl
      replace hE : (if (vl 4 0) ≤ x2 then (some (-1)) else (if cr_in x2 12 = true then if (vl 0 (cr_x x2)) = x1 then (some x2) else (f_X4_rowOf_2 n vl x1 (x2 + 1)) else none)) = some out := hE
      refine lv_iload_n hx hb dX4_rowOf_2 rfl (lv_at hl 2 rfl) ?_
      refine lv_aload_n hx hb dX4_rowOf_3 rfl (lv_at hl 0 rfl) ?_
      refine cr_get C hP 0 rfl rfl 4 (by decide) hinX4 k0 (v := .int (vl 4 0)) rfl dX4_rowOf_4 ?_
      refine lv_icmp_ge (tgt := 28) hx hb dX4_rowOf_7 (by decide) (fun c1 => ?_) (fun c1 => ?_)
      · rw [if_pos c1] at hE
        refine lv_iconst (v := (-1)) hx hb dX4_rowOf_28 (by decide) ?_
        exact cr_retR C hS (Option.some.inj hE) dX4_rowOf_29
      · rw [if_neg c1] at hE
        refine lv_aload_n hx hb dX4_rowOf_10 rfl (lv_at hl 0 rfl) ?_
        refine cr_get C hP 0 rfl rfl 0 (by decide) hinX4 k1 (v := .ref (al 1)) rfl dX4_rowOf_11 ?_
        refine lv_iload_n hx hb dX4_rowOf_14 rfl (lv_at hl 2 rfl) ?_
        obtain ⟨i2, hE⟩ := cr_ifn hE
        refine cr_ald C hP 1 (f := vl 0) (k := cr_x x2) rfl i2 (cr_xe _) dX4_rowOf_15 ?_
        refine lv_iload_n hx hb dX4_rowOf_16 rfl (lv_at hl 1 rfl) ?_
        refine lv_icmp_ne (tgt := 22) hx hb dX4_rowOf_17 (by decide) (fun c3 => ?_) (fun c3 => ?_)
        · rw [if_neg c3] at hE
          refine lv_iinc (v := x2 + 1) (lv' := [(2, .int (x2 + 1)), (0, .ref (al 0)), (1, .int x1)]) hx hb dX4_rowOf_22 hl (k := 2) rfl (by first | rfl | decide) (by decide) rfl (fun ls hl => ?_)
          refine lv_goto (tgt := 2) hx hb dX4_rowOf_25 (by decide) ?_
          exact ih vl x1 (x2 + 1) hE _ _ _ hP hS (lv_sub hl [1, 2, 0] rfl)
        · rw [if_pos c3] at hE
          refine lv_iload_n hx hb dX4_rowOf_20 rfl (lv_at hl 2 rfl) ?_
          exact cr_retR C hS (Option.some.inj hE) dX4_rowOf_21
  replace hE : (f_X4_rowOf_2 10100 vl x1 0) = some out := hE
  refine lv_iconst (v := 0) hx hb dX4_rowOf_0 (by decide) ?_
  refine lv_istore_n (lv' := [(2, .int 0), (0, .ref (al 0)), (1, .int x1)]) hx hb dX4_rowOf_1 rfl hl (by decide) rfl (fun ls hl => ?_)
  exact n2 10100 vl x1 0 hE _ _ _ hP hS (lv_sub hl [1, 2, 0] rfl)

set_option maxHeartbeats 4000000 in
set_option maxRecDepth 100000 in
theorem m_X4_isFull (L : Launch) (D : va_G) (ct : Nat → ClassId) (al : Nat → Nat) (vl : cr_V)  (out : Int32) (hE : f_X4_isFull vl = some out) : Met L yX4_isFull wsX4_isFull ({ frames := 0, cells := 0, slots := 0, locals := 0 } : Room) (cr_pR D ct (cr_wL ct al vl) [.ref (al 0)]) (cr_QR (fun r => r = out)) 0 0 cr_no := by
  have k0 : (Cond.fieldLink RX4 24 "CupReceipts$Lots" "size" "I") ∈ wsX4_isFull := List.mem_of_getElem? (i := 1) rfl
  have hinX4 : ∀ w ∈ wsX40, w ∈ wsX4_isFull := fun w h => List.mem_cons_of_mem _ (List.mem_append_right _ h)
  refine cr_metR (by decide) rfl rfl (Nat.le_of_ble_eq_true rfl) ?_
  intro p e s m args below meth c ls C hP hS hl
  obtain ⟨hx, hb, hml, hown, hts, hr, hlocks, hK, hN⟩ := id C
  have hl : lv_has ls 1 [(0, .ref (al 0))] := hl
  replace hE : (if (vl 4 0) < 12 then (some 0) else (some 1)) = some out := hE
  refine lv_aload_n hx hb dX4_isFull_0 rfl (lv_at hl 0 rfl) ?_
  refine cr_get C hP 0 rfl rfl 4 (by decide) hinX4 k0 (v := .int (vl 4 0)) rfl dX4_isFull_1 ?_
  refine lv_bipush (v := 12) hx hb dX4_isFull_4 (by decide) ?_
  refine lv_icmp_lt (tgt := 13) hx hb dX4_isFull_6 (by decide) (fun c1 => ?_) (fun c1 => ?_)
  · rw [if_pos c1] at hE
    refine lv_iconst (v := 0) hx hb dX4_isFull_13 (by decide) ?_
    exact cr_retRz C hS rfl (Option.some.inj hE) dX4_isFull_14
  · rw [if_neg c1] at hE
    refine lv_iconst (v := 1) hx hb dX4_isFull_9 (by decide) ?_
    refine lv_goto (tgt := 14) hx hb dX4_isFull_10 (by decide) ?_
    exact cr_retRz C hS rfl (Option.some.inj hE) dX4_isFull_14

set_option maxHeartbeats 4000000 in
set_option maxRecDepth 100000 in
theorem m_X4_add (L : Launch) (D : va_G) (ct : Nat → ClassId) (al : Nat → Nat) (vl : cr_V) (x1 : Int32) (x2 : Int32) (x3 : Int32) (sz : Nat) (out : Int32 × cr_V) (hE : f_X4_add vl x1 x2 x3 = some out) : Met L yX4_add wsX4_add ({ frames := 1, cells := 0, slots := 0, locals := 20 } : Room) (cr_pW D ct (cr_wL ct al vl) sz [.ref (al 0), .int x1, .int x2, .int x3]) (cr_QW D (cr_wL ct al vl) sz (fun r (u : cr_V) => (r, u) = out) (fun u : cr_V => cr_wL ct al u)) 0 0 (va_A (cr_wL ct al vl) sz) := by
  have k0 : (Cond.fieldLink RX4 9 "CupReceipts$Lots" "numbers" "[I") ∈ wsX4_add := List.mem_of_getElem? (i := 2) rfl
  have k1 : (Cond.fieldLink RX4 24 "CupReceipts$Lots" "size" "I") ∈ wsX4_add := List.mem_of_getElem? (i := 3) rfl
  have k2 : (Cond.fieldLink RX4 28 "CupReceipts$Lots" "made" "I") ∈ wsX4_add := List.mem_of_getElem? (i := 4) rfl
  have k3 : (Cond.fieldLink RX4 15 "CupReceipts$Lots" "bags" "[I") ∈ wsX4_add := List.mem_of_getElem? (i := 5) rfl
  have k4 : (Cond.fieldLink RX4 18 "CupReceipts$Lots" "cups" "[I") ∈ wsX4_add := List.mem_of_getElem? (i := 6) rfl
  have k5 : (Cond.fieldLink RX4 21 "CupReceipts$Lots" "months" "[I") ∈ wsX4_add := List.mem_of_getElem? (i := 7) rfl
  have k6 : (Cond.constant RX4 35 (-2000000003)) ∈ wsX4_add := List.mem_of_getElem? (i := 1) rfl
  have hinX4 : ∀ w ∈ wsX40, w ∈ wsX4_add := fun w h => List.mem_cons_of_mem _ (List.mem_append_right _ h)
  refine cr_metW (Qc := fun A => va_Qi (fun r (u : cr_V) => (r, u) = out) (fun u t => cr_at D A ((fun u : cr_V => cr_wL ct al u) u) t) A) (by decide) rfl rfl (Nat.le_of_ble_eq_true rfl) ?_
  intro p e s m args below meth c ls A C hW hl
  obtain ⟨hx, hb, hml, hown, hts, hr, hlocks, hK, hN⟩ := id C
  have hl : lv_has ls 4 [(0, .ref (al 0)), (1, .int x1), (2, .int x2), (3, .int x3)] := hl
  replace hE : ((f_X4_isFull vl).bind fun q1 => if q1 = 0 then (if cr_in (vl 4 0) 12 = true then some ((((vl 5 0) + 1) - 1), (cr_i (cr_i (cr_a (cr_a (cr_a (cr_a vl 0 (cr_x (vl 4 0)) (vl 5 0)) 1 (cr_x (vl 4 0)) x1) 2 (cr_x (vl 4 0)) x2) 3 (cr_x (vl 4 0)) x3) 4 ((vl 4 0) + 1)) 5 ((vl 5 0) + 1))) else none) else (some ((-2000000003), vl))) = some out := hE
  refine lv_aload_n hx hb dX4_add_0 rfl (lv_at hl 0 rfl) ?_
  obtain ⟨q1, hq1, hE⟩ := cr_bind hE
  refine cr_vRwq (n := 0) (As := []) (rest := []) C hW (m_X4_isFull L D ct al vl q1 hq1) (cwV 0 hts gX4_add_X4_isFull rfl rfl rfl (by decide +kernel) ⟨Nat.le_of_ble_eq_true rfl, Nat.le_of_ble_eq_true rfl⟩) [0, 1, 2, 3, 4] rfl 0 rfl rfl rfl hl.1 rfl (Nat.le_of_ble_eq_true rfl) dX4_add_1 ⟨Nat.zero_le _, Nat.zero_le _⟩ (fun H locs hW => ?_)
  refine lv_if_eq (tgt := 10) hx hb dX4_add_4 (by decide) (fun c2 => ?_) (fun c2 => ?_)
  · rw [if_pos c2] at hE
    refine lv_aload_n hx hb dX4_add_10 rfl (lv_at hl 0 rfl) ?_
    refine cr_get C hW.1 0 rfl rfl 0 (by decide) hinX4 k0 (v := .ref (al 1)) rfl dX4_add_11 ?_
    refine lv_aload_n hx hb dX4_add_14 rfl (lv_at hl 0 rfl) ?_
    refine cr_get C hW.1 0 rfl rfl 4 (by decide) hinX4 k1 (v := .int (vl 4 0)) rfl dX4_add_15 ?_
    refine lv_aload_n hx hb dX4_add_18 rfl (lv_at hl 0 rfl) ?_
    refine cr_get C hW.1 0 rfl rfl 5 (by decide) hinX4 k2 (v := .int (vl 5 0)) rfl dX4_add_19 ?_
    obtain ⟨i3, hE⟩ := cr_ifn hE
    refine cr_ast C hW 1 rfl (k := (cr_x (vl 4 0))) i3 (cr_xe _) (w' := cr_wL ct al (cr_a vl 0 (cr_x (vl 4 0)) (vl 5 0))) rfl dX4_add_22 (fun H locs hW => ?_)
    refine lv_aload_n hx hb dX4_add_23 rfl (lv_at hl 0 rfl) ?_
    refine cr_get C hW.1 0 rfl rfl 1 (by decide) hinX4 k3 (v := .ref (al 2)) rfl dX4_add_24 ?_
    refine lv_aload_n hx hb dX4_add_27 rfl (lv_at hl 0 rfl) ?_
    refine cr_get C hW.1 0 rfl rfl 4 (by decide) hinX4 k1 (v := .int (vl 4 0)) rfl dX4_add_28 ?_
    refine lv_iload_n hx hb dX4_add_31 rfl (lv_at hl 1 rfl) ?_
    refine cr_ast C hW 2 rfl (k := (cr_x (vl 4 0))) i3 (cr_xe _) (w' := cr_wL ct al (cr_a (cr_a vl 0 (cr_x (vl 4 0)) (vl 5 0)) 1 (cr_x (vl 4 0)) x1)) rfl dX4_add_32 (fun H locs hW => ?_)
    refine lv_aload_n hx hb dX4_add_33 rfl (lv_at hl 0 rfl) ?_
    refine cr_get C hW.1 0 rfl rfl 2 (by decide) hinX4 k4 (v := .ref (al 3)) rfl dX4_add_34 ?_
    refine lv_aload_n hx hb dX4_add_37 rfl (lv_at hl 0 rfl) ?_
    refine cr_get C hW.1 0 rfl rfl 4 (by decide) hinX4 k1 (v := .int (vl 4 0)) rfl dX4_add_38 ?_
    refine lv_iload_n hx hb dX4_add_41 rfl (lv_at hl 2 rfl) ?_
    refine cr_ast C hW 3 rfl (k := (cr_x (vl 4 0))) i3 (cr_xe _) (w' := cr_wL ct al (cr_a (cr_a (cr_a vl 0 (cr_x (vl 4 0)) (vl 5 0)) 1 (cr_x (vl 4 0)) x1) 2 (cr_x (vl 4 0)) x2)) rfl dX4_add_42 (fun H locs hW => ?_)
    refine lv_aload_n hx hb dX4_add_43 rfl (lv_at hl 0 rfl) ?_
    refine cr_get C hW.1 0 rfl rfl 3 (by decide) hinX4 k5 (v := .ref (al 4)) rfl dX4_add_44 ?_
    refine lv_aload_n hx hb dX4_add_47 rfl (lv_at hl 0 rfl) ?_
    refine cr_get C hW.1 0 rfl rfl 4 (by decide) hinX4 k1 (v := .int (vl 4 0)) rfl dX4_add_48 ?_
    refine lv_iload_n hx hb dX4_add_51 rfl (lv_at hl 3 rfl) ?_
    refine cr_ast C hW 4 rfl (k := (cr_x (vl 4 0))) i3 (cr_xe _) (w' := cr_wL ct al (cr_a (cr_a (cr_a (cr_a vl 0 (cr_x (vl 4 0)) (vl 5 0)) 1 (cr_x (vl 4 0)) x1) 2 (cr_x (vl 4 0)) x2) 3 (cr_x (vl 4 0)) x3)) rfl dX4_add_52 (fun H locs hW => ?_)
    refine lv_aload_n hx hb dX4_add_53 rfl (lv_at hl 0 rfl) ?_
    refine lv_dup hx hb dX4_add_54 rfl ?_
    refine cr_get C hW.1 0 rfl rfl 4 (by decide) hinX4 k1 (v := .int (vl 4 0)) rfl dX4_add_55 ?_
    refine lv_iconst (v := 1) hx hb dX4_add_58 (by decide) ?_
    refine lv_iadd hx hb dX4_add_59 ?_
    refine cr_put C hW 0 rfl rfl tyX4 tyX4_ok nmX4 4 (by decide) hinX4 k1 rfl rfl rfl rfl (Nat.le_of_ble_eq_true rfl) (w' := cr_wL ct al (cr_i (cr_a (cr_a (cr_a (cr_a vl 0 (cr_x (vl 4 0)) (vl 5 0)) 1 (cr_x (vl 4 0)) x1) 2 (cr_x (vl 4 0)) x2) 3 (cr_x (vl 4 0)) x3) 4 ((vl 4 0) + 1))) rfl dX4_add_60 (fun H locs hW => ?_)
    refine lv_aload_n hx hb dX4_add_63 rfl (lv_at hl 0 rfl) ?_
    refine lv_dup hx hb dX4_add_64 rfl ?_
    refine cr_get C hW.1 0 rfl rfl 5 (by decide) hinX4 k2 (v := .int (vl 5 0)) rfl dX4_add_65 ?_
    refine lv_iconst (v := 1) hx hb dX4_add_68 (by decide) ?_
    refine lv_iadd hx hb dX4_add_69 ?_
    refine cr_put C hW 0 rfl rfl tyX4 tyX4_ok nmX4 5 (by decide) hinX4 k2 rfl rfl rfl rfl (Nat.le_of_ble_eq_true rfl) (w' := cr_wL ct al (cr_i (cr_i (cr_a (cr_a (cr_a (cr_a vl 0 (cr_x (vl 4 0)) (vl 5 0)) 1 (cr_x (vl 4 0)) x1) 2 (cr_x (vl 4 0)) x2) 3 (cr_x (vl 4 0)) x3) 4 ((vl 4 0) + 1)) 5 ((vl 5 0) + 1))) rfl dX4_add_70 (fun H locs hW => ?_)
    refine lv_aload_n hx hb dX4_add_73 rfl (lv_at hl 0 rfl) ?_
    refine cr_get C hW.1 0 rfl rfl 5 (by decide) hinX4 k2 (v := .int ((vl 5 0) + 1)) rfl dX4_add_74 ?_
    refine lv_iconst (v := 1) hx hb dX4_add_77 (by decide) ?_
    refine lv_isub hx hb dX4_add_78 ?_
    exact cr_retW C (w := (fun u : cr_V => cr_wL ct al u)) (cr_i (cr_i (cr_a (cr_a (cr_a (cr_a vl 0 (cr_x (vl 4 0)) (vl 5 0)) 1 (cr_x (vl 4 0)) x1) 2 (cr_x (vl 4 0)) x2) 3 (cr_x (vl 4 0)) x3) 4 ((vl 4 0) + 1)) 5 ((vl 5 0) + 1)) hW (Option.some.inj hE) dX4_add_79
  · rw [if_neg c2] at hE
    refine cr_ldc C k6 dX4_add_7 ?_
    exact cr_retW C (w := (fun u : cr_V => cr_wL ct al u)) vl hW (Option.some.inj hE) dX4_add_9

set_option maxHeartbeats 4000000 in
set_option maxRecDepth 100000 in
theorem m_X4_copyFrom (L : Launch) (D : va_G) (ct : Nat → ClassId) (al : Nat → Nat) (al2 : Nat → Nat) (vl : cr_V) (vl2 : cr_V)  (sz : Nat) (out : cr_V) (hE : f_X4_copyFrom vl vl2 = some out) : Met L yX4_copyFrom wsX4_copyFrom ({ frames := 0, cells := 0, slots := 0, locals := 0 } : Room) (cr_pW D ct (cr_wL ct al vl ++ cr_wL ct al2 vl2) sz [.ref (al 0), .ref (al2 0)]) (cr_QV D (cr_wL ct al vl ++ cr_wL ct al2 vl2) sz (fun u : cr_V => u = out) (fun u : cr_V => cr_wL ct al u ++ cr_wL ct al2 vl2)) 0 0 (va_A (cr_wL ct al vl ++ cr_wL ct al2 vl2) sz) := by
  have k0 : (Cond.fieldLink RX4 24 "CupReceipts$Lots" "size" "I") ∈ wsX4_copyFrom := List.mem_of_getElem? (i := 5) rfl
  have k1 : (Cond.fieldLink RX4 28 "CupReceipts$Lots" "made" "I") ∈ wsX4_copyFrom := List.mem_of_getElem? (i := 6) rfl
  have k2 : (Cond.fieldLink RX4 9 "CupReceipts$Lots" "numbers" "[I") ∈ wsX4_copyFrom := List.mem_of_getElem? (i := 1) rfl
  have k3 : (Cond.fieldLink RX4 15 "CupReceipts$Lots" "bags" "[I") ∈ wsX4_copyFrom := List.mem_of_getElem? (i := 2) rfl
  have k4 : (Cond.fieldLink RX4 18 "CupReceipts$Lots" "cups" "[I") ∈ wsX4_copyFrom := List.mem_of_getElem? (i := 3) rfl
  have k5 : (Cond.fieldLink RX4 21 "CupReceipts$Lots" "months" "[I") ∈ wsX4_copyFrom := List.mem_of_getElem? (i := 4) rfl
  have hinX4 : ∀ w ∈ wsX40, w ∈ wsX4_copyFrom := fun w h => List.mem_cons_of_mem _ (List.mem_append_right _ h)
  refine cr_metW (Qc := fun A => va_Qv (fun u : cr_V => u = out) (fun u t => cr_at D A ((fun u : cr_V => cr_wL ct al u ++ cr_wL ct al2 vl2) u) t) A) (by decide) rfl rfl (Nat.le_of_ble_eq_true rfl) ?_
  intro p e s m args below meth c ls A C hW hl
  obtain ⟨hx, hb, hml, hown, hts, hr, hlocks, hK, hN⟩ := id C
  have hl : lv_has ls 3 [(0, .ref (al 0)), (1, .ref (al2 0))] := hl
  have n2 :  ∀ (n : Nat), ∀ (vl : cr_V) (vl2 : cr_V) (x2 : Int32) (hE : f_X4_copyFrom_2  n vl vl2 x2 = some out) (H : Heap) (locs : List Loc) (ls : Array Slot) (hW : cr_wd D A s (cr_wL ct al vl ++ cr_wL ct al2 vl2) H locs) (hl : lv_has ls 3 [(0, .ref (al 0)), (1, .ref (al2 0)), (2, .int x2)]), W p L e ({ frames := 0, cells := 0, slots := 0, locals := 0 } : Room) s m args below meth c H locs 0 0 (MQ below (va_Qv (fun u : cr_V => u = out) (fun u t => cr_at D A ((fun u : cr_V => cr_wL ct al u ++ cr_wL ct al2 vl2) u) t) A) args s 0 0 A) (F0 m 2 ls []) := by
    intro  n
    induction n with
    | zero =>
      intro vl vl2 x2 hE
      cases hE
    | succ n ih =>
      intro vl vl2 x2 hE H locs ls hW hl
      replace hE : (if 12 ≤ x2 then (some (cr_i (cr_i vl 4 (vl2 4 0)) 5 (vl2 5 0))) else (if cr_in x2 12 = true then f_X4_copyFrom_2 n (cr_a (cr_a (cr_a (cr_a vl 0 (cr_x x2) (vl2 0 (cr_x x2))) 1 (cr_x x2) (vl2 1 (cr_x x2))) 2 (cr_x x2) (vl2 2 (cr_x x2))) 3 (cr_x x2) (vl2 3 (cr_x x2))) vl2 (x2 + 1) else none)) = some out := hE
      refine lv_iload_n hx hb dX4_copyFrom_2 rfl (lv_at hl 2 rfl) ?_
      refine lv_bipush (v := 12) hx hb dX4_copyFrom_3 (by decide) ?_
      refine lv_icmp_ge (tgt := 62) hx hb dX4_copyFrom_5 (by decide) (fun c1 => ?_) (fun c1 => ?_)
      · rw [if_pos c1] at hE
        refine lv_aload_n hx hb dX4_copyFrom_62 rfl (lv_at hl 0 rfl) ?_
        refine lv_aload_n hx hb dX4_copyFrom_63 rfl (lv_at hl 1 rfl) ?_
        refine cr_get C hW.1 5 rfl rfl 4 (by decide) hinX4 k0 (v := .int (vl2 4 0)) rfl dX4_copyFrom_64 ?_
        refine cr_put C hW 0 rfl rfl tyX4 tyX4_ok nmX4 4 (by decide) hinX4 k0 rfl rfl rfl rfl (Nat.le_of_ble_eq_true rfl) (w' := cr_wL ct al (cr_i vl 4 (vl2 4 0)) ++ cr_wL ct al2 vl2) rfl dX4_copyFrom_67 (fun H locs hW => ?_)
        refine lv_aload_n hx hb dX4_copyFrom_70 rfl (lv_at hl 0 rfl) ?_
        refine lv_aload_n hx hb dX4_copyFrom_71 rfl (lv_at hl 1 rfl) ?_
        refine cr_get C hW.1 5 rfl rfl 5 (by decide) hinX4 k1 (v := .int (vl2 5 0)) rfl dX4_copyFrom_72 ?_
        refine cr_put C hW 0 rfl rfl tyX4 tyX4_ok nmX4 5 (by decide) hinX4 k1 rfl rfl rfl rfl (Nat.le_of_ble_eq_true rfl) (w' := cr_wL ct al (cr_i (cr_i vl 4 (vl2 4 0)) 5 (vl2 5 0)) ++ cr_wL ct al2 vl2) rfl dX4_copyFrom_75 (fun H locs hW => ?_)
        exact cr_retV C (w := (fun u : cr_V => cr_wL ct al u ++ cr_wL ct al2 vl2)) (cr_i (cr_i vl 4 (vl2 4 0)) 5 (vl2 5 0)) hW (Option.some.inj hE) dX4_copyFrom_78
      · rw [if_neg c1] at hE
        refine lv_aload_n hx hb dX4_copyFrom_8 rfl (lv_at hl 0 rfl) ?_
        refine cr_get C hW.1 0 rfl rfl 0 (by decide) hinX4 k2 (v := .ref (al 1)) rfl dX4_copyFrom_9 ?_
        refine lv_iload_n hx hb dX4_copyFrom_12 rfl (lv_at hl 2 rfl) ?_
        refine lv_aload_n hx hb dX4_copyFrom_13 rfl (lv_at hl 1 rfl) ?_
        refine cr_get C hW.1 5 rfl rfl 0 (by decide) hinX4 k2 (v := .ref (al2 1)) rfl dX4_copyFrom_14 ?_
        refine lv_iload_n hx hb dX4_copyFrom_17 rfl (lv_at hl 2 rfl) ?_
        obtain ⟨i2, hE⟩ := cr_ifn hE
        refine cr_ald C hW.1 6 (f := vl2 0) (k := cr_x x2) rfl i2 (cr_xe _) dX4_copyFrom_18 ?_
        refine cr_ast C hW 1 rfl (k := (cr_x x2)) i2 (cr_xe _) (w' := cr_wL ct al (cr_a vl 0 (cr_x x2) (vl2 0 (cr_x x2))) ++ cr_wL ct al2 vl2) rfl dX4_copyFrom_19 (fun H locs hW => ?_)
        refine lv_aload_n hx hb dX4_copyFrom_20 rfl (lv_at hl 0 rfl) ?_
        refine cr_get C hW.1 0 rfl rfl 1 (by decide) hinX4 k3 (v := .ref (al 2)) rfl dX4_copyFrom_21 ?_
        refine lv_iload_n hx hb dX4_copyFrom_24 rfl (lv_at hl 2 rfl) ?_
        refine lv_aload_n hx hb dX4_copyFrom_25 rfl (lv_at hl 1 rfl) ?_
        refine cr_get C hW.1 5 rfl rfl 1 (by decide) hinX4 k3 (v := .ref (al2 2)) rfl dX4_copyFrom_26 ?_
        refine lv_iload_n hx hb dX4_copyFrom_29 rfl (lv_at hl 2 rfl) ?_
        refine cr_ald C hW.1 7 (f := vl2 1) (k := cr_x x2) rfl i2 (cr_xe _) dX4_copyFrom_30 ?_
        refine cr_ast C hW 2 rfl (k := (cr_x x2)) i2 (cr_xe _) (w' := cr_wL ct al (cr_a (cr_a vl 0 (cr_x x2) (vl2 0 (cr_x x2))) 1 (cr_x x2) (vl2 1 (cr_x x2))) ++ cr_wL ct al2 vl2) rfl dX4_copyFrom_31 (fun H locs hW => ?_)
        refine lv_aload_n hx hb dX4_copyFrom_32 rfl (lv_at hl 0 rfl) ?_
        refine cr_get C hW.1 0 rfl rfl 2 (by decide) hinX4 k4 (v := .ref (al 3)) rfl dX4_copyFrom_33 ?_
        refine lv_iload_n hx hb dX4_copyFrom_36 rfl (lv_at hl 2 rfl) ?_
        refine lv_aload_n hx hb dX4_copyFrom_37 rfl (lv_at hl 1 rfl) ?_
        refine cr_get C hW.1 5 rfl rfl 2 (by decide) hinX4 k4 (v := .ref (al2 3)) rfl dX4_copyFrom_38 ?_
        refine lv_iload_n hx hb dX4_copyFrom_41 rfl (lv_at hl 2 rfl) ?_
        refine cr_ald C hW.1 8 (f := vl2 2) (k := cr_x x2) rfl i2 (cr_xe _) dX4_copyFrom_42 ?_
        refine cr_ast C hW 3 rfl (k := (cr_x x2)) i2 (cr_xe _) (w' := cr_wL ct al (cr_a (cr_a (cr_a vl 0 (cr_x x2) (vl2 0 (cr_x x2))) 1 (cr_x x2) (vl2 1 (cr_x x2))) 2 (cr_x x2) (vl2 2 (cr_x x2))) ++ cr_wL ct al2 vl2) rfl dX4_copyFrom_43 (fun H locs hW => ?_)
        refine lv_aload_n hx hb dX4_copyFrom_44 rfl (lv_at hl 0 rfl) ?_
        refine cr_get C hW.1 0 rfl rfl 3 (by decide) hinX4 k5 (v := .ref (al 4)) rfl dX4_copyFrom_45 ?_
        refine lv_iload_n hx hb dX4_copyFrom_48 rfl (lv_at hl 2 rfl) ?_
        refine lv_aload_n hx hb dX4_copyFrom_49 rfl (lv_at hl 1 rfl) ?_
        refine cr_get C hW.1 5 rfl rfl 3 (by decide) hinX4 k5 (v := .ref (al2 4)) rfl dX4_copyFrom_50 ?_
        refine lv_iload_n hx hb dX4_copyFrom_53 rfl (lv_at hl 2 rfl) ?_
        refine cr_ald C hW.1 9 (f := vl2 3) (k := cr_x x2) rfl i2 (cr_xe _) dX4_copyFrom_54 ?_
        refine cr_ast C hW 4 rfl (k := (cr_x x2)) i2 (cr_xe _) (w' := cr_wL ct al (cr_a (cr_a (cr_a (cr_a vl 0 (cr_x x2) (vl2 0 (cr_x x2))) 1 (cr_x x2) (vl2 1 (cr_x x2))) 2 (cr_x x2) (vl2 2 (cr_x x2))) 3 (cr_x x2) (vl2 3 (cr_x x2))) ++ cr_wL ct al2 vl2) rfl dX4_copyFrom_55 (fun H locs hW => ?_)
        refine lv_iinc (v := x2 + 1) (lv' := [(2, .int (x2 + 1)), (0, .ref (al 0)), (1, .ref (al2 0))]) hx hb dX4_copyFrom_56 hl (k := 2) rfl (by first | rfl | decide) (by decide) rfl (fun ls hl => ?_)
        refine lv_goto (tgt := 2) hx hb dX4_copyFrom_59 (by decide) ?_
        exact ih (cr_a (cr_a (cr_a (cr_a vl 0 (cr_x x2) (vl2 0 (cr_x x2))) 1 (cr_x x2) (vl2 1 (cr_x x2))) 2 (cr_x x2) (vl2 2 (cr_x x2))) 3 (cr_x x2) (vl2 3 (cr_x x2))) vl2 (x2 + 1) hE _ _ _ hW (lv_sub hl [1, 2, 0] rfl)
  replace hE : (f_X4_copyFrom_2 10100 vl vl2 0) = some out := hE
  refine lv_iconst (v := 0) hx hb dX4_copyFrom_0 (by decide) ?_
  refine lv_istore_n (lv' := [(2, .int 0), (0, .ref (al 0)), (1, .ref (al2 0))]) hx hb dX4_copyFrom_1 rfl hl (by decide) rfl (fun ls hl => ?_)
  exact n2 10100 vl vl2 0 hE _ _ _ hW (lv_sub hl [1, 2, 0] rfl)

set_option maxHeartbeats 4000000 in
set_option maxRecDepth 100000 in
theorem m_X4_dropEmpty (L : Launch) (D : va_G) (ct : Nat → ClassId) (al : Nat → Nat) (vl : cr_V)  (sz : Nat) (out : cr_V) (hE : f_X4_dropEmpty vl = some out) : Met L yX4_dropEmpty wsX4_dropEmpty ({ frames := 0, cells := 0, slots := 0, locals := 0 } : Room) (cr_pW D ct (cr_wL ct al vl) sz [.ref (al 0)]) (cr_QV D (cr_wL ct al vl) sz (fun u : cr_V => u = out) (fun u : cr_V => cr_wL ct al u)) 0 0 (va_A (cr_wL ct al vl) sz) := by
  have k0 : (Cond.fieldLink RX4 24 "CupReceipts$Lots" "size" "I") ∈ wsX4_dropEmpty := List.mem_of_getElem? (i := 1) rfl
  have k1 : (Cond.fieldLink RX4 15 "CupReceipts$Lots" "bags" "[I") ∈ wsX4_dropEmpty := List.mem_of_getElem? (i := 2) rfl
  have k2 : (Cond.fieldLink RX4 9 "CupReceipts$Lots" "numbers" "[I") ∈ wsX4_dropEmpty := List.mem_of_getElem? (i := 3) rfl
  have k3 : (Cond.fieldLink RX4 18 "CupReceipts$Lots" "cups" "[I") ∈ wsX4_dropEmpty := List.mem_of_getElem? (i := 4) rfl
  have k4 : (Cond.fieldLink RX4 21 "CupReceipts$Lots" "months" "[I") ∈ wsX4_dropEmpty := List.mem_of_getElem? (i := 5) rfl
  have hinX4 : ∀ w ∈ wsX40, w ∈ wsX4_dropEmpty := fun w h => List.mem_cons_of_mem _ (List.mem_append_right _ h)
  refine cr_metW (Qc := fun A => va_Qv (fun u : cr_V => u = out) (fun u t => cr_at D A ((fun u : cr_V => cr_wL ct al u) u) t) A) (by decide) rfl rfl (Nat.le_of_ble_eq_true rfl) ?_
  intro p e s m args below meth c ls A C hW hl
  obtain ⟨hx, hb, hml, hown, hts, hr, hlocks, hK, hN⟩ := id C
  have hl : lv_has ls 3 [(0, .ref (al 0))] := hl
  have n72 : ∀ (k4_ : cr_V → Int32 → Int32 → Option (cr_V)) (ih4_ : ∀ (vl : cr_V) (x1 : Int32) (x2 : Int32) (hE : k4_ vl x1 x2 = some out) (H : Heap) (locs : List Loc) (ls : Array Slot) (hW : cr_wd D A s (cr_wL ct al vl) H locs) (hl : lv_has ls 3 [(0, .ref (al 0)), (1, .int x1), (2, .int x2)]), W p L e ({ frames := 0, cells := 0, slots := 0, locals := 0 } : Room) s m args below meth c H locs 0 0 (MQ below (va_Qv (fun u : cr_V => u = out) (fun u t => cr_at D A ((fun u : cr_V => cr_wL ct al u) u) t) A) args s 0 0 A) (F0 m 4 ls [])), ∀ (vl : cr_V) (x1 : Int32) (x2 : Int32) (hE : f_X4_dropEmpty_72 k4_ vl x1 x2 = some out) (H : Heap) (locs : List Loc) (ls : Array Slot) (hW : cr_wd D A s (cr_wL ct al vl) H locs) (hl : lv_has ls 3 [(0, .ref (al 0)), (1, .int x1), (2, .int x2)]), W p L e ({ frames := 0, cells := 0, slots := 0, locals := 0 } : Room) s m args below meth c H locs 0 0 (MQ below (va_Qv (fun u : cr_V => u = out) (fun u t => cr_at D A ((fun u : cr_V => cr_wL ct al u) u) t) A) args s 0 0 A) (F0 m 72 ls []) := by
    intro k4_ ih4_ vl x1 x2 hE H locs ls hW hl
    replace hE : (k4_ vl x1 (x2 + 1)) = some out := hE
    refine lv_iinc (v := x2 + 1) (lv' := [(2, .int (x2 + 1)), (0, .ref (al 0)), (1, .int x1)]) hx hb dX4_dropEmpty_72 hl (k := 2) rfl (by first | rfl | decide) (by decide) rfl (fun ls hl => ?_)
    refine lv_goto (tgt := 4) hx hb dX4_dropEmpty_75 (by decide) ?_
    exact ih4_ vl x1 (x2 + 1) hE _ _ _ hW (lv_sub hl [1, 2, 0] rfl)
  have n4 :  ∀ (n : Nat), ∀ (vl : cr_V) (x1 : Int32) (x2 : Int32) (hE : f_X4_dropEmpty_4  n vl x1 x2 = some out) (H : Heap) (locs : List Loc) (ls : Array Slot) (hW : cr_wd D A s (cr_wL ct al vl) H locs) (hl : lv_has ls 3 [(0, .ref (al 0)), (1, .int x1), (2, .int x2)]), W p L e ({ frames := 0, cells := 0, slots := 0, locals := 0 } : Room) s m args below meth c H locs 0 0 (MQ below (va_Qv (fun u : cr_V => u = out) (fun u t => cr_at D A ((fun u : cr_V => cr_wL ct al u) u) t) A) args s 0 0 A) (F0 m 4 ls []) := by
    intro  n
    induction n with
    | zero =>
      intro vl x1 x2 hE
      cases hE
    | succ n ih =>
      intro vl x1 x2 hE H locs ls hW hl
      replace hE : (if (vl 4 0) ≤ x2 then (some (cr_i vl 4 x1)) else (if cr_in x2 12 = true then if (vl 1 (cr_x x2)) ≤ 0 then (f_X4_dropEmpty_72 (f_X4_dropEmpty_4 n) vl x1 x2) else (if cr_in x1 12 = true then f_X4_dropEmpty_72 (f_X4_dropEmpty_4 n) (cr_a (cr_a (cr_a (cr_a vl 0 (cr_x x1) (vl 0 (cr_x x2))) 1 (cr_x x1) (vl 1 (cr_x x2))) 2 (cr_x x1) (vl 2 (cr_x x2))) 3 (cr_x x1) (vl 3 (cr_x x2))) (x1 + 1) x2 else none) else none)) = some out := hE
      refine lv_iload_n hx hb dX4_dropEmpty_4 rfl (lv_at hl 2 rfl) ?_
      refine lv_aload_n hx hb dX4_dropEmpty_5 rfl (lv_at hl 0 rfl) ?_
      refine cr_get C hW.1 0 rfl rfl 4 (by decide) hinX4 k0 (v := .int (vl 4 0)) rfl dX4_dropEmpty_6 ?_
      refine lv_icmp_ge (tgt := 78) hx hb dX4_dropEmpty_9 (by decide) (fun c1 => ?_) (fun c1 => ?_)
      · rw [if_pos c1] at hE
        refine lv_aload_n hx hb dX4_dropEmpty_78 rfl (lv_at hl 0 rfl) ?_
        refine lv_iload_n hx hb dX4_dropEmpty_79 rfl (lv_at hl 1 rfl) ?_
        refine cr_put C hW 0 rfl rfl tyX4 tyX4_ok nmX4 4 (by decide) hinX4 k0 rfl rfl rfl rfl (Nat.le_of_ble_eq_true rfl) (w' := cr_wL ct al (cr_i vl 4 x1)) rfl dX4_dropEmpty_80 (fun H locs hW => ?_)
        exact cr_retV C (w := (fun u : cr_V => cr_wL ct al u)) (cr_i vl 4 x1) hW (Option.some.inj hE) dX4_dropEmpty_83
      · rw [if_neg c1] at hE
        refine lv_aload_n hx hb dX4_dropEmpty_12 rfl (lv_at hl 0 rfl) ?_
        refine cr_get C hW.1 0 rfl rfl 1 (by decide) hinX4 k1 (v := .ref (al 2)) rfl dX4_dropEmpty_13 ?_
        refine lv_iload_n hx hb dX4_dropEmpty_16 rfl (lv_at hl 2 rfl) ?_
        obtain ⟨i2, hE⟩ := cr_ifn hE
        refine cr_ald C hW.1 2 (f := vl 1) (k := cr_x x2) rfl i2 (cr_xe _) dX4_dropEmpty_17 ?_
        refine lv_if_le (tgt := 72) hx hb dX4_dropEmpty_18 (by decide) (fun c3 => ?_) (fun c3 => ?_)
        · rw [if_pos c3] at hE
          exact n72 (f_X4_dropEmpty_4 n) ih vl x1 x2 hE _ _ _ hW (lv_sub hl [0, 1, 2] rfl)
        · rw [if_neg c3] at hE
          refine lv_aload_n hx hb dX4_dropEmpty_21 rfl (lv_at hl 0 rfl) ?_
          refine cr_get C hW.1 0 rfl rfl 0 (by decide) hinX4 k2 (v := .ref (al 1)) rfl dX4_dropEmpty_22 ?_
          refine lv_iload_n hx hb dX4_dropEmpty_25 rfl (lv_at hl 1 rfl) ?_
          refine lv_aload_n hx hb dX4_dropEmpty_26 rfl (lv_at hl 0 rfl) ?_
          refine cr_get C hW.1 0 rfl rfl 0 (by decide) hinX4 k2 (v := .ref (al 1)) rfl dX4_dropEmpty_27 ?_
          refine lv_iload_n hx hb dX4_dropEmpty_30 rfl (lv_at hl 2 rfl) ?_
          refine cr_ald C hW.1 1 (f := vl 0) (k := cr_x x2) rfl i2 (cr_xe _) dX4_dropEmpty_31 ?_
          obtain ⟨i4, hE⟩ := cr_ifn hE
          refine cr_ast C hW 1 rfl (k := (cr_x x1)) i4 (cr_xe _) (w' := cr_wL ct al (cr_a vl 0 (cr_x x1) (vl 0 (cr_x x2)))) rfl dX4_dropEmpty_32 (fun H locs hW => ?_)
          refine lv_aload_n hx hb dX4_dropEmpty_33 rfl (lv_at hl 0 rfl) ?_
          refine cr_get C hW.1 0 rfl rfl 1 (by decide) hinX4 k1 (v := .ref (al 2)) rfl dX4_dropEmpty_34 ?_
          refine lv_iload_n hx hb dX4_dropEmpty_37 rfl (lv_at hl 1 rfl) ?_
          refine lv_aload_n hx hb dX4_dropEmpty_38 rfl (lv_at hl 0 rfl) ?_
          refine cr_get C hW.1 0 rfl rfl 1 (by decide) hinX4 k1 (v := .ref (al 2)) rfl dX4_dropEmpty_39 ?_
          refine lv_iload_n hx hb dX4_dropEmpty_42 rfl (lv_at hl 2 rfl) ?_
          refine cr_ald C hW.1 2 (f := vl 1) (k := cr_x x2) rfl i2 (cr_xe _) dX4_dropEmpty_43 ?_
          refine cr_ast C hW 2 rfl (k := (cr_x x1)) i4 (cr_xe _) (w' := cr_wL ct al (cr_a (cr_a vl 0 (cr_x x1) (vl 0 (cr_x x2))) 1 (cr_x x1) (vl 1 (cr_x x2)))) rfl dX4_dropEmpty_44 (fun H locs hW => ?_)
          refine lv_aload_n hx hb dX4_dropEmpty_45 rfl (lv_at hl 0 rfl) ?_
          refine cr_get C hW.1 0 rfl rfl 2 (by decide) hinX4 k3 (v := .ref (al 3)) rfl dX4_dropEmpty_46 ?_
          refine lv_iload_n hx hb dX4_dropEmpty_49 rfl (lv_at hl 1 rfl) ?_
          refine lv_aload_n hx hb dX4_dropEmpty_50 rfl (lv_at hl 0 rfl) ?_
          refine cr_get C hW.1 0 rfl rfl 2 (by decide) hinX4 k3 (v := .ref (al 3)) rfl dX4_dropEmpty_51 ?_
          refine lv_iload_n hx hb dX4_dropEmpty_54 rfl (lv_at hl 2 rfl) ?_
          refine cr_ald C hW.1 3 (f := vl 2) (k := cr_x x2) rfl i2 (cr_xe _) dX4_dropEmpty_55 ?_
          refine cr_ast C hW 3 rfl (k := (cr_x x1)) i4 (cr_xe _) (w' := cr_wL ct al (cr_a (cr_a (cr_a vl 0 (cr_x x1) (vl 0 (cr_x x2))) 1 (cr_x x1) (vl 1 (cr_x x2))) 2 (cr_x x1) (vl 2 (cr_x x2)))) rfl dX4_dropEmpty_56 (fun H locs hW => ?_)
          refine lv_aload_n hx hb dX4_dropEmpty_57 rfl (lv_at hl 0 rfl) ?_
          refine cr_get C hW.1 0 rfl rfl 3 (by decide) hinX4 k4 (v := .ref (al 4)) rfl dX4_dropEmpty_58 ?_
          refine lv_iload_n hx hb dX4_dropEmpty_61 rfl (lv_at hl 1 rfl) ?_
          refine lv_aload_n hx hb dX4_dropEmpty_62 rfl (lv_at hl 0 rfl) ?_
          refine cr_get C hW.1 0 rfl rfl 3 (by decide) hinX4 k4 (v := .ref (al 4)) rfl dX4_dropEmpty_63 ?_
          refine lv_iload_n hx hb dX4_dropEmpty_66 rfl (lv_at hl 2 rfl) ?_
          refine cr_ald C hW.1 4 (f := vl 3) (k := cr_x x2) rfl i2 (cr_xe _) dX4_dropEmpty_67 ?_
          refine cr_ast C hW 4 rfl (k := (cr_x x1)) i4 (cr_xe _) (w' := cr_wL ct al (cr_a (cr_a (cr_a (cr_a vl 0 (cr_x x1) (vl 0 (cr_x x2))) 1 (cr_x x1) (vl 1 (cr_x x2))) 2 (cr_x x1) (vl 2 (cr_x x2))) 3 (cr_x x1) (vl 3 (cr_x x2)))) rfl dX4_dropEmpty_68 (fun H locs hW => ?_)
          refine lv_iinc (v := x1 + 1) (lv' := [(1, .int (x1 + 1)), (0, .ref (al 0)), (2, .int x2)]) hx hb dX4_dropEmpty_69 hl (k := 1) rfl (by first | rfl | decide) (by decide) rfl (fun ls hl => ?_)
          exact n72 (f_X4_dropEmpty_4 n) ih (cr_a (cr_a (cr_a (cr_a vl 0 (cr_x x1) (vl 0 (cr_x x2))) 1 (cr_x x1) (vl 1 (cr_x x2))) 2 (cr_x x1) (vl 2 (cr_x x2))) 3 (cr_x x1) (vl 3 (cr_x x2))) (x1 + 1) x2 hE _ _ _ hW (lv_sub hl [1, 0, 2] rfl)
  replace hE : (f_X4_dropEmpty_4 10100 vl 0 0) = some out := hE
  refine lv_iconst (v := 0) hx hb dX4_dropEmpty_0 (by decide) ?_
  refine lv_istore_n (lv' := [(1, .int 0), (0, .ref (al 0))]) hx hb dX4_dropEmpty_1 rfl hl (by decide) rfl (fun ls hl => ?_)
  refine lv_iconst (v := 0) hx hb dX4_dropEmpty_2 (by decide) ?_
  refine lv_istore_n (lv' := [(2, .int 0), (1, .int 0), (0, .ref (al 0))]) hx hb dX4_dropEmpty_3 rfl hl (by decide) rfl (fun ls hl => ?_)
  exact n4 10100 vl 0 0 hE _ _ _ hW (lv_sub hl [2, 1, 0] rfl)

set_option maxHeartbeats 4000000 in
set_option maxRecDepth 100000 in
theorem m_X4_cupAt (L : Launch) (D : va_G) (ct : Nat → ClassId) (al : Nat → Nat) (vl : cr_V) (x1 : Int32) (x2 : Int32) (out : Int32) (hE : f_X4_cupAt vl x1 x2 = some out) : Met L yX4_cupAt wsX4_cupAt ({ frames := 0, cells := 0, slots := 0, locals := 0 } : Room) (cr_pR D ct (cr_wL ct al vl) [.ref (al 0), .int x1, .int x2]) (cr_QR (fun r => r = out)) 0 0 cr_no := by
  have k0 : (Cond.fieldLink RX4 18 "CupReceipts$Lots" "cups" "[I") ∈ wsX4_cupAt := List.mem_of_getElem? (i := 1) rfl
  have k1 : (Cond.fieldLink RX4 21 "CupReceipts$Lots" "months" "[I") ∈ wsX4_cupAt := List.mem_of_getElem? (i := 2) rfl
  have hinX4 : ∀ w ∈ wsX40, w ∈ wsX4_cupAt := fun w h => List.mem_cons_of_mem _ (List.mem_append_right _ h)
  refine cr_metR (by decide) rfl rfl (Nat.le_of_ble_eq_true rfl) ?_
  intro p e s m args below meth c ls C hP hS hl
  obtain ⟨hx, hb, hml, hown, hts, hr, hlocks, hK, hN⟩ := id C
  have hl : lv_has ls 4 [(0, .ref (al 0)), (1, .int x1), (2, .int x2)] := hl
  replace hE : (if cr_in x1 12 = true then if 60 ≤ ((vl 2 (cr_x x1)) - ((x2 - (vl 3 (cr_x x1))) / 4)) then (some ((vl 2 (cr_x x1)) - ((x2 - (vl 3 (cr_x x1))) / 4))) else (some 60) else none) = some out := hE
  refine lv_aload_n hx hb dX4_cupAt_0 rfl (lv_at hl 0 rfl) ?_
  refine cr_get C hP 0 rfl rfl 2 (by decide) hinX4 k0 (v := .ref (al 3)) rfl dX4_cupAt_1 ?_
  refine lv_iload_n hx hb dX4_cupAt_4 rfl (lv_at hl 1 rfl) ?_
  obtain ⟨i1, hE⟩ := cr_ifn hE
  refine cr_ald C hP 3 (f := vl 2) (k := cr_x x1) rfl i1 (cr_xe _) dX4_cupAt_5 ?_
  refine lv_iload_n hx hb dX4_cupAt_6 rfl (lv_at hl 2 rfl) ?_
  refine lv_aload_n hx hb dX4_cupAt_7 rfl (lv_at hl 0 rfl) ?_
  refine cr_get C hP 0 rfl rfl 3 (by decide) hinX4 k1 (v := .ref (al 4)) rfl dX4_cupAt_8 ?_
  refine lv_iload_n hx hb dX4_cupAt_11 rfl (lv_at hl 1 rfl) ?_
  refine cr_ald C hP 4 (f := vl 3) (k := cr_x x1) rfl i1 (cr_xe _) dX4_cupAt_12 ?_
  refine lv_isub hx hb dX4_cupAt_13 ?_
  refine lv_iconst (v := 4) hx hb dX4_cupAt_14 (by decide) ?_
  refine lv_idiv hx hb dX4_cupAt_15 (by decide) ?_
  refine lv_isub hx hb dX4_cupAt_16 ?_
  refine lv_istore_n (lv' := [(3, .int ((vl 2 (cr_x x1)) - ((x2 - (vl 3 (cr_x x1))) / 4))), (0, .ref (al 0)), (1, .int x1), (2, .int x2)]) hx hb dX4_cupAt_17 rfl hl (by decide) rfl (fun ls hl => ?_)
  refine lv_iload_n hx hb dX4_cupAt_18 rfl (lv_at hl 0 rfl) ?_
  refine lv_bipush (v := 60) hx hb dX4_cupAt_19 (by decide) ?_
  refine lv_icmp_ge (tgt := 29) hx hb dX4_cupAt_21 (by decide) (fun c2 => ?_) (fun c2 => ?_)
  · rw [if_pos c2] at hE
    refine lv_iload_n hx hb dX4_cupAt_29 rfl (lv_at hl 0 rfl) ?_
    exact cr_retR C hS (Option.some.inj hE) dX4_cupAt_30
  · rw [if_neg c2] at hE
    refine lv_bipush (v := 60) hx hb dX4_cupAt_24 (by decide) ?_
    refine lv_goto (tgt := 30) hx hb dX4_cupAt_26 (by decide) ?_
    exact cr_retR C hS (Option.some.inj hE) dX4_cupAt_30

set_option maxHeartbeats 4000000 in
set_option maxRecDepth 100000 in
theorem m_X4_monthsTooOld (L : Launch) (D : va_G) (ct : Nat → ClassId) (al : Nat → Nat) (vl : cr_V) (x1 : Int32) (x2 : Int32) (out : Int32) (hE : f_X4_monthsTooOld vl x1 x2 = some out) : Met L yX4_monthsTooOld wsX4_monthsTooOld ({ frames := 0, cells := 0, slots := 0, locals := 0 } : Room) (cr_pR D ct (cr_wL ct al vl) [.ref (al 0), .int x1, .int x2]) (cr_QR (fun r => r = out)) 0 0 cr_no := by
  have k0 : (Cond.fieldLink RX4 21 "CupReceipts$Lots" "months" "[I") ∈ wsX4_monthsTooOld := List.mem_of_getElem? (i := 1) rfl
  have hinX4 : ∀ w ∈ wsX40, w ∈ wsX4_monthsTooOld := fun w h => List.mem_cons_of_mem _ (List.mem_append_right _ h)
  refine cr_metR (by decide) rfl rfl (Nat.le_of_ble_eq_true rfl) ?_
  intro p e s m args below meth c ls C hP hS hl
  obtain ⟨hx, hb, hml, hown, hts, hr, hlocks, hK, hN⟩ := id C
  have hl : lv_has ls 4 [(0, .ref (al 0)), (1, .int x1), (2, .int x2)] := hl
  replace hE : (if cr_in x1 12 = true then if 0 ≤ ((x2 - (vl 3 (cr_x x1))) - 3) then (some ((x2 - (vl 3 (cr_x x1))) - 3)) else (some 0) else none) = some out := hE
  refine lv_iload_n hx hb dX4_monthsTooOld_0 rfl (lv_at hl 2 rfl) ?_
  refine lv_aload_n hx hb dX4_monthsTooOld_1 rfl (lv_at hl 0 rfl) ?_
  refine cr_get C hP 0 rfl rfl 3 (by decide) hinX4 k0 (v := .ref (al 4)) rfl dX4_monthsTooOld_2 ?_
  refine lv_iload_n hx hb dX4_monthsTooOld_5 rfl (lv_at hl 1 rfl) ?_
  obtain ⟨i1, hE⟩ := cr_ifn hE
  refine cr_ald C hP 4 (f := vl 3) (k := cr_x x1) rfl i1 (cr_xe _) dX4_monthsTooOld_6 ?_
  refine lv_isub hx hb dX4_monthsTooOld_7 ?_
  refine lv_iconst (v := 3) hx hb dX4_monthsTooOld_8 (by decide) ?_
  refine lv_isub hx hb dX4_monthsTooOld_9 ?_
  refine lv_istore_n (lv' := [(3, .int ((x2 - (vl 3 (cr_x x1))) - 3)), (0, .ref (al 0)), (1, .int x1), (2, .int x2)]) hx hb dX4_monthsTooOld_10 rfl hl (by decide) rfl (fun ls hl => ?_)
  refine lv_iload_n hx hb dX4_monthsTooOld_11 rfl (lv_at hl 0 rfl) ?_
  refine lv_if_ge (tgt := 19) hx hb dX4_monthsTooOld_12 (by decide) (fun c2 => ?_) (fun c2 => ?_)
  · rw [if_pos c2] at hE
    refine lv_iload_n hx hb dX4_monthsTooOld_19 rfl (lv_at hl 0 rfl) ?_
    exact cr_retR C hS (Option.some.inj hE) dX4_monthsTooOld_20
  · rw [if_neg c2] at hE
    refine lv_iconst (v := 0) hx hb dX4_monthsTooOld_15 (by decide) ?_
    refine lv_goto (tgt := 20) hx hb dX4_monthsTooOld_16 (by decide) ?_
    exact cr_retR C hS (Option.some.inj hE) dX4_monthsTooOld_20

set_option maxHeartbeats 4000000 in
set_option maxRecDepth 100000 in
theorem m_X4_allBags (L : Launch) (D : va_G) (ct : Nat → ClassId) (al : Nat → Nat) (vl : cr_V)  (out : Int32) (hE : f_X4_allBags vl = some out) : Met L yX4_allBags wsX4_allBags ({ frames := 0, cells := 0, slots := 0, locals := 0 } : Room) (cr_pR D ct (cr_wL ct al vl) [.ref (al 0)]) (cr_QR (fun r => r = out)) 0 0 cr_no := by
  have k0 : (Cond.fieldLink RX4 24 "CupReceipts$Lots" "size" "I") ∈ wsX4_allBags := List.mem_of_getElem? (i := 1) rfl
  have k1 : (Cond.fieldLink RX4 15 "CupReceipts$Lots" "bags" "[I") ∈ wsX4_allBags := List.mem_of_getElem? (i := 2) rfl
  have hinX4 : ∀ w ∈ wsX40, w ∈ wsX4_allBags := fun w h => List.mem_cons_of_mem _ (List.mem_append_right _ h)
  refine cr_metR (by decide) rfl rfl (Nat.le_of_ble_eq_true rfl) ?_
  intro p e s m args below meth c ls C hP hS hl
  obtain ⟨hx, hb, hml, hown, hts, hr, hlocks, hK, hN⟩ := id C
  have hl : lv_has ls 3 [(0, .ref (al 0))] := hl
  have n4 :  ∀ (n : Nat), ∀ (vl : cr_V) (x1 : Int32) (x2 : Int32) (hE : f_X4_allBags_4  n vl x1 x2 = some out) (H : Heap) (locs : List Loc) (ls : Array Slot) (hP : va_P D vwCl (cr_wL ct al vl) H) (hS : va_S cr_no s.heap H locs) (hl : lv_has ls 3 [(0, .ref (al 0)), (1, .int x1), (2, .int x2)]), W p L e ({ frames := 0, cells := 0, slots := 0, locals := 0 } : Room) s m args below meth c H locs 0 0 (MQ below (cr_QR (fun r => r = out)) args s 0 0 cr_no) (F0 m 4 ls []) := by
    intro  n
    induction n with
    | zero =>
      intro vl x1 x2 hE
      cases hE
    | succ n ih =>
      intro vl x1 x2 hE H locs ls hP hS hl
      replace hE : (if (vl 4 0) ≤ x2 then (some x1) else (if cr_in x2 12 = true then f_X4_allBags_4 n vl (x1 + (vl 1 (cr_x x2))) (x2 + 1) else none)) = some out := hE
      refine lv_iload_n hx hb dX4_allBags_4 rfl (lv_at hl 2 rfl) ?_
      refine lv_aload_n hx hb dX4_allBags_5 rfl (lv_at hl 0 rfl) ?_
      refine cr_get C hP 0 rfl rfl 4 (by decide) hinX4 k0 (v := .int (vl 4 0)) rfl dX4_allBags_6 ?_
      refine lv_icmp_ge (tgt := 27) hx hb dX4_allBags_9 (by decide) (fun c1 => ?_) (fun c1 => ?_)
      · rw [if_pos c1] at hE
        refine lv_iload_n hx hb dX4_allBags_27 rfl (lv_at hl 1 rfl) ?_
        exact cr_retR C hS (Option.some.inj hE) dX4_allBags_28
      · rw [if_neg c1] at hE
        refine lv_iload_n hx hb dX4_allBags_12 rfl (lv_at hl 1 rfl) ?_
        refine lv_aload_n hx hb dX4_allBags_13 rfl (lv_at hl 0 rfl) ?_
        refine cr_get C hP 0 rfl rfl 1 (by decide) hinX4 k1 (v := .ref (al 2)) rfl dX4_allBags_14 ?_
        refine lv_iload_n hx hb dX4_allBags_17 rfl (lv_at hl 2 rfl) ?_
        obtain ⟨i2, hE⟩ := cr_ifn hE
        refine cr_ald C hP 2 (f := vl 1) (k := cr_x x2) rfl i2 (cr_xe _) dX4_allBags_18 ?_
        refine lv_iadd hx hb dX4_allBags_19 ?_
        refine lv_istore_n (lv' := [(1, .int (x1 + (vl 1 (cr_x x2)))), (0, .ref (al 0)), (2, .int x2)]) hx hb dX4_allBags_20 rfl hl (by decide) rfl (fun ls hl => ?_)
        refine lv_iinc (v := x2 + 1) (lv' := [(2, .int (x2 + 1)), (1, .int (x1 + (vl 1 (cr_x x2)))), (0, .ref (al 0))]) hx hb dX4_allBags_21 hl (k := 2) rfl (by first | rfl | decide) (by decide) rfl (fun ls hl => ?_)
        refine lv_goto (tgt := 4) hx hb dX4_allBags_24 (by decide) ?_
        exact ih vl (x1 + (vl 1 (cr_x x2))) (x2 + 1) hE _ _ _ hP hS (lv_sub hl [2, 1, 0] rfl)
  replace hE : (f_X4_allBags_4 10100 vl 0 0) = some out := hE
  refine lv_iconst (v := 0) hx hb dX4_allBags_0 (by decide) ?_
  refine lv_istore_n (lv' := [(1, .int 0), (0, .ref (al 0))]) hx hb dX4_allBags_1 rfl hl (by decide) rfl (fun ls hl => ?_)
  refine lv_iconst (v := 0) hx hb dX4_allBags_2 (by decide) ?_
  refine lv_istore_n (lv' := [(2, .int 0), (1, .int 0), (0, .ref (al 0))]) hx hb dX4_allBags_3 rfl hl (by decide) rfl (fun ls hl => ?_)
  exact n4 10100 vl 0 0 hE _ _ _ hP hS (lv_sub hl [2, 1, 0] rfl)

set_option maxHeartbeats 4000000 in
set_option maxRecDepth 100000 in
theorem m_X4_bagsToGive (L : Launch) (D : va_G) (ct : Nat → ClassId) (al : Nat → Nat) (vl : cr_V) (x1 : Int32) (out : Int32) (hE : f_X4_bagsToGive vl x1 = some out) : Met L yX4_bagsToGive wsX4_bagsToGive ({ frames := 1, cells := 0, slots := 0, locals := 23 } : Room) (cr_pR D ct (cr_wL ct al vl) [.ref (al 0), .int x1]) (cr_QR (fun r => r = out)) 0 0 cr_no := by
  have k0 : (Cond.fieldLink RX4 24 "CupReceipts$Lots" "size" "I") ∈ wsX4_bagsToGive := List.mem_of_getElem? (i := 1) rfl
  have k1 : (Cond.fieldLink RX4 15 "CupReceipts$Lots" "bags" "[I") ∈ wsX4_bagsToGive := List.mem_of_getElem? (i := 2) rfl
  have hinX4 : ∀ w ∈ wsX40, w ∈ wsX4_bagsToGive := fun w h => List.mem_cons_of_mem _ (List.mem_append_right _ h)
  refine cr_metR (by decide) rfl rfl (Nat.le_of_ble_eq_true rfl) ?_
  intro p e s m args below meth c ls C hP hS hl
  obtain ⟨hx, hb, hml, hown, hts, hr, hlocks, hK, hN⟩ := id C
  have hl : lv_has ls 4 [(0, .ref (al 0)), (1, .int x1)] := hl
  have n32 : ∀ (k4_ : cr_V → Int32 → Int32 → Int32 → Option (Int32)) (ih4_ : ∀ (vl : cr_V) (x1 : Int32) (x2 : Int32) (x3 : Int32) (hE : k4_ vl x1 x2 x3 = some out) (H : Heap) (locs : List Loc) (ls : Array Slot) (hP : va_P D vwCl (cr_wL ct al vl) H) (hS : va_S cr_no s.heap H locs) (hl : lv_has ls 4 [(0, .ref (al 0)), (1, .int x1), (2, .int x2), (3, .int x3)]), W p L e ({ frames := 1, cells := 0, slots := 0, locals := 23 } : Room) s m args below meth c H locs 0 0 (MQ below (cr_QR (fun r => r = out)) args s 0 0 cr_no) (F0 m 4 ls [])), ∀ (vl : cr_V) (x1 : Int32) (x2 : Int32) (x3 : Int32) (hE : f_X4_bagsToGive_32 k4_ vl x1 x2 x3 = some out) (H : Heap) (locs : List Loc) (ls : Array Slot) (hP : va_P D vwCl (cr_wL ct al vl) H) (hS : va_S cr_no s.heap H locs) (hl : lv_has ls 4 [(0, .ref (al 0)), (1, .int x1), (2, .int x2), (3, .int x3)]), W p L e ({ frames := 1, cells := 0, slots := 0, locals := 23 } : Room) s m args below meth c H locs 0 0 (MQ below (cr_QR (fun r => r = out)) args s 0 0 cr_no) (F0 m 32 ls []) := by
    intro k4_ ih4_ vl x1 x2 x3 hE H locs ls hP hS hl
    replace hE : (k4_ vl x1 x2 (x3 + 1)) = some out := hE
    refine lv_iinc (v := x3 + 1) (lv' := [(3, .int (x3 + 1)), (0, .ref (al 0)), (1, .int x1), (2, .int x2)]) hx hb dX4_bagsToGive_32 hl (k := 3) rfl (by first | rfl | decide) (by decide) rfl (fun ls hl => ?_)
    refine lv_goto (tgt := 4) hx hb dX4_bagsToGive_35 (by decide) ?_
    exact ih4_ vl x1 x2 (x3 + 1) hE _ _ _ hP hS (lv_sub hl [1, 2, 3, 0] rfl)
  have n4 :  ∀ (n : Nat), ∀ (vl : cr_V) (x1 : Int32) (x2 : Int32) (x3 : Int32) (hE : f_X4_bagsToGive_4  n vl x1 x2 x3 = some out) (H : Heap) (locs : List Loc) (ls : Array Slot) (hP : va_P D vwCl (cr_wL ct al vl) H) (hS : va_S cr_no s.heap H locs) (hl : lv_has ls 4 [(0, .ref (al 0)), (1, .int x1), (2, .int x2), (3, .int x3)]), W p L e ({ frames := 1, cells := 0, slots := 0, locals := 23 } : Room) s m args below meth c H locs 0 0 (MQ below (cr_QR (fun r => r = out)) args s 0 0 cr_no) (F0 m 4 ls []) := by
    intro  n
    induction n with
    | zero =>
      intro vl x1 x2 x3 hE
      cases hE
    | succ n ih =>
      intro vl x1 x2 x3 hE H locs ls hP hS hl
      replace hE : (if (vl 4 0) ≤ x3 then (some x2) else ((f_X4_cupAt vl x3 x1).bind fun q2 => if q2 < 70 then (f_X4_bagsToGive_32 (f_X4_bagsToGive_4 n) vl x1 x2 x3) else (if cr_in x3 12 = true then f_X4_bagsToGive_32 (f_X4_bagsToGive_4 n) vl x1 (x2 + (vl 1 (cr_x x3))) x3 else none))) = some out := hE
      refine lv_iload_n hx hb dX4_bagsToGive_4 rfl (lv_at hl 3 rfl) ?_
      refine lv_aload_n hx hb dX4_bagsToGive_5 rfl (lv_at hl 0 rfl) ?_
      refine cr_get C hP 0 rfl rfl 4 (by decide) hinX4 k0 (v := .int (vl 4 0)) rfl dX4_bagsToGive_6 ?_
      refine lv_icmp_ge (tgt := 38) hx hb dX4_bagsToGive_9 (by decide) (fun c1 => ?_) (fun c1 => ?_)
      · rw [if_pos c1] at hE
        refine lv_iload_n hx hb dX4_bagsToGive_38 rfl (lv_at hl 2 rfl) ?_
        exact cr_retR C hS (Option.some.inj hE) dX4_bagsToGive_39
      · rw [if_neg c1] at hE
        refine lv_aload_n hx hb dX4_bagsToGive_12 rfl (lv_at hl 0 rfl) ?_
        refine lv_iload_n hx hb dX4_bagsToGive_13 rfl (lv_at hl 3 rfl) ?_
        refine lv_iload_n hx hb dX4_bagsToGive_14 rfl (lv_at hl 1 rfl) ?_
        obtain ⟨q2, hq2, hE⟩ := cr_bind hE
        refine cr_vRq (n := 2) (As := [.int x3, .int x1]) (rest := []) C hP hS (m_X4_cupAt L D ct al vl x3 x1 q2 hq2) (cwV 2 hts gX4_bagsToGive_X4_cupAt rfl rfl rfl (by decide +kernel) ⟨Nat.le_of_ble_eq_true rfl, Nat.le_of_ble_eq_true rfl⟩) [0, 1, 2, 3, 4] rfl 0 rfl rfl rfl hl.1 rfl (Nat.le_of_ble_eq_true rfl) dX4_bagsToGive_15 ⟨Nat.zero_le _, Nat.zero_le _⟩ (fun H locs hP hS => ?_)
        refine lv_bipush (v := 70) hx hb dX4_bagsToGive_18 (by decide) ?_
        refine lv_icmp_lt (tgt := 32) hx hb dX4_bagsToGive_20 (by decide) (fun c3 => ?_) (fun c3 => ?_)
        · rw [if_pos c3] at hE
          exact n32 (f_X4_bagsToGive_4 n) ih vl x1 x2 x3 hE _ _ _ hP hS (lv_sub hl [0, 1, 2, 3] rfl)
        · rw [if_neg c3] at hE
          refine lv_iload_n hx hb dX4_bagsToGive_23 rfl (lv_at hl 2 rfl) ?_
          refine lv_aload_n hx hb dX4_bagsToGive_24 rfl (lv_at hl 0 rfl) ?_
          refine cr_get C hP 0 rfl rfl 1 (by decide) hinX4 k1 (v := .ref (al 2)) rfl dX4_bagsToGive_25 ?_
          refine lv_iload_n hx hb dX4_bagsToGive_28 rfl (lv_at hl 3 rfl) ?_
          obtain ⟨i4, hE⟩ := cr_ifn hE
          refine cr_ald C hP 2 (f := vl 1) (k := cr_x x3) rfl i4 (cr_xe _) dX4_bagsToGive_29 ?_
          refine lv_iadd hx hb dX4_bagsToGive_30 ?_
          refine lv_istore_n (lv' := [(2, .int (x2 + (vl 1 (cr_x x3)))), (0, .ref (al 0)), (1, .int x1), (3, .int x3)]) hx hb dX4_bagsToGive_31 rfl hl (by decide) rfl (fun ls hl => ?_)
          exact n32 (f_X4_bagsToGive_4 n) ih vl x1 (x2 + (vl 1 (cr_x x3))) x3 hE _ _ _ hP hS (lv_sub hl [1, 2, 0, 3] rfl)
  replace hE : (f_X4_bagsToGive_4 10100 vl x1 0 0) = some out := hE
  refine lv_iconst (v := 0) hx hb dX4_bagsToGive_0 (by decide) ?_
  refine lv_istore_n (lv' := [(2, .int 0), (0, .ref (al 0)), (1, .int x1)]) hx hb dX4_bagsToGive_1 rfl hl (by decide) rfl (fun ls hl => ?_)
  refine lv_iconst (v := 0) hx hb dX4_bagsToGive_2 (by decide) ?_
  refine lv_istore_n (lv' := [(3, .int 0), (2, .int 0), (0, .ref (al 0)), (1, .int x1)]) hx hb dX4_bagsToGive_3 rfl hl (by decide) rfl (fun ls hl => ?_)
  exact n4 10100 vl x1 0 0 hE _ _ _ hP hS (lv_sub hl [2, 3, 1, 0] rfl)

set_option maxHeartbeats 4000000 in
set_option maxRecDepth 100000 in
theorem m_X0_copyFrom (L : Launch) (D : va_G) (ct : Nat → ClassId) (ak : Nat → Nat) (ak2 : Nat → Nat) (vk : cr_V) (vk2 : cr_V)  (sz : Nat) (out : cr_V) (hE : f_X0_copyFrom vk vk2 = some out) : Met L yX0_copyFrom wsX0_copyFrom ({ frames := 0, cells := 0, slots := 0, locals := 0 } : Room) (cr_pW D ct (cr_wK ct ak vk ++ cr_wK ct ak2 vk2) sz [.ref (ak 0), .ref (ak2 0)]) (cr_QV D (cr_wK ct ak vk ++ cr_wK ct ak2 vk2) sz (fun u : cr_V => u = out) (fun u : cr_V => cr_wK ct ak u ++ cr_wK ct ak2 vk2)) 0 0 (va_A (cr_wK ct ak vk ++ cr_wK ct ak2 vk2) sz) := by
  have k0 : (Cond.fieldLink RX0 18 "CupReceipts$Contracts" "size" "I") ∈ wsX0_copyFrom := List.mem_of_getElem? (i := 3) rfl
  have k1 : (Cond.fieldLink RX0 9 "CupReceipts$Contracts" "months" "[I") ∈ wsX0_copyFrom := List.mem_of_getElem? (i := 1) rfl
  have k2 : (Cond.fieldLink RX0 15 "CupReceipts$Contracts" "prices" "[I") ∈ wsX0_copyFrom := List.mem_of_getElem? (i := 2) rfl
  have hinX0 : ∀ w ∈ wsX00, w ∈ wsX0_copyFrom := fun w h => List.mem_cons_of_mem _ (List.mem_append_right _ h)
  refine cr_metW (Qc := fun A => va_Qv (fun u : cr_V => u = out) (fun u t => cr_at D A ((fun u : cr_V => cr_wK ct ak u ++ cr_wK ct ak2 vk2) u) t) A) (by decide) rfl rfl (Nat.le_of_ble_eq_true rfl) ?_
  intro p e s m args below meth c ls A C hW hl
  obtain ⟨hx, hb, hml, hown, hts, hr, hlocks, hK, hN⟩ := id C
  have hl : lv_has ls 3 [(0, .ref (ak 0)), (1, .ref (ak2 0))] := hl
  have n2 :  ∀ (n : Nat), ∀ (vk : cr_V) (vk2 : cr_V) (x2 : Int32) (hE : f_X0_copyFrom_2  n vk vk2 x2 = some out) (H : Heap) (locs : List Loc) (ls : Array Slot) (hW : cr_wd D A s (cr_wK ct ak vk ++ cr_wK ct ak2 vk2) H locs) (hl : lv_has ls 3 [(0, .ref (ak 0)), (1, .ref (ak2 0)), (2, .int x2)]), W p L e ({ frames := 0, cells := 0, slots := 0, locals := 0 } : Room) s m args below meth c H locs 0 0 (MQ below (va_Qv (fun u : cr_V => u = out) (fun u t => cr_at D A ((fun u : cr_V => cr_wK ct ak u ++ cr_wK ct ak2 vk2) u) t) A) args s 0 0 A) (F0 m 2 ls []) := by
    intro  n
    induction n with
    | zero =>
      intro vk vk2 x2 hE
      cases hE
    | succ n ih =>
      intro vk vk2 x2 hE H locs ls hW hl
      replace hE : (if 6 ≤ x2 then (some (cr_i vk 2 (vk2 2 0))) else (if cr_in x2 6 = true then f_X0_copyFrom_2 n (cr_a (cr_a vk 0 (cr_x x2) (vk2 0 (cr_x x2))) 1 (cr_x x2) (vk2 1 (cr_x x2))) vk2 (x2 + 1) else none)) = some out := hE
      refine lv_iload_n hx hb dX0_copyFrom_2 rfl (lv_at hl 2 rfl) ?_
      refine lv_bipush (v := 6) hx hb dX0_copyFrom_3 (by decide) ?_
      refine lv_icmp_ge (tgt := 38) hx hb dX0_copyFrom_5 (by decide) (fun c1 => ?_) (fun c1 => ?_)
      · rw [if_pos c1] at hE
        refine lv_aload_n hx hb dX0_copyFrom_38 rfl (lv_at hl 0 rfl) ?_
        refine lv_aload_n hx hb dX0_copyFrom_39 rfl (lv_at hl 1 rfl) ?_
        refine cr_get C hW.1 3 rfl rfl 2 (by decide) hinX0 k0 (v := .int (vk2 2 0)) rfl dX0_copyFrom_40 ?_
        refine cr_put C hW 0 rfl rfl tyX0 tyX0_ok nmX0 2 (by decide) hinX0 k0 rfl rfl rfl rfl (Nat.le_of_ble_eq_true rfl) (w' := cr_wK ct ak (cr_i vk 2 (vk2 2 0)) ++ cr_wK ct ak2 vk2) rfl dX0_copyFrom_43 (fun H locs hW => ?_)
        exact cr_retV C (w := (fun u : cr_V => cr_wK ct ak u ++ cr_wK ct ak2 vk2)) (cr_i vk 2 (vk2 2 0)) hW (Option.some.inj hE) dX0_copyFrom_46
      · rw [if_neg c1] at hE
        refine lv_aload_n hx hb dX0_copyFrom_8 rfl (lv_at hl 0 rfl) ?_
        refine cr_get C hW.1 0 rfl rfl 0 (by decide) hinX0 k1 (v := .ref (ak 1)) rfl dX0_copyFrom_9 ?_
        refine lv_iload_n hx hb dX0_copyFrom_12 rfl (lv_at hl 2 rfl) ?_
        refine lv_aload_n hx hb dX0_copyFrom_13 rfl (lv_at hl 1 rfl) ?_
        refine cr_get C hW.1 3 rfl rfl 0 (by decide) hinX0 k1 (v := .ref (ak2 1)) rfl dX0_copyFrom_14 ?_
        refine lv_iload_n hx hb dX0_copyFrom_17 rfl (lv_at hl 2 rfl) ?_
        obtain ⟨i2, hE⟩ := cr_ifn hE
        refine cr_ald C hW.1 4 (f := vk2 0) (k := cr_x x2) rfl i2 (cr_xe _) dX0_copyFrom_18 ?_
        refine cr_ast C hW 1 rfl (k := (cr_x x2)) i2 (cr_xe _) (w' := cr_wK ct ak (cr_a vk 0 (cr_x x2) (vk2 0 (cr_x x2))) ++ cr_wK ct ak2 vk2) rfl dX0_copyFrom_19 (fun H locs hW => ?_)
        refine lv_aload_n hx hb dX0_copyFrom_20 rfl (lv_at hl 0 rfl) ?_
        refine cr_get C hW.1 0 rfl rfl 1 (by decide) hinX0 k2 (v := .ref (ak 2)) rfl dX0_copyFrom_21 ?_
        refine lv_iload_n hx hb dX0_copyFrom_24 rfl (lv_at hl 2 rfl) ?_
        refine lv_aload_n hx hb dX0_copyFrom_25 rfl (lv_at hl 1 rfl) ?_
        refine cr_get C hW.1 3 rfl rfl 1 (by decide) hinX0 k2 (v := .ref (ak2 2)) rfl dX0_copyFrom_26 ?_
        refine lv_iload_n hx hb dX0_copyFrom_29 rfl (lv_at hl 2 rfl) ?_
        refine cr_ald C hW.1 5 (f := vk2 1) (k := cr_x x2) rfl i2 (cr_xe _) dX0_copyFrom_30 ?_
        refine cr_ast C hW 2 rfl (k := (cr_x x2)) i2 (cr_xe _) (w' := cr_wK ct ak (cr_a (cr_a vk 0 (cr_x x2) (vk2 0 (cr_x x2))) 1 (cr_x x2) (vk2 1 (cr_x x2))) ++ cr_wK ct ak2 vk2) rfl dX0_copyFrom_31 (fun H locs hW => ?_)
        refine lv_iinc (v := x2 + 1) (lv' := [(2, .int (x2 + 1)), (0, .ref (ak 0)), (1, .ref (ak2 0))]) hx hb dX0_copyFrom_32 hl (k := 2) rfl (by first | rfl | decide) (by decide) rfl (fun ls hl => ?_)
        refine lv_goto (tgt := 2) hx hb dX0_copyFrom_35 (by decide) ?_
        exact ih (cr_a (cr_a vk 0 (cr_x x2) (vk2 0 (cr_x x2))) 1 (cr_x x2) (vk2 1 (cr_x x2))) vk2 (x2 + 1) hE _ _ _ hW (lv_sub hl [1, 2, 0] rfl)
  replace hE : (f_X0_copyFrom_2 10100 vk vk2 0) = some out := hE
  refine lv_iconst (v := 0) hx hb dX0_copyFrom_0 (by decide) ?_
  refine lv_istore_n (lv' := [(2, .int 0), (0, .ref (ak 0)), (1, .ref (ak2 0))]) hx hb dX0_copyFrom_1 rfl hl (by decide) rfl (fun ls hl => ?_)
  exact n2 10100 vk vk2 0 hE _ _ _ hW (lv_sub hl [1, 2, 0] rfl)

set_option maxHeartbeats 4000000 in
set_option maxRecDepth 100000 in
theorem m_X0_isOpen (L : Launch) (D : va_G) (ct : Nat → ClassId) (ak : Nat → Nat) (vk : cr_V) (x1 : Int32) (out : Int32) (hE : f_X0_isOpen vk x1 = some out) : Met L yX0_isOpen wsX0_isOpen ({ frames := 0, cells := 0, slots := 0, locals := 0 } : Room) (cr_pR D ct (cr_wK ct ak vk) [.ref (ak 0), .int x1]) (cr_QR (fun r => r = out)) 0 0 cr_no := by
  have k0 : (Cond.fieldLink RX0 18 "CupReceipts$Contracts" "size" "I") ∈ wsX0_isOpen := List.mem_of_getElem? (i := 1) rfl
  have hinX0 : ∀ w ∈ wsX00, w ∈ wsX0_isOpen := fun w h => List.mem_cons_of_mem _ (List.mem_append_right _ h)
  refine cr_metR (by decide) rfl rfl (Nat.le_of_ble_eq_true rfl) ?_
  intro p e s m args below meth c ls C hP hS hl
  obtain ⟨hx, hb, hml, hown, hts, hr, hlocks, hK, hN⟩ := id C
  have hl : lv_has ls 2 [(0, .ref (ak 0)), (1, .int x1)] := hl
  replace hE : (if x1 < 0 then (some 0) else (if (vk 2 0) ≤ x1 then (some 0) else (some 1))) = some out := hE
  refine lv_iload_n hx hb dX0_isOpen_0 rfl (lv_at hl 1 rfl) ?_
  refine lv_if_lt (tgt := 16) hx hb dX0_isOpen_1 (by decide) (fun c1 => ?_) (fun c1 => ?_)
  · rw [if_pos c1] at hE
    refine lv_iconst (v := 0) hx hb dX0_isOpen_16 (by decide) ?_
    exact cr_retRz C hS rfl (Option.some.inj hE) dX0_isOpen_17
  · rw [if_neg c1] at hE
    refine lv_iload_n hx hb dX0_isOpen_4 rfl (lv_at hl 1 rfl) ?_
    refine lv_aload_n hx hb dX0_isOpen_5 rfl (lv_at hl 0 rfl) ?_
    refine cr_get C hP 0 rfl rfl 2 (by decide) hinX0 k0 (v := .int (vk 2 0)) rfl dX0_isOpen_6 ?_
    refine lv_icmp_ge (tgt := 16) hx hb dX0_isOpen_9 (by decide) (fun c2 => ?_) (fun c2 => ?_)
    · rw [if_pos c2] at hE
      refine lv_iconst (v := 0) hx hb dX0_isOpen_16 (by decide) ?_
      exact cr_retRz C hS rfl (Option.some.inj hE) dX0_isOpen_17
    · rw [if_neg c2] at hE
      refine lv_iconst (v := 1) hx hb dX0_isOpen_12 (by decide) ?_
      refine lv_goto (tgt := 17) hx hb dX0_isOpen_13 (by decide) ?_
      exact cr_retRz C hS rfl (Option.some.inj hE) dX0_isOpen_17

set_option maxHeartbeats 4000000 in
set_option maxRecDepth 100000 in
theorem m_X0_add (L : Launch) (D : va_G) (ct : Nat → ClassId) (ak : Nat → Nat) (vk : cr_V) (x1 : Int32) (x2 : Int32) (sz : Nat) (out : Int32 × cr_V) (hE : f_X0_add vk x1 x2 = some out) : Met L yX0_add wsX0_add ({ frames := 0, cells := 0, slots := 0, locals := 0 } : Room) (cr_pW D ct (cr_wK ct ak vk) sz [.ref (ak 0), .int x1, .int x2]) (cr_QW D (cr_wK ct ak vk) sz (fun r (u : cr_V) => (r, u) = out) (fun u : cr_V => cr_wK ct ak u)) 0 0 (va_A (cr_wK ct ak vk) sz) := by
  have k0 : (Cond.fieldLink RX0 18 "CupReceipts$Contracts" "size" "I") ∈ wsX0_add := List.mem_of_getElem? (i := 1) rfl
  have k1 : (Cond.fieldLink RX0 9 "CupReceipts$Contracts" "months" "[I") ∈ wsX0_add := List.mem_of_getElem? (i := 3) rfl
  have k2 : (Cond.fieldLink RX0 15 "CupReceipts$Contracts" "prices" "[I") ∈ wsX0_add := List.mem_of_getElem? (i := 4) rfl
  have k3 : (Cond.constant RX0 22 (-2000000003)) ∈ wsX0_add := List.mem_of_getElem? (i := 2) rfl
  have hinX0 : ∀ w ∈ wsX00, w ∈ wsX0_add := fun w h => List.mem_cons_of_mem _ (List.mem_append_right _ h)
  refine cr_metW (Qc := fun A => va_Qi (fun r (u : cr_V) => (r, u) = out) (fun u t => cr_at D A ((fun u : cr_V => cr_wK ct ak u) u) t) A) (by decide) rfl rfl (Nat.le_of_ble_eq_true rfl) ?_
  intro p e s m args below meth c ls A C hW hl
  obtain ⟨hx, hb, hml, hown, hts, hr, hlocks, hK, hN⟩ := id C
  have hl : lv_has ls 3 [(0, .ref (ak 0)), (1, .int x1), (2, .int x2)] := hl
  replace hE : (if (vk 2 0) < 6 then (if cr_in (vk 2 0) 6 = true then some ((((vk 2 0) + 1) - 1), (cr_i (cr_a (cr_a vk 0 (cr_x (vk 2 0)) x1) 1 (cr_x (vk 2 0)) x2) 2 ((vk 2 0) + 1))) else none) else (some ((-2000000003), vk))) = some out := hE
  refine lv_aload_n hx hb dX0_add_0 rfl (lv_at hl 0 rfl) ?_
  refine cr_get C hW.1 0 rfl rfl 2 (by decide) hinX0 k0 (v := .int (vk 2 0)) rfl dX0_add_1 ?_
  refine lv_bipush (v := 6) hx hb dX0_add_4 (by decide) ?_
  refine lv_icmp_lt (tgt := 12) hx hb dX0_add_6 (by decide) (fun c1 => ?_) (fun c1 => ?_)
  · rw [if_pos c1] at hE
    refine lv_aload_n hx hb dX0_add_12 rfl (lv_at hl 0 rfl) ?_
    refine cr_get C hW.1 0 rfl rfl 0 (by decide) hinX0 k1 (v := .ref (ak 1)) rfl dX0_add_13 ?_
    refine lv_aload_n hx hb dX0_add_16 rfl (lv_at hl 0 rfl) ?_
    refine cr_get C hW.1 0 rfl rfl 2 (by decide) hinX0 k0 (v := .int (vk 2 0)) rfl dX0_add_17 ?_
    refine lv_iload_n hx hb dX0_add_20 rfl (lv_at hl 1 rfl) ?_
    obtain ⟨i2, hE⟩ := cr_ifn hE
    refine cr_ast C hW 1 rfl (k := (cr_x (vk 2 0))) i2 (cr_xe _) (w' := cr_wK ct ak (cr_a vk 0 (cr_x (vk 2 0)) x1)) rfl dX0_add_21 (fun H locs hW => ?_)
    refine lv_aload_n hx hb dX0_add_22 rfl (lv_at hl 0 rfl) ?_
    refine cr_get C hW.1 0 rfl rfl 1 (by decide) hinX0 k2 (v := .ref (ak 2)) rfl dX0_add_23 ?_
    refine lv_aload_n hx hb dX0_add_26 rfl (lv_at hl 0 rfl) ?_
    refine cr_get C hW.1 0 rfl rfl 2 (by decide) hinX0 k0 (v := .int (vk 2 0)) rfl dX0_add_27 ?_
    refine lv_iload_n hx hb dX0_add_30 rfl (lv_at hl 2 rfl) ?_
    refine cr_ast C hW 2 rfl (k := (cr_x (vk 2 0))) i2 (cr_xe _) (w' := cr_wK ct ak (cr_a (cr_a vk 0 (cr_x (vk 2 0)) x1) 1 (cr_x (vk 2 0)) x2)) rfl dX0_add_31 (fun H locs hW => ?_)
    refine lv_aload_n hx hb dX0_add_32 rfl (lv_at hl 0 rfl) ?_
    refine lv_dup hx hb dX0_add_33 rfl ?_
    refine cr_get C hW.1 0 rfl rfl 2 (by decide) hinX0 k0 (v := .int (vk 2 0)) rfl dX0_add_34 ?_
    refine lv_iconst (v := 1) hx hb dX0_add_37 (by decide) ?_
    refine lv_iadd hx hb dX0_add_38 ?_
    refine cr_put C hW 0 rfl rfl tyX0 tyX0_ok nmX0 2 (by decide) hinX0 k0 rfl rfl rfl rfl (Nat.le_of_ble_eq_true rfl) (w' := cr_wK ct ak (cr_i (cr_a (cr_a vk 0 (cr_x (vk 2 0)) x1) 1 (cr_x (vk 2 0)) x2) 2 ((vk 2 0) + 1))) rfl dX0_add_39 (fun H locs hW => ?_)
    refine lv_aload_n hx hb dX0_add_42 rfl (lv_at hl 0 rfl) ?_
    refine cr_get C hW.1 0 rfl rfl 2 (by decide) hinX0 k0 (v := .int ((vk 2 0) + 1)) rfl dX0_add_43 ?_
    refine lv_iconst (v := 1) hx hb dX0_add_46 (by decide) ?_
    refine lv_isub hx hb dX0_add_47 ?_
    exact cr_retW C (w := (fun u : cr_V => cr_wK ct ak u)) (cr_i (cr_a (cr_a vk 0 (cr_x (vk 2 0)) x1) 1 (cr_x (vk 2 0)) x2) 2 ((vk 2 0) + 1)) hW (Option.some.inj hE) dX0_add_48
  · rw [if_neg c1] at hE
    refine cr_ldc C k3 dX0_add_9 ?_
    exact cr_retW C (w := (fun u : cr_V => cr_wK ct ak u)) vk hW (Option.some.inj hE) dX0_add_11

set_option maxHeartbeats 4000000 in
set_option maxRecDepth 100000 in
theorem m_X0_drop (L : Launch) (D : va_G) (ct : Nat → ClassId) (ak : Nat → Nat) (vk : cr_V) (x1 : Int32) (sz : Nat) (out : cr_V) (hE : f_X0_drop vk x1 = some out) : Met L yX0_drop wsX0_drop ({ frames := 1, cells := 0, slots := 0, locals := 21 } : Room) (cr_pW D ct (cr_wK ct ak vk) sz [.ref (ak 0), .int x1]) (cr_QV D (cr_wK ct ak vk) sz (fun u : cr_V => u = out) (fun u : cr_V => cr_wK ct ak u)) 0 0 (va_A (cr_wK ct ak vk) sz) := by
  have k0 : (Cond.fieldLink RX0 18 "CupReceipts$Contracts" "size" "I") ∈ wsX0_drop := List.mem_of_getElem? (i := 1) rfl
  have k1 : (Cond.fieldLink RX0 9 "CupReceipts$Contracts" "months" "[I") ∈ wsX0_drop := List.mem_of_getElem? (i := 2) rfl
  have k2 : (Cond.fieldLink RX0 15 "CupReceipts$Contracts" "prices" "[I") ∈ wsX0_drop := List.mem_of_getElem? (i := 3) rfl
  have hinX0 : ∀ w ∈ wsX00, w ∈ wsX0_drop := fun w h => List.mem_cons_of_mem _ (List.mem_append_right _ h)
  refine cr_metW (Qc := fun A => va_Qv (fun u : cr_V => u = out) (fun u t => cr_at D A ((fun u : cr_V => cr_wK ct ak u) u) t) A) (by decide) rfl rfl (Nat.le_of_ble_eq_true rfl) ?_
  intro p e s m args below meth c ls A C hW hl
  obtain ⟨hx, hb, hml, hown, hts, hr, hlocks, hK, hN⟩ := id C
  have hl : lv_has ls 3 [(0, .ref (ak 0)), (1, .int x1)] := hl
  have n13 :  ∀ (n : Nat), ∀ (vk : cr_V) (x2 : Int32) (hE : f_X0_drop_13  n vk x2 = some out) (H : Heap) (locs : List Loc) (ls : Array Slot) (hW : cr_wd D A s (cr_wK ct ak vk) H locs) (hl : lv_has ls 3 [(0, .ref (ak 0)), (2, .int x2)]), W p L e ({ frames := 1, cells := 0, slots := 0, locals := 21 } : Room) s m args below meth c H locs 0 0 (MQ below (va_Qv (fun u : cr_V => u = out) (fun u t => cr_at D A ((fun u : cr_V => cr_wK ct ak u) u) t) A) args s 0 0 A) (F0 m 13 ls []) := by
    intro  n
    induction n with
    | zero =>
      intro vk x2 hE
      cases hE
    | succ n ih =>
      intro vk x2 hE H locs ls hW hl
      replace hE : (if (vk 2 0) ≤ x2 then (some (cr_i vk 2 ((vk 2 0) - 1))) else (if cr_in x2 6 = true then if cr_in (x2 - 1) 6 = true then f_X0_drop_13 n (cr_a (cr_a vk 0 (cr_x (x2 - 1)) (vk 0 (cr_x x2))) 1 (cr_x (x2 - 1)) (vk 1 (cr_x x2))) (x2 + 1) else none else none)) = some out := hE
      refine lv_iload_n hx hb dX0_drop_13 rfl (lv_at hl 1 rfl) ?_
      refine lv_aload_n hx hb dX0_drop_14 rfl (lv_at hl 0 rfl) ?_
      refine cr_get C hW.1 0 rfl rfl 2 (by decide) hinX0 k0 (v := .int (vk 2 0)) rfl dX0_drop_15 ?_
      refine lv_icmp_ge (tgt := 55) hx hb dX0_drop_18 (by decide) (fun c1 => ?_) (fun c1 => ?_)
      · rw [if_pos c1] at hE
        refine lv_aload_n hx hb dX0_drop_55 rfl (lv_at hl 0 rfl) ?_
        refine lv_dup hx hb dX0_drop_56 rfl ?_
        refine cr_get C hW.1 0 rfl rfl 2 (by decide) hinX0 k0 (v := .int (vk 2 0)) rfl dX0_drop_57 ?_
        refine lv_iconst (v := 1) hx hb dX0_drop_60 (by decide) ?_
        refine lv_isub hx hb dX0_drop_61 ?_
        refine cr_put C hW 0 rfl rfl tyX0 tyX0_ok nmX0 2 (by decide) hinX0 k0 rfl rfl rfl rfl (Nat.le_of_ble_eq_true rfl) (w' := cr_wK ct ak (cr_i vk 2 ((vk 2 0) - 1))) rfl dX0_drop_62 (fun H locs hW => ?_)
        exact cr_retV C (w := (fun u : cr_V => cr_wK ct ak u)) (cr_i vk 2 ((vk 2 0) - 1)) hW (Option.some.inj hE) dX0_drop_65
      · rw [if_neg c1] at hE
        refine lv_aload_n hx hb dX0_drop_21 rfl (lv_at hl 0 rfl) ?_
        refine cr_get C hW.1 0 rfl rfl 0 (by decide) hinX0 k1 (v := .ref (ak 1)) rfl dX0_drop_22 ?_
        refine lv_iload_n hx hb dX0_drop_25 rfl (lv_at hl 1 rfl) ?_
        refine lv_iconst (v := 1) hx hb dX0_drop_26 (by decide) ?_
        refine lv_isub hx hb dX0_drop_27 ?_
        refine lv_aload_n hx hb dX0_drop_28 rfl (lv_at hl 0 rfl) ?_
        refine cr_get C hW.1 0 rfl rfl 0 (by decide) hinX0 k1 (v := .ref (ak 1)) rfl dX0_drop_29 ?_
        refine lv_iload_n hx hb dX0_drop_32 rfl (lv_at hl 1 rfl) ?_
        obtain ⟨i2, hE⟩ := cr_ifn hE
        refine cr_ald C hW.1 1 (f := vk 0) (k := cr_x x2) rfl i2 (cr_xe _) dX0_drop_33 ?_
        obtain ⟨i3, hE⟩ := cr_ifn hE
        refine cr_ast C hW 1 rfl (k := (cr_x (x2 - 1))) i3 (cr_xe _) (w' := cr_wK ct ak (cr_a vk 0 (cr_x (x2 - 1)) (vk 0 (cr_x x2)))) rfl dX0_drop_34 (fun H locs hW => ?_)
        refine lv_aload_n hx hb dX0_drop_35 rfl (lv_at hl 0 rfl) ?_
        refine cr_get C hW.1 0 rfl rfl 1 (by decide) hinX0 k2 (v := .ref (ak 2)) rfl dX0_drop_36 ?_
        refine lv_iload_n hx hb dX0_drop_39 rfl (lv_at hl 1 rfl) ?_
        refine lv_iconst (v := 1) hx hb dX0_drop_40 (by decide) ?_
        refine lv_isub hx hb dX0_drop_41 ?_
        refine lv_aload_n hx hb dX0_drop_42 rfl (lv_at hl 0 rfl) ?_
        refine cr_get C hW.1 0 rfl rfl 1 (by decide) hinX0 k2 (v := .ref (ak 2)) rfl dX0_drop_43 ?_
        refine lv_iload_n hx hb dX0_drop_46 rfl (lv_at hl 1 rfl) ?_
        refine cr_ald C hW.1 2 (f := vk 1) (k := cr_x x2) rfl i2 (cr_xe _) dX0_drop_47 ?_
        refine cr_ast C hW 2 rfl (k := (cr_x (x2 - 1))) i3 (cr_xe _) (w' := cr_wK ct ak (cr_a (cr_a vk 0 (cr_x (x2 - 1)) (vk 0 (cr_x x2))) 1 (cr_x (x2 - 1)) (vk 1 (cr_x x2)))) rfl dX0_drop_48 (fun H locs hW => ?_)
        refine lv_iinc (v := x2 + 1) (lv' := [(2, .int (x2 + 1)), (0, .ref (ak 0))]) hx hb dX0_drop_49 hl (k := 1) rfl (by first | rfl | decide) (by decide) rfl (fun ls hl => ?_)
        refine lv_goto (tgt := 13) hx hb dX0_drop_52 (by decide) ?_
        exact ih (cr_a (cr_a vk 0 (cr_x (x2 - 1)) (vk 0 (cr_x x2))) 1 (cr_x (x2 - 1)) (vk 1 (cr_x x2))) (x2 + 1) hE _ _ _ hW (lv_sub hl [1, 0] rfl)
  replace hE : ((f_X0_isOpen vk x1).bind fun q4 => if q4 = 0 then (some vk) else (f_X0_drop_13 10100 vk (x1 + 1))) = some out := hE
  refine lv_aload_n hx hb dX0_drop_0 rfl (lv_at hl 0 rfl) ?_
  refine lv_iload_n hx hb dX0_drop_1 rfl (lv_at hl 1 rfl) ?_
  obtain ⟨q4, hq4, hE⟩ := cr_bind hE
  refine cr_vRwq (n := 1) (As := [.int x1]) (rest := []) C hW (m_X0_isOpen L D ct ak vk x1 q4 hq4) (cwV 1 hts gX0_drop_X0_isOpen rfl rfl rfl (by decide +kernel) ⟨Nat.le_of_ble_eq_true rfl, Nat.le_of_ble_eq_true rfl⟩) [0, 1, 2] rfl 0 rfl rfl rfl hl.1 rfl (Nat.le_of_ble_eq_true rfl) dX0_drop_2 ⟨Nat.zero_le _, Nat.zero_le _⟩ (fun H locs hW => ?_)
  refine lv_if_ne (tgt := 9) hx hb dX0_drop_5 (by decide) (fun c5 => ?_) (fun c5 => ?_)
  · rw [if_neg c5] at hE
    refine lv_iload_n hx hb dX0_drop_9 rfl (lv_at hl 1 rfl) ?_
    refine lv_iconst (v := 1) hx hb dX0_drop_10 (by decide) ?_
    refine lv_iadd hx hb dX0_drop_11 ?_
    refine lv_istore_n (lv' := [(2, .int (x1 + 1)), (0, .ref (ak 0)), (1, .int x1)]) hx hb dX0_drop_12 rfl hl (by decide) rfl (fun ls hl => ?_)
    exact n13 10100 vk (x1 + 1) hE _ _ _ hW (lv_sub hl [1, 0] rfl)
  · rw [if_pos c5] at hE
    exact cr_retV C (w := (fun u : cr_V => cr_wK ct ak u)) vk hW (Option.some.inj hE) dX0_drop_8

set_option maxHeartbeats 4000000 in
set_option maxRecDepth 100000 in
theorem m_X0_dropBefore (L : Launch) (D : va_G) (ct : Nat → ClassId) (ak : Nat → Nat) (vk : cr_V) (x1 : Int32) (sz : Nat) (out : Int32 × cr_V) (hE : f_X0_dropBefore vk x1 = some out) : Met L yX0_dropBefore wsX0_dropBefore ({ frames := 0, cells := 0, slots := 0, locals := 0 } : Room) (cr_pW D ct (cr_wK ct ak vk) sz [.ref (ak 0), .int x1]) (cr_QW D (cr_wK ct ak vk) sz (fun r (u : cr_V) => (r, u) = out) (fun u : cr_V => cr_wK ct ak u)) 0 0 (va_A (cr_wK ct ak vk) sz) := by
  have k0 : (Cond.fieldLink RX0 18 "CupReceipts$Contracts" "size" "I") ∈ wsX0_dropBefore := List.mem_of_getElem? (i := 1) rfl
  have k1 : (Cond.fieldLink RX0 9 "CupReceipts$Contracts" "months" "[I") ∈ wsX0_dropBefore := List.mem_of_getElem? (i := 2) rfl
  have k2 : (Cond.fieldLink RX0 15 "CupReceipts$Contracts" "prices" "[I") ∈ wsX0_dropBefore := List.mem_of_getElem? (i := 3) rfl
  have hinX0 : ∀ w ∈ wsX00, w ∈ wsX0_dropBefore := fun w h => List.mem_cons_of_mem _ (List.mem_append_right _ h)
  refine cr_metW (Qc := fun A => va_Qi (fun r (u : cr_V) => (r, u) = out) (fun u t => cr_at D A ((fun u : cr_V => cr_wK ct ak u) u) t) A) (by decide) rfl rfl (Nat.le_of_ble_eq_true rfl) ?_
  intro p e s m args below meth c ls A C hW hl
  obtain ⟨hx, hb, hml, hown, hts, hr, hlocks, hK, hN⟩ := id C
  have hl : lv_has ls 4 [(0, .ref (ak 0)), (1, .int x1)] := hl
  have n49 : ∀ (k4_ : cr_V → Int32 → Int32 → Int32 → Option (Int32 × cr_V)) (ih4_ : ∀ (vk : cr_V) (x1 : Int32) (x2 : Int32) (x3 : Int32) (hE : k4_ vk x1 x2 x3 = some out) (H : Heap) (locs : List Loc) (ls : Array Slot) (hW : cr_wd D A s (cr_wK ct ak vk) H locs) (hl : lv_has ls 4 [(0, .ref (ak 0)), (1, .int x1), (2, .int x2), (3, .int x3)]), W p L e ({ frames := 0, cells := 0, slots := 0, locals := 0 } : Room) s m args below meth c H locs 0 0 (MQ below (va_Qi (fun r (u : cr_V) => (r, u) = out) (fun u t => cr_at D A ((fun u : cr_V => cr_wK ct ak u) u) t) A) args s 0 0 A) (F0 m 4 ls [])), ∀ (vk : cr_V) (x1 : Int32) (x2 : Int32) (x3 : Int32) (hE : f_X0_dropBefore_49 k4_ vk x1 x2 x3 = some out) (H : Heap) (locs : List Loc) (ls : Array Slot) (hW : cr_wd D A s (cr_wK ct ak vk) H locs) (hl : lv_has ls 4 [(0, .ref (ak 0)), (1, .int x1), (2, .int x2), (3, .int x3)]), W p L e ({ frames := 0, cells := 0, slots := 0, locals := 0 } : Room) s m args below meth c H locs 0 0 (MQ below (va_Qi (fun r (u : cr_V) => (r, u) = out) (fun u t => cr_at D A ((fun u : cr_V => cr_wK ct ak u) u) t) A) args s 0 0 A) (F0 m 49 ls []) := by
    intro k4_ ih4_ vk x1 x2 x3 hE H locs ls hW hl
    replace hE : (k4_ vk x1 x2 (x3 + 1)) = some out := hE
    refine lv_iinc (v := x3 + 1) (lv' := [(3, .int (x3 + 1)), (0, .ref (ak 0)), (1, .int x1), (2, .int x2)]) hx hb dX0_dropBefore_49 hl (k := 3) rfl (by first | rfl | decide) (by decide) rfl (fun ls hl => ?_)
    refine lv_goto (tgt := 4) hx hb dX0_dropBefore_52 (by decide) ?_
    exact ih4_ vk x1 x2 (x3 + 1) hE _ _ _ hW (lv_sub hl [1, 2, 3, 0] rfl)
  have n4 :  ∀ (n : Nat), ∀ (vk : cr_V) (x1 : Int32) (x2 : Int32) (x3 : Int32) (hE : f_X0_dropBefore_4  n vk x1 x2 x3 = some out) (H : Heap) (locs : List Loc) (ls : Array Slot) (hW : cr_wd D A s (cr_wK ct ak vk) H locs) (hl : lv_has ls 4 [(0, .ref (ak 0)), (1, .int x1), (2, .int x2), (3, .int x3)]), W p L e ({ frames := 0, cells := 0, slots := 0, locals := 0 } : Room) s m args below meth c H locs 0 0 (MQ below (va_Qi (fun r (u : cr_V) => (r, u) = out) (fun u t => cr_at D A ((fun u : cr_V => cr_wK ct ak u) u) t) A) args s 0 0 A) (F0 m 4 ls []) := by
    intro  n
    induction n with
    | zero =>
      intro vk x1 x2 x3 hE
      cases hE
    | succ n ih =>
      intro vk x1 x2 x3 hE H locs ls hW hl
      replace hE : (if (vk 2 0) ≤ x3 then (some (((vk 2 0) - x2), (cr_i vk 2 x2))) else (if cr_in x3 6 = true then if (vk 0 (cr_x x3)) < x1 then (f_X0_dropBefore_49 (f_X0_dropBefore_4 n) vk x1 x2 x3) else (if cr_in x2 6 = true then f_X0_dropBefore_49 (f_X0_dropBefore_4 n) (cr_a (cr_a vk 0 (cr_x x2) (vk 0 (cr_x x3))) 1 (cr_x x2) (vk 1 (cr_x x3))) x1 (x2 + 1) x3 else none) else none)) = some out := hE
      refine lv_iload_n hx hb dX0_dropBefore_4 rfl (lv_at hl 3 rfl) ?_
      refine lv_aload_n hx hb dX0_dropBefore_5 rfl (lv_at hl 0 rfl) ?_
      refine cr_get C hW.1 0 rfl rfl 2 (by decide) hinX0 k0 (v := .int (vk 2 0)) rfl dX0_dropBefore_6 ?_
      refine lv_icmp_ge (tgt := 55) hx hb dX0_dropBefore_9 (by decide) (fun c1 => ?_) (fun c1 => ?_)
      · rw [if_pos c1] at hE
        refine lv_aload_n hx hb dX0_dropBefore_55 rfl (lv_at hl 0 rfl) ?_
        refine cr_get C hW.1 0 rfl rfl 2 (by decide) hinX0 k0 (v := .int (vk 2 0)) rfl dX0_dropBefore_56 ?_
        refine lv_iload_n hx hb dX0_dropBefore_59 rfl (lv_at hl 2 rfl) ?_
        refine lv_isub hx hb dX0_dropBefore_60 ?_
        refine lv_istore_n (lv' := [(3, .int ((vk 2 0) - x2)), (0, .ref (ak 0)), (1, .int x1), (2, .int x2)]) hx hb dX0_dropBefore_61 rfl hl (by decide) rfl (fun ls hl => ?_)
        refine lv_aload_n hx hb dX0_dropBefore_62 rfl (lv_at hl 1 rfl) ?_
        refine lv_iload_n hx hb dX0_dropBefore_63 rfl (lv_at hl 3 rfl) ?_
        refine cr_put C hW 0 rfl rfl tyX0 tyX0_ok nmX0 2 (by decide) hinX0 k0 rfl rfl rfl rfl (Nat.le_of_ble_eq_true rfl) (w' := cr_wK ct ak (cr_i vk 2 x2)) rfl dX0_dropBefore_64 (fun H locs hW => ?_)
        refine lv_iload_n hx hb dX0_dropBefore_67 rfl (lv_at hl 0 rfl) ?_
        exact cr_retW C (w := (fun u : cr_V => cr_wK ct ak u)) (cr_i vk 2 x2) hW (Option.some.inj hE) dX0_dropBefore_68
      · rw [if_neg c1] at hE
        refine lv_aload_n hx hb dX0_dropBefore_12 rfl (lv_at hl 0 rfl) ?_
        refine cr_get C hW.1 0 rfl rfl 0 (by decide) hinX0 k1 (v := .ref (ak 1)) rfl dX0_dropBefore_13 ?_
        refine lv_iload_n hx hb dX0_dropBefore_16 rfl (lv_at hl 3 rfl) ?_
        obtain ⟨i2, hE⟩ := cr_ifn hE
        refine cr_ald C hW.1 1 (f := vk 0) (k := cr_x x3) rfl i2 (cr_xe _) dX0_dropBefore_17 ?_
        refine lv_iload_n hx hb dX0_dropBefore_18 rfl (lv_at hl 1 rfl) ?_
        refine lv_icmp_lt (tgt := 49) hx hb dX0_dropBefore_19 (by decide) (fun c3 => ?_) (fun c3 => ?_)
        · rw [if_pos c3] at hE
          exact n49 (f_X0_dropBefore_4 n) ih vk x1 x2 x3 hE _ _ _ hW (lv_sub hl [0, 1, 2, 3] rfl)
        · rw [if_neg c3] at hE
          refine lv_aload_n hx hb dX0_dropBefore_22 rfl (lv_at hl 0 rfl) ?_
          refine cr_get C hW.1 0 rfl rfl 0 (by decide) hinX0 k1 (v := .ref (ak 1)) rfl dX0_dropBefore_23 ?_
          refine lv_iload_n hx hb dX0_dropBefore_26 rfl (lv_at hl 2 rfl) ?_
          refine lv_aload_n hx hb dX0_dropBefore_27 rfl (lv_at hl 0 rfl) ?_
          refine cr_get C hW.1 0 rfl rfl 0 (by decide) hinX0 k1 (v := .ref (ak 1)) rfl dX0_dropBefore_28 ?_
          refine lv_iload_n hx hb dX0_dropBefore_31 rfl (lv_at hl 3 rfl) ?_
          refine cr_ald C hW.1 1 (f := vk 0) (k := cr_x x3) rfl i2 (cr_xe _) dX0_dropBefore_32 ?_
          obtain ⟨i4, hE⟩ := cr_ifn hE
          refine cr_ast C hW 1 rfl (k := (cr_x x2)) i4 (cr_xe _) (w' := cr_wK ct ak (cr_a vk 0 (cr_x x2) (vk 0 (cr_x x3)))) rfl dX0_dropBefore_33 (fun H locs hW => ?_)
          refine lv_aload_n hx hb dX0_dropBefore_34 rfl (lv_at hl 0 rfl) ?_
          refine cr_get C hW.1 0 rfl rfl 1 (by decide) hinX0 k2 (v := .ref (ak 2)) rfl dX0_dropBefore_35 ?_
          refine lv_iload_n hx hb dX0_dropBefore_38 rfl (lv_at hl 2 rfl) ?_
          refine lv_aload_n hx hb dX0_dropBefore_39 rfl (lv_at hl 0 rfl) ?_
          refine cr_get C hW.1 0 rfl rfl 1 (by decide) hinX0 k2 (v := .ref (ak 2)) rfl dX0_dropBefore_40 ?_
          refine lv_iload_n hx hb dX0_dropBefore_43 rfl (lv_at hl 3 rfl) ?_
          refine cr_ald C hW.1 2 (f := vk 1) (k := cr_x x3) rfl i2 (cr_xe _) dX0_dropBefore_44 ?_
          refine cr_ast C hW 2 rfl (k := (cr_x x2)) i4 (cr_xe _) (w' := cr_wK ct ak (cr_a (cr_a vk 0 (cr_x x2) (vk 0 (cr_x x3))) 1 (cr_x x2) (vk 1 (cr_x x3)))) rfl dX0_dropBefore_45 (fun H locs hW => ?_)
          refine lv_iinc (v := x2 + 1) (lv' := [(2, .int (x2 + 1)), (0, .ref (ak 0)), (1, .int x1), (3, .int x3)]) hx hb dX0_dropBefore_46 hl (k := 2) rfl (by first | rfl | decide) (by decide) rfl (fun ls hl => ?_)
          exact n49 (f_X0_dropBefore_4 n) ih (cr_a (cr_a vk 0 (cr_x x2) (vk 0 (cr_x x3))) 1 (cr_x x2) (vk 1 (cr_x x3))) x1 (x2 + 1) x3 hE _ _ _ hW (lv_sub hl [1, 2, 0, 3] rfl)
  replace hE : (f_X0_dropBefore_4 10100 vk x1 0 0) = some out := hE
  refine lv_iconst (v := 0) hx hb dX0_dropBefore_0 (by decide) ?_
  refine lv_istore_n (lv' := [(2, .int 0), (0, .ref (ak 0)), (1, .int x1)]) hx hb dX0_dropBefore_1 rfl hl (by decide) rfl (fun ls hl => ?_)
  refine lv_iconst (v := 0) hx hb dX0_dropBefore_2 (by decide) ?_
  refine lv_istore_n (lv' := [(3, .int 0), (2, .int 0), (0, .ref (ak 0)), (1, .int x1)]) hx hb dX0_dropBefore_3 rfl hl (by decide) rfl (fun ls hl => ?_)
  exact n4 10100 vk x1 0 0 hE _ _ _ hW (lv_sub hl [2, 3, 1, 0] rfl)
