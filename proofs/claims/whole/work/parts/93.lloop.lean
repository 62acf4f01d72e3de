/-! the law's loop -/
set_option maxHeartbeats 4000000 in
set_option maxRecDepth 100000 in
theorem law_loop {p : Program} {L : Launch} {e : Env} {s : State} {m : MethodId} {below : List Frame} {meth : Method} {c : Code} {D : va_G} {ct : Nat → ClassId} {b Ln : Nat} {xs : Nat → Int32} {a : Nat → Nat → Nat} {az : Nat → Nat} (hNF : cr_NF s) (hST : cr_ST (lwA s) s s.heap) (C : cr_Cx p s m meth c #[Value.ref b] RL wsL_law cL_law 4 (some .boolean) D ct) (hX : va_X b Ln xs s s.heap) (hbl : b < s.heap.size) (hL : Ln ≤ 2560) :
    ∀ (n i : Nat), i ≤ Ln + 4 → Ln + 5 ≤ i + n → ∀ (ls : Array Slot) (hl : lv_has ls 4 [(3, .int (nI i)), (2, .ref (az 0)), (1, .ref (a 0 0)), (0, .ref b)]) (r : Nat → Nat → Nat → Nat) (vh vl vk vt vtl vtk vs : cr_V) (vx : Nat → Nat → cr_V) (vd vo vz : cr_V) (H : Heap) (locs : List Loc), cr_wd D (lwA s) s (cr_wX ct a r vh vl vk vt vtl vtk vs vx vd vo ++ cr_wM ct az vz) H locs → lwR (12 * i) vh vl vk vs vo vz vx → W p L e room_1 s m #[Value.ref b] below meth c H locs 87 1281 (lw_Z below #[Value.ref b] s) (F0 m 18 ls []) := by
  obtain ⟨hx, hb, hml, hown, hts, hr, hlocks, hK, hN⟩ := id C
  have hbA : ¬ lwA s b := Nat.not_le.mpr hbl
  intro n
  induction n with
  | zero =>
    intro i h1 h2
    exact absurd h2 (by omega)
  | succ n ih =>
    intro i h1 h2 ls hl r vh vl vk vt vtl vtk vs vx vd vo vz H locs hW hR
    refine lv_iload_n hx hb dL_law_18 rfl (lv_at hl 0 rfl) ?_
    refine lv_aload_n hx hb dL_law_19 rfl (lv_at hl 3 rfl) ?_
    refine va_slen hx hb hX hbl hbA hW.2.2.1 dL_law_20 ?_
    refine lv_iconst (v := 5) hx hb dL_law_21 (by decide) ?_
    refine lv_isub hx hb dL_law_22 ?_
    have hsub : (nI Ln - nI 5).toInt = (Ln : Int) - 5 := pk_sub_toInt (by omega) (by omega)
    refine lv_icmp_gt (tgt := 862) hx hb dL_law_23 (by decide) (fun c1 => ?_) (fun c1 => ?_)
    · refine lv_iconst (v := 1) hx hb dL_law_862 (by decide) ?_
      refine va_forget (fun q hq => hW.2.2.1.2.2 q hq) ?_
      refine W.widen (k := 600000) (n := 7302250) (Nat.le_of_ble_eq_true rfl) (Nat.le_of_ble_eq_true rfl) ?_
      exact lw_ret (d0 := s.drawn) (Drawn.sameBut.refl s.drawn lw_cs) hx hb hr hlocks dL_law_863
    · have c2 : ¬ (nI Ln - nI 5) < nI i := c1
      rw [Int32.lt_iff_toInt_lt, hsub, nI_toInt (by omega)] at c2
      have hi : i + 5 ≤ Ln := by omega
      have hgo : lw_Go p L e s m b below meth c D ct a az (12 * i + 60) (lw_Z below #[Value.ref b] s) ls := by
        intro r vh vl vk vt vtl vtk vs vx vd vo vz H locs hW hR
        refine lv_iinc (v := nI (i + 5)) (lv' := [(3, .int (nI (i + 5))), (2, .ref (az 0)), (1, .ref (a 0 0)), (0, .ref b)]) hx hb dL_law_856 hl (k := 0) rfl (by first | exact nI_add i 5 | exact (nI_add i 5).symm) (by decide) rfl (fun ls hl => ?_)
        refine lv_goto (tgt := 18) hx hb dL_law_859 (by decide) ?_
        exact ih (i + 5) (by omega) (by omega) ls hl r vh vl vk vt vtl vtk vs vx vd vo vz H locs hW (by rw [Nat.mul_add]; exact hR)
      refine lv_aload_n hx hb dL_law_26 rfl (lv_at hl 3 rfl) ?_
      refine lv_iload_n hx hb dL_law_27 rfl (lv_at hl 0 rfl) ?_
      refine lw_ld0 C hX hbl hbA hW.2.2.1 (by omega) (by omega) dL_law_28 ?_
      refine lv_bipush (v := 31) hx hb dL_law_29 (by decide) ?_
      refine lv_iand hx hb dL_law_31 ?_
      obtain ⟨j, hj, ej⟩ := pk_andE (xs i) (m := 31) 5 (by decide)
      rw [ej]
      by_cases h24 : j < 24
      · rcases (show j = 0 ∨ j = 1 ∨ j = 2 ∨ j = 3 ∨ j = 4 ∨ j = 5 ∨ j = 6 ∨ j = 7 ∨ j = 8 ∨ j = 9 ∨ j = 10 ∨ j = 11 ∨ j = 12 ∨ j = 13 ∨ j = 14 ∨ j = 15 ∨ j = 16 ∨ j = 17 ∨ j = 18 ∨ j = 19 ∨ j = 20 ∨ j = 21 ∨ j = 22 ∨ j = 23 by omega) with rfl | rfl | rfl | rfl | rfl | rfl | rfl | rfl | rfl | rfl | rfl | rfl | rfl | rfl | rfl | rfl | rfl | rfl | rfl | rfl | rfl | rfl | rfl | rfl
        · refine lv_tableIn (tgt := 144) (off := 112) hx hb dL_law_32 (by decide) (by decide) (by rfl) (by decide) ?_
          exact law_0 hNF hST C hX hbl hi hL hl hW hR (by omega) hgo
        · refine lv_tableIn (tgt := 177) (off := 145) hx hb dL_law_32 (by decide) (by decide) (by rfl) (by decide) ?_
          exact law_1 hNF hST C hX hbl hi hL hl hW hR (by omega) hgo
        · refine lv_tableIn (tgt := 210) (off := 178) hx hb dL_law_32 (by decide) (by decide) (by rfl) (by decide) ?_
          exact law_2 hNF hST C hX hbl hi hL hl hW hR (by omega) hgo
        · refine lv_tableIn (tgt := 263) (off := 231) hx hb dL_law_32 (by decide) (by decide) (by rfl) (by decide) ?_
          exact law_3 hNF hST C hX hbl hi hL hl hW hR (by omega) hgo
        · refine lv_tableIn (tgt := 286) (off := 254) hx hb dL_law_32 (by decide) (by decide) (by rfl) (by decide) ?_
          exact law_4 hNF hST C hX hbl hi hL hl hW hR (by omega) hgo
        · refine lv_tableIn (tgt := 319) (off := 287) hx hb dL_law_32 (by decide) (by decide) (by rfl) (by decide) ?_
          exact law_5 hNF hST C hX hbl hi hL hl hW hR (by omega) hgo
        · refine lv_tableIn (tgt := 352) (off := 320) hx hb dL_law_32 (by decide) (by decide) (by rfl) (by decide) ?_
          exact law_6 hNF hST C hX hbl hi hL hl hW hR (by omega) hgo
        · refine lv_tableIn (tgt := 385) (off := 353) hx hb dL_law_32 (by decide) (by decide) (by rfl) (by decide) ?_
          exact law_7 hNF hST C hX hbl hi hL hl hW hR (by omega) hgo
        · refine lv_tableIn (tgt := 408) (off := 376) hx hb dL_law_32 (by decide) (by decide) (by rfl) (by decide) ?_
          exact law_8 hNF hST C hX hbl hi hL hl hW hR (by omega) hgo
        · refine lv_tableIn (tgt := 431) (off := 399) hx hb dL_law_32 (by decide) (by decide) (by rfl) (by decide) ?_
          exact law_9 hNF hST C hX hbl hi hL hl hW hR (by omega) hgo
        · refine lv_tableIn (tgt := 464) (off := 432) hx hb dL_law_32 (by decide) (by decide) (by rfl) (by decide) ?_
          exact law_10 hNF hST C hX hbl hi hL hl hW hR (by omega) hgo
        · refine lv_tableIn (tgt := 497) (off := 465) hx hb dL_law_32 (by decide) (by decide) (by rfl) (by decide) ?_
          exact law_11 hNF hST C hX hbl hi hL hl hW hR (by omega) hgo
        · refine lv_tableIn (tgt := 520) (off := 488) hx hb dL_law_32 (by decide) (by decide) (by rfl) (by decide) ?_
          exact law_12 hNF hST C hX hbl hi hL hl hW hR (by omega) hgo
        · refine lv_tableIn (tgt := 553) (off := 521) hx hb dL_law_32 (by decide) (by decide) (by rfl) (by decide) ?_
          exact law_13 hNF hST C hX hbl hi hL hl hW hR (by omega) hgo
        · refine lv_tableIn (tgt := 596) (off := 564) hx hb dL_law_32 (by decide) (by decide) (by rfl) (by decide) ?_
          exact law_14 hNF hST C hX hbl hi hL hl hW hR (by omega) hgo
        · refine lv_tableIn (tgt := 639) (off := 607) hx hb dL_law_32 (by decide) (by decide) (by rfl) (by decide) ?_
          exact law_15 hNF hST C hX hbl hi hL hl hW hR (by omega) hgo
        · refine lv_tableIn (tgt := 672) (off := 640) hx hb dL_law_32 (by decide) (by decide) (by rfl) (by decide) ?_
          exact law_16 hNF hST C hX hbl hi hL hl hW hR (by omega) hgo
        · refine lv_tableIn (tgt := 715) (off := 683) hx hb dL_law_32 (by decide) (by decide) (by rfl) (by decide) ?_
          exact law_17 hNF hST C hX hbl hi hL hl hW hR (by omega) hgo
        · refine lv_tableIn (tgt := 748) (off := 716) hx hb dL_law_32 (by decide) (by decide) (by rfl) (by decide) ?_
          exact law_18 hNF hST C hX hbl hi hL hl hW hR (by omega) hgo
        · refine lv_tableIn (tgt := 771) (off := 739) hx hb dL_law_32 (by decide) (by decide) (by rfl) (by decide) ?_
          exact law_19 hNF hST C hX hbl hi hL hl hW hR (by omega) hgo
        · refine lv_tableIn (tgt := 784) (off := 752) hx hb dL_law_32 (by decide) (by decide) (by rfl) (by decide) ?_
          exact law_20 hNF hST C hX hbl hi hL hl hW hR (by omega) hgo
        · refine lv_tableIn (tgt := 807) (off := 775) hx hb dL_law_32 (by decide) (by decide) (by rfl) (by decide) ?_
          exact law_21 hNF hST C hX hbl hi hL hl hW hR (by omega) hgo
        · refine lv_tableIn (tgt := 820) (off := 788) hx hb dL_law_32 (by decide) (by decide) (by rfl) (by decide) ?_
          exact law_22 hNF hST C hX hbl hi hL hl hW hR (by omega) hgo
        · refine lv_tableIn (tgt := 843) (off := 811) hx hb dL_law_32 (by decide) (by decide) (by rfl) (by decide) ?_
          exact law_23 hNF hST C hX hbl hi hL hl hW hR (by omega) hgo
      · refine lv_tableOut (tgt := 856) hx hb dL_law_32 (Or.inr (by rw [nI_toInt (by omega)]; omega)) (by decide) ?_
        exact hgo r vh vl vk vt vtl vtk vs vx vd vo vz H locs hW (hR.mono (by omega))
