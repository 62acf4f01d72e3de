set_option maxHeartbeats 4000000 in
set_option maxRecDepth 100000 in
theorem lw_start2 {p : Program} {L : Launch} {e : Env} {s : State} {m : MethodId} {below : List Frame} {meth : Method} {c0 : Code} {D : va_G} {ct : Nat → ClassId} {b Ln : Nat} {xs : Nat → Int32} {a : Nat → Nat → Nat} {bg bl bc : Nat → Nat} (hNF : cr_NF s) (hST : cr_ST (lwA s) s s.heap) (C : cr_Cx p s m meth c0 #[Value.ref b] RL wsL_law cL_law 8 (some .boolean) D ct) (hX : va_X b Ln xs s s.heap) (hbl : b < s.heap.size) (hL : Ln ≤ 260) {r : Nat → Nat → Nat → Nat} {H : Heap} {locs : List Loc} {ls : Array Slot} (hW : cr_wd D (lwA s) s (cr_wN ct 17 bg cr_zV ++ (cr_wN ct 52 bl cr_zV ++ (cr_wN ct 12 bc cr_zV ++ cr_wXt ct a r lw_X0))) H locs) (hl : lv_has ls 8 [(4, .ref (bc 0)), (3, .ref (bl 0)), (2, .ref (bg 0)), (1, .ref (a 0 0)), (0, .ref b)]) : W p L e room_1 s m #[Value.ref b] below meth c0 H locs 82 770 (lw_Z below #[Value.ref b] s) (F0 m 24 ls []) := by
  obtain ⟨hx, hb, hml, hown, hts, hr, hlocks, hK, hN⟩ := id C
  refine lv_aload_n hx hb dL_law_24 rfl (lv_at hl 2 rfl) ?_
  refine lv_bipush (v := 8) hx hb dL_law_25 (by decide) ?_
  refine lv_bipush (v := 100) hx hb dL_law_27 (by decide) ?_
  refine cr_ast C hW 0 rfl (k := 8) (by decide) (by decide) (w' := cr_wN ct 17 bg (cr_a cr_zV 0 8 100) ++ (cr_wN ct 52 bl cr_zV ++ (cr_wN ct 12 bc cr_zV ++ cr_wXt ct a r lw_X0))) rfl dL_law_29 (fun H locs hW => ?_)
  refine lv_aload_n hx hb dL_law_30 rfl (lv_at hl 2 rfl) ?_
  refine lv_bipush (v := 9) hx hb dL_law_31 (by decide) ?_
  refine lv_sipush (v := 2388) hx hb dL_law_33 (by decide) ?_
  refine cr_ast C hW 0 rfl (k := 9) (by decide) (by decide) (w' := cr_wN ct 17 bg (cr_a (cr_a cr_zV 0 8 100) 0 9 2388) ++ (cr_wN ct 52 bl cr_zV ++ (cr_wN ct 12 bc cr_zV ++ cr_wXt ct a r lw_X0))) rfl dL_law_36 (fun H locs hW => ?_)
  refine lv_aload_n hx hb dL_law_37 rfl (lv_at hl 2 rfl) ?_
  refine lv_bipush (v := 10) hx hb dL_law_38 (by decide) ?_
  refine lv_iconst (v := 3) hx hb dL_law_40 (by decide) ?_
  refine cr_ast C hW 0 rfl (k := 10) (by decide) (by decide) (w' := cr_wN ct 17 bg (cr_a (cr_a (cr_a cr_zV 0 8 100) 0 9 2388) 0 10 3) ++ (cr_wN ct 52 bl cr_zV ++ (cr_wN ct 12 bc cr_zV ++ cr_wXt ct a r lw_X0))) rfl dL_law_41 (fun H locs hW => ?_)
  refine lv_aload_n hx hb dL_law_42 rfl (lv_at hl 2 rfl) ?_
  refine lv_bipush (v := 11) hx hb dL_law_43 (by decide) ?_
  refine lv_iconst (v := 2) hx hb dL_law_45 (by decide) ?_
  refine cr_ast C hW 0 rfl (k := 11) (by decide) (by decide) (w' := cr_wN ct 17 bg (cr_a (cr_a (cr_a (cr_a cr_zV 0 8 100) 0 9 2388) 0 10 3) 0 11 2) ++ (cr_wN ct 52 bl cr_zV ++ (cr_wN ct 12 bc cr_zV ++ cr_wXt ct a r lw_X0))) rfl dL_law_46 (fun H locs hW => ?_)
  refine lv_aload_n hx hb dL_law_47 rfl (lv_at hl 2 rfl) ?_
  refine lv_bipush (v := 12) hx hb dL_law_48 (by decide) ?_
  refine lv_bipush (v := 20) hx hb dL_law_50 (by decide) ?_
  refine cr_ast C hW 0 rfl (k := 12) (by decide) (by decide) (w' := cr_wN ct 17 bg (cr_a (cr_a (cr_a (cr_a (cr_a cr_zV 0 8 100) 0 9 2388) 0 10 3) 0 11 2) 0 12 20) ++ (cr_wN ct 52 bl cr_zV ++ (cr_wN ct 12 bc cr_zV ++ cr_wXt ct a r lw_X0))) rfl dL_law_52 (fun H locs hW => ?_)
  refine lv_aload_n hx hb dL_law_53 rfl (lv_at hl 2 rfl) ?_
  refine lv_bipush (v := 13) hx hb dL_law_54 (by decide) ?_
  refine lv_bipush (v := 100) hx hb dL_law_56 (by decide) ?_
  refine cr_ast C hW 0 rfl (k := 13) (by decide) (by decide) (w' := cr_wN ct 17 bg (cr_a (cr_a (cr_a (cr_a (cr_a (cr_a cr_zV 0 8 100) 0 9 2388) 0 10 3) 0 11 2) 0 12 20) 0 13 100) ++ (cr_wN ct 52 bl cr_zV ++ (cr_wN ct 12 bc cr_zV ++ cr_wXt ct a r lw_X0))) rfl dL_law_58 (fun H locs hW => ?_)
  refine lv_aload_n hx hb dL_law_59 rfl (lv_at hl 2 rfl) ?_
  refine lv_bipush (v := 14) hx hb dL_law_60 (by decide) ?_
  refine lv_sipush (v := 150) hx hb dL_law_62 (by decide) ?_
  refine cr_ast C hW 0 rfl (k := 14) (by decide) (by decide) (w' := cr_wN ct 17 bg (cr_a (cr_a (cr_a (cr_a (cr_a (cr_a (cr_a cr_zV 0 8 100) 0 9 2388) 0 10 3) 0 11 2) 0 12 20) 0 13 100) 0 14 150) ++ (cr_wN ct 52 bl cr_zV ++ (cr_wN ct 12 bc cr_zV ++ cr_wXt ct a r lw_X0))) rfl dL_law_65 (fun H locs hW => ?_)
  refine lv_aload_n hx hb dL_law_66 rfl (lv_at hl 2 rfl) ?_
  refine lv_bipush (v := 15) hx hb dL_law_67 (by decide) ?_
  refine lv_sipush (v := 200) hx hb dL_law_69 (by decide) ?_
  refine cr_ast C hW 0 rfl (k := 15) (by decide) (by decide) (w' := cr_wN ct 17 bg (cr_a (cr_a (cr_a (cr_a (cr_a (cr_a (cr_a (cr_a cr_zV 0 8 100) 0 9 2388) 0 10 3) 0 11 2) 0 12 20) 0 13 100) 0 14 150) 0 15 200) ++ (cr_wN ct 52 bl cr_zV ++ (cr_wN ct 12 bc cr_zV ++ cr_wXt ct a r lw_X0))) rfl dL_law_72 (fun H locs hW => ?_)
  refine lv_aload_n hx hb dL_law_73 rfl (lv_at hl 2 rfl) ?_
  refine lv_bipush (v := 16) hx hb dL_law_74 (by decide) ?_
  refine lv_sipush (v := 300) hx hb dL_law_76 (by decide) ?_
  refine cr_ast C hW 0 rfl (k := 16) (by decide) (by decide) (w' := cr_wN ct 17 bg (cr_a (cr_a (cr_a (cr_a (cr_a (cr_a (cr_a (cr_a (cr_a cr_zV 0 8 100) 0 9 2388) 0 10 3) 0 11 2) 0 12 20) 0 13 100) 0 14 150) 0 15 200) 0 16 300) ++ (cr_wN ct 52 bl cr_zV ++ (cr_wN ct 12 bc cr_zV ++ cr_wXt ct a r lw_X0))) rfl dL_law_79 (fun H locs hW => ?_)
  have hR := lw_init
  refine lv_aload_n hx hb dL_law_80 rfl (lv_at hl 3 rfl) ?_
  refine lv_aload_n hx hb dL_law_81 rfl (lv_at hl 2 rfl) ?_
  refine lv_aload_n hx hb dL_law_82 rfl (lv_at hl 1 rfl) ?_
  refine lv_aload hx hb dL_law_83 (lv_at hl 0 rfl) ?_
  refine cl_sRw (nb := 4) (n := 4) (As := [.ref (a 0 0), .ref (bg 0), .ref (bl 0), .ref (bc 0)]) (rest := []) C hW (m_L_isSo L D ct bg bl bc a r lw_G0 cr_zV cr_zV lw_X0 1 (n_isSo (by omega) hR.2.1 hR.1 hR.2.2)) (va_cwS 4 hts gL_law_L_isSo rfl rfl rfl (by decide +kernel) ⟨Nat.le_of_ble_eq_true rfl, Nat.le_of_ble_eq_true rfl⟩) [0, 1, 2, 3] [cr_wN ct 17 bg lw_G0, cr_wN ct 52 bl cr_zV, cr_wN ct 12 bc cr_zV, cr_wXt ct a r lw_X0] ⟨rfl, rfl⟩ rfl rfl hl.1 rfl (Nat.le_of_ble_eq_true rfl) dL_law_85 ⟨Nat.le_of_ble_eq_true rfl, Nat.le_of_ble_eq_true rfl⟩ (fun H locs hW => ?_)
  refine lv_istore (lv' := [(5, .int 1), (4, .ref (bc 0)), (3, .ref (bl 0)), (2, .ref (bg 0)), (1, .ref (a 0 0)), (0, .ref b)]) hx hb dL_law_88 hl (by decide) rfl (fun ls hl => ?_)
  refine lv_iconst (v := 0) hx hb dL_law_90 (by decide) ?_
  refine lv_istore (lv' := [(6, .int 0), (5, .int 1), (4, .ref (bc 0)), (3, .ref (bl 0)), (2, .ref (bg 0)), (1, .ref (a 0 0)), (0, .ref b)]) hx hb dL_law_91 hl (by decide) rfl (fun ls hl => ?_)
  exact lw_loop1 hNF hST C hX hbl hL 5 0 (by omega) (by omega) ls (lv_sub hl [0, 1, 2, 3, 4, 5, 6] rfl) r lw_S0 lw_G0 cr_zV cr_zV lw_X0 H locs 82 770 rfl rfl hW hR
set_option maxHeartbeats 4000000 in
set_option maxRecDepth 100000 in
theorem whole_start {p : Program} {e : Env} {s : State} {m : MethodId} {below : List Frame} {meth : Method} {c : Code} (l : Launch) (hflags : l.flags = flags0) {b L : Nat} {xs : Nat → Int32} (hL : L ≤ 260) (C0 : lw_At p s m meth c b L xs) : W p l e room_1 s m #[Value.ref b] below meth c s.heap [] 0 0 (lw_Z below #[Value.ref b] s) (entryFrame m ([Value.ref b] : List Value).toArray 8) := by
  obtain ⟨hx, hb, hr, hml, hown, hts, hX, hbl, hlocks, hgv⟩ := id C0
  have htw : ∀ w ∈ wsL_law, w.before #[Value.ref b] s = true := fun w h => hts w (wsL_law_in w h)
  obtain ⟨D, hKc⟩ := lw_classes hts
  obtain ⟨ct, hKt⟩ := lw_arrays hts
  have hK : va_K D vwCl (cr_TY ct) s := ⟨hKc, hKt⟩
  have hNW := lw_NW hts
  have hNF := lw_NF hts
  have hNI := lw_NI hts
  have hFA : cr_FA (lwA s) s s.heap := by
    obtain ⟨t1, h1, h2⟩ := lw_st_FIRST_WORTHS hts hgv
    obtain ⟨t2, h3, h4⟩ := lw_st_FIRST_SETTINGS hts hgv
    exact ⟨t1, t2, h1, h2, h3, h4⟩
  have hST : cr_ST (lwA s) s s.heap := by
    obtain ⟨t1, h1, h2⟩ := lw_st_LEAST_SETTINGS hts hgv
    obtain ⟨t2, h3, h4⟩ := lw_st_MOST_SETTINGS hts hgv
    exact ⟨t1, t2, h1, h2, h3, h4⟩
  have C : cr_Cx p s m meth c #[Value.ref b] RL wsL_law cL_law 8 (some .boolean) D ct := ⟨hx, hb, hml, hown, htw, hr, hlocks, hK, hNW⟩
  have hW : cr_wd D (lwA s) s [] s.heap [] := ⟨fun k q h => by simp at h, ⟨fun i j p q h => by simp at h, fun k q h => by simp at h⟩, va_S.rf, fun q h => h⟩
  have hinX6 : ∀ w ∈ wsX60, w ∈ wsL_law := fun w h => List.mem_append_left _ (List.mem_append_left _ (List.mem_append_left _ (List.mem_append_left _ (List.mem_append_left _ (List.mem_append_left _ (List.mem_append_left _ (List.mem_append_right _ h)))))))
  have hl := lv_entry ([.ref b]) (n := 8) (Nat.le_of_ble_eq_true rfl)
  rw [lg_entry_eq]
  generalize (lg_sl ([.ref b]) ++ List.replicate (8 - (lg_sl ([.ref b])).length) Slot.unset).toArray = ls at hl ⊢
  have hl : lv_has ls 8 [(0, .ref b)] := hl
  refine cr_new C hW hinX6 tyX6 tyX6_ok (List.mem_of_getElem? (i := 0) rfl) (List.mem_of_getElem? (i := 1) rfl) (List.mem_of_getElem? (i := 2) rfl) (ci := 6) rfl (fs := [.null, .null, .null, .null, .null]) (fun j hj => by rcases (show j = 0 ∨ j = 1 ∨ j = 2 ∨ j = 3 ∨ j = 4 by omega) with rfl | rfl | rfl | rfl | rfl <;> rfl) (Nat.le_of_ble_eq_true rfl) (Nat.le_of_ble_eq_true rfl) dL_law_0 (fun x0 H hW => ?_)
  refine lv_dup hx hb dL_law_3 rfl ?_
  have hW := hW.perm List.perm_append_comm
  refine cr_iI hNI hFA C hW (m_X6_init l D ct x0 H.size) (cwI 0 htw gL_law_X6_init rfl rfl rfl (htw _ (List.mem_of_getElem? (i := 2) rfl)) (htw _ (List.mem_of_getElem? (i := 6) rfl)) (htw _ (List.mem_of_getElem? (i := 7) rfl)) rfl (by decide +kernel) ⟨Nat.le_of_ble_eq_true rfl, Nat.le_of_ble_eq_true rfl⟩) hl.1 (Nat.le_of_ble_eq_true rfl) dL_law_4 ⟨Nat.le_of_ble_eq_true rfl, Nat.le_of_ble_eq_true rfl⟩ (fun u H locs hu hV => ?_)
  subst hu
  obtain ⟨a, r⟩ := u
  refine lv_astore_n (lv' := [(1, .ref (a 0 0)), (0, .ref b)]) hx hb dL_law_7 rfl hl (by decide) rfl (fun ls hl => ?_)
  have hW := hV
  refine lv_bipush (v := 17) hx hb dL_law_8 (by decide) ?_
  refine cr_newa C hW (atype := .int) (List.mem_of_getElem? (i := 3) rfl) 0 rfl rfl (a0 := (17, .inl (fun _ => 0))) (fun _ => rfl) (by decide) (by decide) (Nat.le_of_ble_eq_true rfl) (Nat.le_of_ble_eq_true rfl) (Nat.le_of_ble_eq_true rfl) dL_law_10 (fun qg H hW => ?_)
  have hW := hW.perm List.perm_append_comm
  refine lv_astore_n (lv' := [(2, .ref qg), (1, .ref (a 0 0)), (0, .ref b)]) hx hb dL_law_12 rfl hl (by decide) rfl (fun ls hl => ?_)
  refine lv_bipush (v := 52) hx hb dL_law_13 (by decide) ?_
  refine cr_newa C hW (atype := .int) (List.mem_of_getElem? (i := 3) rfl) 0 rfl rfl (a0 := (52, .inl (fun _ => 0))) (fun _ => rfl) (by decide) (by decide) (Nat.le_of_ble_eq_true rfl) (Nat.le_of_ble_eq_true rfl) (Nat.le_of_ble_eq_true rfl) dL_law_15 (fun ql H hW => ?_)
  have hW := hW.perm List.perm_append_comm
  refine lv_astore_n (lv' := [(3, .ref ql), (2, .ref qg), (1, .ref (a 0 0)), (0, .ref b)]) hx hb dL_law_17 rfl hl (by decide) rfl (fun ls hl => ?_)
  refine lv_bipush (v := 12) hx hb dL_law_18 (by decide) ?_
  refine cr_newa C hW (atype := .int) (List.mem_of_getElem? (i := 3) rfl) 0 rfl rfl (a0 := (12, .inl (fun _ => 0))) (fun _ => rfl) (by decide) (by decide) (Nat.le_of_ble_eq_true rfl) (Nat.le_of_ble_eq_true rfl) (Nat.le_of_ble_eq_true rfl) dL_law_20 (fun qc H hW => ?_)
  have hW := hW.perm List.perm_append_comm
  refine lv_astore (lv' := [(4, .ref qc), (3, .ref ql), (2, .ref qg), (1, .ref (a 0 0)), (0, .ref b)]) hx hb dL_law_22 hl (by decide) rfl (fun ls hl => ?_)
  have hW : cr_wd D (lwA s) s (cr_wN ct 17 (fun _ => qg) cr_zV ++ (cr_wN ct 52 (fun _ => ql) cr_zV ++ (cr_wN ct 12 (fun _ => qc) cr_zV ++ cr_wXt ct a r lw_X0))) H locs := hW.perm (cr_blk (n := 4) (Ls := [cr_wN ct 12 (fun _ => qc) cr_zV, cr_wN ct 52 (fun _ => ql) cr_zV, cr_wN ct 17 (fun _ => qg) cr_zV, cr_wXt ct a r lw_X0]) [2, 1, 0, 3] rfl (by decide))
  exact lw_start2 (bg := fun _ => qg) (bl := fun _ => ql) (bc := fun _ => qc) hNF hST C hX hbl hL hW (lv_sub hl [0, 1, 2, 3, 4] rfl)
