set_option maxHeartbeats 4000000 in
set_option maxRecDepth 100000 in
theorem whole_start {p : Program} {e : Env} {s : State} {m : MethodId} {below : List Frame} {meth : Method} {c : Code} (l : Launch) (hflags : l.flags = flags0) {b L : Nat} {xs : Nat → Int32} (hL : L ≤ 2560) (C0 : lw_At p s m meth c b L xs) : W p l e room_1 s m #[Value.ref b] below meth c s.heap [] 0 0 (lw_Z below #[Value.ref b] s) (entryFrame m ([Value.ref b] : List Value).toArray 4) := by
  obtain ⟨hx, hb, hr, hml, hown, hts, hX, hbl, hlocks, hgv⟩ := id C0
  have htw : ∀ w ∈ wsL_law, w.before #[Value.ref b] s = true := fun w h => hts w (wsL_law_in w h)
  obtain ⟨D, hKc⟩ := lw_classes hts
  obtain ⟨ct, hKt⟩ := lw_arrays hts
  have hK : va_K D vwCl (cr_TY ct) s := ⟨hKc, hKt⟩
  have hNW := lw_NW hts
  have hNF := lw_NF hts
  have hNI := lw_NI hts
  have hFA : cr_FA (lwA s) s s.heap := by
    obtain ⟨t1, h1, h2⟩ := lw_st_FIRST_WORTHS hts hgv
    obtain ⟨t2, h3, h4⟩ := lw_st_FIRST_SETTINGS hts hgv
    exact ⟨t1, t2, h1, h2, h3, h4⟩
  have hST : cr_ST (lwA s) s s.heap := by
    obtain ⟨t1, h1, h2⟩ := lw_st_LEAST_SETTINGS hts hgv
    obtain ⟨t2, h3, h4⟩ := lw_st_MOST_SETTINGS hts hgv
    exact ⟨t1, t2, h1, h2, h3, h4⟩
  have C : cr_Cx p s m meth c #[Value.ref b] RL wsL_law cL_law 4 (some .boolean) D ct := ⟨hx, hb, hml, hown, htw, hr, hlocks, hK, hNW⟩
  have hW : cr_wd D (lwA s) s [] s.heap [] := ⟨fun k q h => by simp at h, ⟨fun i j p q h => by simp at h, fun k q h => by simp at h⟩, va_S.rf, fun q h => h⟩
  have hinX6 : ∀ w ∈ wsX60, w ∈ wsL_law := fun w h => List.mem_append_left _ (List.mem_append_left _ (List.mem_append_left _ (List.mem_append_left _ (List.mem_append_left _ (List.mem_append_left _ (List.mem_append_left _ (List.mem_append_left _ (List.mem_append_right _ h))))))))
  have hinX7 : ∀ w ∈ wsX70, w ∈ wsL_law := fun w h => List.mem_append_left _ (List.mem_append_left _ (List.mem_append_left _ (List.mem_append_left _ (List.mem_append_left _ (List.mem_append_left _ (List.mem_append_left _ (List.mem_append_right _ h)))))))
  have hl := lv_entry ([.ref b]) (n := 4) (Nat.le_of_ble_eq_true rfl)
  rw [lg_entry_eq]
  generalize (lg_sl ([.ref b]) ++ List.replicate (4 - (lg_sl ([.ref b])).length) Slot.unset).toArray = ls at hl ⊢
  have hl : lv_has ls 4 [(0, .ref b)] := hl
  refine cr_new C hW hinX6 tyX6 tyX6_ok (List.mem_of_getElem? (i := 0) rfl) (List.mem_of_getElem? (i := 1) rfl) (List.mem_of_getElem? (i := 2) rfl) (ci := 6) rfl (fs := [.null, .null, .null, .null, .null]) (fun j hj => by rcases (show j = 0 ∨ j = 1 ∨ j = 2 ∨ j = 3 ∨ j = 4 by omega) with rfl | rfl | rfl | rfl | rfl <;> rfl) (Nat.le_of_ble_eq_true rfl) (Nat.le_of_ble_eq_true rfl) dL_law_0 (fun x0 H hW => ?_)
  refine lv_dup hx hb dL_law_3 rfl ?_
  have hW := hW.perm List.perm_append_comm
  refine cr_iI hNI hFA C hW (m_X6_init l D ct x0 H.size) (cwI 0 htw gL_law_X6_init rfl rfl rfl (htw _ (List.mem_of_getElem? (i := 2) rfl)) (htw _ (List.mem_of_getElem? (i := 6) rfl)) (htw _ (List.mem_of_getElem? (i := 7) rfl)) rfl (by decide +kernel) ⟨Nat.le_of_ble_eq_true rfl, Nat.le_of_ble_eq_true rfl⟩) hl.1 (Nat.le_of_ble_eq_true rfl) dL_law_4 ⟨Nat.le_of_ble_eq_true rfl, Nat.le_of_ble_eq_true rfl⟩ (fun u H locs hu hV => ?_)
  subst hu
  obtain ⟨a, r⟩ := u
  refine lv_astore_n (lv' := [(1, .ref (a 0 0)), (0, .ref b)]) hx hb dL_law_7 rfl hl (by decide) rfl (fun ls hl => ?_)
  refine cr_new C hV hinX7 tyX7 tyX7_ok (List.mem_of_getElem? (i := 3) rfl) (List.mem_of_getElem? (i := 4) rfl) (List.mem_of_getElem? (i := 5) rfl) (ci := 7) rfl (fs := [.null, .null, .null, .int 0, .int 0, .null, .int 0, .null, .null, .int 0, .int 0, .int 0, .int 0, .int 0, .int 0, .int 0, .int 0, .null]) (fun j hj => by rcases (show j = 0 ∨ j = 1 ∨ j = 2 ∨ j = 3 ∨ j = 4 ∨ j = 5 ∨ j = 6 ∨ j = 7 ∨ j = 8 ∨ j = 9 ∨ j = 10 ∨ j = 11 ∨ j = 12 ∨ j = 13 ∨ j = 14 ∨ j = 15 ∨ j = 16 ∨ j = 17 by omega) with rfl | rfl | rfl | rfl | rfl | rfl | rfl | rfl | rfl | rfl | rfl | rfl | rfl | rfl | rfl | rfl | rfl | rfl <;> rfl) (Nat.le_of_ble_eq_true rfl) (Nat.le_of_ble_eq_true rfl) dL_law_8 (fun z0 H hW2 => ?_)
  refine lv_dup hx hb dL_law_11 rfl ?_
  have hW3 := hW2.perm List.perm_append_comm
  refine cr_iW C hW3 (m_X7_init l D ct z0 H.size) (cwI 0 htw gL_law_X7_init rfl rfl rfl (htw _ (List.mem_of_getElem? (i := 5) rfl)) (htw _ (List.mem_of_getElem? (i := 83) rfl)) (htw _ (List.mem_of_getElem? (i := 84) rfl)) rfl (by decide +kernel) ⟨Nat.le_of_ble_eq_true rfl, Nat.le_of_ble_eq_true rfl⟩) hl.1 (Nat.le_of_ble_eq_true rfl) dL_law_12 ⟨Nat.le_of_ble_eq_true rfl, Nat.le_of_ble_eq_true rfl⟩ (fun az H locs hu hV4 => ?_)
  subst hu
  refine lv_astore_n (lv' := [(2, .ref (az 0)), (1, .ref (a 0 0)), (0, .ref b)]) hx hb dL_law_15 rfl hl (by decide) rfl (fun ls hl => ?_)
  refine lv_iconst (v := 0) hx hb dL_law_16 (by decide) ?_
  refine lv_istore_n (lv' := [(3, .int 0), (2, .ref (az 0)), (1, .ref (a 0 0)), (0, .ref b)]) hx hb dL_law_17 rfl hl (by decide) rfl (fun ls hl => ?_)
  have hW5 : cr_wd D (lwA s) s (cr_wX ct a r cr_hV cr_zV cr_zV cr_hV cr_zV cr_zV cr_zV cr_xV cr_zV cr_zV ++ cr_wM ct az cr_zM) H locs := hV4.perm List.perm_append_comm
  exact law_loop hNF hST C hX hbl hL (L + 5) 0 (by omega) (by omega) ls hl r cr_hV cr_zV cr_zV cr_hV cr_zV cr_zV cr_zV cr_xV cr_zV cr_zV cr_zM H locs hW5 lw_init
