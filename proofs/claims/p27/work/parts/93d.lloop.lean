set_option maxHeartbeats 4000000 in
set_option maxRecDepth 100000 in
theorem lw_end {p : Program} {L : Launch} {e : Env} {s : State} {m : MethodId} {below : List Frame} {meth : Method} {c0 : Code} {D : va_G} {ct : Nat → ClassId} {b Ln : Nat} {xs : Nat → Int32} {a : Nat → Nat → Nat} {bg bl bc : Nat → Nat} (hNF : cr_NF s) (hST : cr_ST (lwA s) s s.heap) (C : cr_Cx p s m meth c0 #[Value.ref b] RL wsL_law cL_law 8 (some .boolean) D ct) (hX : va_X b Ln xs s s.heap) (hbl : b < s.heap.size) (hL : Ln ≤ 260) {r : Nat → Nat → Nat → Nat} {S : cr_S} {g l c : cr_V} {X : cr_XT} {H : Heap} {locs : List Loc} {B cs sl : Nat} {ls : Array Slot} (hW : cr_wd D (lwA s) s (cr_wN ct 17 bg g ++ (cr_wN ct 52 bl l ++ (cr_wN ct 12 bc c ++ cr_wXt ct a r X))) H locs) (hR : LWS B S g l c X) (h1 : cs ≤ 1000) (h2 : sl ≤ 10000) (hl : lv_has ls 8 [(5, .int 1), (4, .ref (bc 0)), (3, .ref (bl 0)), (2, .ref (bg 0)), (1, .ref (a 0 0)), (0, .ref b)]) : W p L e room_1 s m #[Value.ref b] below meth c0 H locs cs sl (lw_Z below #[Value.ref b] s) (F0 m 233 ls []) := by
  obtain ⟨hx, hb, hml, hown, hts, hr, hlocks, hK, hN⟩ := id C
  have hcs : cs ≤ room_1.cells ∧ sl ≤ room_1.slots := ⟨Nat.le_trans h1 (Nat.le_of_ble_eq_true rfl), Nat.le_trans h2 (Nat.le_of_ble_eq_true rfl)⟩
  obtain ⟨⟨⟨HH, hC, hXX⟩, hT, hI⟩, hM, hi⟩ := id hR
  have k12 : ∀ u v : Int32, r_count S u v 12 = (-2000000001) := fun u v => rfl
  have k25 : ∀ u v : Int32, r_count S u v 25 = (-2000000001) := fun u v => rfl
  have kc : r_con S (-1) 0 = (-2000000001) := by
    unfold r_con
    rw [if_neg]
    rintro ⟨h, -⟩
    unfold s_open at h
    rw [if_pos (show (-1 : Int32) < 0 by decide)] at h
    exact absurd h (by decide)
  refine lv_iload hx hb dL_law_233 (lv_at hl 0 rfl) ?_
  refine lv_if_eq (tgt := 275) hx hb dL_law_235 (by decide) (fun c9 => absurd c9 (by decide)) (fun _ => ?_)
  refine lv_aload_n hx hb dL_law_238 rfl (lv_at hl 4 rfl) ?_
  refine lv_bipush (v := 12) hx hb dL_law_239 (by decide) ?_
  refine cl_vRw (nb := 4) (n := 1) (As := [.int 12]) (rest := []) C hW (m_X6_count L D ct a r X.1 X.2.1 X.2.2.1 X.2.2.2.1 X.2.2.2.2.1 X.2.2.2.2.2.1 X.2.2.2.2.2.2.1 X.2.2.2.2.2.2.2.1 X.2.2.2.2.2.2.2.2.1 X.2.2.2.2.2.2.2.2.2 12 (-2000000001) (by rw [p_X6_count hC, k12])) (cwV 1 hts gL_law_X6_count rfl rfl rfl (by decide +kernel) ⟨Nat.le_of_ble_eq_true rfl, Nat.le_of_ble_eq_true rfl⟩) [3] [cr_wN ct 17 bg g, cr_wN ct 52 bl l, cr_wN ct 12 bc c, cr_wXt ct a r X] ⟨rfl, rfl⟩ rfl 3 rfl rfl rfl hl.1 rfl (Nat.le_of_ble_eq_true rfl) dL_law_241 hcs (fun H locs hW => ?_)
  refine cr_ldc C (List.mem_of_getElem? (i := 5) rfl) dL_law_244 ?_
  refine lv_icmp_ne (tgt := 275) hx hb dL_law_246 (by decide) (fun c9 => absurd rfl c9) (fun _ => ?_)
  refine lv_aload_n hx hb dL_law_249 rfl (lv_at hl 4 rfl) ?_
  refine lv_bipush (v := 25) hx hb dL_law_250 (by decide) ?_
  refine cl_vRw (nb := 4) (n := 1) (As := [.int 25]) (rest := []) C hW (m_X6_count L D ct a r X.1 X.2.1 X.2.2.1 X.2.2.2.1 X.2.2.2.2.1 X.2.2.2.2.2.1 X.2.2.2.2.2.2.1 X.2.2.2.2.2.2.2.1 X.2.2.2.2.2.2.2.2.1 X.2.2.2.2.2.2.2.2.2 25 (-2000000001) (by rw [p_X6_count hC, k25])) (cwV 1 hts gL_law_X6_count rfl rfl rfl (by decide +kernel) ⟨Nat.le_of_ble_eq_true rfl, Nat.le_of_ble_eq_true rfl⟩) [3] [cr_wN ct 17 bg g, cr_wN ct 52 bl l, cr_wN ct 12 bc c, cr_wXt ct a r X] ⟨rfl, rfl⟩ rfl 3 rfl rfl rfl hl.1 rfl (Nat.le_of_ble_eq_true rfl) dL_law_252 hcs (fun H locs hW => ?_)
  refine cr_ldc C (List.mem_of_getElem? (i := 5) rfl) dL_law_255 ?_
  refine lv_icmp_ne (tgt := 275) hx hb dL_law_257 (by decide) (fun c9 => absurd rfl c9) (fun _ => ?_)
  refine lv_aload_n hx hb dL_law_260 rfl (lv_at hl 4 rfl) ?_
  refine lv_iconst (v := (-1)) hx hb dL_law_261 (by decide) ?_
  refine lv_iconst (v := 0) hx hb dL_law_262 (by decide) ?_
  refine cl_vRw (nb := 4) (n := 2) (As := [.int (-1), .int 0]) (rest := []) C hW (m_X6_contractOf L D ct a r X.1 X.2.1 X.2.2.1 X.2.2.2.1 X.2.2.2.2.1 X.2.2.2.2.2.1 X.2.2.2.2.2.2.1 X.2.2.2.2.2.2.2.1 X.2.2.2.2.2.2.2.2.1 X.2.2.2.2.2.2.2.2.2 (-1) 0 (-2000000001) (by rw [p_X6_contractOf hC, kc])) (cwV 2 hts gL_law_X6_contractOf rfl rfl rfl (by decide +kernel) ⟨Nat.le_of_ble_eq_true rfl, Nat.le_of_ble_eq_true rfl⟩) [3] [cr_wN ct 17 bg g, cr_wN ct 52 bl l, cr_wN ct 12 bc c, cr_wXt ct a r X] ⟨rfl, rfl⟩ rfl 3 rfl rfl rfl hl.1 rfl (Nat.le_of_ble_eq_true rfl) dL_law_263 hcs (fun H locs hW => ?_)
  refine cr_ldc C (List.mem_of_getElem? (i := 5) rfl) dL_law_266 ?_
  refine lv_icmp_ne (tgt := 275) hx hb dL_law_268 (by decide) (fun c9 => absurd rfl c9) (fun _ => ?_)
  refine lv_iconst (v := 1) hx hb dL_law_271 (by decide) ?_
  refine lv_goto (tgt := 276) hx hb dL_law_272 (by decide) ?_
  refine va_forget (fun q hq => hW.2.2.1.2.2 q hq) ?_
  refine W.widen (k := 600000) (n := 7302250) (Nat.le_trans h1 (Nat.le_of_ble_eq_true rfl)) (Nat.le_trans h2 (Nat.le_of_ble_eq_true rfl)) ?_
  exact lw_ret hx hb hr hlocks dL_law_276
set_option maxHeartbeats 4000000 in
set_option maxRecDepth 100000 in
theorem lw_loop2 {p : Program} {L : Launch} {e : Env} {s : State} {m : MethodId} {below : List Frame} {meth : Method} {c0 : Code} {D : va_G} {ct : Nat → ClassId} {b Ln : Nat} {xs : Nat → Int32} {a : Nat → Nat → Nat} {bg bl bc : Nat → Nat} (hNF : cr_NF s) (hST : cr_ST (lwA s) s s.heap) (C : cr_Cx p s m meth c0 #[Value.ref b] RL wsL_law cL_law 8 (some .boolean) D ct) (hX : va_X b Ln xs s s.heap) (hbl : b < s.heap.size) (hL : Ln ≤ 260) {T : Nat} (hT : T ≤ 80) : ∀ (n k : Nat), k ≤ T → T + 1 ≤ k + n → ∀ (ls : Array Slot) (hl : lv_has ls 8 [(7, .int (nI k)), (6, .int (nI T)), (5, .int 1), (4, .ref (bc 0)), (3, .ref (bl 0)), (2, .ref (bg 0)), (1, .ref (a 0 0)), (0, .ref b)]) (r : Nat → Nat → Nat → Nat) (S : cr_S) (g l c : cr_V) (X : cr_XT) (H : Heap) (locs : List Loc) (cs sl : Nat), cs = 86 + k → sl = 870 + 25 * k → cr_wd D (lwA s) s (cr_wN ct 17 bg g ++ (cr_wN ct 52 bl l ++ (cr_wN ct 12 bc c ++ cr_wXt ct a r X))) H locs → LWS (12 + 3 * k) S g l c X → W p L e room_1 s m #[Value.ref b] below meth c0 H locs cs sl (lw_Z below #[Value.ref b] s) (F0 m 171 ls []) := by
  obtain ⟨hx, hb, hml, hown, hts, hr, hlocks, hK, hN⟩ := id C
  have hbA : ¬ lwA s b := Nat.not_le.mpr hbl
  intro n
  induction n with
  | zero => intro k h1 h2; omega
  | succ n ih =>
    intro k hk hn ls hl r S g l c X H locs cs sl hcs hsl hW hR
    have hcsl : cs ≤ 1000 ∧ sl ≤ 10000 := ⟨by omega, by omega⟩
    have hf : cs ≤ room_1.cells ∧ sl ≤ room_1.slots := ⟨Nat.le_trans hcsl.1 (Nat.le_of_ble_eq_true rfl), Nat.le_trans hcsl.2 (Nat.le_of_ble_eq_true rfl)⟩
    have hf1 : cs + 1 ≤ room_1.cells ∧ sl + 25 ≤ room_1.slots := ⟨Nat.le_trans (Nat.add_le_add_right hcsl.1 1) (Nat.le_of_ble_eq_true rfl), Nat.le_trans (Nat.add_le_add_right hcsl.2 25) (Nat.le_of_ble_eq_true rfl)⟩
    refine lv_iload hx hb dL_law_171 (lv_at hl 0 rfl) ?_
    refine lv_iload hx hb dL_law_173 (lv_at hl 1 rfl) ?_
    refine lv_icmp_ge (tgt := 233) hx hb dL_law_175 (by decide) (fun c1 => ?_) (fun c1 => ?_)
    · exact lw_end hNF hST C hX hbl hL hW hR hcsl.1 hcsl.2 (lv_sub hl [2, 3, 4, 5, 6, 7] rfl)
    · have hkT : k < T := Nat.lt_of_not_le fun q => c1 (nI_le q (by omega))
      refine lv_iload hx hb dL_law_178 (lv_at hl 2 rfl) ?_
      refine lv_if_eq (tgt := 233) hx hb dL_law_180 (by decide) (fun c9 => absurd c9 (by decide)) (fun _ => ?_)
      refine lv_aload_n hx hb dL_law_183 rfl (lv_at hl 6 rfl) ?_
      refine lv_aload_n hx hb dL_law_184 rfl (lv_at hl 5 rfl) ?_
      refine lv_aload_n hx hb dL_law_185 rfl (lv_at hl 4 rfl) ?_
      refine lv_aload hx hb dL_law_186 (lv_at hl 3 rfl) ?_
      refine lv_aload_n hx hb dL_law_188 rfl (lv_at hl 7 rfl) ?_
      refine lv_iconst (v := 5) hx hb dL_law_189 (by decide) ?_
      refine lv_iload hx hb dL_law_190 (lv_at hl 0 rfl) ?_
      refine lv_iadd hx hb dL_law_192 ?_
      rw [show (5 : Int32) + nI k = nI (5 + k) from nI_add 5 k]
      refine cl_cell (As := [.ref b, .int (nI (5 + k))]) (rest := [.ref (bc 0), .ref (bl 0), .ref (bg 0), .ref (a 0 0)]) C hX hbl hbA hW (m_L_cell L hL (k := 5 + k) (by omega)) (va_cwS 2 hts gL_law_L_cell rfl rfl rfl (by decide +kernel) ⟨Nat.le_of_ble_eq_true rfl, Nat.le_of_ble_eq_true rfl⟩) rfl hl.1 rfl (Nat.le_of_ble_eq_true rfl) dL_law_193 hf (fun z193 H locs hW => ?_)
      refine lv_sipush (v := 7919) hx hb dL_law_196 (by decide) ?_
      refine lv_iload hx hb dL_law_199 (lv_at hl 0 rfl) ?_
      refine lv_imul hx hb dL_law_201 ?_
      refine lv_ixor hx hb dL_law_202 ?_
      obtain ⟨S', g', l', c', X', eA, hR⟩ := n_acts hR (by omega) (z193 ^^^ (7919 * nI k))
      refine cl_acts (As := [.ref (a 0 0), .ref (bg 0), .ref (bl 0), .ref (bc 0), .int (z193 ^^^ (7919 * nI k))]) (rest := []) hNF hST C hW (m_L_acts L D ct bg bl bc a r g l c X _ H.size _ eA) (va_cwS 5 hts gL_law_L_acts rfl rfl rfl (by decide +kernel) ⟨Nat.le_of_ble_eq_true rfl, Nat.le_of_ble_eq_true rfl⟩) rfl hl.1 rfl (Nat.le_of_ble_eq_true rfl) dL_law_203 hf1 (fun r H locs hW => ?_)
      refine lv_if_eq (tgt := 224) hx hb dL_law_206 (by decide) (fun c9 => absurd (show (1 : Int32) = 0 from c9) (by decide)) (fun _ => ?_)
      refine lv_aload_n hx hb dL_law_209 rfl (lv_at hl 6 rfl) ?_
      refine lv_aload_n hx hb dL_law_210 rfl (lv_at hl 5 rfl) ?_
      refine lv_aload_n hx hb dL_law_211 rfl (lv_at hl 4 rfl) ?_
      refine lv_aload hx hb dL_law_212 (lv_at hl 3 rfl) ?_
      refine cl_sRw (nb := 4) (n := 4) (As := [.ref (a 0 0), .ref (bg 0), .ref (bl 0), .ref (bc 0)]) (rest := []) C hW (m_L_isSo L D ct bg bl bc a r g' l' c' X' 1 (n_isSo (by omega) hR.2.1 hR.1 hR.2.2)) (va_cwS 4 hts gL_law_L_isSo rfl rfl rfl (by decide +kernel) ⟨Nat.le_of_ble_eq_true rfl, Nat.le_of_ble_eq_true rfl⟩) [0, 1, 2, 3] [cr_wN ct 17 bg g', cr_wN ct 52 bl l', cr_wN ct 12 bc c', cr_wXt ct a r X'] ⟨rfl, rfl⟩ rfl rfl hl.1 rfl (Nat.le_of_ble_eq_true rfl) dL_law_214 hf1 (fun H locs hW => ?_)
      refine lv_if_eq (tgt := 224) hx hb dL_law_217 (by decide) (fun c9 => absurd c9 (by decide)) (fun _ => ?_)
      refine lv_iconst (v := 1) hx hb dL_law_220 (by decide) ?_
      refine lv_goto (tgt := 225) hx hb dL_law_221 (by decide) ?_
      refine lv_istore (lv' := [(5, .int 1), (7, .int (nI k)), (6, .int (nI T)), (4, .ref (bc 0)), (3, .ref (bl 0)), (2, .ref (bg 0)), (1, .ref (a 0 0)), (0, .ref b)]) hx hb dL_law_225 hl (by decide) rfl (fun ls hl => ?_)
      refine lv_iinc (v := nI (k + 1)) (lv' := [(7, .int (nI (k + 1))), (5, .int 1), (6, .int (nI T)), (4, .ref (bc 0)), (3, .ref (bl 0)), (2, .ref (bg 0)), (1, .ref (a 0 0)), (0, .ref b)]) hx hb dL_law_227 hl (k := 1) rfl (by first | exact nI_add k 1 | exact (nI_add k 1).symm) (by decide) rfl (fun ls hl => ?_)
      refine lv_goto (tgt := 171) hx hb dL_law_230 (by decide) ?_
      exact ih (k + 1) (by omega) (by omega) ls (lv_sub hl [0, 2, 1, 3, 4, 5, 6, 7] rfl) r S' g' l' c' X' H locs (cs + 1) (sl + 25) (by omega) (by omega) hW (hR.mono (by omega))
set_option maxHeartbeats 4000000 in
set_option maxRecDepth 100000 in
theorem lw_mid {p : Program} {L : Launch} {e : Env} {s : State} {m : MethodId} {below : List Frame} {meth : Method} {c0 : Code} {D : va_G} {ct : Nat → ClassId} {b Ln : Nat} {xs : Nat → Int32} {a : Nat → Nat → Nat} {bg bl bc : Nat → Nat} (hNF : cr_NF s) (hST : cr_ST (lwA s) s s.heap) (C : cr_Cx p s m meth c0 #[Value.ref b] RL wsL_law cL_law 8 (some .boolean) D ct) (hX : va_X b Ln xs s s.heap) (hbl : b < s.heap.size) (hL : Ln ≤ 260) {r : Nat → Nat → Nat → Nat} {S : cr_S} {g l c : cr_V} {X : cr_XT} {H : Heap} {locs : List Loc} {ls : Array Slot} (hW : cr_wd D (lwA s) s (cr_wN ct 17 bg g ++ (cr_wN ct 52 bl l ++ (cr_wN ct 12 bc c ++ cr_wXt ct a r X))) H locs) (hR : LWS 12 S g l c X) (hl : lv_has ls 8 [(5, .int 1), (4, .ref (bc 0)), (3, .ref (bl 0)), (2, .ref (bg 0)), (1, .ref (a 0 0)), (0, .ref b)]) : W p L e room_1 s m #[Value.ref b] below meth c0 H locs 86 870 (lw_Z below #[Value.ref b] s) (F0 m 153 ls []) := by
  obtain ⟨hx, hb, hml, hown, hts, hr, hlocks, hK, hN⟩ := id C
  have hbA : ¬ lwA s b := Nat.not_le.mpr hbl
  refine lv_bipush (v := 12) hx hb dL_law_153 (by decide) ?_
  refine lv_aload_n hx hb dL_law_155 rfl (lv_at hl 5 rfl) ?_
  refine lv_iconst (v := 0) hx hb dL_law_156 (by decide) ?_
  refine cl_cell (As := [.ref b, .int (nI (0))]) (rest := [.int 12]) C hX hbl hbA hW (m_L_cell L hL (k := 0) (by omega)) (va_cwS 2 hts gL_law_L_cell rfl rfl rfl (by decide +kernel) ⟨Nat.le_of_ble_eq_true rfl, Nat.le_of_ble_eq_true rfl⟩) rfl hl.1 rfl (Nat.le_of_ble_eq_true rfl) dL_law_157 ⟨Nat.le_of_ble_eq_true rfl, Nat.le_of_ble_eq_true rfl⟩ (fun z157 H locs hW => ?_)
  refine lv_bipush (v := 60) hx hb dL_law_160 (by decide) ?_
  obtain ⟨T, hT, eT⟩ := n_low z157 (n := 60) (N := 60) rfl (by omega) (by omega)
  refine cr_sRwq (n := 2) (As := [.int z157, .int 60]) (rest := [.int 12]) C hW (m_L_low L D ct z157 60 (nI T) eT) (va_cwS 2 hts gL_law_L_low rfl rfl rfl (by decide +kernel) ⟨Nat.le_of_ble_eq_true rfl, Nat.le_of_ble_eq_true rfl⟩) rfl hl.1 rfl (Nat.le_of_ble_eq_true rfl) dL_law_162 ⟨Nat.le_of_ble_eq_true rfl, Nat.le_of_ble_eq_true rfl⟩ (fun H locs hW => ?_)
  refine lv_iadd hx hb dL_law_165 ?_
  rw [show (12 : Int32) + nI T = nI (12 + T) from nI_add 12 T]
  refine lv_istore (lv' := [(6, .int (nI (12 + T))), (5, .int 1), (4, .ref (bc 0)), (3, .ref (bl 0)), (2, .ref (bg 0)), (1, .ref (a 0 0)), (0, .ref b)]) hx hb dL_law_166 hl (by decide) rfl (fun ls hl => ?_)
  refine lv_iconst (v := 0) hx hb dL_law_168 (by decide) ?_
  refine lv_istore (lv' := [(7, .int 0), (6, .int (nI (12 + T))), (5, .int 1), (4, .ref (bc 0)), (3, .ref (bl 0)), (2, .ref (bg 0)), (1, .ref (a 0 0)), (0, .ref b)]) hx hb dL_law_169 hl (by decide) rfl (fun ls hl => ?_)
  exact lw_loop2 hNF hST C hX hbl hL (T := 12 + T) (by omega) (12 + T + 1) 0 (by omega) (by omega) ls (lv_sub hl [0, 1, 2, 3, 4, 5, 6, 7] rfl) r S g l c X H locs 86 870 rfl rfl hW hR
set_option maxHeartbeats 4000000 in
set_option maxRecDepth 100000 in
theorem lw_loop1 {p : Program} {L : Launch} {e : Env} {s : State} {m : MethodId} {below : List Frame} {meth : Method} {c0 : Code} {D : va_G} {ct : Nat → ClassId} {b Ln : Nat} {xs : Nat → Int32} {a : Nat → Nat → Nat} {bg bl bc : Nat → Nat} (hNF : cr_NF s) (hST : cr_ST (lwA s) s s.heap) (C : cr_Cx p s m meth c0 #[Value.ref b] RL wsL_law cL_law 8 (some .boolean) D ct) (hX : va_X b Ln xs s s.heap) (hbl : b < s.heap.size) (hL : Ln ≤ 260) : ∀ (n k : Nat), k ≤ 4 → 5 ≤ k + n → ∀ (ls : Array Slot) (hl : lv_has ls 8 [(6, .int (nI k)), (5, .int 1), (4, .ref (bc 0)), (3, .ref (bl 0)), (2, .ref (bg 0)), (1, .ref (a 0 0)), (0, .ref b)]) (r : Nat → Nat → Nat → Nat) (S : cr_S) (g l c : cr_V) (X : cr_XT) (H : Heap) (locs : List Loc) (cs sl : Nat), cs = 82 + k → sl = 770 + 25 * k → cr_wd D (lwA s) s (cr_wN ct 17 bg g ++ (cr_wN ct 52 bl l ++ (cr_wN ct 12 bc c ++ cr_wXt ct a r X))) H locs → LWS (3 * k) S g l c X → W p L e room_1 s m #[Value.ref b] below meth c0 H locs cs sl (lw_Z below #[Value.ref b] s) (F0 m 93 ls []) := by
  obtain ⟨hx, hb, hml, hown, hts, hr, hlocks, hK, hN⟩ := id C
  have hbA : ¬ lwA s b := Nat.not_le.mpr hbl
  intro n
  induction n with
  | zero => intro k h1 h2; omega
  | succ n ih =>
    intro k hk hn ls hl r S g l c X H locs cs sl hcs hsl hW hR
    have hcsl : cs ≤ 1000 ∧ sl ≤ 10000 := ⟨by omega, by omega⟩
    have hf : cs ≤ room_1.cells ∧ sl ≤ room_1.slots := ⟨Nat.le_trans hcsl.1 (Nat.le_of_ble_eq_true rfl), Nat.le_trans hcsl.2 (Nat.le_of_ble_eq_true rfl)⟩
    have hf1 : cs + 1 ≤ room_1.cells ∧ sl + 25 ≤ room_1.slots := ⟨Nat.le_trans (Nat.add_le_add_right hcsl.1 1) (Nat.le_of_ble_eq_true rfl), Nat.le_trans (Nat.add_le_add_right hcsl.2 25) (Nat.le_of_ble_eq_true rfl)⟩
    refine lv_iload hx hb dL_law_93 (lv_at hl 0 rfl) ?_
    refine lv_iconst (v := 4) hx hb dL_law_95 (by decide) ?_
    refine lv_icmp_ge (tgt := 153) hx hb dL_law_96 (by decide) (fun c1 => ?_) (fun c1 => ?_)
    · have hk4 : k = 4 := by
        have : ¬ k < 4 := fun q => nI_ge q (by omega) c1
        omega
      subst hk4; subst hcs; subst hsl
      exact lw_mid hNF hST C hX hbl hL hW hR (lv_sub hl [1, 2, 3, 4, 5, 6] rfl)
    · have hk4 : k < 4 := Nat.lt_of_not_le fun q => c1 (nI_le (a := 4) q (by omega))
      refine lv_iload hx hb dL_law_99 (lv_at hl 1 rfl) ?_
      refine lv_if_eq (tgt := 153) hx hb dL_law_101 (by decide) (fun c9 => absurd c9 (by decide)) (fun _ => ?_)
      refine lv_aload_n hx hb dL_law_104 rfl (lv_at hl 5 rfl) ?_
      refine lv_aload_n hx hb dL_law_105 rfl (lv_at hl 4 rfl) ?_
      refine lv_aload_n hx hb dL_law_106 rfl (lv_at hl 3 rfl) ?_
      refine lv_aload hx hb dL_law_107 (lv_at hl 2 rfl) ?_
      refine lv_aload_n hx hb dL_law_109 rfl (lv_at hl 6 rfl) ?_
      refine lv_iconst (v := 1) hx hb dL_law_110 (by decide) ?_
      refine lv_iload hx hb dL_law_111 (lv_at hl 0 rfl) ?_
      refine lv_iadd hx hb dL_law_113 ?_
      rw [show (1 : Int32) + nI k = nI (1 + k) from nI_add 1 k]
      refine cl_cell (As := [.ref b, .int (nI (1 + k))]) (rest := [.ref (bc 0), .ref (bl 0), .ref (bg 0), .ref (a 0 0)]) C hX hbl hbA hW (m_L_cell L hL (k := 1 + k) (by omega)) (va_cwS 2 hts gL_law_L_cell rfl rfl rfl (by decide +kernel) ⟨Nat.le_of_ble_eq_true rfl, Nat.le_of_ble_eq_true rfl⟩) rfl hl.1 rfl (Nat.le_of_ble_eq_true rfl) dL_law_114 hf (fun z114 H locs hW => ?_)
      refine cr_ldc C (List.mem_of_getElem? (i := 4) rfl) dL_law_117 ?_
      refine lv_iand hx hb dL_law_119 ?_
      refine lv_sipush (v := 832) hx hb dL_law_120 (by decide) ?_
      refine lv_idiv hx hb dL_law_123 (by decide) ?_
      refine lv_sipush (v := 832) hx hb dL_law_124 (by decide) ?_
      refine lv_imul hx hb dL_law_127 ?_
      refine lv_iload hx hb dL_law_128 (lv_at hl 0 rfl) ?_
      refine lv_iconst (v := 3) hx hb dL_law_130 (by decide) ?_
      have go : ∀ (v : Int32), W p L e room_1 s m #[Value.ref b] below meth c0 H locs cs sl (lw_Z below #[Value.ref b] s) (F0 m 142 ls (.int v :: .ref (bc 0) :: .ref (bl 0) :: .ref (bg 0) :: .ref (a 0 0) :: [])) := by
        intro v
        obtain ⟨S', g', l', c', X', eA, hR⟩ := n_acts hR (by omega) (v)
        refine cl_acts (As := [.ref (a 0 0), .ref (bg 0), .ref (bl 0), .ref (bc 0), .int (v)]) (rest := []) hNF hST C hW (m_L_acts L D ct bg bl bc a r g l c X _ H.size _ eA) (va_cwS 5 hts gL_law_L_acts rfl rfl rfl (by decide +kernel) ⟨Nat.le_of_ble_eq_true rfl, Nat.le_of_ble_eq_true rfl⟩) rfl hl.1 rfl (Nat.le_of_ble_eq_true rfl) dL_law_142 hf1 (fun r H locs hW => ?_)
        refine lv_istore (lv' := [(5, .int 1), (6, .int (nI k)), (4, .ref (bc 0)), (3, .ref (bl 0)), (2, .ref (bg 0)), (1, .ref (a 0 0)), (0, .ref b)]) hx hb dL_law_145 hl (by decide) rfl (fun ls hl => ?_)
        refine lv_iinc (v := nI (k + 1)) (lv' := [(6, .int (nI (k + 1))), (5, .int 1), (4, .ref (bc 0)), (3, .ref (bl 0)), (2, .ref (bg 0)), (1, .ref (a 0 0)), (0, .ref b)]) hx hb dL_law_147 hl (k := 1) rfl (by first | exact nI_add k 1 | exact (nI_add k 1).symm) (by decide) rfl (fun ls hl => ?_)
        refine lv_goto (tgt := 93) hx hb dL_law_150 (by decide) ?_
        exact ih (k + 1) (by omega) (by omega) ls (lv_sub hl [0, 1, 2, 3, 4, 5, 6] rfl) r S' g' l' c' X' H locs (cs + 1) (sl + 25) (by omega) (by omega) hW (hR.mono (by omega))
      refine lv_icmp_ge (tgt := 139) hx hb dL_law_131 (by decide) (fun _ => ?_) (fun _ => ?_)
      · refine lv_bipush (v := 25) hx hb dL_law_139 (by decide) ?_
        refine lv_iadd hx hb dL_law_141 ?_
        exact go _
      · refine lv_iload hx hb dL_law_134 (lv_at hl 0 rfl) ?_
        refine lv_goto (tgt := 141) hx hb dL_law_136 (by decide) ?_
        refine lv_iadd hx hb dL_law_141 ?_
        exact go _
