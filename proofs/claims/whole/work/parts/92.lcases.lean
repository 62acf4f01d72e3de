section LAWC
variable {p : Program} {L : Launch} {e : Env} {s : State} {m : MethodId} {below : List Frame} {meth : Method} {c : Code} {D : va_G} {ct : Nat → ClassId} {b Ln i B : Nat} {xs : Nat → Int32} {Q : State → Prop} {ls : Array Slot} {H : Heap} {locs : List Loc}
variable {a : Nat → Nat → Nat} {az : Nat → Nat} {r : Nat → Nat → Nat → Nat} {vh vl vk vt vtl vtk vs vd vo vz : cr_V} {vx : Nat → Nat → cr_V}
set_option maxHeartbeats 4000000 in
set_option maxRecDepth 100000 in
theorem law_0 (hNF : cr_NF s) (hST : cr_ST (lwA s) s s.heap) (C : cr_Cx p s m meth c #[Value.ref b] RL wsL_law cL_law 4 (some .boolean) D ct) (hX : va_X b Ln xs s s.heap) (hbl : b < s.heap.size) (hi : i + 5 ≤ Ln) (hL : Ln ≤ 2560) (hl : lv_has ls 4 [(3, .int (nI i)), (2, .ref (az 0)), (1, .ref (a 0 0)), (0, .ref b)]) (hW : cr_wd D (lwA s) s (cr_wX ct a r vh vl vk vt vtl vtk vs vx vd vo ++ cr_wM ct az vz) H locs) (hR : lwR B vh vl vk vs vo vz vx) (hB : B + 60 < 2 ^ 30) (hgo : lw_Go p L e s m b below meth c D ct a az (B + 60) Q ls) : W p L e room_1 s m #[Value.ref b] below meth c H locs 87 1281 Q (F0 m 144 ls []) := by
  obtain ⟨hx, hb, hml, hown, hts, hr, hlocks, hK, hN⟩ := id C
  have hbA : ¬ lwA s b := Nat.not_le.mpr hbl
  obtain ⟨q, vh', vl', vk', vt', vtl', vtk', vs', vx', z', e1, e2, hR2⟩ := lw_lot (vt := vt) (vtl := vtl) (vtk := vtk) (vd := vd) hR (by omega) (xs (i + 1)) (xs (i + 2))
  refine lv_aload_n hx hb dL_law_144 rfl (lv_at hl 2 rfl) ?_
  refine lv_aload_n hx hb dL_law_145 rfl (lv_at hl 3 rfl) ?_
  refine lv_iload_n hx hb dL_law_146 rfl (lv_at hl 0 rfl) ?_
  refine lv_iconst (v := 1) hx hb dL_law_147 (by decide) ?_
  refine lv_iadd hx hb dL_law_148 ?_
  refine lw_ld C hX hbl hbA hW.2.2.1 (k := 1) rfl (by omega) (by omega) dL_law_149 ?_
  refine lv_aload_n hx hb dL_law_150 rfl (lv_at hl 3 rfl) ?_
  refine lv_iload_n hx hb dL_law_151 rfl (lv_at hl 0 rfl) ?_
  refine lv_iconst (v := 2) hx hb dL_law_152 (by decide) ?_
  refine lv_iadd hx hb dL_law_153 ?_
  refine lw_ld C hX hbl hbA hW.2.2.1 (k := 2) rfl (by omega) (by omega) dL_law_154 ?_
  refine cr_lW (As := [.int (xs (i + 1)), .int (xs (i + 2))]) (rest := []) C hW (m_X6_lot L D ct a r vh vl vk vt vtl vtk vs vx vd vo (xs (i + 1)) (xs (i + 2)) H.size _ e1) (cwV 2 hts gL_law_X6_lot rfl rfl rfl (by decide +kernel) ⟨Nat.le_of_ble_eq_true rfl, Nat.le_of_ble_eq_true rfl⟩) rfl rfl rfl hl.1 rfl (Nat.le_of_ble_eq_true rfl) dL_law_155 ⟨Nat.le_of_ble_eq_true rfl, Nat.le_of_ble_eq_true rfl⟩ (fun q2 u H locs hq hV => ?_)
  obtain ⟨r2, u⟩ := u
  dsimp only at hq
  cases hq
  have hW : cr_wd D (lwA s) s (cr_wM ct az vz ++ cr_wX ct a r2 vh' vl' vk' vt' vtl' vtk' vs' vx' vd vo) H locs := hV.perm List.perm_append_comm
  refine lv_aload_n hx hb dL_law_158 rfl (lv_at hl 1 rfl) ?_
  refine lv_aload_n hx hb dL_law_159 rfl (lv_at hl 3 rfl) ?_
  refine lv_iload_n hx hb dL_law_160 rfl (lv_at hl 0 rfl) ?_
  refine lv_iconst (v := 1) hx hb dL_law_161 (by decide) ?_
  refine lv_iadd hx hb dL_law_162 ?_
  refine lw_ld C hX hbl hbA hW.2.2.1 (k := 1) rfl (by omega) (by omega) dL_law_163 ?_
  refine lv_aload_n hx hb dL_law_164 rfl (lv_at hl 3 rfl) ?_
  refine lv_iload_n hx hb dL_law_165 rfl (lv_at hl 0 rfl) ?_
  refine lv_iconst (v := 2) hx hb dL_law_166 (by decide) ?_
  refine lv_iadd hx hb dL_law_167 ?_
  refine lw_ld C hX hbl hbA hW.2.2.1 (k := 2) rfl (by omega) (by omega) dL_law_168 ?_
  refine cr_lW (As := [.int (xs (i + 1)), .int (xs (i + 2))]) (rest := [.int _]) C hW (m_X7_lot L D ct az vz (xs (i + 1)) (xs (i + 2)) H.size _ e2) (cwV 2 hts gL_law_X7_lot rfl rfl rfl (by decide +kernel) ⟨Nat.le_of_ble_eq_true rfl, Nat.le_of_ble_eq_true rfl⟩) rfl rfl rfl hl.1 rfl (Nat.le_of_ble_eq_true rfl) dL_law_169 ⟨Nat.le_of_ble_eq_true rfl, Nat.le_of_ble_eq_true rfl⟩ (fun q3 u H locs hq hV => ?_)
  cases hq
  have hW : cr_wd D (lwA s) s (cr_wX ct a r2 vh' vl' vk' vt' vtl' vtk' vs' vx' vd vo ++ cr_wM ct az z') H locs := hV.perm List.perm_append_comm
  refine lv_icmp_eq (tgt := 856) hx hb dL_law_172 (by decide) (fun _ => ?_) (fun c9 => absurd rfl c9)
  exact hgo _ _ _ _ _ _ _ _ _ _ _ _ _ _ hW (hR2.mono (by omega))
set_option maxHeartbeats 4000000 in
set_option maxRecDepth 100000 in
theorem law_1 (hNF : cr_NF s) (hST : cr_ST (lwA s) s s.heap) (C : cr_Cx p s m meth c #[Value.ref b] RL wsL_law cL_law 4 (some .boolean) D ct) (hX : va_X b Ln xs s s.heap) (hbl : b < s.heap.size) (hi : i + 5 ≤ Ln) (hL : Ln ≤ 2560) (hl : lv_has ls 4 [(3, .int (nI i)), (2, .ref (az 0)), (1, .ref (a 0 0)), (0, .ref b)]) (hW : cr_wd D (lwA s) s (cr_wX ct a r vh vl vk vt vtl vtk vs vx vd vo ++ cr_wM ct az vz) H locs) (hR : lwR B vh vl vk vs vo vz vx) (hB : B + 60 < 2 ^ 30) (hgo : lw_Go p L e s m b below meth c D ct a az (B + 60) Q ls) : W p L e room_1 s m #[Value.ref b] below meth c H locs 87 1281 Q (F0 m 177 ls []) := by
  obtain ⟨hx, hb, hml, hown, hts, hr, hlocks, hK, hN⟩ := id C
  have hbA : ¬ lwA s b := Nat.not_le.mpr hbl
  obtain ⟨q, vh', vl', vk', vt', vtl', vtk', vs', vx', z', e1, e2, hR2⟩ := lw_part (vt := vt) (vtl := vtl) (vtk := vtk) (vd := vd) hR (by omega) (xs (i + 1)) (xs (i + 2))
  refine lv_aload_n hx hb dL_law_177 rfl (lv_at hl 2 rfl) ?_
  refine lv_aload_n hx hb dL_law_178 rfl (lv_at hl 3 rfl) ?_
  refine lv_iload_n hx hb dL_law_179 rfl (lv_at hl 0 rfl) ?_
  refine lv_iconst (v := 1) hx hb dL_law_180 (by decide) ?_
  refine lv_iadd hx hb dL_law_181 ?_
  refine lw_ld C hX hbl hbA hW.2.2.1 (k := 1) rfl (by omega) (by omega) dL_law_182 ?_
  refine lv_aload_n hx hb dL_law_183 rfl (lv_at hl 3 rfl) ?_
  refine lv_iload_n hx hb dL_law_184 rfl (lv_at hl 0 rfl) ?_
  refine lv_iconst (v := 2) hx hb dL_law_185 (by decide) ?_
  refine lv_iadd hx hb dL_law_186 ?_
  refine lw_ld C hX hbl hbA hW.2.2.1 (k := 2) rfl (by omega) (by omega) dL_law_187 ?_
  refine cr_lW (As := [.int (xs (i + 1)), .int (xs (i + 2))]) (rest := []) C hW (m_X6_part L D ct a r vh vl vk vt vtl vtk vs vx vd vo (xs (i + 1)) (xs (i + 2)) H.size _ e1) (cwV 2 hts gL_law_X6_part rfl rfl rfl (by decide +kernel) ⟨Nat.le_of_ble_eq_true rfl, Nat.le_of_ble_eq_true rfl⟩) rfl rfl rfl hl.1 rfl (Nat.le_of_ble_eq_true rfl) dL_law_188 ⟨Nat.le_of_ble_eq_true rfl, Nat.le_of_ble_eq_true rfl⟩ (fun q2 u H locs hq hV => ?_)
  obtain ⟨r2, u⟩ := u
  dsimp only at hq
  cases hq
  have hW : cr_wd D (lwA s) s (cr_wM ct az vz ++ cr_wX ct a r2 vh' vl' vk' vt' vtl' vtk' vs' vx' vd vo) H locs := hV.perm List.perm_append_comm
  refine lv_aload_n hx hb dL_law_191 rfl (lv_at hl 1 rfl) ?_
  refine lv_aload_n hx hb dL_law_192 rfl (lv_at hl 3 rfl) ?_
  refine lv_iload_n hx hb dL_law_193 rfl (lv_at hl 0 rfl) ?_
  refine lv_iconst (v := 1) hx hb dL_law_194 (by decide) ?_
  refine lv_iadd hx hb dL_law_195 ?_
  refine lw_ld C hX hbl hbA hW.2.2.1 (k := 1) rfl (by omega) (by omega) dL_law_196 ?_
  refine lv_aload_n hx hb dL_law_197 rfl (lv_at hl 3 rfl) ?_
  refine lv_iload_n hx hb dL_law_198 rfl (lv_at hl 0 rfl) ?_
  refine lv_iconst (v := 2) hx hb dL_law_199 (by decide) ?_
  refine lv_iadd hx hb dL_law_200 ?_
  refine lw_ld C hX hbl hbA hW.2.2.1 (k := 2) rfl (by omega) (by omega) dL_law_201 ?_
  refine cr_lW (As := [.int (xs (i + 1)), .int (xs (i + 2))]) (rest := [.int _]) C hW (m_X7_part L D ct az vz (xs (i + 1)) (xs (i + 2)) H.size _ e2) (cwV 2 hts gL_law_X7_part rfl rfl rfl (by decide +kernel) ⟨Nat.le_of_ble_eq_true rfl, Nat.le_of_ble_eq_true rfl⟩) rfl rfl rfl hl.1 rfl (Nat.le_of_ble_eq_true rfl) dL_law_202 ⟨Nat.le_of_ble_eq_true rfl, Nat.le_of_ble_eq_true rfl⟩ (fun q3 u H locs hq hV => ?_)
  cases hq
  have hW : cr_wd D (lwA s) s (cr_wX ct a r2 vh' vl' vk' vt' vtl' vtk' vs' vx' vd vo ++ cr_wM ct az z') H locs := hV.perm List.perm_append_comm
  refine lv_icmp_eq (tgt := 856) hx hb dL_law_205 (by decide) (fun _ => ?_) (fun c9 => absurd rfl c9)
  exact hgo _ _ _ _ _ _ _ _ _ _ _ _ _ _ hW (hR2.mono (by omega))
set_option maxHeartbeats 4000000 in
set_option maxRecDepth 100000 in
theorem law_2 (hNF : cr_NF s) (hST : cr_ST (lwA s) s s.heap) (C : cr_Cx p s m meth c #[Value.ref b] RL wsL_law cL_law 4 (some .boolean) D ct) (hX : va_X b Ln xs s s.heap) (hbl : b < s.heap.size) (hi : i + 5 ≤ Ln) (hL : Ln ≤ 2560) (hl : lv_has ls 4 [(3, .int (nI i)), (2, .ref (az 0)), (1, .ref (a 0 0)), (0, .ref b)]) (hW : cr_wd D (lwA s) s (cr_wX ct a r vh vl vk vt vtl vtk vs vx vd vo ++ cr_wM ct az vz) H locs) (hR : lwR B vh vl vk vs vo vz vx) (hB : B + 60 < 2 ^ 30) (hgo : lw_Go p L e s m b below meth c D ct a az (B + 60) Q ls) : W p L e room_1 s m #[Value.ref b] below meth c H locs 87 1281 Q (F0 m 210 ls []) := by
  obtain ⟨hx, hb, hml, hown, hts, hr, hlocks, hK, hN⟩ := id C
  have hbA : ¬ lwA s b := Nat.not_le.mpr hbl
  obtain ⟨q, vh', vl', vk', vt', vtl', vtk', vs', vx', z', e1, e2, hR2⟩ := lw_blend (vt := vt) (vtl := vtl) (vtk := vtk) (vd := vd) hR (by omega) (xs (i + 1)) (xs (i + 2)) (xs (i + 3)) (xs (i + 4))
  refine lv_aload_n hx hb dL_law_210 rfl (lv_at hl 2 rfl) ?_
  refine lv_aload_n hx hb dL_law_211 rfl (lv_at hl 3 rfl) ?_
  refine lv_iload_n hx hb dL_law_212 rfl (lv_at hl 0 rfl) ?_
  refine lv_iconst (v := 1) hx hb dL_law_213 (by decide) ?_
  refine lv_iadd hx hb dL_law_214 ?_
  refine lw_ld C hX hbl hbA hW.2.2.1 (k := 1) rfl (by omega) (by omega) dL_law_215 ?_
  refine lv_aload_n hx hb dL_law_216 rfl (lv_at hl 3 rfl) ?_
  refine lv_iload_n hx hb dL_law_217 rfl (lv_at hl 0 rfl) ?_
  refine lv_iconst (v := 2) hx hb dL_law_218 (by decide) ?_
  refine lv_iadd hx hb dL_law_219 ?_
  refine lw_ld C hX hbl hbA hW.2.2.1 (k := 2) rfl (by omega) (by omega) dL_law_220 ?_
  refine lv_aload_n hx hb dL_law_221 rfl (lv_at hl 3 rfl) ?_
  refine lv_iload_n hx hb dL_law_222 rfl (lv_at hl 0 rfl) ?_
  refine lv_iconst (v := 3) hx hb dL_law_223 (by decide) ?_
  refine lv_iadd hx hb dL_law_224 ?_
  refine lw_ld C hX hbl hbA hW.2.2.1 (k := 3) rfl (by omega) (by omega) dL_law_225 ?_
  refine lv_aload_n hx hb dL_law_226 rfl (lv_at hl 3 rfl) ?_
  refine lv_iload_n hx hb dL_law_227 rfl (lv_at hl 0 rfl) ?_
  refine lv_iconst (v := 4) hx hb dL_law_228 (by decide) ?_
  refine lv_iadd hx hb dL_law_229 ?_
  refine lw_ld C hX hbl hbA hW.2.2.1 (k := 4) rfl (by omega) (by omega) dL_law_230 ?_
  refine cr_lW (As := [.int (xs (i + 1)), .int (xs (i + 2)), .int (xs (i + 3)), .int (xs (i + 4))]) (rest := []) C hW (m_X6_blend L D ct a r vh vl vk vt vtl vtk vs vx vd vo (xs (i + 1)) (xs (i + 2)) (xs (i + 3)) (xs (i + 4)) H.size _ e1) (cwV 4 hts gL_law_X6_blend rfl rfl rfl (by decide +kernel) ⟨Nat.le_of_ble_eq_true rfl, Nat.le_of_ble_eq_true rfl⟩) rfl rfl rfl hl.1 rfl (Nat.le_of_ble_eq_true rfl) dL_law_231 ⟨Nat.le_of_ble_eq_true rfl, Nat.le_of_ble_eq_true rfl⟩ (fun q2 u H locs hq hV => ?_)
  obtain ⟨r2, u⟩ := u
  dsimp only at hq
  cases hq
  have hW : cr_wd D (lwA s) s (cr_wM ct az vz ++ cr_wX ct a r2 vh' vl' vk' vt' vtl' vtk' vs' vx' vd vo) H locs := hV.perm List.perm_append_comm
  refine lv_aload_n hx hb dL_law_234 rfl (lv_at hl 1 rfl) ?_
  refine lv_aload_n hx hb dL_law_235 rfl (lv_at hl 3 rfl) ?_
  refine lv_iload_n hx hb dL_law_236 rfl (lv_at hl 0 rfl) ?_
  refine lv_iconst (v := 1) hx hb dL_law_237 (by decide) ?_
  refine lv_iadd hx hb dL_law_238 ?_
  refine lw_ld C hX hbl hbA hW.2.2.1 (k := 1) rfl (by omega) (by omega) dL_law_239 ?_
  refine lv_aload_n hx hb dL_law_240 rfl (lv_at hl 3 rfl) ?_
  refine lv_iload_n hx hb dL_law_241 rfl (lv_at hl 0 rfl) ?_
  refine lv_iconst (v := 2) hx hb dL_law_242 (by decide) ?_
  refine lv_iadd hx hb dL_law_243 ?_
  refine lw_ld C hX hbl hbA hW.2.2.1 (k := 2) rfl (by omega) (by omega) dL_law_244 ?_
  refine lv_aload_n hx hb dL_law_245 rfl (lv_at hl 3 rfl) ?_
  refine lv_iload_n hx hb dL_law_246 rfl (lv_at hl 0 rfl) ?_
  refine lv_iconst (v := 3) hx hb dL_law_247 (by decide) ?_
  refine lv_iadd hx hb dL_law_248 ?_
  refine lw_ld C hX hbl hbA hW.2.2.1 (k := 3) rfl (by omega) (by omega) dL_law_249 ?_
  refine lv_aload_n hx hb dL_law_250 rfl (lv_at hl 3 rfl) ?_
  refine lv_iload_n hx hb dL_law_251 rfl (lv_at hl 0 rfl) ?_
  refine lv_iconst (v := 4) hx hb dL_law_252 (by decide) ?_
  refine lv_iadd hx hb dL_law_253 ?_
  refine lw_ld C hX hbl hbA hW.2.2.1 (k := 4) rfl (by omega) (by omega) dL_law_254 ?_
  refine cr_lW (As := [.int (xs (i + 1)), .int (xs (i + 2)), .int (xs (i + 3)), .int (xs (i + 4))]) (rest := [.int _]) C hW (m_X7_blend L D ct az vz (xs (i + 1)) (xs (i + 2)) (xs (i + 3)) (xs (i + 4)) H.size _ e2) (cwV 4 hts gL_law_X7_blend rfl rfl rfl (by decide +kernel) ⟨Nat.le_of_ble_eq_true rfl, Nat.le_of_ble_eq_true rfl⟩) rfl rfl rfl hl.1 rfl (Nat.le_of_ble_eq_true rfl) dL_law_255 ⟨Nat.le_of_ble_eq_true rfl, Nat.le_of_ble_eq_true rfl⟩ (fun q3 u H locs hq hV => ?_)
  cases hq
  have hW : cr_wd D (lwA s) s (cr_wX ct a r2 vh' vl' vk' vt' vtl' vtk' vs' vx' vd vo ++ cr_wM ct az z') H locs := hV.perm List.perm_append_comm
  refine lv_icmp_eq (tgt := 856) hx hb dL_law_258 (by decide) (fun _ => ?_) (fun c9 => absurd rfl c9)
  exact hgo _ _ _ _ _ _ _ _ _ _ _ _ _ _ hW (hR2.mono (by omega))
set_option maxHeartbeats 4000000 in
set_option maxRecDepth 100000 in
theorem law_3 (hNF : cr_NF s) (hST : cr_ST (lwA s) s s.heap) (C : cr_Cx p s m meth c #[Value.ref b] RL wsL_law cL_law 4 (some .boolean) D ct) (hX : va_X b Ln xs s s.heap) (hbl : b < s.heap.size) (hi : i + 5 ≤ Ln) (hL : Ln ≤ 2560) (hl : lv_has ls 4 [(3, .int (nI i)), (2, .ref (az 0)), (1, .ref (a 0 0)), (0, .ref b)]) (hW : cr_wd D (lwA s) s (cr_wX ct a r vh vl vk vt vtl vtk vs vx vd vo ++ cr_wM ct az vz) H locs) (hR : lwR B vh vl vk vs vo vz vx) (hB : B + 60 < 2 ^ 30) (hgo : lw_Go p L e s m b below meth c D ct a az (B + 60) Q ls) : W p L e room_1 s m #[Value.ref b] below meth c H locs 87 1281 Q (F0 m 263 ls []) := by
  obtain ⟨hx, hb, hml, hown, hts, hr, hlocks, hK, hN⟩ := id C
  have hbA : ¬ lwA s b := Nat.not_le.mpr hbl
  obtain ⟨q, vh', vl', vk', vt', vtl', vtk', vs', vx', z', e1, e2, hR2⟩ := lw_cup (vt := vt) (vtl := vtl) (vtk := vtk) (vd := vd) hR (xs (i + 1))
  refine lv_aload_n hx hb dL_law_263 rfl (lv_at hl 2 rfl) ?_
  refine lv_aload_n hx hb dL_law_264 rfl (lv_at hl 3 rfl) ?_
  refine lv_iload_n hx hb dL_law_265 rfl (lv_at hl 0 rfl) ?_
  refine lv_iconst (v := 1) hx hb dL_law_266 (by decide) ?_
  refine lv_iadd hx hb dL_law_267 ?_
  refine lw_ld C hX hbl hbA hW.2.2.1 (k := 1) rfl (by omega) (by omega) dL_law_268 ?_
  refine cr_lW (As := [.int (xs (i + 1))]) (rest := []) C hW (m_X6_cup L D ct a r vh vl vk vt vtl vtk vs vx vd vo (xs (i + 1)) H.size _ e1) (cwV 1 hts gL_law_X6_cup rfl rfl rfl (by decide +kernel) ⟨Nat.le_of_ble_eq_true rfl, Nat.le_of_ble_eq_true rfl⟩) rfl rfl rfl hl.1 rfl (Nat.le_of_ble_eq_true rfl) dL_law_269 ⟨Nat.le_of_ble_eq_true rfl, Nat.le_of_ble_eq_true rfl⟩ (fun q2 u H locs hq hV => ?_)
  obtain ⟨r2, u⟩ := u
  dsimp only at hq
  cases hq
  have hW : cr_wd D (lwA s) s (cr_wM ct az vz ++ cr_wX ct a r2 vh' vl' vk' vt' vtl' vtk' vs' vx' vd vo) H locs := hV.perm List.perm_append_comm
  refine lv_aload_n hx hb dL_law_272 rfl (lv_at hl 1 rfl) ?_
  refine lv_aload_n hx hb dL_law_273 rfl (lv_at hl 3 rfl) ?_
  refine lv_iload_n hx hb dL_law_274 rfl (lv_at hl 0 rfl) ?_
  refine lv_iconst (v := 1) hx hb dL_law_275 (by decide) ?_
  refine lv_iadd hx hb dL_law_276 ?_
  refine lw_ld C hX hbl hbA hW.2.2.1 (k := 1) rfl (by omega) (by omega) dL_law_277 ?_
  refine cr_lW (As := [.int (xs (i + 1))]) (rest := [.int _]) C hW (m_X7_cup L D ct az vz (xs (i + 1)) H.size _ e2) (cwV 1 hts gL_law_X7_cup rfl rfl rfl (by decide +kernel) ⟨Nat.le_of_ble_eq_true rfl, Nat.le_of_ble_eq_true rfl⟩) rfl rfl rfl hl.1 rfl (Nat.le_of_ble_eq_true rfl) dL_law_278 ⟨Nat.le_of_ble_eq_true rfl, Nat.le_of_ble_eq_true rfl⟩ (fun q3 u H locs hq hV => ?_)
  cases hq
  have hW : cr_wd D (lwA s) s (cr_wX ct a r2 vh' vl' vk' vt' vtl' vtk' vs' vx' vd vo ++ cr_wM ct az z') H locs := hV.perm List.perm_append_comm
  refine lv_icmp_eq (tgt := 856) hx hb dL_law_281 (by decide) (fun _ => ?_) (fun c9 => absurd rfl c9)
  exact hgo _ _ _ _ _ _ _ _ _ _ _ _ _ _ hW (hR2.mono (by omega))
set_option maxHeartbeats 4000000 in
set_option maxRecDepth 100000 in
theorem law_4 (hNF : cr_NF s) (hST : cr_ST (lwA s) s s.heap) (C : cr_Cx p s m meth c #[Value.ref b] RL wsL_law cL_law 4 (some .boolean) D ct) (hX : va_X b Ln xs s s.heap) (hbl : b < s.heap.size) (hi : i + 5 ≤ Ln) (hL : Ln ≤ 2560) (hl : lv_has ls 4 [(3, .int (nI i)), (2, .ref (az 0)), (1, .ref (a 0 0)), (0, .ref b)]) (hW : cr_wd D (lwA s) s (cr_wX ct a r vh vl vk vt vtl vtk vs vx vd vo ++ cr_wM ct az vz) H locs) (hR : lwR B vh vl vk vs vo vz vx) (hB : B + 60 < 2 ^ 30) (hgo : lw_Go p L e s m b below meth c D ct a az (B + 60) Q ls) : W p L e room_1 s m #[Value.ref b] below meth c H locs 87 1281 Q (F0 m 286 ls []) := by
  obtain ⟨hx, hb, hml, hown, hts, hr, hlocks, hK, hN⟩ := id C
  have hbA : ¬ lwA s b := Nat.not_le.mpr hbl
  obtain ⟨q, vh', vl', vk', vt', vtl', vtk', vs', vx', z', e1, e2, hR2⟩ := lw_worth (vt := vt) (vtl := vtl) (vtk := vtk) (vd := vd) hR (xs (i + 1)) (xs (i + 2))
  refine lv_aload_n hx hb dL_law_286 rfl (lv_at hl 2 rfl) ?_
  refine lv_aload_n hx hb dL_law_287 rfl (lv_at hl 3 rfl) ?_
  refine lv_iload_n hx hb dL_law_288 rfl (lv_at hl 0 rfl) ?_
  refine lv_iconst (v := 1) hx hb dL_law_289 (by decide) ?_
  refine lv_iadd hx hb dL_law_290 ?_
  refine lw_ld C hX hbl hbA hW.2.2.1 (k := 1) rfl (by omega) (by omega) dL_law_291 ?_
  refine lv_aload_n hx hb dL_law_292 rfl (lv_at hl 3 rfl) ?_
  refine lv_iload_n hx hb dL_law_293 rfl (lv_at hl 0 rfl) ?_
  refine lv_iconst (v := 2) hx hb dL_law_294 (by decide) ?_
  refine lv_iadd hx hb dL_law_295 ?_
  refine lw_ld C hX hbl hbA hW.2.2.1 (k := 2) rfl (by omega) (by omega) dL_law_296 ?_
  refine cr_lW (As := [.int (xs (i + 1)), .int (xs (i + 2))]) (rest := []) C hW (m_X6_worth L D ct a r vh vl vk vt vtl vtk vs vx vd vo (xs (i + 1)) (xs (i + 2)) H.size _ e1) (cwV 2 hts gL_law_X6_worth rfl rfl rfl (by decide +kernel) ⟨Nat.le_of_ble_eq_true rfl, Nat.le_of_ble_eq_true rfl⟩) rfl rfl rfl hl.1 rfl (Nat.le_of_ble_eq_true rfl) dL_law_297 ⟨Nat.le_of_ble_eq_true rfl, Nat.le_of_ble_eq_true rfl⟩ (fun q2 u H locs hq hV => ?_)
  obtain ⟨r2, u⟩ := u
  dsimp only at hq
  cases hq
  have hW : cr_wd D (lwA s) s (cr_wM ct az vz ++ cr_wX ct a r2 vh' vl' vk' vt' vtl' vtk' vs' vx' vd vo) H locs := hV.perm List.perm_append_comm
  refine lv_aload_n hx hb dL_law_300 rfl (lv_at hl 1 rfl) ?_
  refine lv_aload_n hx hb dL_law_301 rfl (lv_at hl 3 rfl) ?_
  refine lv_iload_n hx hb dL_law_302 rfl (lv_at hl 0 rfl) ?_
  refine lv_iconst (v := 1) hx hb dL_law_303 (by decide) ?_
  refine lv_iadd hx hb dL_law_304 ?_
  refine lw_ld C hX hbl hbA hW.2.2.1 (k := 1) rfl (by omega) (by omega) dL_law_305 ?_
  refine lv_aload_n hx hb dL_law_306 rfl (lv_at hl 3 rfl) ?_
  refine lv_iload_n hx hb dL_law_307 rfl (lv_at hl 0 rfl) ?_
  refine lv_iconst (v := 2) hx hb dL_law_308 (by decide) ?_
  refine lv_iadd hx hb dL_law_309 ?_
  refine lw_ld C hX hbl hbA hW.2.2.1 (k := 2) rfl (by omega) (by omega) dL_law_310 ?_
  refine cr_lW (As := [.int (xs (i + 1)), .int (xs (i + 2))]) (rest := [.int _]) C hW (m_X7_worth L D ct az vz (xs (i + 1)) (xs (i + 2)) H.size _ e2) (cwV 2 hts gL_law_X7_worth rfl rfl rfl (by decide +kernel) ⟨Nat.le_of_ble_eq_true rfl, Nat.le_of_ble_eq_true rfl⟩) rfl rfl rfl hl.1 rfl (Nat.le_of_ble_eq_true rfl) dL_law_311 ⟨Nat.le_of_ble_eq_true rfl, Nat.le_of_ble_eq_true rfl⟩ (fun q3 u H locs hq hV => ?_)
  cases hq
  have hW : cr_wd D (lwA s) s (cr_wX ct a r2 vh' vl' vk' vt' vtl' vtk' vs' vx' vd vo ++ cr_wM ct az z') H locs := hV.perm List.perm_append_comm
  refine lv_icmp_eq (tgt := 856) hx hb dL_law_314 (by decide) (fun _ => ?_) (fun c9 => absurd rfl c9)
  exact hgo _ _ _ _ _ _ _ _ _ _ _ _ _ _ hW (hR2.mono (by omega))
set_option maxHeartbeats 4000000 in
set_option maxRecDepth 100000 in
theorem law_5 (hNF : cr_NF s) (hST : cr_ST (lwA s) s s.heap) (C : cr_Cx p s m meth c #[Value.ref b] RL wsL_law cL_law 4 (some .boolean) D ct) (hX : va_X b Ln xs s s.heap) (hbl : b < s.heap.size) (hi : i + 5 ≤ Ln) (hL : Ln ≤ 2560) (hl : lv_has ls 4 [(3, .int (nI i)), (2, .ref (az 0)), (1, .ref (a 0 0)), (0, .ref b)]) (hW : cr_wd D (lwA s) s (cr_wX ct a r vh vl vk vt vtl vtk vs vx vd vo ++ cr_wM ct az vz) H locs) (hR : lwR B vh vl vk vs vo vz vx) (hB : B + 60 < 2 ^ 30) (hgo : lw_Go p L e s m b below meth c D ct a az (B + 60) Q ls) : W p L e room_1 s m #[Value.ref b] below meth c H locs 87 1281 Q (F0 m 319 ls []) := by
  obtain ⟨hx, hb, hml, hown, hts, hr, hlocks, hK, hN⟩ := id C
  have hbA : ¬ lwA s b := Nat.not_le.mpr hbl
  obtain ⟨q, vh', vl', vk', vt', vtl', vtk', vs', vx', z', e1, e2, hR2⟩ := lw_sell (vt := vt) (vtl := vtl) (vtk := vtk) (vd := vd) hR (xs (i + 1)) (xs (i + 2))
  refine lv_aload_n hx hb dL_law_319 rfl (lv_at hl 2 rfl) ?_
  refine lv_aload_n hx hb dL_law_320 rfl (lv_at hl 3 rfl) ?_
  refine lv_iload_n hx hb dL_law_321 rfl (lv_at hl 0 rfl) ?_
  refine lv_iconst (v := 1) hx hb dL_law_322 (by decide) ?_
  refine lv_iadd hx hb dL_law_323 ?_
  refine lw_ld C hX hbl hbA hW.2.2.1 (k := 1) rfl (by omega) (by omega) dL_law_324 ?_
  refine lv_aload_n hx hb dL_law_325 rfl (lv_at hl 3 rfl) ?_
  refine lv_iload_n hx hb dL_law_326 rfl (lv_at hl 0 rfl) ?_
  refine lv_iconst (v := 2) hx hb dL_law_327 (by decide) ?_
  refine lv_iadd hx hb dL_law_328 ?_
  refine lw_ld C hX hbl hbA hW.2.2.1 (k := 2) rfl (by omega) (by omega) dL_law_329 ?_
  refine cr_lW (As := [.int (xs (i + 1)), .int (xs (i + 2))]) (rest := []) C hW (m_X6_sell L D ct a r vh vl vk vt vtl vtk vs vx vd vo (xs (i + 1)) (xs (i + 2)) H.size _ e1) (cwV 2 hts gL_law_X6_sell rfl rfl rfl (by decide +kernel) ⟨Nat.le_of_ble_eq_true rfl, Nat.le_of_ble_eq_true rfl⟩) rfl rfl rfl hl.1 rfl (Nat.le_of_ble_eq_true rfl) dL_law_330 ⟨Nat.le_of_ble_eq_true rfl, Nat.le_of_ble_eq_true rfl⟩ (fun q2 u H locs hq hV => ?_)
  obtain ⟨r2, u⟩ := u
  dsimp only at hq
  cases hq
  have hW : cr_wd D (lwA s) s (cr_wM ct az vz ++ cr_wX ct a r2 vh' vl' vk' vt' vtl' vtk' vs' vx' vd vo) H locs := hV.perm List.perm_append_comm
  refine lv_aload_n hx hb dL_law_333 rfl (lv_at hl 1 rfl) ?_
  refine lv_aload_n hx hb dL_law_334 rfl (lv_at hl 3 rfl) ?_
  refine lv_iload_n hx hb dL_law_335 rfl (lv_at hl 0 rfl) ?_
  refine lv_iconst (v := 1) hx hb dL_law_336 (by decide) ?_
  refine lv_iadd hx hb dL_law_337 ?_
  refine lw_ld C hX hbl hbA hW.2.2.1 (k := 1) rfl (by omega) (by omega) dL_law_338 ?_
  refine lv_aload_n hx hb dL_law_339 rfl (lv_at hl 3 rfl) ?_
  refine lv_iload_n hx hb dL_law_340 rfl (lv_at hl 0 rfl) ?_
  refine lv_iconst (v := 2) hx hb dL_law_341 (by decide) ?_
  refine lv_iadd hx hb dL_law_342 ?_
  refine lw_ld C hX hbl hbA hW.2.2.1 (k := 2) rfl (by omega) (by omega) dL_law_343 ?_
  refine cr_lW (As := [.int (xs (i + 1)), .int (xs (i + 2))]) (rest := [.int _]) C hW (m_X7_sell L D ct az vz (xs (i + 1)) (xs (i + 2)) H.size _ e2) (cwV 2 hts gL_law_X7_sell rfl rfl rfl (by decide +kernel) ⟨Nat.le_of_ble_eq_true rfl, Nat.le_of_ble_eq_true rfl⟩) rfl rfl rfl hl.1 rfl (Nat.le_of_ble_eq_true rfl) dL_law_344 ⟨Nat.le_of_ble_eq_true rfl, Nat.le_of_ble_eq_true rfl⟩ (fun q3 u H locs hq hV => ?_)
  cases hq
  have hW : cr_wd D (lwA s) s (cr_wX ct a r2 vh' vl' vk' vt' vtl' vtk' vs' vx' vd vo ++ cr_wM ct az z') H locs := hV.perm List.perm_append_comm
  refine lv_icmp_eq (tgt := 856) hx hb dL_law_347 (by decide) (fun _ => ?_) (fun c9 => absurd rfl c9)
  exact hgo _ _ _ _ _ _ _ _ _ _ _ _ _ _ hW (hR2.mono (by omega))
set_option maxHeartbeats 4000000 in
set_option maxRecDepth 100000 in
theorem law_6 (hNF : cr_NF s) (hST : cr_ST (lwA s) s s.heap) (C : cr_Cx p s m meth c #[Value.ref b] RL wsL_law cL_law 4 (some .boolean) D ct) (hX : va_X b Ln xs s s.heap) (hbl : b < s.heap.size) (hi : i + 5 ≤ Ln) (hL : Ln ≤ 2560) (hl : lv_has ls 4 [(3, .int (nI i)), (2, .ref (az 0)), (1, .ref (a 0 0)), (0, .ref b)]) (hW : cr_wd D (lwA s) s (cr_wX ct a r vh vl vk vt vtl vtk vs vx vd vo ++ cr_wM ct az vz) H locs) (hR : lwR B vh vl vk vs vo vz vx) (hB : B + 60 < 2 ^ 30) (hgo : lw_Go p L e s m b below meth c D ct a az (B + 60) Q ls) : W p L e room_1 s m #[Value.ref b] below meth c H locs 87 1281 Q (F0 m 352 ls []) := by
  obtain ⟨hx, hb, hml, hown, hts, hr, hlocks, hK, hN⟩ := id C
  have hbA : ¬ lwA s b := Nat.not_le.mpr hbl
  obtain ⟨q, vh', vl', vk', vt', vtl', vtk', vs', vx', z', e1, e2, hR2⟩ := lw_buyBack (vt := vt) (vtl := vtl) (vtk := vtk) (vd := vd) hR (xs (i + 1)) (xs (i + 2))
  refine lv_aload_n hx hb dL_law_352 rfl (lv_at hl 2 rfl) ?_
  refine lv_aload_n hx hb dL_law_353 rfl (lv_at hl 3 rfl) ?_
  refine lv_iload_n hx hb dL_law_354 rfl (lv_at hl 0 rfl) ?_
  refine lv_iconst (v := 1) hx hb dL_law_355 (by decide) ?_
  refine lv_iadd hx hb dL_law_356 ?_
  refine lw_ld C hX hbl hbA hW.2.2.1 (k := 1) rfl (by omega) (by omega) dL_law_357 ?_
  refine lv_aload_n hx hb dL_law_358 rfl (lv_at hl 3 rfl) ?_
  refine lv_iload_n hx hb dL_law_359 rfl (lv_at hl 0 rfl) ?_
  refine lv_iconst (v := 2) hx hb dL_law_360 (by decide) ?_
  refine lv_iadd hx hb dL_law_361 ?_
  refine lw_ld C hX hbl hbA hW.2.2.1 (k := 2) rfl (by omega) (by omega) dL_law_362 ?_
  refine cr_lW (As := [.int (xs (i + 1)), .int (xs (i + 2))]) (rest := []) C hW (m_X6_buyBack L D ct a r vh vl vk vt vtl vtk vs vx vd vo (xs (i + 1)) (xs (i + 2)) H.size _ e1) (cwV 2 hts gL_law_X6_buyBack rfl rfl rfl (by decide +kernel) ⟨Nat.le_of_ble_eq_true rfl, Nat.le_of_ble_eq_true rfl⟩) rfl rfl rfl hl.1 rfl (Nat.le_of_ble_eq_true rfl) dL_law_363 ⟨Nat.le_of_ble_eq_true rfl, Nat.le_of_ble_eq_true rfl⟩ (fun q2 u H locs hq hV => ?_)
  obtain ⟨r2, u⟩ := u
  dsimp only at hq
  cases hq
  have hW : cr_wd D (lwA s) s (cr_wM ct az vz ++ cr_wX ct a r2 vh' vl' vk' vt' vtl' vtk' vs' vx' vd vo) H locs := hV.perm List.perm_append_comm
  refine lv_aload_n hx hb dL_law_366 rfl (lv_at hl 1 rfl) ?_
  refine lv_aload_n hx hb dL_law_367 rfl (lv_at hl 3 rfl) ?_
  refine lv_iload_n hx hb dL_law_368 rfl (lv_at hl 0 rfl) ?_
  refine lv_iconst (v := 1) hx hb dL_law_369 (by decide) ?_
  refine lv_iadd hx hb dL_law_370 ?_
  refine lw_ld C hX hbl hbA hW.2.2.1 (k := 1) rfl (by omega) (by omega) dL_law_371 ?_
  refine lv_aload_n hx hb dL_law_372 rfl (lv_at hl 3 rfl) ?_
  refine lv_iload_n hx hb dL_law_373 rfl (lv_at hl 0 rfl) ?_
  refine lv_iconst (v := 2) hx hb dL_law_374 (by decide) ?_
  refine lv_iadd hx hb dL_law_375 ?_
  refine lw_ld C hX hbl hbA hW.2.2.1 (k := 2) rfl (by omega) (by omega) dL_law_376 ?_
  refine cr_lW (As := [.int (xs (i + 1)), .int (xs (i + 2))]) (rest := [.int _]) C hW (m_X7_buyBack L D ct az vz (xs (i + 1)) (xs (i + 2)) H.size _ e2) (cwV 2 hts gL_law_X7_buyBack rfl rfl rfl (by decide +kernel) ⟨Nat.le_of_ble_eq_true rfl, Nat.le_of_ble_eq_true rfl⟩) rfl rfl rfl hl.1 rfl (Nat.le_of_ble_eq_true rfl) dL_law_377 ⟨Nat.le_of_ble_eq_true rfl, Nat.le_of_ble_eq_true rfl⟩ (fun q3 u H locs hq hV => ?_)
  cases hq
  have hW : cr_wd D (lwA s) s (cr_wX ct a r2 vh' vl' vk' vt' vtl' vtk' vs' vx' vd vo ++ cr_wM ct az z') H locs := hV.perm List.perm_append_comm
  refine lv_icmp_eq (tgt := 856) hx hb dL_law_380 (by decide) (fun _ => ?_) (fun c9 => absurd rfl c9)
  exact hgo _ _ _ _ _ _ _ _ _ _ _ _ _ _ hW (hR2.mono (by omega))
set_option maxHeartbeats 4000000 in
set_option maxRecDepth 100000 in
theorem law_7 (hNF : cr_NF s) (hST : cr_ST (lwA s) s s.heap) (C : cr_Cx p s m meth c #[Value.ref b] RL wsL_law cL_law 4 (some .boolean) D ct) (hX : va_X b Ln xs s s.heap) (hbl : b < s.heap.size) (hi : i + 5 ≤ Ln) (hL : Ln ≤ 2560) (hl : lv_has ls 4 [(3, .int (nI i)), (2, .ref (az 0)), (1, .ref (a 0 0)), (0, .ref b)]) (hW : cr_wd D (lwA s) s (cr_wX ct a r vh vl vk vt vtl vtk vs vx vd vo ++ cr_wM ct az vz) H locs) (hR : lwR B vh vl vk vs vo vz vx) (hB : B + 60 < 2 ^ 30) (hgo : lw_Go p L e s m b below meth c D ct a az (B + 60) Q ls) : W p L e room_1 s m #[Value.ref b] below meth c H locs 87 1281 Q (F0 m 385 ls []) := by
  obtain ⟨hx, hb, hml, hown, hts, hr, hlocks, hK, hN⟩ := id C
  have hbA : ¬ lwA s b := Nat.not_le.mpr hbl
  obtain ⟨q, vh', vl', vk', vt', vtl', vtk', vs', vx', vd', z', e1, e2, hR2⟩ := lw_meet (vt := vt) (vtl := vtl) (vtk := vtk) (vd := vd) hR (xs (i + 1))
  refine lv_aload_n hx hb dL_law_385 rfl (lv_at hl 2 rfl) ?_
  refine lv_aload_n hx hb dL_law_386 rfl (lv_at hl 3 rfl) ?_
  refine lv_iload_n hx hb dL_law_387 rfl (lv_at hl 0 rfl) ?_
  refine lv_iconst (v := 1) hx hb dL_law_388 (by decide) ?_
  refine lv_iadd hx hb dL_law_389 ?_
  refine lw_ld C hX hbl hbA hW.2.2.1 (k := 1) rfl (by omega) (by omega) dL_law_390 ?_
  refine cr_lW (As := [.int (xs (i + 1))]) (rest := []) C hW (m_X6_meet L D ct a r vh vl vk vt vtl vtk vs vx vd vo (xs (i + 1)) H.size _ e1) (cwV 1 hts gL_law_X6_meet rfl rfl rfl (by decide +kernel) ⟨Nat.le_of_ble_eq_true rfl, Nat.le_of_ble_eq_true rfl⟩) rfl rfl rfl hl.1 rfl (Nat.le_of_ble_eq_true rfl) dL_law_391 ⟨Nat.le_of_ble_eq_true rfl, Nat.le_of_ble_eq_true rfl⟩ (fun q2 u H locs hq hV => ?_)
  obtain ⟨r2, u⟩ := u
  dsimp only at hq
  cases hq
  have hW : cr_wd D (lwA s) s (cr_wM ct az vz ++ cr_wX ct a r2 vh' vl' vk' vt' vtl' vtk' vs' vx' vd' vo) H locs := hV.perm List.perm_append_comm
  refine lv_aload_n hx hb dL_law_394 rfl (lv_at hl 1 rfl) ?_
  refine lv_aload_n hx hb dL_law_395 rfl (lv_at hl 3 rfl) ?_
  refine lv_iload_n hx hb dL_law_396 rfl (lv_at hl 0 rfl) ?_
  refine lv_iconst (v := 1) hx hb dL_law_397 (by decide) ?_
  refine lv_iadd hx hb dL_law_398 ?_
  refine lw_ld C hX hbl hbA hW.2.2.1 (k := 1) rfl (by omega) (by omega) dL_law_399 ?_
  refine cr_lW (As := [.int (xs (i + 1))]) (rest := [.int _]) C hW (m_X7_meet L D ct az vz (xs (i + 1)) H.size _ e2) (cwV 1 hts gL_law_X7_meet rfl rfl rfl (by decide +kernel) ⟨Nat.le_of_ble_eq_true rfl, Nat.le_of_ble_eq_true rfl⟩) rfl rfl rfl hl.1 rfl (Nat.le_of_ble_eq_true rfl) dL_law_400 ⟨Nat.le_of_ble_eq_true rfl, Nat.le_of_ble_eq_true rfl⟩ (fun q3 u H locs hq hV => ?_)
  cases hq
  have hW : cr_wd D (lwA s) s (cr_wX ct a r2 vh' vl' vk' vt' vtl' vtk' vs' vx' vd' vo ++ cr_wM ct az z') H locs := hV.perm List.perm_append_comm
  refine lv_icmp_eq (tgt := 856) hx hb dL_law_403 (by decide) (fun _ => ?_) (fun c9 => absurd rfl c9)
  exact hgo _ _ _ _ _ _ _ _ _ _ _ _ _ _ hW (hR2.mono (by omega))
set_option maxHeartbeats 4000000 in
set_option maxRecDepth 100000 in
theorem law_8 (hNF : cr_NF s) (hST : cr_ST (lwA s) s s.heap) (C : cr_Cx p s m meth c #[Value.ref b] RL wsL_law cL_law 4 (some .boolean) D ct) (hX : va_X b Ln xs s s.heap) (hbl : b < s.heap.size) (hi : i + 5 ≤ Ln) (hL : Ln ≤ 2560) (hl : lv_has ls 4 [(3, .int (nI i)), (2, .ref (az 0)), (1, .ref (a 0 0)), (0, .ref b)]) (hW : cr_wd D (lwA s) s (cr_wX ct a r vh vl vk vt vtl vtk vs vx vd vo ++ cr_wM ct az vz) H locs) (hR : lwR B vh vl vk vs vo vz vx) (hB : B + 60 < 2 ^ 30) (hgo : lw_Go p L e s m b below meth c D ct a az (B + 60) Q ls) : W p L e room_1 s m #[Value.ref b] below meth c H locs 87 1281 Q (F0 m 408 ls []) := by
  obtain ⟨hx, hb, hml, hown, hts, hr, hlocks, hK, hN⟩ := id C
  have hbA : ¬ lwA s b := Nat.not_le.mpr hbl
  obtain ⟨q, vh', vl', vk', vt', vtl', vtk', vs', vx', z', e1, e2, hR2⟩ := lw_pass (vt := vt) (vtl := vtl) (vtk := vtk) (vd := vd) hR (xs (i + 1))
  refine lv_aload_n hx hb dL_law_408 rfl (lv_at hl 2 rfl) ?_
  refine lv_aload_n hx hb dL_law_409 rfl (lv_at hl 3 rfl) ?_
  refine lv_iload_n hx hb dL_law_410 rfl (lv_at hl 0 rfl) ?_
  refine lv_iconst (v := 1) hx hb dL_law_411 (by decide) ?_
  refine lv_iadd hx hb dL_law_412 ?_
  refine lw_ld C hX hbl hbA hW.2.2.1 (k := 1) rfl (by omega) (by omega) dL_law_413 ?_
  refine cr_lW (As := [.int (xs (i + 1))]) (rest := []) C hW (m_X6_pass L D ct a r vh vl vk vt vtl vtk vs vx vd vo (xs (i + 1)) H.size _ e1) (cwV 1 hts gL_law_X6_pass rfl rfl rfl (by decide +kernel) ⟨Nat.le_of_ble_eq_true rfl, Nat.le_of_ble_eq_true rfl⟩) rfl rfl rfl hl.1 rfl (Nat.le_of_ble_eq_true rfl) dL_law_414 ⟨Nat.le_of_ble_eq_true rfl, Nat.le_of_ble_eq_true rfl⟩ (fun q2 u H locs hq hV => ?_)
  obtain ⟨r2, u⟩ := u
  dsimp only at hq
  cases hq
  have hW : cr_wd D (lwA s) s (cr_wM ct az vz ++ cr_wX ct a r2 vh' vl' vk' vt' vtl' vtk' vs' vx' vd vo) H locs := hV.perm List.perm_append_comm
  refine lv_aload_n hx hb dL_law_417 rfl (lv_at hl 1 rfl) ?_
  refine lv_aload_n hx hb dL_law_418 rfl (lv_at hl 3 rfl) ?_
  refine lv_iload_n hx hb dL_law_419 rfl (lv_at hl 0 rfl) ?_
  refine lv_iconst (v := 1) hx hb dL_law_420 (by decide) ?_
  refine lv_iadd hx hb dL_law_421 ?_
  refine lw_ld C hX hbl hbA hW.2.2.1 (k := 1) rfl (by omega) (by omega) dL_law_422 ?_
  refine cr_lW (As := [.int (xs (i + 1))]) (rest := [.int _]) C hW (m_X7_pass L D ct az vz (xs (i + 1)) H.size _ e2) (cwV 1 hts gL_law_X7_pass rfl rfl rfl (by decide +kernel) ⟨Nat.le_of_ble_eq_true rfl, Nat.le_of_ble_eq_true rfl⟩) rfl rfl rfl hl.1 rfl (Nat.le_of_ble_eq_true rfl) dL_law_423 ⟨Nat.le_of_ble_eq_true rfl, Nat.le_of_ble_eq_true rfl⟩ (fun q3 u H locs hq hV => ?_)
  cases hq
  have hW : cr_wd D (lwA s) s (cr_wX ct a r2 vh' vl' vk' vt' vtl' vtk' vs' vx' vd vo ++ cr_wM ct az z') H locs := hV.perm List.perm_append_comm
  refine lv_icmp_eq (tgt := 856) hx hb dL_law_426 (by decide) (fun _ => ?_) (fun c9 => absurd rfl c9)
  exact hgo _ _ _ _ _ _ _ _ _ _ _ _ _ _ hW (hR2.mono (by omega))
set_option maxHeartbeats 4000000 in
set_option maxRecDepth 100000 in
theorem law_9 (hNF : cr_NF s) (hST : cr_ST (lwA s) s s.heap) (C : cr_Cx p s m meth c #[Value.ref b] RL wsL_law cL_law 4 (some .boolean) D ct) (hX : va_X b Ln xs s s.heap) (hbl : b < s.heap.size) (hi : i + 5 ≤ Ln) (hL : Ln ≤ 2560) (hl : lv_has ls 4 [(3, .int (nI i)), (2, .ref (az 0)), (1, .ref (a 0 0)), (0, .ref b)]) (hW : cr_wd D (lwA s) s (cr_wX ct a r vh vl vk vt vtl vtk vs vx vd vo ++ cr_wM ct az vz) H locs) (hR : lwR B vh vl vk vs vo vz vx) (hB : B + 60 < 2 ^ 30) (hgo : lw_Go p L e s m b below meth c D ct a az (B + 60) Q ls) : W p L e room_1 s m #[Value.ref b] below meth c H locs 87 1281 Q (F0 m 431 ls []) := by
  obtain ⟨hx, hb, hml, hown, hts, hr, hlocks, hK, hN⟩ := id C
  have hbA : ¬ lwA s b := Nat.not_le.mpr hbl
  obtain ⟨q, vh', vl', vk', vt', vtl', vtk', vs', vx', z', e1, e2, hR2⟩ := lw_set (vt := vt) (vtl := vtl) (vtk := vtk) (vd := vd) hR (xs (i + 1)) (xs (i + 2))
  refine lv_aload_n hx hb dL_law_431 rfl (lv_at hl 2 rfl) ?_
  refine lv_aload_n hx hb dL_law_432 rfl (lv_at hl 3 rfl) ?_
  refine lv_iload_n hx hb dL_law_433 rfl (lv_at hl 0 rfl) ?_
  refine lv_iconst (v := 1) hx hb dL_law_434 (by decide) ?_
  refine lv_iadd hx hb dL_law_435 ?_
  refine lw_ld C hX hbl hbA hW.2.2.1 (k := 1) rfl (by omega) (by omega) dL_law_436 ?_
  refine lv_aload_n hx hb dL_law_437 rfl (lv_at hl 3 rfl) ?_
  refine lv_iload_n hx hb dL_law_438 rfl (lv_at hl 0 rfl) ?_
  refine lv_iconst (v := 2) hx hb dL_law_439 (by decide) ?_
  refine lv_iadd hx hb dL_law_440 ?_
  refine lw_ld C hX hbl hbA hW.2.2.1 (k := 2) rfl (by omega) (by omega) dL_law_441 ?_
  refine cr_lS (As := [.int (xs (i + 1)), .int (xs (i + 2))]) (rest := []) hNF hST C hW (m_X6_set L D ct a r vh vl vk vt vtl vtk vs vx vd vo (xs (i + 1)) (xs (i + 2)) H.size _ e1) (cwV 2 hts gL_law_X6_set rfl rfl rfl (by decide +kernel) ⟨Nat.le_of_ble_eq_true rfl, Nat.le_of_ble_eq_true rfl⟩) rfl rfl rfl hl.1 rfl (Nat.le_of_ble_eq_true rfl) dL_law_442 ⟨Nat.le_of_ble_eq_true rfl, Nat.le_of_ble_eq_true rfl⟩ (fun q2 u H locs hq hV => ?_)
  obtain ⟨r2, u⟩ := u
  dsimp only at hq
  cases hq
  have hW : cr_wd D (lwA s) s (cr_wM ct az vz ++ cr_wX ct a r2 vh' vl' vk' vt' vtl' vtk' vs' vx' vd vo) H locs := hV.perm List.perm_append_comm
  refine lv_aload_n hx hb dL_law_445 rfl (lv_at hl 1 rfl) ?_
  refine lv_aload_n hx hb dL_law_446 rfl (lv_at hl 3 rfl) ?_
  refine lv_iload_n hx hb dL_law_447 rfl (lv_at hl 0 rfl) ?_
  refine lv_iconst (v := 1) hx hb dL_law_448 (by decide) ?_
  refine lv_iadd hx hb dL_law_449 ?_
  refine lw_ld C hX hbl hbA hW.2.2.1 (k := 1) rfl (by omega) (by omega) dL_law_450 ?_
  refine lv_aload_n hx hb dL_law_451 rfl (lv_at hl 3 rfl) ?_
  refine lv_iload_n hx hb dL_law_452 rfl (lv_at hl 0 rfl) ?_
  refine lv_iconst (v := 2) hx hb dL_law_453 (by decide) ?_
  refine lv_iadd hx hb dL_law_454 ?_
  refine lw_ld C hX hbl hbA hW.2.2.1 (k := 2) rfl (by omega) (by omega) dL_law_455 ?_
  refine cr_lW (As := [.int (xs (i + 1)), .int (xs (i + 2))]) (rest := [.int _]) C hW (m_X7_set L D ct az vz (xs (i + 1)) (xs (i + 2)) H.size _ e2) (cwV 2 hts gL_law_X7_set rfl rfl rfl (by decide +kernel) ⟨Nat.le_of_ble_eq_true rfl, Nat.le_of_ble_eq_true rfl⟩) rfl rfl rfl hl.1 rfl (Nat.le_of_ble_eq_true rfl) dL_law_456 ⟨Nat.le_of_ble_eq_true rfl, Nat.le_of_ble_eq_true rfl⟩ (fun q3 u H locs hq hV => ?_)
  cases hq
  have hW : cr_wd D (lwA s) s (cr_wX ct a r2 vh' vl' vk' vt' vtl' vtk' vs' vx' vd vo ++ cr_wM ct az z') H locs := hV.perm List.perm_append_comm
  refine lv_icmp_eq (tgt := 856) hx hb dL_law_459 (by decide) (fun _ => ?_) (fun c9 => absurd rfl c9)
  exact hgo _ _ _ _ _ _ _ _ _ _ _ _ _ _ hW (hR2.mono (by omega))
set_option maxHeartbeats 4000000 in
set_option maxRecDepth 100000 in
theorem law_10 (hNF : cr_NF s) (hST : cr_ST (lwA s) s s.heap) (C : cr_Cx p s m meth c #[Value.ref b] RL wsL_law cL_law 4 (some .boolean) D ct) (hX : va_X b Ln xs s s.heap) (hbl : b < s.heap.size) (hi : i + 5 ≤ Ln) (hL : Ln ≤ 2560) (hl : lv_has ls 4 [(3, .int (nI i)), (2, .ref (az 0)), (1, .ref (a 0 0)), (0, .ref b)]) (hW : cr_wd D (lwA s) s (cr_wX ct a r vh vl vk vt vtl vtk vs vx vd vo ++ cr_wM ct az vz) H locs) (hR : lwR B vh vl vk vs vo vz vx) (hB : B + 60 < 2 ^ 30) (hgo : lw_Go p L e s m b below meth c D ct a az (B + 60) Q ls) : W p L e room_1 s m #[Value.ref b] below meth c H locs 87 1281 Q (F0 m 464 ls []) := by
  obtain ⟨hx, hb, hml, hown, hts, hr, hlocks, hK, hN⟩ := id C
  have hbA : ¬ lwA s b := Nat.not_le.mpr hbl
  obtain ⟨q, e1, e2⟩ := lw_lotOf (vt := vt) (vtl := vtl) (vtk := vtk) (vd := vd) hR (xs (i + 1)) (xs (i + 2))
  refine lv_aload_n hx hb dL_law_464 rfl (lv_at hl 2 rfl) ?_
  refine lv_aload_n hx hb dL_law_465 rfl (lv_at hl 3 rfl) ?_
  refine lv_iload_n hx hb dL_law_466 rfl (lv_at hl 0 rfl) ?_
  refine lv_iconst (v := 1) hx hb dL_law_467 (by decide) ?_
  refine lv_iadd hx hb dL_law_468 ?_
  refine lw_ld C hX hbl hbA hW.2.2.1 (k := 1) rfl (by omega) (by omega) dL_law_469 ?_
  refine lv_aload_n hx hb dL_law_470 rfl (lv_at hl 3 rfl) ?_
  refine lv_iload_n hx hb dL_law_471 rfl (lv_at hl 0 rfl) ?_
  refine lv_iconst (v := 2) hx hb dL_law_472 (by decide) ?_
  refine lv_iadd hx hb dL_law_473 ?_
  refine lw_ld C hX hbl hbA hW.2.2.1 (k := 2) rfl (by omega) (by omega) dL_law_474 ?_
  refine cr_lR (As := [.int (xs (i + 1)), .int (xs (i + 2))]) (rest := []) C hW (m_X6_lotOf L D ct a r vh vl vk vt vtl vtk vs vx vd vo (xs (i + 1)) (xs (i + 2)) _ e1) (cwV 2 hts gL_law_X6_lotOf rfl rfl rfl (by decide +kernel) ⟨Nat.le_of_ble_eq_true rfl, Nat.le_of_ble_eq_true rfl⟩) rfl rfl rfl hl.1 rfl (Nat.le_of_ble_eq_true rfl) dL_law_475 ⟨Nat.le_of_ble_eq_true rfl, Nat.le_of_ble_eq_true rfl⟩ (fun q2 H locs hq hV => ?_)
  subst hq
  have hW := hV.perm List.perm_append_comm
  refine lv_aload_n hx hb dL_law_478 rfl (lv_at hl 1 rfl) ?_
  refine lv_aload_n hx hb dL_law_479 rfl (lv_at hl 3 rfl) ?_
  refine lv_iload_n hx hb dL_law_480 rfl (lv_at hl 0 rfl) ?_
  refine lv_iconst (v := 1) hx hb dL_law_481 (by decide) ?_
  refine lv_iadd hx hb dL_law_482 ?_
  refine lw_ld C hX hbl hbA hW.2.2.1 (k := 1) rfl (by omega) (by omega) dL_law_483 ?_
  refine lv_aload_n hx hb dL_law_484 rfl (lv_at hl 3 rfl) ?_
  refine lv_iload_n hx hb dL_law_485 rfl (lv_at hl 0 rfl) ?_
  refine lv_iconst (v := 2) hx hb dL_law_486 (by decide) ?_
  refine lv_iadd hx hb dL_law_487 ?_
  refine lw_ld C hX hbl hbA hW.2.2.1 (k := 2) rfl (by omega) (by omega) dL_law_488 ?_
  refine cr_lR (As := [.int (xs (i + 1)), .int (xs (i + 2))]) (rest := [.int _]) C hW (m_X7_lotOf L D ct az vz (xs (i + 1)) (xs (i + 2)) _ e2) (cwV 2 hts gL_law_X7_lotOf rfl rfl rfl (by decide +kernel) ⟨Nat.le_of_ble_eq_true rfl, Nat.le_of_ble_eq_true rfl⟩) rfl rfl rfl hl.1 rfl (Nat.le_of_ble_eq_true rfl) dL_law_489 ⟨Nat.le_of_ble_eq_true rfl, Nat.le_of_ble_eq_true rfl⟩ (fun q3 H locs hq hV => ?_)
  subst hq
  have hW := hV.perm List.perm_append_comm
  refine lv_icmp_eq (tgt := 856) hx hb dL_law_492 (by decide) (fun _ => ?_) (fun c9 => absurd rfl c9)
  exact hgo _ _ _ _ _ _ _ _ _ _ _ _ _ _ hW (hR.mono (by omega))
set_option maxHeartbeats 4000000 in
set_option maxRecDepth 100000 in
theorem law_11 (hNF : cr_NF s) (hST : cr_ST (lwA s) s s.heap) (C : cr_Cx p s m meth c #[Value.ref b] RL wsL_law cL_law 4 (some .boolean) D ct) (hX : va_X b Ln xs s s.heap) (hbl : b < s.heap.size) (hi : i + 5 ≤ Ln) (hL : Ln ≤ 2560) (hl : lv_has ls 4 [(3, .int (nI i)), (2, .ref (az 0)), (1, .ref (a 0 0)), (0, .ref b)]) (hW : cr_wd D (lwA s) s (cr_wX ct a r vh vl vk vt vtl vtk vs vx vd vo ++ cr_wM ct az vz) H locs) (hR : lwR B vh vl vk vs vo vz vx) (hB : B + 60 < 2 ^ 30) (hgo : lw_Go p L e s m b below meth c D ct a az (B + 60) Q ls) : W p L e room_1 s m #[Value.ref b] below meth c H locs 87 1281 Q (F0 m 497 ls []) := by
  obtain ⟨hx, hb, hml, hown, hts, hr, hlocks, hK, hN⟩ := id C
  have hbA : ¬ lwA s b := Nat.not_le.mpr hbl
  obtain ⟨q, e1, e2⟩ := lw_numberOf (vt := vt) (vtl := vtl) (vtk := vtk) (vd := vd) hR (xs (i + 1))
  refine lv_aload_n hx hb dL_law_497 rfl (lv_at hl 2 rfl) ?_
  refine lv_aload_n hx hb dL_law_498 rfl (lv_at hl 3 rfl) ?_
  refine lv_iload_n hx hb dL_law_499 rfl (lv_at hl 0 rfl) ?_
  refine lv_iconst (v := 1) hx hb dL_law_500 (by decide) ?_
  refine lv_iadd hx hb dL_law_501 ?_
  refine lw_ld C hX hbl hbA hW.2.2.1 (k := 1) rfl (by omega) (by omega) dL_law_502 ?_
  refine cr_lR (As := [.int (xs (i + 1))]) (rest := []) C hW (m_X6_numberOf L D ct a r vh vl vk vt vtl vtk vs vx vd vo (xs (i + 1)) _ e1) (cwV 1 hts gL_law_X6_numberOf rfl rfl rfl (by decide +kernel) ⟨Nat.le_of_ble_eq_true rfl, Nat.le_of_ble_eq_true rfl⟩) rfl rfl rfl hl.1 rfl (Nat.le_of_ble_eq_true rfl) dL_law_503 ⟨Nat.le_of_ble_eq_true rfl, Nat.le_of_ble_eq_true rfl⟩ (fun q2 H locs hq hV => ?_)
  subst hq
  have hW := hV.perm List.perm_append_comm
  refine lv_aload_n hx hb dL_law_506 rfl (lv_at hl 1 rfl) ?_
  refine lv_aload_n hx hb dL_law_507 rfl (lv_at hl 3 rfl) ?_
  refine lv_iload_n hx hb dL_law_508 rfl (lv_at hl 0 rfl) ?_
  refine lv_iconst (v := 1) hx hb dL_law_509 (by decide) ?_
  refine lv_iadd hx hb dL_law_510 ?_
  refine lw_ld C hX hbl hbA hW.2.2.1 (k := 1) rfl (by omega) (by omega) dL_law_511 ?_
  refine cr_lR (As := [.int (xs (i + 1))]) (rest := [.int _]) C hW (m_X7_numberOf L D ct az vz (xs (i + 1)) _ e2) (cwV 1 hts gL_law_X7_numberOf rfl rfl rfl (by decide +kernel) ⟨Nat.le_of_ble_eq_true rfl, Nat.le_of_ble_eq_true rfl⟩) rfl rfl rfl hl.1 rfl (Nat.le_of_ble_eq_true rfl) dL_law_512 ⟨Nat.le_of_ble_eq_true rfl, Nat.le_of_ble_eq_true rfl⟩ (fun q3 H locs hq hV => ?_)
  subst hq
  have hW := hV.perm List.perm_append_comm
  refine lv_icmp_eq (tgt := 856) hx hb dL_law_515 (by decide) (fun _ => ?_) (fun c9 => absurd rfl c9)
  exact hgo _ _ _ _ _ _ _ _ _ _ _ _ _ _ hW (hR.mono (by omega))
set_option maxHeartbeats 4000000 in
set_option maxRecDepth 100000 in
theorem law_12 (hNF : cr_NF s) (hST : cr_ST (lwA s) s s.heap) (C : cr_Cx p s m meth c #[Value.ref b] RL wsL_law cL_law 4 (some .boolean) D ct) (hX : va_X b Ln xs s s.heap) (hbl : b < s.heap.size) (hi : i + 5 ≤ Ln) (hL : Ln ≤ 2560) (hl : lv_has ls 4 [(3, .int (nI i)), (2, .ref (az 0)), (1, .ref (a 0 0)), (0, .ref b)]) (hW : cr_wd D (lwA s) s (cr_wX ct a r vh vl vk vt vtl vtk vs vx vd vo ++ cr_wM ct az vz) H locs) (hR : lwR B vh vl vk vs vo vz vx) (hB : B + 60 < 2 ^ 30) (hgo : lw_Go p L e s m b below meth c D ct a az (B + 60) Q ls) : W p L e room_1 s m #[Value.ref b] below meth c H locs 87 1281 Q (F0 m 520 ls []) := by
  obtain ⟨hx, hb, hml, hown, hts, hr, hlocks, hK, hN⟩ := id C
  have hbA : ¬ lwA s b := Nat.not_le.mpr hbl
  obtain ⟨q, e1, e2⟩ := lw_contractOf (vt := vt) (vtl := vtl) (vtk := vtk) (vd := vd) hR (xs (i + 1)) (xs (i + 2))
  refine lv_aload_n hx hb dL_law_520 rfl (lv_at hl 2 rfl) ?_
  refine lv_aload_n hx hb dL_law_521 rfl (lv_at hl 3 rfl) ?_
  refine lv_iload_n hx hb dL_law_522 rfl (lv_at hl 0 rfl) ?_
  refine lv_iconst (v := 1) hx hb dL_law_523 (by decide) ?_
  refine lv_iadd hx hb dL_law_524 ?_
  refine lw_ld C hX hbl hbA hW.2.2.1 (k := 1) rfl (by omega) (by omega) dL_law_525 ?_
  refine lv_aload_n hx hb dL_law_526 rfl (lv_at hl 3 rfl) ?_
  refine lv_iload_n hx hb dL_law_527 rfl (lv_at hl 0 rfl) ?_
  refine lv_iconst (v := 2) hx hb dL_law_528 (by decide) ?_
  refine lv_iadd hx hb dL_law_529 ?_
  refine lw_ld C hX hbl hbA hW.2.2.1 (k := 2) rfl (by omega) (by omega) dL_law_530 ?_
  refine cr_lR (As := [.int (xs (i + 1)), .int (xs (i + 2))]) (rest := []) C hW (m_X6_contractOf L D ct a r vh vl vk vt vtl vtk vs vx vd vo (xs (i + 1)) (xs (i + 2)) _ e1) (cwV 2 hts gL_law_X6_contractOf rfl rfl rfl (by decide +kernel) ⟨Nat.le_of_ble_eq_true rfl, Nat.le_of_ble_eq_true rfl⟩) rfl rfl rfl hl.1 rfl (Nat.le_of_ble_eq_true rfl) dL_law_531 ⟨Nat.le_of_ble_eq_true rfl, Nat.le_of_ble_eq_true rfl⟩ (fun q2 H locs hq hV => ?_)
  subst hq
  have hW := hV.perm List.perm_append_comm
  refine lv_aload_n hx hb dL_law_534 rfl (lv_at hl 1 rfl) ?_
  refine lv_aload_n hx hb dL_law_535 rfl (lv_at hl 3 rfl) ?_
  refine lv_iload_n hx hb dL_law_536 rfl (lv_at hl 0 rfl) ?_
  refine lv_iconst (v := 1) hx hb dL_law_537 (by decide) ?_
  refine lv_iadd hx hb dL_law_538 ?_
  refine lw_ld C hX hbl hbA hW.2.2.1 (k := 1) rfl (by omega) (by omega) dL_law_539 ?_
  refine lv_aload_n hx hb dL_law_540 rfl (lv_at hl 3 rfl) ?_
  refine lv_iload_n hx hb dL_law_541 rfl (lv_at hl 0 rfl) ?_
  refine lv_iconst (v := 2) hx hb dL_law_542 (by decide) ?_
  refine lv_iadd hx hb dL_law_543 ?_
  refine lw_ld C hX hbl hbA hW.2.2.1 (k := 2) rfl (by omega) (by omega) dL_law_544 ?_
  refine cr_lR (As := [.int (xs (i + 1)), .int (xs (i + 2))]) (rest := [.int _]) C hW (m_X7_contractOf L D ct az vz (xs (i + 1)) (xs (i + 2)) _ e2) (cwV 2 hts gL_law_X7_contractOf rfl rfl rfl (by decide +kernel) ⟨Nat.le_of_ble_eq_true rfl, Nat.le_of_ble_eq_true rfl⟩) rfl rfl rfl hl.1 rfl (Nat.le_of_ble_eq_true rfl) dL_law_545 ⟨Nat.le_of_ble_eq_true rfl, Nat.le_of_ble_eq_true rfl⟩ (fun q3 H locs hq hV => ?_)
  subst hq
  have hW := hV.perm List.perm_append_comm
  refine lv_icmp_eq (tgt := 856) hx hb dL_law_548 (by decide) (fun _ => ?_) (fun c9 => absurd rfl c9)
  exact hgo _ _ _ _ _ _ _ _ _ _ _ _ _ _ hW (hR.mono (by omega))
set_option maxHeartbeats 4000000 in
set_option maxRecDepth 100000 in
theorem law_13 (hNF : cr_NF s) (hST : cr_ST (lwA s) s s.heap) (C : cr_Cx p s m meth c #[Value.ref b] RL wsL_law cL_law 4 (some .boolean) D ct) (hX : va_X b Ln xs s s.heap) (hbl : b < s.heap.size) (hi : i + 5 ≤ Ln) (hL : Ln ≤ 2560) (hl : lv_has ls 4 [(3, .int (nI i)), (2, .ref (az 0)), (1, .ref (a 0 0)), (0, .ref b)]) (hW : cr_wd D (lwA s) s (cr_wX ct a r vh vl vk vt vtl vtk vs vx vd vo ++ cr_wM ct az vz) H locs) (hR : lwR B vh vl vk vs vo vz vx) (hB : B + 60 < 2 ^ 30) (hgo : lw_Go p L e s m b below meth c D ct a az (B + 60) Q ls) : W p L e room_1 s m #[Value.ref b] below meth c H locs 87 1281 Q (F0 m 553 ls []) := by
  obtain ⟨hx, hb, hml, hown, hts, hr, hlocks, hK, hN⟩ := id C
  have hbA : ¬ lwA s b := Nat.not_le.mpr hbl
  obtain ⟨q, e1, e2⟩ := lw_paid (vt := vt) (vtl := vtl) (vtk := vtk) (vd := vd) hR (xs (i + 1)) (xs (i + 2)) (xs (i + 3))
  refine lv_aload_n hx hb dL_law_553 rfl (lv_at hl 2 rfl) ?_
  refine lv_aload_n hx hb dL_law_554 rfl (lv_at hl 3 rfl) ?_
  refine lv_iload_n hx hb dL_law_555 rfl (lv_at hl 0 rfl) ?_
  refine lv_iconst (v := 1) hx hb dL_law_556 (by decide) ?_
  refine lv_iadd hx hb dL_law_557 ?_
  refine lw_ld C hX hbl hbA hW.2.2.1 (k := 1) rfl (by omega) (by omega) dL_law_558 ?_
  refine lv_aload_n hx hb dL_law_559 rfl (lv_at hl 3 rfl) ?_
  refine lv_iload_n hx hb dL_law_560 rfl (lv_at hl 0 rfl) ?_
  refine lv_iconst (v := 2) hx hb dL_law_561 (by decide) ?_
  refine lv_iadd hx hb dL_law_562 ?_
  refine lw_ld C hX hbl hbA hW.2.2.1 (k := 2) rfl (by omega) (by omega) dL_law_563 ?_
  refine lv_aload_n hx hb dL_law_564 rfl (lv_at hl 3 rfl) ?_
  refine lv_iload_n hx hb dL_law_565 rfl (lv_at hl 0 rfl) ?_
  refine lv_iconst (v := 3) hx hb dL_law_566 (by decide) ?_
  refine lv_iadd hx hb dL_law_567 ?_
  refine lw_ld C hX hbl hbA hW.2.2.1 (k := 3) rfl (by omega) (by omega) dL_law_568 ?_
  refine cr_lR (As := [.int (xs (i + 1)), .int (xs (i + 2)), .int (xs (i + 3))]) (rest := []) C hW (m_X6_paid L D ct a r vh vl vk vt vtl vtk vs vx vd vo (xs (i + 1)) (xs (i + 2)) (xs (i + 3)) _ e1) (cwV 3 hts gL_law_X6_paid rfl rfl rfl (by decide +kernel) ⟨Nat.le_of_ble_eq_true rfl, Nat.le_of_ble_eq_true rfl⟩) rfl rfl rfl hl.1 rfl (Nat.le_of_ble_eq_true rfl) dL_law_569 ⟨Nat.le_of_ble_eq_true rfl, Nat.le_of_ble_eq_true rfl⟩ (fun q2 H locs hq hV => ?_)
  subst hq
  have hW := hV.perm List.perm_append_comm
  refine lv_aload_n hx hb dL_law_572 rfl (lv_at hl 1 rfl) ?_
  refine lv_aload_n hx hb dL_law_573 rfl (lv_at hl 3 rfl) ?_
  refine lv_iload_n hx hb dL_law_574 rfl (lv_at hl 0 rfl) ?_
  refine lv_iconst (v := 1) hx hb dL_law_575 (by decide) ?_
  refine lv_iadd hx hb dL_law_576 ?_
  refine lw_ld C hX hbl hbA hW.2.2.1 (k := 1) rfl (by omega) (by omega) dL_law_577 ?_
  refine lv_aload_n hx hb dL_law_578 rfl (lv_at hl 3 rfl) ?_
  refine lv_iload_n hx hb dL_law_579 rfl (lv_at hl 0 rfl) ?_
  refine lv_iconst (v := 2) hx hb dL_law_580 (by decide) ?_
  refine lv_iadd hx hb dL_law_581 ?_
  refine lw_ld C hX hbl hbA hW.2.2.1 (k := 2) rfl (by omega) (by omega) dL_law_582 ?_
  refine lv_aload_n hx hb dL_law_583 rfl (lv_at hl 3 rfl) ?_
  refine lv_iload_n hx hb dL_law_584 rfl (lv_at hl 0 rfl) ?_
  refine lv_iconst (v := 3) hx hb dL_law_585 (by decide) ?_
  refine lv_iadd hx hb dL_law_586 ?_
  refine lw_ld C hX hbl hbA hW.2.2.1 (k := 3) rfl (by omega) (by omega) dL_law_587 ?_
  refine cr_lR (As := [.int (xs (i + 1)), .int (xs (i + 2)), .int (xs (i + 3))]) (rest := [.int _]) C hW (m_X7_paid L D ct az vz (xs (i + 1)) (xs (i + 2)) (xs (i + 3)) _ e2) (cwV 3 hts gL_law_X7_paid rfl rfl rfl (by decide +kernel) ⟨Nat.le_of_ble_eq_true rfl, Nat.le_of_ble_eq_true rfl⟩) rfl rfl rfl hl.1 rfl (Nat.le_of_ble_eq_true rfl) dL_law_588 ⟨Nat.le_of_ble_eq_true rfl, Nat.le_of_ble_eq_true rfl⟩ (fun q3 H locs hq hV => ?_)
  subst hq
  have hW := hV.perm List.perm_append_comm
  refine lv_icmp_eq (tgt := 856) hx hb dL_law_591 (by decide) (fun _ => ?_) (fun c9 => absurd rfl c9)
  exact hgo _ _ _ _ _ _ _ _ _ _ _ _ _ _ hW (hR.mono (by omega))
set_option maxHeartbeats 4000000 in
set_option maxRecDepth 100000 in
theorem law_14 (hNF : cr_NF s) (hST : cr_ST (lwA s) s s.heap) (C : cr_Cx p s m meth c #[Value.ref b] RL wsL_law cL_law 4 (some .boolean) D ct) (hX : va_X b Ln xs s s.heap) (hbl : b < s.heap.size) (hi : i + 5 ≤ Ln) (hL : Ln ≤ 2560) (hl : lv_has ls 4 [(3, .int (nI i)), (2, .ref (az 0)), (1, .ref (a 0 0)), (0, .ref b)]) (hW : cr_wd D (lwA s) s (cr_wX ct a r vh vl vk vt vtl vtk vs vx vd vo ++ cr_wM ct az vz) H locs) (hR : lwR B vh vl vk vs vo vz vx) (hB : B + 60 < 2 ^ 30) (hgo : lw_Go p L e s m b below meth c D ct a az (B + 60) Q ls) : W p L e room_1 s m #[Value.ref b] below meth c H locs 87 1281 Q (F0 m 596 ls []) := by
  obtain ⟨hx, hb, hml, hown, hts, hr, hlocks, hK, hN⟩ := id C
  have hbA : ¬ lwA s b := Nat.not_le.mpr hbl
  obtain ⟨q, vd', z', e1, e2, hR2⟩ := lw_given (vt := vt) (vtl := vtl) (vtk := vtk) (vd := vd) hR (xs (i + 1)) (xs (i + 2)) (xs (i + 3))
  refine lv_aload_n hx hb dL_law_596 rfl (lv_at hl 2 rfl) ?_
  refine lv_aload_n hx hb dL_law_597 rfl (lv_at hl 3 rfl) ?_
  refine lv_iload_n hx hb dL_law_598 rfl (lv_at hl 0 rfl) ?_
  refine lv_iconst (v := 1) hx hb dL_law_599 (by decide) ?_
  refine lv_iadd hx hb dL_law_600 ?_
  refine lw_ld C hX hbl hbA hW.2.2.1 (k := 1) rfl (by omega) (by omega) dL_law_601 ?_
  refine lv_aload_n hx hb dL_law_602 rfl (lv_at hl 3 rfl) ?_
  refine lv_iload_n hx hb dL_law_603 rfl (lv_at hl 0 rfl) ?_
  refine lv_iconst (v := 2) hx hb dL_law_604 (by decide) ?_
  refine lv_iadd hx hb dL_law_605 ?_
  refine lw_ld C hX hbl hbA hW.2.2.1 (k := 2) rfl (by omega) (by omega) dL_law_606 ?_
  refine lv_aload_n hx hb dL_law_607 rfl (lv_at hl 3 rfl) ?_
  refine lv_iload_n hx hb dL_law_608 rfl (lv_at hl 0 rfl) ?_
  refine lv_iconst (v := 3) hx hb dL_law_609 (by decide) ?_
  refine lv_iadd hx hb dL_law_610 ?_
  refine lw_ld C hX hbl hbA hW.2.2.1 (k := 3) rfl (by omega) (by omega) dL_law_611 ?_
  refine cr_lW (As := [.int (xs (i + 1)), .int (xs (i + 2)), .int (xs (i + 3))]) (rest := []) C hW (m_X6_given L D ct a r vh vl vk vt vtl vtk vs vx vd vo (xs (i + 1)) (xs (i + 2)) (xs (i + 3)) H.size _ e1) (cwV 3 hts gL_law_X6_given rfl rfl rfl (by decide +kernel) ⟨Nat.le_of_ble_eq_true rfl, Nat.le_of_ble_eq_true rfl⟩) rfl rfl rfl hl.1 rfl (Nat.le_of_ble_eq_true rfl) dL_law_612 ⟨Nat.le_of_ble_eq_true rfl, Nat.le_of_ble_eq_true rfl⟩ (fun q2 u H locs hq hV => ?_)
  obtain ⟨r2, u⟩ := u
  dsimp only at hq
  cases hq
  have hW : cr_wd D (lwA s) s (cr_wM ct az vz ++ cr_wX ct a r2 vh vl vk vt vtl vtk vs vx vd' vo) H locs := hV.perm List.perm_append_comm
  refine lv_aload_n hx hb dL_law_615 rfl (lv_at hl 1 rfl) ?_
  refine lv_aload_n hx hb dL_law_616 rfl (lv_at hl 3 rfl) ?_
  refine lv_iload_n hx hb dL_law_617 rfl (lv_at hl 0 rfl) ?_
  refine lv_iconst (v := 1) hx hb dL_law_618 (by decide) ?_
  refine lv_iadd hx hb dL_law_619 ?_
  refine lw_ld C hX hbl hbA hW.2.2.1 (k := 1) rfl (by omega) (by omega) dL_law_620 ?_
  refine lv_aload_n hx hb dL_law_621 rfl (lv_at hl 3 rfl) ?_
  refine lv_iload_n hx hb dL_law_622 rfl (lv_at hl 0 rfl) ?_
  refine lv_iconst (v := 2) hx hb dL_law_623 (by decide) ?_
  refine lv_iadd hx hb dL_law_624 ?_
  refine lw_ld C hX hbl hbA hW.2.2.1 (k := 2) rfl (by omega) (by omega) dL_law_625 ?_
  refine lv_aload_n hx hb dL_law_626 rfl (lv_at hl 3 rfl) ?_
  refine lv_iload_n hx hb dL_law_627 rfl (lv_at hl 0 rfl) ?_
  refine lv_iconst (v := 3) hx hb dL_law_628 (by decide) ?_
  refine lv_iadd hx hb dL_law_629 ?_
  refine lw_ld C hX hbl hbA hW.2.2.1 (k := 3) rfl (by omega) (by omega) dL_law_630 ?_
  refine cr_lW (As := [.int (xs (i + 1)), .int (xs (i + 2)), .int (xs (i + 3))]) (rest := [.int _]) C hW (m_X7_given L D ct az vz (xs (i + 1)) (xs (i + 2)) (xs (i + 3)) H.size _ e2) (cwV 3 hts gL_law_X7_given rfl rfl rfl (by decide +kernel) ⟨Nat.le_of_ble_eq_true rfl, Nat.le_of_ble_eq_true rfl⟩) rfl rfl rfl hl.1 rfl (Nat.le_of_ble_eq_true rfl) dL_law_631 ⟨Nat.le_of_ble_eq_true rfl, Nat.le_of_ble_eq_true rfl⟩ (fun q3 u H locs hq hV => ?_)
  cases hq
  have hW : cr_wd D (lwA s) s (cr_wX ct a r2 vh vl vk vt vtl vtk vs vx vd' vo ++ cr_wM ct az z') H locs := hV.perm List.perm_append_comm
  refine lv_icmp_eq (tgt := 856) hx hb dL_law_634 (by decide) (fun _ => ?_) (fun c9 => absurd rfl c9)
  exact hgo _ _ _ _ _ _ _ _ _ _ _ _ _ _ hW (hR2.mono (by omega))
set_option maxHeartbeats 4000000 in
set_option maxRecDepth 100000 in
theorem law_15 (hNF : cr_NF s) (hST : cr_ST (lwA s) s s.heap) (C : cr_Cx p s m meth c #[Value.ref b] RL wsL_law cL_law 4 (some .boolean) D ct) (hX : va_X b Ln xs s s.heap) (hbl : b < s.heap.size) (hi : i + 5 ≤ Ln) (hL : Ln ≤ 2560) (hl : lv_has ls 4 [(3, .int (nI i)), (2, .ref (az 0)), (1, .ref (a 0 0)), (0, .ref b)]) (hW : cr_wd D (lwA s) s (cr_wX ct a r vh vl vk vt vtl vtk vs vx vd vo ++ cr_wM ct az vz) H locs) (hR : lwR B vh vl vk vs vo vz vx) (hB : B + 60 < 2 ^ 30) (hgo : lw_Go p L e s m b below meth c D ct a az (B + 60) Q ls) : W p L e room_1 s m #[Value.ref b] below meth c H locs 87 1281 Q (F0 m 639 ls []) := by
  obtain ⟨hx, hb, hml, hown, hts, hr, hlocks, hK, hN⟩ := id C
  have hbA : ¬ lwA s b := Nat.not_le.mpr hbl
  obtain ⟨q, vd', z', e1, e2, hR2⟩ := lw_would (vt := vt) (vtl := vtl) (vtk := vtk) (vd := vd) hR (xs (i + 1)) (xs (i + 2))
  refine lv_aload_n hx hb dL_law_639 rfl (lv_at hl 2 rfl) ?_
  refine lv_aload_n hx hb dL_law_640 rfl (lv_at hl 3 rfl) ?_
  refine lv_iload_n hx hb dL_law_641 rfl (lv_at hl 0 rfl) ?_
  refine lv_iconst (v := 1) hx hb dL_law_642 (by decide) ?_
  refine lv_iadd hx hb dL_law_643 ?_
  refine lw_ld C hX hbl hbA hW.2.2.1 (k := 1) rfl (by omega) (by omega) dL_law_644 ?_
  refine lv_aload_n hx hb dL_law_645 rfl (lv_at hl 3 rfl) ?_
  refine lv_iload_n hx hb dL_law_646 rfl (lv_at hl 0 rfl) ?_
  refine lv_iconst (v := 2) hx hb dL_law_647 (by decide) ?_
  refine lv_iadd hx hb dL_law_648 ?_
  refine lw_ld C hX hbl hbA hW.2.2.1 (k := 2) rfl (by omega) (by omega) dL_law_649 ?_
  refine cr_lW (As := [.int (xs (i + 1)), .int (xs (i + 2))]) (rest := []) C hW (m_X6_would L D ct a r vh vl vk vt vtl vtk vs vx vd vo (xs (i + 1)) (xs (i + 2)) H.size _ e1) (cwV 2 hts gL_law_X6_would rfl rfl rfl (by decide +kernel) ⟨Nat.le_of_ble_eq_true rfl, Nat.le_of_ble_eq_true rfl⟩) rfl rfl rfl hl.1 rfl (Nat.le_of_ble_eq_true rfl) dL_law_650 ⟨Nat.le_of_ble_eq_true rfl, Nat.le_of_ble_eq_true rfl⟩ (fun q2 u H locs hq hV => ?_)
  obtain ⟨r2, u⟩ := u
  dsimp only at hq
  cases hq
  have hW : cr_wd D (lwA s) s (cr_wM ct az vz ++ cr_wX ct a r2 vh vl vk vt vtl vtk vs vx vd' vo) H locs := hV.perm List.perm_append_comm
  refine lv_aload_n hx hb dL_law_653 rfl (lv_at hl 1 rfl) ?_
  refine lv_aload_n hx hb dL_law_654 rfl (lv_at hl 3 rfl) ?_
  refine lv_iload_n hx hb dL_law_655 rfl (lv_at hl 0 rfl) ?_
  refine lv_iconst (v := 1) hx hb dL_law_656 (by decide) ?_
  refine lv_iadd hx hb dL_law_657 ?_
  refine lw_ld C hX hbl hbA hW.2.2.1 (k := 1) rfl (by omega) (by omega) dL_law_658 ?_
  refine lv_aload_n hx hb dL_law_659 rfl (lv_at hl 3 rfl) ?_
  refine lv_iload_n hx hb dL_law_660 rfl (lv_at hl 0 rfl) ?_
  refine lv_iconst (v := 2) hx hb dL_law_661 (by decide) ?_
  refine lv_iadd hx hb dL_law_662 ?_
  refine lw_ld C hX hbl hbA hW.2.2.1 (k := 2) rfl (by omega) (by omega) dL_law_663 ?_
  refine cr_lW (As := [.int (xs (i + 1)), .int (xs (i + 2))]) (rest := [.int _]) C hW (m_X7_would L D ct az vz (xs (i + 1)) (xs (i + 2)) H.size _ e2) (cwV 2 hts gL_law_X7_would rfl rfl rfl (by decide +kernel) ⟨Nat.le_of_ble_eq_true rfl, Nat.le_of_ble_eq_true rfl⟩) rfl rfl rfl hl.1 rfl (Nat.le_of_ble_eq_true rfl) dL_law_664 ⟨Nat.le_of_ble_eq_true rfl, Nat.le_of_ble_eq_true rfl⟩ (fun q3 u H locs hq hV => ?_)
  cases hq
  have hW : cr_wd D (lwA s) s (cr_wX ct a r2 vh vl vk vt vtl vtk vs vx vd' vo ++ cr_wM ct az z') H locs := hV.perm List.perm_append_comm
  refine lv_icmp_eq (tgt := 856) hx hb dL_law_667 (by decide) (fun _ => ?_) (fun c9 => absurd rfl c9)
  exact hgo _ _ _ _ _ _ _ _ _ _ _ _ _ _ hW (hR2.mono (by omega))
set_option maxHeartbeats 4000000 in
set_option maxRecDepth 100000 in
theorem law_16 (hNF : cr_NF s) (hST : cr_ST (lwA s) s s.heap) (C : cr_Cx p s m meth c #[Value.ref b] RL wsL_law cL_law 4 (some .boolean) D ct) (hX : va_X b Ln xs s s.heap) (hbl : b < s.heap.size) (hi : i + 5 ≤ Ln) (hL : Ln ≤ 2560) (hl : lv_has ls 4 [(3, .int (nI i)), (2, .ref (az 0)), (1, .ref (a 0 0)), (0, .ref b)]) (hW : cr_wd D (lwA s) s (cr_wX ct a r vh vl vk vt vtl vtk vs vx vd vo ++ cr_wM ct az vz) H locs) (hR : lwR B vh vl vk vs vo vz vx) (hB : B + 60 < 2 ^ 30) (hgo : lw_Go p L e s m b below meth c D ct a az (B + 60) Q ls) : W p L e room_1 s m #[Value.ref b] below meth c H locs 87 1281 Q (F0 m 672 ls []) := by
  obtain ⟨hx, hb, hml, hown, hts, hr, hlocks, hK, hN⟩ := id C
  have hbA : ¬ lwA s b := Nat.not_le.mpr hbl
  obtain ⟨q, e1, e2⟩ := lw_lift (vt := vt) (vtl := vtl) (vtk := vtk) (vd := vd) hR (xs (i + 1)) (xs (i + 2)) (xs (i + 3))
  refine lv_aload_n hx hb dL_law_672 rfl (lv_at hl 2 rfl) ?_
  refine lv_aload_n hx hb dL_law_673 rfl (lv_at hl 3 rfl) ?_
  refine lv_iload_n hx hb dL_law_674 rfl (lv_at hl 0 rfl) ?_
  refine lv_iconst (v := 1) hx hb dL_law_675 (by decide) ?_
  refine lv_iadd hx hb dL_law_676 ?_
  refine lw_ld C hX hbl hbA hW.2.2.1 (k := 1) rfl (by omega) (by omega) dL_law_677 ?_
  refine lv_aload_n hx hb dL_law_678 rfl (lv_at hl 3 rfl) ?_
  refine lv_iload_n hx hb dL_law_679 rfl (lv_at hl 0 rfl) ?_
  refine lv_iconst (v := 2) hx hb dL_law_680 (by decide) ?_
  refine lv_iadd hx hb dL_law_681 ?_
  refine lw_ld C hX hbl hbA hW.2.2.1 (k := 2) rfl (by omega) (by omega) dL_law_682 ?_
  refine lv_aload_n hx hb dL_law_683 rfl (lv_at hl 3 rfl) ?_
  refine lv_iload_n hx hb dL_law_684 rfl (lv_at hl 0 rfl) ?_
  refine lv_iconst (v := 3) hx hb dL_law_685 (by decide) ?_
  refine lv_iadd hx hb dL_law_686 ?_
  refine lw_ld C hX hbl hbA hW.2.2.1 (k := 3) rfl (by omega) (by omega) dL_law_687 ?_
  refine cr_lR (As := [.int (xs (i + 1)), .int (xs (i + 2)), .int (xs (i + 3))]) (rest := []) C hW (m_X6_lift L D ct a r vh vl vk vt vtl vtk vs vx vd vo (xs (i + 1)) (xs (i + 2)) (xs (i + 3)) _ e1) (cwV 3 hts gL_law_X6_lift rfl rfl rfl (by decide +kernel) ⟨Nat.le_of_ble_eq_true rfl, Nat.le_of_ble_eq_true rfl⟩) rfl rfl rfl hl.1 rfl (Nat.le_of_ble_eq_true rfl) dL_law_688 ⟨Nat.le_of_ble_eq_true rfl, Nat.le_of_ble_eq_true rfl⟩ (fun q2 H locs hq hV => ?_)
  subst hq
  have hW := hV.perm List.perm_append_comm
  refine lv_aload_n hx hb dL_law_691 rfl (lv_at hl 1 rfl) ?_
  refine lv_aload_n hx hb dL_law_692 rfl (lv_at hl 3 rfl) ?_
  refine lv_iload_n hx hb dL_law_693 rfl (lv_at hl 0 rfl) ?_
  refine lv_iconst (v := 1) hx hb dL_law_694 (by decide) ?_
  refine lv_iadd hx hb dL_law_695 ?_
  refine lw_ld C hX hbl hbA hW.2.2.1 (k := 1) rfl (by omega) (by omega) dL_law_696 ?_
  refine lv_aload_n hx hb dL_law_697 rfl (lv_at hl 3 rfl) ?_
  refine lv_iload_n hx hb dL_law_698 rfl (lv_at hl 0 rfl) ?_
  refine lv_iconst (v := 2) hx hb dL_law_699 (by decide) ?_
  refine lv_iadd hx hb dL_law_700 ?_
  refine lw_ld C hX hbl hbA hW.2.2.1 (k := 2) rfl (by omega) (by omega) dL_law_701 ?_
  refine lv_aload_n hx hb dL_law_702 rfl (lv_at hl 3 rfl) ?_
  refine lv_iload_n hx hb dL_law_703 rfl (lv_at hl 0 rfl) ?_
  refine lv_iconst (v := 3) hx hb dL_law_704 (by decide) ?_
  refine lv_iadd hx hb dL_law_705 ?_
  refine lw_ld C hX hbl hbA hW.2.2.1 (k := 3) rfl (by omega) (by omega) dL_law_706 ?_
  refine cr_lR (As := [.int (xs (i + 1)), .int (xs (i + 2)), .int (xs (i + 3))]) (rest := [.int _]) C hW (m_X7_lift L D ct az vz (xs (i + 1)) (xs (i + 2)) (xs (i + 3)) _ e2) (cwV 3 hts gL_law_X7_lift rfl rfl rfl (by decide +kernel) ⟨Nat.le_of_ble_eq_true rfl, Nat.le_of_ble_eq_true rfl⟩) rfl rfl rfl hl.1 rfl (Nat.le_of_ble_eq_true rfl) dL_law_707 ⟨Nat.le_of_ble_eq_true rfl, Nat.le_of_ble_eq_true rfl⟩ (fun q3 H locs hq hV => ?_)
  subst hq
  have hW := hV.perm List.perm_append_comm
  refine lv_icmp_eq (tgt := 856) hx hb dL_law_710 (by decide) (fun _ => ?_) (fun c9 => absurd rfl c9)
  exact hgo _ _ _ _ _ _ _ _ _ _ _ _ _ _ hW (hR.mono (by omega))
set_option maxHeartbeats 4000000 in
set_option maxRecDepth 100000 in
theorem law_17 (hNF : cr_NF s) (hST : cr_ST (lwA s) s s.heap) (C : cr_Cx p s m meth c #[Value.ref b] RL wsL_law cL_law 4 (some .boolean) D ct) (hX : va_X b Ln xs s s.heap) (hbl : b < s.heap.size) (hi : i + 5 ≤ Ln) (hL : Ln ≤ 2560) (hl : lv_has ls 4 [(3, .int (nI i)), (2, .ref (az 0)), (1, .ref (a 0 0)), (0, .ref b)]) (hW : cr_wd D (lwA s) s (cr_wX ct a r vh vl vk vt vtl vtk vs vx vd vo ++ cr_wM ct az vz) H locs) (hR : lwR B vh vl vk vs vo vz vx) (hB : B + 60 < 2 ^ 30) (hgo : lw_Go p L e s m b below meth c D ct a az (B + 60) Q ls) : W p L e room_1 s m #[Value.ref b] below meth c H locs 87 1281 Q (F0 m 715 ls []) := by
  obtain ⟨hx, hb, hml, hown, hts, hr, hlocks, hK, hN⟩ := id C
  have hbA : ¬ lwA s b := Nat.not_le.mpr hbl
  obtain ⟨q, vd', z', e1, e2, hR2⟩ := lw_bestMonth (vt := vt) (vtl := vtl) (vtk := vtk) (vd := vd) hR (xs (i + 1)) (xs (i + 2))
  refine lv_aload_n hx hb dL_law_715 rfl (lv_at hl 2 rfl) ?_
  refine lv_aload_n hx hb dL_law_716 rfl (lv_at hl 3 rfl) ?_
  refine lv_iload_n hx hb dL_law_717 rfl (lv_at hl 0 rfl) ?_
  refine lv_iconst (v := 1) hx hb dL_law_718 (by decide) ?_
  refine lv_iadd hx hb dL_law_719 ?_
  refine lw_ld C hX hbl hbA hW.2.2.1 (k := 1) rfl (by omega) (by omega) dL_law_720 ?_
  refine lv_aload_n hx hb dL_law_721 rfl (lv_at hl 3 rfl) ?_
  refine lv_iload_n hx hb dL_law_722 rfl (lv_at hl 0 rfl) ?_
  refine lv_iconst (v := 2) hx hb dL_law_723 (by decide) ?_
  refine lv_iadd hx hb dL_law_724 ?_
  refine lw_ld C hX hbl hbA hW.2.2.1 (k := 2) rfl (by omega) (by omega) dL_law_725 ?_
  refine cr_lW (As := [.int (xs (i + 1)), .int (xs (i + 2))]) (rest := []) C hW (m_X6_bestMonth L D ct a r vh vl vk vt vtl vtk vs vx vd vo (xs (i + 1)) (xs (i + 2)) H.size _ e1) (cwV 2 hts gL_law_X6_bestMonth rfl rfl rfl (by decide +kernel) ⟨Nat.le_of_ble_eq_true rfl, Nat.le_of_ble_eq_true rfl⟩) rfl rfl rfl hl.1 rfl (Nat.le_of_ble_eq_true rfl) dL_law_726 ⟨Nat.le_of_ble_eq_true rfl, Nat.le_of_ble_eq_true rfl⟩ (fun q2 u H locs hq hV => ?_)
  obtain ⟨r2, u⟩ := u
  dsimp only at hq
  cases hq
  have hW : cr_wd D (lwA s) s (cr_wM ct az vz ++ cr_wX ct a r2 vh vl vk vt vtl vtk vs vx vd' vo) H locs := hV.perm List.perm_append_comm
  refine lv_aload_n hx hb dL_law_729 rfl (lv_at hl 1 rfl) ?_
  refine lv_aload_n hx hb dL_law_730 rfl (lv_at hl 3 rfl) ?_
  refine lv_iload_n hx hb dL_law_731 rfl (lv_at hl 0 rfl) ?_
  refine lv_iconst (v := 1) hx hb dL_law_732 (by decide) ?_
  refine lv_iadd hx hb dL_law_733 ?_
  refine lw_ld C hX hbl hbA hW.2.2.1 (k := 1) rfl (by omega) (by omega) dL_law_734 ?_
  refine lv_aload_n hx hb dL_law_735 rfl (lv_at hl 3 rfl) ?_
  refine lv_iload_n hx hb dL_law_736 rfl (lv_at hl 0 rfl) ?_
  refine lv_iconst (v := 2) hx hb dL_law_737 (by decide) ?_
  refine lv_iadd hx hb dL_law_738 ?_
  refine lw_ld C hX hbl hbA hW.2.2.1 (k := 2) rfl (by omega) (by omega) dL_law_739 ?_
  refine cr_lW (As := [.int (xs (i + 1)), .int (xs (i + 2))]) (rest := [.int _]) C hW (m_X7_bestMonth L D ct az vz (xs (i + 1)) (xs (i + 2)) H.size _ e2) (cwV 2 hts gL_law_X7_bestMonth rfl rfl rfl (by decide +kernel) ⟨Nat.le_of_ble_eq_true rfl, Nat.le_of_ble_eq_true rfl⟩) rfl rfl rfl hl.1 rfl (Nat.le_of_ble_eq_true rfl) dL_law_740 ⟨Nat.le_of_ble_eq_true rfl, Nat.le_of_ble_eq_true rfl⟩ (fun q3 u H locs hq hV => ?_)
  cases hq
  have hW : cr_wd D (lwA s) s (cr_wX ct a r2 vh vl vk vt vtl vtk vs vx vd' vo ++ cr_wM ct az z') H locs := hV.perm List.perm_append_comm
  refine lv_icmp_eq (tgt := 856) hx hb dL_law_743 (by decide) (fun _ => ?_) (fun c9 => absurd rfl c9)
  exact hgo _ _ _ _ _ _ _ _ _ _ _ _ _ _ hW (hR2.mono (by omega))
set_option maxHeartbeats 4000000 in
set_option maxRecDepth 100000 in
theorem law_18 (hNF : cr_NF s) (hST : cr_ST (lwA s) s s.heap) (C : cr_Cx p s m meth c #[Value.ref b] RL wsL_law cL_law 4 (some .boolean) D ct) (hX : va_X b Ln xs s s.heap) (hbl : b < s.heap.size) (hi : i + 5 ≤ Ln) (hL : Ln ≤ 2560) (hl : lv_has ls 4 [(3, .int (nI i)), (2, .ref (az 0)), (1, .ref (a 0 0)), (0, .ref b)]) (hW : cr_wd D (lwA s) s (cr_wX ct a r vh vl vk vt vtl vtk vs vx vd vo ++ cr_wM ct az vz) H locs) (hR : lwR B vh vl vk vs vo vz vx) (hB : B + 60 < 2 ^ 30) (hgo : lw_Go p L e s m b below meth c D ct a az (B + 60) Q ls) : W p L e room_1 s m #[Value.ref b] below meth c H locs 87 1281 Q (F0 m 748 ls []) := by
  obtain ⟨hx, hb, hml, hown, hts, hr, hlocks, hK, hN⟩ := id C
  have hbA : ¬ lwA s b := Nat.not_le.mpr hbl
  obtain ⟨q, e1, e2⟩ := lw_count (vt := vt) (vtl := vtl) (vtk := vtk) (vd := vd) hR (xs (i + 1))
  refine lv_aload_n hx hb dL_law_748 rfl (lv_at hl 2 rfl) ?_
  refine lv_aload_n hx hb dL_law_749 rfl (lv_at hl 3 rfl) ?_
  refine lv_iload_n hx hb dL_law_750 rfl (lv_at hl 0 rfl) ?_
  refine lv_iconst (v := 1) hx hb dL_law_751 (by decide) ?_
  refine lv_iadd hx hb dL_law_752 ?_
  refine lw_ld C hX hbl hbA hW.2.2.1 (k := 1) rfl (by omega) (by omega) dL_law_753 ?_
  refine cr_lR (As := [.int (xs (i + 1))]) (rest := []) C hW (m_X6_count L D ct a r vh vl vk vt vtl vtk vs vx vd vo (xs (i + 1)) _ e1) (cwV 1 hts gL_law_X6_count rfl rfl rfl (by decide +kernel) ⟨Nat.le_of_ble_eq_true rfl, Nat.le_of_ble_eq_true rfl⟩) rfl rfl rfl hl.1 rfl (Nat.le_of_ble_eq_true rfl) dL_law_754 ⟨Nat.le_of_ble_eq_true rfl, Nat.le_of_ble_eq_true rfl⟩ (fun q2 H locs hq hV => ?_)
  subst hq
  have hW := hV.perm List.perm_append_comm
  refine lv_aload_n hx hb dL_law_757 rfl (lv_at hl 1 rfl) ?_
  refine lv_aload_n hx hb dL_law_758 rfl (lv_at hl 3 rfl) ?_
  refine lv_iload_n hx hb dL_law_759 rfl (lv_at hl 0 rfl) ?_
  refine lv_iconst (v := 1) hx hb dL_law_760 (by decide) ?_
  refine lv_iadd hx hb dL_law_761 ?_
  refine lw_ld C hX hbl hbA hW.2.2.1 (k := 1) rfl (by omega) (by omega) dL_law_762 ?_
  refine cr_lR (As := [.int (xs (i + 1))]) (rest := [.int _]) C hW (m_X7_count L D ct az vz (xs (i + 1)) _ e2) (cwV 1 hts gL_law_X7_count rfl rfl rfl (by decide +kernel) ⟨Nat.le_of_ble_eq_true rfl, Nat.le_of_ble_eq_true rfl⟩) rfl rfl rfl hl.1 rfl (Nat.le_of_ble_eq_true rfl) dL_law_763 ⟨Nat.le_of_ble_eq_true rfl, Nat.le_of_ble_eq_true rfl⟩ (fun q3 H locs hq hV => ?_)
  subst hq
  have hW := hV.perm List.perm_append_comm
  refine lv_icmp_eq (tgt := 856) hx hb dL_law_766 (by decide) (fun _ => ?_) (fun c9 => absurd rfl c9)
  exact hgo _ _ _ _ _ _ _ _ _ _ _ _ _ _ hW (hR.mono (by omega))
set_option maxHeartbeats 4000000 in
set_option maxRecDepth 100000 in
theorem law_19 (hNF : cr_NF s) (hST : cr_ST (lwA s) s s.heap) (C : cr_Cx p s m meth c #[Value.ref b] RL wsL_law cL_law 4 (some .boolean) D ct) (hX : va_X b Ln xs s s.heap) (hbl : b < s.heap.size) (hi : i + 5 ≤ Ln) (hL : Ln ≤ 2560) (hl : lv_has ls 4 [(3, .int (nI i)), (2, .ref (az 0)), (1, .ref (a 0 0)), (0, .ref b)]) (hW : cr_wd D (lwA s) s (cr_wX ct a r vh vl vk vt vtl vtk vs vx vd vo ++ cr_wM ct az vz) H locs) (hR : lwR B vh vl vk vs vo vz vx) (hB : B + 60 < 2 ^ 30) (hgo : lw_Go p L e s m b below meth c D ct a az (B + 60) Q ls) : W p L e room_1 s m #[Value.ref b] below meth c H locs 87 1281 Q (F0 m 771 ls []) := by
  obtain ⟨hx, hb, hml, hown, hts, hr, hlocks, hK, hN⟩ := id C
  have hbA : ¬ lwA s b := Nat.not_le.mpr hbl
  obtain ⟨q, vh', vl', vk', vs', z', e1, e2, hR2⟩ := lw_undo (vt := vt) (vtl := vtl) (vtk := vtk) (vd := vd) hR
  refine lv_aload_n hx hb dL_law_771 rfl (lv_at hl 2 rfl) ?_
  refine cr_lW (As := []) (rest := []) C hW (m_X6_undo L D ct a r vh vl vk vt vtl vtk vs vx vd vo H.size _ e1) (cwV 0 hts gL_law_X6_undo rfl rfl rfl (by decide +kernel) ⟨Nat.le_of_ble_eq_true rfl, Nat.le_of_ble_eq_true rfl⟩) rfl rfl rfl hl.1 rfl (Nat.le_of_ble_eq_true rfl) dL_law_772 ⟨Nat.le_of_ble_eq_true rfl, Nat.le_of_ble_eq_true rfl⟩ (fun q2 u H locs hq hV => ?_)
  obtain ⟨r2, u⟩ := u
  dsimp only at hq
  cases hq
  have hW : cr_wd D (lwA s) s (cr_wM ct az vz ++ cr_wX ct a r2 vh' vl' vk' vt vtl vtk vs' vx vd vo) H locs := hV.perm List.perm_append_comm
  refine lv_aload_n hx hb dL_law_775 rfl (lv_at hl 1 rfl) ?_
  refine cr_lW (As := []) (rest := [.int _]) C hW (m_X7_undo L D ct az vz H.size _ e2) (cwV 0 hts gL_law_X7_undo rfl rfl rfl (by decide +kernel) ⟨Nat.le_of_ble_eq_true rfl, Nat.le_of_ble_eq_true rfl⟩) rfl rfl rfl hl.1 rfl (Nat.le_of_ble_eq_true rfl) dL_law_776 ⟨Nat.le_of_ble_eq_true rfl, Nat.le_of_ble_eq_true rfl⟩ (fun q3 u H locs hq hV => ?_)
  cases hq
  have hW : cr_wd D (lwA s) s (cr_wX ct a r2 vh' vl' vk' vt vtl vtk vs' vx vd vo ++ cr_wM ct az z') H locs := hV.perm List.perm_append_comm
  refine lv_icmp_eq (tgt := 856) hx hb dL_law_779 (by decide) (fun _ => ?_) (fun c9 => absurd rfl c9)
  exact hgo _ _ _ _ _ _ _ _ _ _ _ _ _ _ hW (hR2.mono (by omega))
set_option maxHeartbeats 4000000 in
set_option maxRecDepth 100000 in
theorem law_20 (hNF : cr_NF s) (hST : cr_ST (lwA s) s s.heap) (C : cr_Cx p s m meth c #[Value.ref b] RL wsL_law cL_law 4 (some .boolean) D ct) (hX : va_X b Ln xs s s.heap) (hbl : b < s.heap.size) (hi : i + 5 ≤ Ln) (hL : Ln ≤ 2560) (hl : lv_has ls 4 [(3, .int (nI i)), (2, .ref (az 0)), (1, .ref (a 0 0)), (0, .ref b)]) (hW : cr_wd D (lwA s) s (cr_wX ct a r vh vl vk vt vtl vtk vs vx vd vo ++ cr_wM ct az vz) H locs) (hR : lwR B vh vl vk vs vo vz vx) (hB : B + 60 < 2 ^ 30) (hgo : lw_Go p L e s m b below meth c D ct a az (B + 60) Q ls) : W p L e room_1 s m #[Value.ref b] below meth c H locs 87 1281 Q (F0 m 784 ls []) := by
  obtain ⟨hx, hb, hml, hown, hts, hr, hlocks, hK, hN⟩ := id C
  have hbA : ¬ lwA s b := Nat.not_le.mpr hbl
  obtain ⟨q, vo', z', e1, e2, hR2⟩ := lw_type (vt := vt) (vtl := vtl) (vtk := vtk) (vd := vd) hR (xs (i + 1))
  refine lv_aload_n hx hb dL_law_784 rfl (lv_at hl 2 rfl) ?_
  refine lv_aload_n hx hb dL_law_785 rfl (lv_at hl 3 rfl) ?_
  refine lv_iload_n hx hb dL_law_786 rfl (lv_at hl 0 rfl) ?_
  refine lv_iconst (v := 1) hx hb dL_law_787 (by decide) ?_
  refine lv_iadd hx hb dL_law_788 ?_
  refine lw_ld C hX hbl hbA hW.2.2.1 (k := 1) rfl (by omega) (by omega) dL_law_789 ?_
  refine cr_lW (As := [.int (xs (i + 1))]) (rest := []) C hW (m_X6_type L D ct a r vh vl vk vt vtl vtk vs vx vd vo (xs (i + 1)) H.size _ e1) (cwV 1 hts gL_law_X6_type rfl rfl rfl (by decide +kernel) ⟨Nat.le_of_ble_eq_true rfl, Nat.le_of_ble_eq_true rfl⟩) rfl rfl rfl hl.1 rfl (Nat.le_of_ble_eq_true rfl) dL_law_790 ⟨Nat.le_of_ble_eq_true rfl, Nat.le_of_ble_eq_true rfl⟩ (fun q2 u H locs hq hV => ?_)
  obtain ⟨r2, u⟩ := u
  dsimp only at hq
  cases hq
  have hW : cr_wd D (lwA s) s (cr_wM ct az vz ++ cr_wX ct a r2 vh vl vk vt vtl vtk vs vx vd vo') H locs := hV.perm List.perm_append_comm
  refine lv_aload_n hx hb dL_law_793 rfl (lv_at hl 1 rfl) ?_
  refine lv_aload_n hx hb dL_law_794 rfl (lv_at hl 3 rfl) ?_
  refine lv_iload_n hx hb dL_law_795 rfl (lv_at hl 0 rfl) ?_
  refine lv_iconst (v := 1) hx hb dL_law_796 (by decide) ?_
  refine lv_iadd hx hb dL_law_797 ?_
  refine lw_ld C hX hbl hbA hW.2.2.1 (k := 1) rfl (by omega) (by omega) dL_law_798 ?_
  refine cr_lW (As := [.int (xs (i + 1))]) (rest := [.int _]) C hW (m_X7_type L D ct az vz (xs (i + 1)) H.size _ e2) (cwV 1 hts gL_law_X7_type rfl rfl rfl (by decide +kernel) ⟨Nat.le_of_ble_eq_true rfl, Nat.le_of_ble_eq_true rfl⟩) rfl rfl rfl hl.1 rfl (Nat.le_of_ble_eq_true rfl) dL_law_799 ⟨Nat.le_of_ble_eq_true rfl, Nat.le_of_ble_eq_true rfl⟩ (fun q3 u H locs hq hV => ?_)
  cases hq
  have hW : cr_wd D (lwA s) s (cr_wX ct a r2 vh vl vk vt vtl vtk vs vx vd vo' ++ cr_wM ct az z') H locs := hV.perm List.perm_append_comm
  refine lv_icmp_eq (tgt := 856) hx hb dL_law_802 (by decide) (fun _ => ?_) (fun c9 => absurd rfl c9)
  exact hgo _ _ _ _ _ _ _ _ _ _ _ _ _ _ hW (hR2.mono (by omega))
set_option maxHeartbeats 4000000 in
set_option maxRecDepth 100000 in
theorem law_21 (hNF : cr_NF s) (hST : cr_ST (lwA s) s s.heap) (C : cr_Cx p s m meth c #[Value.ref b] RL wsL_law cL_law 4 (some .boolean) D ct) (hX : va_X b Ln xs s s.heap) (hbl : b < s.heap.size) (hi : i + 5 ≤ Ln) (hL : Ln ≤ 2560) (hl : lv_has ls 4 [(3, .int (nI i)), (2, .ref (az 0)), (1, .ref (a 0 0)), (0, .ref b)]) (hW : cr_wd D (lwA s) s (cr_wX ct a r vh vl vk vt vtl vtk vs vx vd vo ++ cr_wM ct az vz) H locs) (hR : lwR B vh vl vk vs vo vz vx) (hB : B + 60 < 2 ^ 30) (hgo : lw_Go p L e s m b below meth c D ct a az (B + 60) Q ls) : W p L e room_1 s m #[Value.ref b] below meth c H locs 87 1281 Q (F0 m 807 ls []) := by
  obtain ⟨hx, hb, hml, hown, hts, hr, hlocks, hK, hN⟩ := id C
  have hbA : ¬ lwA s b := Nat.not_le.mpr hbl
  obtain ⟨q, vo', z', e1, e2, hR2⟩ := lw_clearText (vt := vt) (vtl := vtl) (vtk := vtk) (vd := vd) hR
  refine lv_aload_n hx hb dL_law_807 rfl (lv_at hl 2 rfl) ?_
  refine cr_lW (As := []) (rest := []) C hW (m_X6_clearText L D ct a r vh vl vk vt vtl vtk vs vx vd vo H.size _ e1) (cwV 0 hts gL_law_X6_clearText rfl rfl rfl (by decide +kernel) ⟨Nat.le_of_ble_eq_true rfl, Nat.le_of_ble_eq_true rfl⟩) rfl rfl rfl hl.1 rfl (Nat.le_of_ble_eq_true rfl) dL_law_808 ⟨Nat.le_of_ble_eq_true rfl, Nat.le_of_ble_eq_true rfl⟩ (fun q2 u H locs hq hV => ?_)
  obtain ⟨r2, u⟩ := u
  dsimp only at hq
  cases hq
  have hW : cr_wd D (lwA s) s (cr_wM ct az vz ++ cr_wX ct a r2 vh vl vk vt vtl vtk vs vx vd vo') H locs := hV.perm List.perm_append_comm
  refine lv_aload_n hx hb dL_law_811 rfl (lv_at hl 1 rfl) ?_
  refine cr_lW (As := []) (rest := [.int _]) C hW (m_X7_clearText L D ct az vz H.size _ e2) (cwV 0 hts gL_law_X7_clearText rfl rfl rfl (by decide +kernel) ⟨Nat.le_of_ble_eq_true rfl, Nat.le_of_ble_eq_true rfl⟩) rfl rfl rfl hl.1 rfl (Nat.le_of_ble_eq_true rfl) dL_law_812 ⟨Nat.le_of_ble_eq_true rfl, Nat.le_of_ble_eq_true rfl⟩ (fun q3 u H locs hq hV => ?_)
  cases hq
  have hW : cr_wd D (lwA s) s (cr_wX ct a r2 vh vl vk vt vtl vtk vs vx vd vo' ++ cr_wM ct az z') H locs := hV.perm List.perm_append_comm
  refine lv_icmp_eq (tgt := 856) hx hb dL_law_815 (by decide) (fun _ => ?_) (fun c9 => absurd rfl c9)
  exact hgo _ _ _ _ _ _ _ _ _ _ _ _ _ _ hW (hR2.mono (by omega))
set_option maxHeartbeats 4000000 in
set_option maxRecDepth 100000 in
theorem law_22 (hNF : cr_NF s) (hST : cr_ST (lwA s) s s.heap) (C : cr_Cx p s m meth c #[Value.ref b] RL wsL_law cL_law 4 (some .boolean) D ct) (hX : va_X b Ln xs s s.heap) (hbl : b < s.heap.size) (hi : i + 5 ≤ Ln) (hL : Ln ≤ 2560) (hl : lv_has ls 4 [(3, .int (nI i)), (2, .ref (az 0)), (1, .ref (a 0 0)), (0, .ref b)]) (hW : cr_wd D (lwA s) s (cr_wX ct a r vh vl vk vt vtl vtk vs vx vd vo ++ cr_wM ct az vz) H locs) (hR : lwR B vh vl vk vs vo vz vx) (hB : B + 60 < 2 ^ 30) (hgo : lw_Go p L e s m b below meth c D ct a az (B + 60) Q ls) : W p L e room_1 s m #[Value.ref b] below meth c H locs 87 1281 Q (F0 m 820 ls []) := by
  obtain ⟨hx, hb, hml, hown, hts, hr, hlocks, hK, hN⟩ := id C
  have hbA : ¬ lwA s b := Nat.not_le.mpr hbl
  obtain ⟨q, vt', vtl', vtk', vd', vo', z', e1, e2, hR2⟩ := lw_fault (vt := vt) (vtl := vtl) (vtk := vtk) (vd := vd) hR (by omega) (xs (i + 1))
  refine lv_aload_n hx hb dL_law_820 rfl (lv_at hl 2 rfl) ?_
  refine lv_aload_n hx hb dL_law_821 rfl (lv_at hl 3 rfl) ?_
  refine lv_iload_n hx hb dL_law_822 rfl (lv_at hl 0 rfl) ?_
  refine lv_iconst (v := 1) hx hb dL_law_823 (by decide) ?_
  refine lv_iadd hx hb dL_law_824 ?_
  refine lw_ld C hX hbl hbA hW.2.2.1 (k := 1) rfl (by omega) (by omega) dL_law_825 ?_
  refine cr_lW (As := [.int (xs (i + 1))]) (rest := []) C hW (m_X6_fault L D ct a r vh vl vk vt vtl vtk vs vx vd vo (xs (i + 1)) H.size _ e1) (cwV 1 hts gL_law_X6_fault rfl rfl rfl (by decide +kernel) ⟨Nat.le_of_ble_eq_true rfl, Nat.le_of_ble_eq_true rfl⟩) rfl rfl rfl hl.1 rfl (Nat.le_of_ble_eq_true rfl) dL_law_826 ⟨Nat.le_of_ble_eq_true rfl, Nat.le_of_ble_eq_true rfl⟩ (fun q2 u H locs hq hV => ?_)
  obtain ⟨r2, u⟩ := u
  dsimp only at hq
  cases hq
  have hW : cr_wd D (lwA s) s (cr_wM ct az vz ++ cr_wX ct a r2 vh vl vk vt' vtl' vtk' vs vx vd' vo') H locs := hV.perm List.perm_append_comm
  refine lv_aload_n hx hb dL_law_829 rfl (lv_at hl 1 rfl) ?_
  refine lv_aload_n hx hb dL_law_830 rfl (lv_at hl 3 rfl) ?_
  refine lv_iload_n hx hb dL_law_831 rfl (lv_at hl 0 rfl) ?_
  refine lv_iconst (v := 1) hx hb dL_law_832 (by decide) ?_
  refine lv_iadd hx hb dL_law_833 ?_
  refine lw_ld C hX hbl hbA hW.2.2.1 (k := 1) rfl (by omega) (by omega) dL_law_834 ?_
  refine cr_lW (As := [.int (xs (i + 1))]) (rest := [.int _]) C hW (m_X7_fault L D ct az vz (xs (i + 1)) H.size _ e2) (cwV 1 hts gL_law_X7_fault rfl rfl rfl (by decide +kernel) ⟨Nat.le_of_ble_eq_true rfl, Nat.le_of_ble_eq_true rfl⟩) rfl rfl rfl hl.1 rfl (Nat.le_of_ble_eq_true rfl) dL_law_835 ⟨Nat.le_of_ble_eq_true rfl, Nat.le_of_ble_eq_true rfl⟩ (fun q3 u H locs hq hV => ?_)
  cases hq
  have hW : cr_wd D (lwA s) s (cr_wX ct a r2 vh vl vk vt' vtl' vtk' vs vx vd' vo' ++ cr_wM ct az z') H locs := hV.perm List.perm_append_comm
  refine lv_icmp_eq (tgt := 856) hx hb dL_law_838 (by decide) (fun _ => ?_) (fun c9 => absurd rfl c9)
  exact hgo _ _ _ _ _ _ _ _ _ _ _ _ _ _ hW (hR2.mono (by omega))
set_option maxHeartbeats 4000000 in
set_option maxRecDepth 100000 in
theorem law_23 (hNF : cr_NF s) (hST : cr_ST (lwA s) s s.heap) (C : cr_Cx p s m meth c #[Value.ref b] RL wsL_law cL_law 4 (some .boolean) D ct) (hX : va_X b Ln xs s s.heap) (hbl : b < s.heap.size) (hi : i + 5 ≤ Ln) (hL : Ln ≤ 2560) (hl : lv_has ls 4 [(3, .int (nI i)), (2, .ref (az 0)), (1, .ref (a 0 0)), (0, .ref b)]) (hW : cr_wd D (lwA s) s (cr_wX ct a r vh vl vk vt vtl vtk vs vx vd vo ++ cr_wM ct az vz) H locs) (hR : lwR B vh vl vk vs vo vz vx) (hB : B + 60 < 2 ^ 30) (hgo : lw_Go p L e s m b below meth c D ct a az (B + 60) Q ls) : W p L e room_1 s m #[Value.ref b] below meth c H locs 87 1281 Q (F0 m 843 ls []) := by
  obtain ⟨hx, hb, hml, hown, hts, hr, hlocks, hK, hN⟩ := id C
  have hbA : ¬ lwA s b := Nat.not_le.mpr hbl
  obtain ⟨q, vh', vl', vk', vt', vtl', vtk', vs', vx', vd', vo', z', e1, e2, hR2⟩ := lw_play (vt := vt) (vtl := vtl) (vtk := vtk) (vd := vd) hR (by omega)
  refine lv_aload_n hx hb dL_law_843 rfl (lv_at hl 2 rfl) ?_
  refine cr_lW (As := []) (rest := []) C hW (m_X6_play L D ct a r vh vl vk vt vtl vtk vs vx vd vo H.size _ e1) (cwV 0 hts gL_law_X6_play rfl rfl rfl (by decide +kernel) ⟨Nat.le_of_ble_eq_true rfl, Nat.le_of_ble_eq_true rfl⟩) rfl rfl rfl hl.1 rfl (Nat.le_of_ble_eq_true rfl) dL_law_844 ⟨Nat.le_of_ble_eq_true rfl, Nat.le_of_ble_eq_true rfl⟩ (fun q2 u H locs hq hV => ?_)
  obtain ⟨r2, u⟩ := u
  dsimp only at hq
  cases hq
  have hW : cr_wd D (lwA s) s (cr_wM ct az vz ++ cr_wX ct a r2 vh' vl' vk' vt' vtl' vtk' vs' vx' vd' vo') H locs := hV.perm List.perm_append_comm
  refine lv_aload_n hx hb dL_law_847 rfl (lv_at hl 1 rfl) ?_
  refine cr_lW (As := []) (rest := [.int _]) C hW (m_X7_play L D ct az vz H.size _ e2) (cwV 0 hts gL_law_X7_play rfl rfl rfl (by decide +kernel) ⟨Nat.le_of_ble_eq_true rfl, Nat.le_of_ble_eq_true rfl⟩) rfl rfl rfl hl.1 rfl (Nat.le_of_ble_eq_true rfl) dL_law_848 ⟨Nat.le_of_ble_eq_true rfl, Nat.le_of_ble_eq_true rfl⟩ (fun q3 u H locs hq hV => ?_)
  cases hq
  have hW : cr_wd D (lwA s) s (cr_wX ct a r2 vh' vl' vk' vt' vtl' vtk' vs' vx' vd' vo' ++ cr_wM ct az z') H locs := hV.perm List.perm_append_comm
  refine lv_icmp_eq (tgt := 856) hx hb dL_law_851 (by decide) (fun _ => ?_) (fun c9 => absurd rfl c9)
  exact hgo _ _ _ _ _ _ _ _ _ _ _ _ _ _ hW (hR2.mono (by omega))
end LAWC
