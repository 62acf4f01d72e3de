theorem p_setL {L : List cr_Lot} {v v' : cr_V} (hL : crL L v) {k : Nat} {x y : cr_Lot} (hx : L[k]? = some x) (h4 : v' 4 0 = v 4 0) (hk : v' 0 k = y.1 ∧ v' 1 k = y.2.1 ∧ v' 2 k = y.2.2.1 ∧ v' 3 k = y.2.2.2) (hj : ∀ j, j ≠ k → v' 0 j = v 0 j ∧ v' 1 j = v 1 j ∧ v' 2 j = v 2 j ∧ v' 3 j = v 3 j) : crL (L.set k y) v' := by
  obtain ⟨l1, l2, l3⟩ := hL
  refine ⟨by rw [List.length_set]; exact l1, by rw [List.length_set, h4]; exact l2, fun j z hz => ?_⟩
  by_cases hjk : j = k
  · subst hjk
    rw [List.getElem?_set_self (p_lt hx)] at hz
    cases hz
    exact hk
  · rw [List.getElem?_set_ne (Ne.symm hjk)] at hz
    obtain ⟨a1, a2, a3, a4⟩ := hj j hjk
    obtain ⟨b1, b2, b3, b4⟩ := l3 j z hz
    exact ⟨a1.trans b1, a2.trans b2, a3.trans b3, a4.trans b4⟩
theorem p_less {L : List cr_Lot} {v : cr_V} (hL : crL L v) {k : Nat} {x : cr_Lot} (hx : L[k]? = some x) (b : Int32) : crL (L.set k (s_less x b)) (cr_a v 1 k (v 1 k - b)) := by
  obtain ⟨a1, a2, a3, a4⟩ := hL.2.2 k x hx
  refine p_setL hL hx (by simp [cr_ce]) ⟨?_, ?_, ?_, ?_⟩ (fun j hj => ⟨?_, ?_, ?_, ?_⟩)
  · simp [cr_ce, s_less, a1]
  · simp [cr_ce, cr_up, s_less, a2]
  · simp [cr_ce, s_less, a3]
  · simp [cr_ce, s_less, a4]
  all_goals simp [cr_ce, cr_up, hj]
theorem p_X3_partLot {S : cr_S} {vh vl vk : cr_V} (hC : crC S vh vl vk) (x1 x2 : Int32) : match o_part S x1 x2 with
    | .inl e => f_X3_partLot vh vl vk x1 x2 = some (e, vl)
    | .inr q => ∃ v, f_X3_partLot vh vl vk x1 x2 = some (q.1, v) ∧ crC q.2 vh v vk := by
  obtain ⟨hL, hK, hH, hm⟩ := hC
  have hl := hL.1
  unfold o_part
  rw [f_X3_partLot, p_X4_rowOf hL, Option.bind_some]
  cases hi : cr_idx S.1 x1 with
  | none => simp
  | some k =>
    obtain ⟨x, hx, hn⟩ := cr_idx_some hi
    have hk := p_lt hx
    obtain ⟨a1, a2, a3, a4⟩ := hL.2.2 k x hx
    dsimp only
    rw [if_neg (nI_pos (by omega)), s_get_of hx]
    by_cases h1 : 1 ≤ x2
    · rw [if_pos h1, if_pos h1, if_pos (cr_inn (by omega) (by omega)), cr_xn (by omega), a2]
      by_cases h2 : x2 < x.2.1
      · rw [if_pos h2, if_pos h2, p_X4_isFull hL, Option.bind_some]
        by_cases h3 : S.1.length = 12
        · rw [if_pos h3, if_pos h3, if_neg (by decide)]
        · rw [if_neg h3, if_neg h3, if_pos rfl, a3, a4]
          have hL2 := p_less hL hx x2
          rw [a2] at hL2
          obtain ⟨v, e1, e2, e3⟩ := p_X4_add hL2 x2 x.2.2.1 x.2.2.2 (by rw [List.length_set]; omega)
          rw [e1, Option.bind_some]
          have h5 : (cr_a vl 1 k (x.2.1 - x2)) 5 0 = S.2.2.2.2 5 := by simp [cr_ce, hm]
          rw [h5] at e2 e3 ⊢
          refine ⟨v, rfl, e2, hK, ⟨hH.1, hH.2.1, ?_⟩, ?_⟩
          · simpa [s_up5, cr_up] using hH.2.2
          · simp [s_up5, cr_up, e3]
      · rw [if_neg h2, if_neg h2]
    · rw [if_neg h1, if_neg h1]
theorem p_filter_lt {L : List cr_Lot} {k : Nat} {x : cr_Lot} (hx : L[k]? = some x) (hf : s_full x = false) : (L.filter s_full).length < L.length := by
  rw [List.length_filter_lt_length_iff_exists]
  exact ⟨x, List.mem_of_getElem? hx, by simp [hf]⟩
theorem p_sum_ne {a b : Int32} (ha : ¬ a < 1) (hb : ¬ b < 1) (ha2 : a.toInt ≤ 9999) (hb2 : b.toInt ≤ 9999) : ¬ a + b = 0 := by
  intro h
  have h1 : (a + b).toInt = a.toInt + b.toInt := by
    rw [Int32.toInt_add]
    have e1 : 1 ≤ a.toInt := by have := mt Int32.lt_iff_toInt_lt.mpr ha; simp at this; exact this
    have e2 : 1 ≤ b.toInt := by have := mt Int32.lt_iff_toInt_lt.mpr hb; simp at this; exact this
    rw [Int.bmod_eq_of_le] <;> omega
  have e1 : 1 ≤ a.toInt := by have := mt Int32.lt_iff_toInt_lt.mpr ha; simp at this; exact this
  have e2 : 1 ≤ b.toInt := by have := mt Int32.lt_iff_toInt_lt.mpr hb; simp at this; exact this
  rw [h] at h1
  simp at h1
  omega
theorem p_X3_blendLots {S : cr_S} {vh vl vk : cr_V} (hC : crC S vh vl vk) (hB : ∀ (j : Nat) (x : cr_Lot), S.1[j]? = some x → x.2.1.toInt ≤ 9999) (x1 x2 x3 x4 : Int32) : match o_blend S x1 x2 x3 x4 with
    | .inl e => f_X3_blendLots vh vl vk x1 x2 x3 x4 = some (e, vl)
    | .inr q => ∃ v, f_X3_blendLots vh vl vk x1 x2 x3 x4 = some (q.1, v) ∧ crC q.2 vh v vk := by
  obtain ⟨hL, hK, hH, hm⟩ := hC
  have hl := hL.1
  have h0 : vh 4 0 = S.2.2.2.2 0 := hH.2.2.1
  unfold o_blend
  rw [f_X3_blendLots, p_X4_rowOf hL, Option.bind_some, p_X4_rowOf hL, Option.bind_some]
  cases hi : cr_idx S.1 x1 with
  | none => simp
  | some i =>
    obtain ⟨x, hx, hnx⟩ := cr_idx_some hi
    have hil := p_lt hx
    obtain ⟨a1, a2, a3, a4⟩ := hL.2.2 i x hx
    dsimp only
    rw [if_neg (nI_pos (show i < 2 ^ 31 by omega))]
    cases hj : cr_idx S.1 x3 with
    | none => simp
    | some j =>
      obtain ⟨y, hy, hny⟩ := cr_idx_some hj
      have hjl := p_lt hy
      obtain ⟨b1, b2, b3, b4⟩ := hL.2.2 j y hy
      dsimp only
      rw [if_neg (nI_pos (show j < 2 ^ 31 by omega)), s_get_of hx, s_get_of hy]
      by_cases hij : i = j
      · rw [if_pos (show nI i = nI j by rw [hij]), if_pos (show i = j ∨ x2 < 1 ∨ x4 < 1 from Or.inl hij)]
      rw [if_neg (show ¬ nI i = nI j from fun e => hij ((nI_eq (by omega) (by omega)).mp e))]
      by_cases h1 : x2 < 1
      · rw [if_pos h1, if_pos (show i = j ∨ x2 < 1 ∨ x4 < 1 from Or.inr (Or.inl h1))]
      rw [if_neg h1]
      by_cases h2 : x4 < 1
      · rw [if_neg (show ¬ 1 ≤ x4 from by rw [Int32.not_le]; exact h2), if_pos (show i = j ∨ x2 < 1 ∨ x4 < 1 from Or.inr (Or.inr h2))]
      rw [if_pos (show 1 ≤ x4 from Int32.not_lt.mp h2), if_neg (show ¬ (i = j ∨ x2 < 1 ∨ x4 < 1) by rintro (h | h | h) <;> contradiction), if_pos (cr_inn (by omega) (by omega)), cr_xn (show i < 2 ^ 31 by omega), a2]
      by_cases h3 : x.2.1 < x2
      · rw [if_pos h3, if_pos (show x.2.1 < x2 ∨ y.2.1 < x4 from Or.inl h3)]
      rw [if_neg h3, if_pos (cr_inn (by omega) (by omega)), cr_xn (show j < 2 ^ 31 by omega), b2]
      by_cases h4 : y.2.1 < x4
      · rw [if_neg (show ¬ x4 ≤ y.2.1 from by rw [Int32.not_le]; exact h4), if_pos (show x.2.1 < x2 ∨ y.2.1 < x4 from Or.inr h4)]
      rw [if_pos (show x4 ≤ y.2.1 from Int32.not_lt.mp h4), if_neg (show ¬ (x.2.1 < x2 ∨ y.2.1 < x4) by rintro (h | h) <;> contradiction)]
      have hq1 : x2.toInt ≤ 9999 := Int.le_trans (Int32.le_iff_toInt_le.mp (Int32.not_lt.mp h3)) (hB i x hx)
      have hq2 : x4.toInt ≤ 9999 := Int.le_trans (Int32.le_iff_toInt_le.mp (Int32.not_lt.mp h4)) (hB j y hy)
      have main : (¬ (9999 < x2 + x4 ∨ (S.1.length = 12 ∧ x2 ≠ x.2.1 ∧ x4 ≠ y.2.1))) → ∃ v, f_X3_blendLots_163 vh vl vk x2 x4 (nI i) (nI j) (x2 + x4) = some (S.2.2.2.2 5, v) ∧ crC (((S.1.set i (s_less x x2)).set j (s_less y x4)).filter s_full ++ [(S.2.2.2.2 5, x2 + x4, (x2 * s_cup x (S.2.2.2.2 0) + x4 * s_cup y (S.2.2.2.2 0)) / (x2 + x4), S.2.2.2.2 0)], S.2.1, S.2.2.1, S.2.2.2.1, s_up5 S.2.2.2.2) vh v vk := by
        intro hno
        have hL2 := p_less hL hx x2
        have hy2 : (S.1.set i (s_less x x2))[j]? = some y := by rw [List.getElem?_set_ne hij]; exact hy
        have hL3 := p_less hL2 hy2 x4
        obtain ⟨v1, e1, e2, e3⟩ := p_X4_dropEmpty hL3
        have hlen : (((S.1.set i (s_less x x2)).set j (s_less y x4)).filter s_full).length < 12 := by
          by_cases hl12 : S.1.length = 12
          · have hor : x2 = x.2.1 ∨ x4 = y.2.1 := by
              rcases Classical.em (x2 = x.2.1) with h | h
              · exact Or.inl h
              · rcases Classical.em (x4 = y.2.1) with h' | h'
                · exact Or.inr h'
                · exact absurd (Or.inr ⟨hl12, h, h'⟩) hno
            have hlen2 : ((S.1.set i (s_less x x2)).set j (s_less y x4)).length = 12 := by rw [List.length_set, List.length_set]; exact hl12
            rcases hor with h | h
            · have hz : ((S.1.set i (s_less x x2)).set j (s_less y x4))[i]? = some (s_less x x2) := by rw [List.getElem?_set_ne (Ne.symm hij), List.getElem?_set_self hil]
              have := p_filter_lt hz (by simp [s_full, s_less, h])
              omega
            · have hz : ((S.1.set i (s_less x x2)).set j (s_less y x4))[j]? = some (s_less y x4) := by rw [List.getElem?_set_self (by rw [List.length_set]; exact hjl)]
              have := p_filter_lt hz (by simp [s_full, s_less, h])
              omega
          · have := List.length_filter_le s_full ((S.1.set i (s_less x x2)).set j (s_less y x4))
            rw [List.length_set, List.length_set] at this
            omega
        obtain ⟨v, e4, e5, e6⟩ := p_X4_add e2 (x2 + x4) ((x2 * s_cup x (S.2.2.2.2 0) + x4 * s_cup y (S.2.2.2.2 0)) / (x2 + x4)) (S.2.2.2.2 0) hlen
        have h5 : v1 5 0 = S.2.2.2.2 5 := by rw [e3]; simp [cr_ce, hm]
        rw [h5] at e4 e5 e6
        rw [f_X3_blendLots_163, p_X4_cupAt hL hx, Option.bind_some, p_X4_cupAt hL hy, Option.bind_some, if_pos (cr_inn (by omega) (by omega)), if_pos (cr_inn (by omega) (by omega)), cr_xn (show i < 2 ^ 31 by omega), cr_xn (show j < 2 ^ 31 by omega), e1, Option.bind_some, if_neg (p_sum_ne h1 h2 hq1 hq2), h0, e4, Option.bind_some]
        refine ⟨v, rfl, e5, hK, ⟨hH.1, hH.2.1, ?_⟩, ?_⟩
        · simpa [s_up5, cr_up] using hH.2.2
        · simp [s_up5, cr_up, e6]
      have h108 : ∀ s0 : Int32, s0 = (if x2 = x.2.1 then 1 else 0) → f_X3_blendLots_108 vh vl vk x2 x4 (nI i) (nI j) (x2 + x4) s0 = if 9999 < x2 + x4 ∨ (S.1.length = 12 ∧ x2 ≠ x.2.1 ∧ x4 ≠ y.2.1) then some (-2000000003, vl) else f_X3_blendLots_163 vh vl vk x2 x4 (nI i) (nI j) (x2 + x4) := by
        intro s0 hs0
        rw [f_X3_blendLots_108, if_pos (cr_inn (by omega) (by omega)), cr_xn (show j < 2 ^ 31 by omega), b2]
        simp only [f_X3_blendLots_130, p_X4_isFull hL, Option.bind_some, hs0]
        by_cases g1 : 9999 < x2 + x4
        · simp [g1]
        · by_cases g2 : S.1.length = 12
          · by_cases g3 : x2 = x.2.1 <;> by_cases g4 : x4 = y.2.1 <;> simp [g1, g2, g3, g4]
          · by_cases g4 : x4 = y.2.1 <;> simp [g1, g2, g4]
      have hcond : (if x2 = x.2.1 then f_X3_blendLots_108 vh vl vk x2 x4 (nI i) (nI j) (x2 + x4) 1 else f_X3_blendLots_108 vh vl vk x2 x4 (nI i) (nI j) (x2 + x4) 0) = if 9999 < x2 + x4 ∨ (S.1.length = 12 ∧ x2 ≠ x.2.1 ∧ x4 ≠ y.2.1) then some (-2000000003, vl) else f_X3_blendLots_163 vh vl vk x2 x4 (nI i) (nI j) (x2 + x4) := by
        by_cases g3 : x2 = x.2.1
        · rw [if_pos g3]; exact h108 1 (by rw [if_pos g3])
        · rw [if_neg g3]; exact h108 0 (by rw [if_neg g3])
      rw [hcond]
      by_cases hno : 9999 < x2 + x4 ∨ (S.1.length = 12 ∧ x2 ≠ x.2.1 ∧ x4 ≠ y.2.1)
      · rw [if_pos hno, if_pos hno]
      · rw [if_neg hno, if_neg hno]
        exact main hno
