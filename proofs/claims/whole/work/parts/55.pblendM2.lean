theorem z_sum {a b : Int32} (ha1 : 1 ≤ a) (ha2 : a ≤ 9999) (hb1 : 1 ≤ b) (hb2 : b ≤ 9999) : ¬ a + b = 0 := by
  have ha : s_in a 1 9999 = true := by simp [s_in, Int32.not_lt.mpr ha1, Int32.not_lt.mpr ha2]
  have hb : s_in b 1 9999 = true := by simp [s_in, Int32.not_lt.mpr hb1, Int32.not_lt.mpr hb2]
  obtain ⟨n, n1, n2, rfl⟩ := p_inN (a := 1) (b := 9999) ha (by omega) (by omega)
  obtain ⟨m, m1, m2, rfl⟩ := p_inN (a := 1) (b := 9999) hb (by omega) (by omega)
  rw [nI_add]
  exact nI_ne0 (by omega) (by omega)
theorem z_le {x : Int32} (h : s_in x 1 9999 = true) : x ≤ 9999 := by
  obtain ⟨n, n1, n2, rfl⟩ := p_inN (a := 1) (b := 9999) h (by omega) (by omega)
  exact c_le n 9999 rfl rfl n2 (by omega)
theorem q_blend {S : cr_S} {H : List cr_S} {v : cr_V} (hM : mdR S (v 0)) (hP : mdP H v) (hd : s_dist S.1) (hB : ∀ x ∈ S.1, s_in x.2.1 1 9999 = true) (x1 x2 x3 x4 : Int32) : q_Ok (o_blend S x1 x2 x3 x4) S H v (f_X7_blend v x1 x2 x3 x4) := by
  have hl := hM.1.1
  unfold o_blend
  have err : ∀ e : Int32, q_Ok (.inl e) S H v (some (e, v)) := fun e => ⟨v, rfl, hM, hP, sameC.rf⟩
  rw [f_X7_blend, q_isLot hM.1, Option.bind_some]
  cases hi : cr_idx S.1 x1 with
  | none => simpa using err _
  | some i =>
    obtain ⟨x, hx, hnx⟩ := cr_idx_some hi
    have hil := p_lt hx
    simp only [Option.isSome_some, if_true, n10, if_false]
    rw [q_isLot hM.1, Option.bind_some]
    cases hj : cr_idx S.1 x3 with
    | none => simpa using err _
    | some j =>
      obtain ⟨y, hy, hny⟩ := cr_idx_some hj
      have hjl := p_lt hy
      simp only [Option.isSome_some, if_true, n10, if_false, s_get_of hx, s_get_of hy]
      have hii : (x1 = x3) = (i = j) := propext ⟨fun e => by rw [e, hj] at hi; cases hi; rfl, fun e => by subst e; rw [hx] at hy; cases hy; rw [← hnx, ← hny]⟩
      by_cases hij : i = j
      · rw [if_pos (hii.mpr hij), if_pos (show i = j ∨ x2 < 1 ∨ x4 < 1 from Or.inl hij)]
        exact err _
      rw [if_neg (fun e => hij (hii.mp e))]
      by_cases h1 : x2 < 1
      · rw [if_pos h1, if_pos (show i = j ∨ x2 < 1 ∨ x4 < 1 from Or.inr (Or.inl h1))]
        exact err _
      rw [if_neg h1]
      by_cases h2 : x4 < 1
      · rw [if_neg (show ¬ 1 ≤ x4 from by rw [Int32.not_le]; exact h2), if_pos (show i = j ∨ x2 < 1 ∨ x4 < 1 from Or.inr (Or.inr h2))]
        exact err _
      rw [if_pos (show 1 ≤ x4 from Int32.not_lt.mp h2), if_neg (show ¬ (i = j ∨ x2 < 1 ∨ x4 < 1) by rintro (h | h | h) <;> contradiction)]
      rw [q_placeOf hM.1, hi, Option.bind_some, s_enc, q_placeOf hM.1, hj, Option.bind_some, s_enc, q_of1 hM.1 hx, Option.bind_some]
      by_cases h3 : x.2.1 < x2
      · rw [if_pos h3, if_pos (show x.2.1 < x2 ∨ y.2.1 < x4 from Or.inl h3)]
        exact err _
      rw [if_neg h3, q_of1 hM.1 hy, Option.bind_some]
      by_cases h4 : y.2.1 < x4
      · rw [if_neg (show ¬ x4 ≤ y.2.1 from by rw [Int32.not_le]; exact h4), if_pos (show x.2.1 < x2 ∨ y.2.1 < x4 from Or.inr h4)]
        exact err _
      rw [if_pos (show x4 ≤ y.2.1 from Int32.not_lt.mp h4), if_neg (show ¬ (x.2.1 < x2 ∨ y.2.1 < x4) by rintro (h | h) <;> contradiction), Option.bind_some]
      have h1' : 1 ≤ x2 := Int32.not_lt.mp h1
      have h2' : 1 ≤ x4 := Int32.not_lt.mp h2
      have h3' : x2 ≤ x.2.1 := Int32.not_lt.mp h3
      have h4' : x4 ≤ y.2.1 := Int32.not_lt.mp h4
      have hnz : ¬ x2 + x4 = 0 := z_sum h1' (Int32.le_trans h3' (z_le (hB x (List.mem_of_getElem? hx)))) h2' (Int32.le_trans h4' (z_le (hB y (List.mem_of_getElem? hy))))
      have key : ∀ s0 s1 : Int32, (12 < s1 - s0) = (S.1.length = 12 ∧ x2 ≠ x.2.1 ∧ x4 ≠ y.2.1) → q_Ok (if 9999 < x2 + x4 ∨ (S.1.length = 12 ∧ x2 ≠ x.2.1 ∧ x4 ≠ y.2.1) then .inl (-2000000003) else .inr (S.2.2.2.2 5, ((S.1.set i (s_less x x2)).set j (s_less y x4)).filter s_full ++ [(S.2.2.2.2 5, x2 + x4, (x2 * s_cup x (S.2.2.2.2 0) + x4 * s_cup y (S.2.2.2.2 0)) / (x2 + x4), S.2.2.2.2 0)], S.2.1, S.2.2.1, S.2.2.2.1, s_up5 S.2.2.2.2)) S H v (f_X7_blend_118 v x1 x2 x3 x4 (nI i) (nI j) s0 s1) := by
        intro s0 s1 hs
        rw [f_X7_blend_118]
        by_cases h12 : S.1.length = 12 ∧ x2 ≠ x.2.1 ∧ x4 ≠ y.2.1
        · rw [if_pos (hs.mpr h12), if_pos (show 9999 < x2 + x4 ∨ (S.1.length = 12 ∧ x2 ≠ x.2.1 ∧ x4 ≠ y.2.1) from Or.inr h12)]
          exact err _
        · rw [if_neg (fun e => h12 (hs.mp e))]
          by_cases h9 : x2 + x4 ≤ 9999
          · rw [if_pos h9, if_neg (show ¬ (9999 < x2 + x4 ∨ (S.1.length = 12 ∧ x2 ≠ x.2.1 ∧ x4 ≠ y.2.1)) from fun h => h.elim (fun h => (Int32.not_lt.mpr h9 h).elim) h12)]
            exact q_blend_s hM hP hd hB hx hnx hy hny hij h1' h2' h3' h4' h9 h12 hnz
          · rw [if_neg h9, if_pos (show 9999 < x2 + x4 ∨ (S.1.length = 12 ∧ x2 ≠ x.2.1 ∧ x4 ≠ y.2.1) from Or.inl (Int32.not_le.mp h9))]
            exact err _
      have cmp : ∀ a b : Nat, a + b ≤ S.1.length + 1 → (12 < nI (S.1.length + 1) - nI a - nI b) = (12 < S.1.length + 1 - a - b) := fun a b hab => by
        have e : nI (S.1.length + 1) - nI a - nI b = nI (S.1.length + 1 - a - b) := by
          rw [show S.1.length + 1 = (S.1.length + 1 - a - b) + b + a by omega, ← nI_add, Int32.add_sub_cancel, ← nI_add, Int32.add_sub_cancel]
          congr 1; omega
        rw [e]
        refine propext ⟨fun h => Nat.lt_of_not_le fun q => (c_nlt 12 _ rfl rfl q (by omega)) h, fun h => c_lt 12 _ rfl rfl h (by omega)⟩
      rw [hM.1.2.1, nI_1]
      by_cases h5 : x2 = x.2.1
      · rw [if_pos h5, f_X7_blend_100, q_of1 hM.1 hy, Option.bind_some]
        by_cases h6 : x4 = y.2.1
        · rw [if_pos h6]
          exact key 1 _ ((cmp 1 1 (by omega)).trans (propext ⟨fun h => by omega, fun h => (h.2.1 h5).elim⟩))
        · rw [if_neg h6]
          exact key 0 _ ((cmp 1 0 (by omega)).trans (propext ⟨fun h => by omega, fun h => (h.2.1 h5).elim⟩))
      · rw [if_neg h5, f_X7_blend_100, q_of1 hM.1 hy, Option.bind_some]
        by_cases h6 : x4 = y.2.1
        · rw [if_pos h6]
          exact key 1 _ ((cmp 0 1 (by omega)).trans (propext ⟨fun h => by omega, fun h => (h.2.2 h6).elim⟩))
        · rw [if_neg h6]
          exact key 0 _ ((cmp 0 0 (by omega)).trans (propext ⟨fun h => ⟨by omega, h5, h6⟩, fun h => by omega⟩))
