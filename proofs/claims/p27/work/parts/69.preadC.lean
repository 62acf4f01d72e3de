/-! the readers, on the class -/
section CRR
variable {vh vl vk vt vtl vtk vs vd vo : cr_V} {vx : Nat → Nat → cr_V} {S : cr_S}
theorem s_in_out {w : Int32} {a b j : Nat} (h : s_in w (nI a) (nI b) = false) (h1 : a ≤ j) (h2 : j ≤ b) (hb : b < 2 ^ 31) : ¬ w = nI j := fun e => by
  rw [e, z_inN h1 h2 hb] at h; cases h
theorem p_X6_lotOf (hC : crC S vh vl vk) (n w : Int32) : f_X6_lotOf vh vl vk vt vtl vtk vs vx vd vo n w = some (r_lot S n w) := by
  obtain ⟨hL, hK, hH, hm⟩ := hC
  have hl := hL.1
  have h0 : vh 4 0 = S.2.2.2.2 0 := hH.2.2.1
  rw [f_X6_lotOf, p_X4_rowOf hL, Option.bind_some]
  unfold r_lot
  cases hi : cr_idx S.1 n with
  | none => rfl
  | some k =>
    obtain ⟨x, hx, hn⟩ := cr_idx_some hi
    have hk := p_lt hx
    obtain ⟨a1, a2, a3, a4⟩ := hL.2.2 k x hx
    dsimp only
    rw [if_pos (nI_pos' (by omega)), s_get_of hx, f_X3_tellOfLot]
    cases h1 : s_in w 0 6 with
    | false =>
      have hno := fun j (hj : j ≤ 6) => s_in_out (a := 0) (b := 6) (j := j) h1 (by omega) hj (by omega)
      rw [if_neg (show ¬ w = 0 from hno 0 (by omega)), if_neg (show ¬ w = 1 from hno 1 (by omega)), if_neg (show ¬ w = 2 from hno 2 (by omega)), if_neg (show ¬ w = 3 from hno 3 (by omega)), if_neg (show ¬ w = 4 from hno 4 (by omega)), if_neg (show ¬ w = 5 from hno 5 (by omega)), if_neg (show ¬ w = 6 from hno 6 (by omega))]
      rfl
    | true =>
      obtain ⟨u, u1, u2, rfl⟩ := p_inN (a := 0) (b := 6) h1 (by omega) (by omega)
      have hb := s_band_lt (s_cup x (S.2.2.2.2 0))
      simp only [cr_xn (show k < 2 ^ 31 by omega), cr_inn (show k < 12 by omega) (show 12 < 2 ^ 31 by omega), if_true, h0, p_X4_cupAt hL hx, p_X4_late hL hx, Option.bind_some, p_X6_bandOf, cr_inn hb (show 4 < 2 ^ 31 by omega), cr_xn (show s_band (s_cup x (S.2.2.2.2 0)) < 2 ^ 31 by omega), hH.1 _ hb, a2, a3, a4]
      rcases (show u = 0 ∨ u = 1 ∨ u = 2 ∨ u = 3 ∨ u = 4 ∨ u = 5 ∨ u = 6 by omega) with rfl | rfl | rfl | rfl | rfl | rfl | rfl <;> rfl
theorem p_X6_numberOf (hC : crC S vh vl vk) (x : Int32) : f_X6_numberOf vh vl vk vt vtl vtk vs vx vd vo x = some (r_num S x) := by
  obtain ⟨hL, hK, hH, hm⟩ := hC
  have hl := hL.1
  rw [f_X6_numberOf, hL.2.1]
  unfold r_num
  rcases pk_ix x (show S.1.length < 2 ^ 31 by omega) with h | h | ⟨j, hj, rfl⟩
  · rw [if_neg (Int32.not_le.mpr h), if_neg (Int32.not_le.mpr h)]
  · by_cases h0 : 0 ≤ x
    · rw [if_pos h0, if_pos h0, if_pos h, if_neg (Int32.not_lt.mpr h)]
    · rw [if_neg h0, if_neg h0]
  · have hx : S.1[j]? = some S.1[j] := List.getElem?_eq_getElem hj
    rw [if_pos (nI_pos' (by omega)), if_pos (nI_pos' (by omega)), if_neg (nI_ge hj (by omega)), if_pos (nI_lt hj (by omega)), if_pos (cr_inn (by omega) (by omega)), cr_xn (by omega), s_get_of hx, (hL.2.2 j _ hx).1]
theorem p_X6_contractOf (hC : crC S vh vl vk) (x w : Int32) : f_X6_contractOf vh vl vk vt vtl vtk vs vx vd vo x w = some (r_con S x w) := by
  obtain ⟨hL, hK, hH, hm⟩ := hC
  have hkl := hK.1
  have h0 : vh 4 0 = S.2.2.2.2 0 := hH.2.2.1
  rw [f_X6_contractOf, p_X0_isOpen hK, Option.bind_some]
  unfold r_con
  rcases s_open_cases (n := S.2.1.length) (by omega) x with ⟨h1, -⟩ | ⟨h1, k, hk, rfl⟩
  · rw [h1]; simp
  · have hc : S.2.1[k]? = some S.2.1[k] := List.getElem?_eq_getElem hk
    obtain ⟨a1, a2⟩ := hK.2.2 k _ hc
    rw [h1, if_neg (by decide)]
    simp only [cr_inn (show k < 6 by omega) (show 6 < 2 ^ 31 by omega), cr_xn (show k < 2 ^ 31 by omega), s_con_of hc, a1, a2, h0, if_true]
    cases h1 : s_in w 0 2 with
    | false =>
      have hno := fun j (hj : j ≤ 2) => s_in_out (a := 0) (b := 2) (j := j) h1 (by omega) hj (by omega)
      rw [if_neg (show ¬ w = 0 from hno 0 (by omega)), if_neg (show ¬ w = 1 from hno 1 (by omega)), if_neg (show ¬ w = 2 from hno 2 (by omega)), if_neg (by simp)]
    | true =>
      obtain ⟨u, u1, u2, rfl⟩ := p_inN (a := 0) (b := 2) h1 (by omega) (by omega)
      rcases (show u = 0 ∨ u = 1 ∨ u = 2 by omega) with rfl | rfl | rfl <;> rfl
theorem s_bm_nn (p : Int32) : ∀ (i : Nat), i ≤ 24 → (s_bm S p i).1 = (-2000000004) ∨ 0 ≤ (s_bm S p i).1
  | 0, _ => Or.inl rfl
  | i + 1, h => by
    rw [s_bm]
    split
    · split
      · exact Or.inr (nI_pos' (by omega))
      · exact s_bm_nn p i (by omega)
    · exact s_bm_nn p i (by omega)
theorem s_bm_neg {p : Int32} {i : Nat} (h : i ≤ 24) : ((s_bm S p i).1 < 0) = ((s_bm S p i).1 = (-2000000004)) := by
  rcases s_bm_nn (S := S) p i h with e | e
  · rw [e]; exact propext ⟨fun _ => rfl, fun _ => by decide⟩
  · exact propext ⟨fun k => absurd k (Int32.not_lt.mpr e), fun k => by rw [k] at e; exact absurd e (by decide)⟩
theorem s_bags_0 (m : Int32) : ∀ (L : List cr_Lot) (a : Int32), s_bags 0 m L a = s_sum (fun x => x.2.1) L a
  | [], a => rfl
  | x :: L, a => by
    have hn : ¬ s_cup x m < 0 := by
      have h60 : (60 : Int32) ≤ s_cup x m := by unfold s_cup; split <;> first | assumption | decide
      exact fun h => absurd (Int32.lt_of_le_of_lt h60 h) (by decide)
    rw [s_bags, s_sum, if_neg hn]
    exact s_bags_0 m L _
theorem s_bags_70 (m : Int32) : ∀ (L : List cr_Lot) (a : Int32), s_bags 70 m L a = s_sum (fun x => if s_cup x m < 70 then 0 else x.2.1) L a
  | [], a => rfl
  | x :: L, a => by
    rw [s_bags, s_sum]
    exact s_bags_70 m L _
theorem p_X6_count (hC : crC S vh vl vk) (w : Int32) : f_X6_count vh vl vk vt vtl vtk vs vx vd vo w = some (r_count S (vs 1 0) (vo 1 0) w) := by
  obtain ⟨hL, hK, hH, hm⟩ := hC
  obtain ⟨t1, t2, t3, t4, t5, t6, t7⟩ := hH
  rw [f_X6_count, p_X6_isWithin, Option.bind_some]
  unfold r_count
  cases h1 : s_in w 20 24 with
  | true =>
    obtain ⟨u, u1, u2, rfl⟩ := p_inN (a := 20) (b := 24) h1 (by omega) (by omega)
    have hno : ∀ j, j ≤ 19 → ¬ nI u = nI j := fun j hj e => by have := nI_inj (by omega) (by omega) e; omega
    rw [if_neg (by decide), if_neg (show ¬ nI u = 0 from hno 0 (by omega)), if_neg (show ¬ nI u = 1 from hno 1 (by omega)), if_neg (show ¬ nI u = 2 from hno 2 (by omega)), if_neg (show ¬ nI u = 3 from hno 3 (by omega)), if_neg (show ¬ nI u = 4 from hno 4 (by omega)), if_neg (show ¬ nI u = 5 from hno 5 (by omega)), if_neg (show ¬ nI u = 6 from hno 6 (by omega)), if_neg (show ¬ nI u = 7 from hno 7 (by omega)), if_neg (show ¬ nI u = 8 from hno 8 (by omega)), if_neg (show ¬ nI u = 9 from hno 9 (by omega)), if_neg (show ¬ nI u = 10 from hno 10 (by omega)), if_neg (show ¬ nI u = 11 from hno 11 (by omega)), if_pos rfl, show (20 : Int32) = nI 20 from rfl, pk_sub u1, if_pos (cr_inn (by omega) (by omega)), cr_xn (by omega), t2 _ (by omega)]
  | false =>
    simp only [Bool.false_eq_true, if_false, if_true]
    rw [f_X3_tellCount, hL.2.1, hK.2.1, p_X4_allBags hL, p_X4_bagsToGive hL, t3, t4, t5, t6, t7, hm, s_bags_0, s_bags_70]
    simp only [Option.bind_some]
    by_cases a10 : w = 10
    · subst a10; rfl
    by_cases a11 : w = 11
    · subst a11; rfl
    rw [if_neg a10, if_neg a11]
    by_cases a0 : w = 0
    · rw [if_pos a0, if_pos a0, Option.bind_some]
    rw [if_neg a0, if_neg a0]
    by_cases a1 : w = 1
    · rw [if_pos a1, if_pos a1, Option.bind_some]
    rw [if_neg a1, if_neg a1]
    by_cases a2 : w = 2
    · rw [if_pos a2, if_pos a2, Option.bind_some]
    rw [if_neg a2, if_neg a2]
    by_cases a3 : w = 3
    · rw [if_pos a3, if_pos a3, Option.bind_some]
    rw [if_neg a3, if_neg a3]
    by_cases a4 : w = 4
    · rw [if_pos a4, if_pos a4, Option.bind_some]
    rw [if_neg a4, if_neg a4]
    by_cases a5 : w = 5
    · rw [if_pos a5, if_pos a5, Option.bind_some]
    rw [if_neg a5, if_neg a5]
    by_cases a6 : w = 6
    · rw [if_pos a6, if_pos a6, Option.bind_some]
    rw [if_neg a6, if_neg a6]
    by_cases a7 : w = 7
    · rw [if_pos a7, if_pos a7, Option.bind_some]
    rw [if_neg a7, if_neg a7]
    by_cases a8 : w = 8
    · rw [if_pos a8, if_pos a8, Option.bind_some]
    rw [if_neg a8, if_neg a8]
    by_cases a9 : w = 9
    · rw [if_pos a9, if_pos a9, Option.bind_some]
    rw [if_neg a9, if_neg a9, if_neg a10, if_neg a11, Option.bind_some]
end CRR
