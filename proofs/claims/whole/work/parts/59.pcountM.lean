noncomputable def r_count (S : cr_S) (p t w : Int32) : Int32 :=
  if w = 0 then nI S.1.length else if w = 1 then s_bags 0 (S.2.2.2.2 0) S.1 0 else if w = 2 then S.2.2.2.2 0 else if w = 3 then nI S.2.1.length else if w = 4 then S.2.2.2.2 1 else if w = 5 then S.2.2.2.2 2 else if w = 6 then S.2.2.2.2 3 else if w = 7 then S.2.2.2.2 4 else if w = 8 then s_bags 70 (S.2.2.2.2 0) S.1 0 else if w = 9 then S.2.2.2.2 5 else if w = 10 then p else if w = 11 then t else if s_in w 20 24 = true then S.2.2.2.1 (cr_x (w - 20)) else (-2000000001)
theorem q_count {S : cr_S} {v : cr_V} (hM : mdR S (v 0)) (w : Int32) : f_X7_count v w = some (r_count S (v 3 0) (v 6 0) w) := by
  obtain ⟨w1, w2, w3⟩ := id hM.2.2
  have g0 : v 0 0 = S.2.2.2.2 0 := w3 0 (by omega)
  have g1 : v 0 1 = S.2.2.2.2 1 := w3 1 (by omega)
  have g2 : v 0 2 = S.2.2.2.2 2 := w3 2 (by omega)
  have g3 : v 0 3 = S.2.2.2.2 3 := w3 3 (by omega)
  have g4 : v 0 4 = S.2.2.2.2 4 := w3 4 (by omega)
  have g5 : v 0 5 = S.2.2.2.2 5 := w3 5 (by omega)
  rw [f_X7_count, q_bags hM, q_bags hM, q_in, hM.1.2.1, hM.2.1.2.1, g0, g1, g5]
  unfold r_count
  simp only [Option.bind_some]
  by_cases a0 : w = 0
  · rw [if_pos a0, if_pos a0]
  rw [if_neg a0, if_neg a0]
  by_cases a1 : w = 1
  · rw [if_pos a1, if_pos a1]
  rw [if_neg a1, if_neg a1]
  by_cases a2 : w = 2
  · rw [if_pos a2, if_pos a2]
  rw [if_neg a2, if_neg a2]
  by_cases a3 : w = 3
  · rw [if_pos a3, if_pos a3]
  rw [if_neg a3, if_neg a3]
  by_cases a4 : w = 4
  · rw [if_pos a4, if_pos a4]
  rw [if_neg a4, if_neg a4]
  by_cases a5 : w = 5
  · subst a5
    rw [if_pos rfl, if_pos rfl, show ((2 : Int32) + 5) - 5 = nI 2 from by decide, if_pos (cr_inn (by omega) (by omega)), cr_xn (by omega), g2]
  rw [if_neg a5, if_neg a5]
  by_cases a6 : w = 6
  · subst a6
    rw [if_pos rfl, if_pos rfl, show ((2 : Int32) + 6) - 5 = nI 3 from by decide, if_pos (cr_inn (by omega) (by omega)), cr_xn (by omega), g3]
  rw [if_neg a6, if_neg a6]
  by_cases a7 : w = 7
  · subst a7
    rw [if_pos rfl, if_pos rfl, show ((2 : Int32) + 7) - 5 = nI 4 from by decide, if_pos (cr_inn (by omega) (by omega)), cr_xn (by omega), g4]
  rw [if_neg a7, if_neg a7]
  by_cases a8 : w = 8
  · rw [if_pos a8, if_pos a8]
  rw [if_neg a8, if_neg a8]
  by_cases a9 : w = 9
  · rw [if_pos a9, if_pos a9]
  rw [if_neg a9, if_neg a9]
  by_cases b0 : w = 10
  · rw [if_pos b0, if_pos b0]
  rw [if_neg b0, if_neg b0]
  by_cases b1 : w = 11
  · rw [if_pos b1, if_pos b1]
  rw [if_neg b1, if_neg b1]
  cases h : s_in w 20 24 with
  | false => simp
  | true =>
    obtain ⟨k, k1, k2, rfl⟩ := p_inN (a := 20) (b := 24) h (by omega) (by omega)
    have e1 : (8 : Int32) + nI k - 20 = nI (8 + (k - 20)) := by
      rw [show (8 : Int32) + nI k = nI (8 + (k - 20)) + 20 from by rw [show (8 : Int32) = nI 8 from rfl, show (20 : Int32) = nI 20 from rfl, nI_add, nI_add]; congr 1; omega, Int32.add_sub_cancel]
    have e2 : nI k - 20 = nI (k - 20) := by
      rw [show nI k = nI (k - 20) + 20 from by rw [show (20 : Int32) = nI 20 from rfl, nI_add]; congr 1; omega, Int32.add_sub_cancel]
    simp only [if_true, n10, if_false]
    rw [e1, e2, if_pos (cr_inn (by omega) (by omega)), cr_xn (by omega), cr_xn (by omega), w2 _ (by omega)]
