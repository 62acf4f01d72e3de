noncomputable def s_pl (S : cr_S) (x : Int32) : List (Nat × Int32) := s_deliver S.2.2.1 S.2.2.2.1 S.1 (s_con S.2.1 (cr_x x)).2 (S.2.2.2.2 0)
noncomputable def r_given (S : cr_S) (x i w : Int32) : Int32 := if s_open S.2.1.length x = 1 ∧ 0 ≤ i ∧ s_in w 0 1 = true then (if i < nI (s_pl S x).length then (if w = 0 then (s_get S.1 ((s_pl S x).getD (cr_x i) (0, 0)).1).1 else ((s_pl S x).getD (cr_x i) (0, 0)).2) else (-2000000004)) else (-2000000001)
theorem q_given {S : cr_S} {v : cr_V} (hM : mdR S (v 0)) (x i w : Int32) : ∃ v', f_X7_given v x i w = some (r_given S x i w, v') ∧ sameC [7, 8, 9, 10] v v' := by
  have hkl := hM.2.1.1
  have h0 : v 0 0 = S.2.2.2.2 0 := hM.2.2.2.2 0 (by omega)
  rw [f_X7_given, q_isContract hM, Option.bind_some]
  unfold r_given
  rcases s_open_cases (n := S.2.1.length) (by omega) x with ⟨h1, -⟩ | ⟨h1, k, hk, rfl⟩
  · rw [h1]; simp only [if_true]
    rw [if_neg (by simp)]
    exact ⟨v, rfl, sameC.rf⟩
  · have hc : S.2.1[k]? = some S.2.1[k] := List.getElem?_eq_getElem hk
    rw [h1]
    simp only [n10, if_false, true_and]
    by_cases hi : i < 0
    · rw [if_pos hi, if_neg (fun h => Int32.not_lt.mpr h.1 hi)]
      exact ⟨v, rfl, sameC.rf⟩
    · rw [if_neg hi, q_in, Option.bind_some]
      have hi2 : 0 ≤ i := Int32.not_lt.mp hi
      cases h2 : s_in w 0 1 with
      | false => exact ⟨v, by simp, sameC.rf⟩
      | true =>
        rw [if_pos (show 0 ≤ i ∧ true = true from ⟨hi2, rfl⟩)]
        simp only [if_true, n10, if_false]
        obtain ⟨v1, a1, a2, a3⟩ := q_gives hM S.2.1[k].2 (S.2.2.2.2 0)
        have hM1 : mdR S (v1 0) := by rw [a3 0 (by simp)]; exact hM
        have hPl : s_pl S (nI k) = s_deliver S.2.2.1 S.2.2.2.1 S.1 S.2.1[k].2 (S.2.2.2.2 0) := by unfold s_pl; rw [cr_xn (by omega), s_con_of hc]
        rw [← hPl] at a2
        have hp : ∀ q ∈ s_pl S (nI k), q.1 < S.1.length := by rw [hPl]; exact s_deliver_lt
        rw [q_priceOf hM hc, Option.bind_some, h0, a1, Option.bind_some, a2.2.1]
        generalize s_pl S (nI k) = P at *
        have hl12 := a2.1
        rcases pk_ix i (show P.length < 2 ^ 31 by omega) with h | h | ⟨j, hj, rfl⟩
        · exact (hi h).elim
        · rw [if_neg (Int32.not_lt.mpr h), if_neg (Int32.not_lt.mpr h)]
          exact ⟨v1, rfl, a3⟩
        · have hq : P[j]? = some P[j] := List.getElem?_eq_getElem hj
          have hr := hp _ (List.getElem_mem hj)
          have hx : S.1[P[j].1]? = some S.1[P[j].1] := List.getElem?_eq_getElem hr
          obtain ⟨b1, b2⟩ := a2.2.2.2 j _ hq
          have hgd : P.getD j (0, 0) = P[j] := by rw [List.getD_eq_getElem?_getD, hq]; rfl
          rw [if_pos (nI_lt hj (by omega)), if_pos (nI_lt hj (by omega)), if_pos (cr_inn (by omega) (by omega)), cr_xn (by omega), b1, b2, q_of0 hM1.1 hx, Option.bind_some, hgd, s_get_of hx]
          by_cases hw : w = 0
          · rw [if_pos hw, if_pos hw]; exact ⟨v1, rfl, a3⟩
          · rw [if_neg hw, if_neg hw, if_pos (cr_inn (by omega) (by omega))]; exact ⟨v1, rfl, a3⟩
