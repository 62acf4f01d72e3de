theorem q_set_45 {v : cr_V} {x1 : Int32} (h : s_in x1 0 4 = false) (x2 a b : Int32) : f_X7_set_45 v x1 x2 a b = some ((-2000000001), v) := by
  rw [f_X7_set_45, q_in, h, Option.bind_some]; rfl
theorem q_set_k (v : cr_V) (x2 : Int32) {k : Nat} (hk : k ≤ 4) : f_X7_set v (nI k) x2 = f_X7_set_45 v (nI k) x2 (cr_least k) (cr_most k) := by
  have h : k = 0 ∨ k = 1 ∨ k = 2 ∨ k = 3 ∨ k = 4 := by omega
  rcases h with rfl | rfl | rfl | rfl | rfl
  · rw [f_X7_set, if_neg (show ¬ (2 : Int32) ≤ nI 0 by decide), f_X7_set_10, if_pos (show nI 0 = 0 from rfl)]; rfl
  · rw [f_X7_set, if_neg (show ¬ (2 : Int32) ≤ nI 1 by decide), f_X7_set_10, if_neg (show ¬ nI 1 = 0 by decide), if_pos (show nI 1 = 1 from rfl)]; rfl
  · rw [f_X7_set, if_pos (show (2 : Int32) ≤ nI 2 by decide), f_X7_set_10, if_neg (show ¬ nI 2 = 0 by decide), if_neg (show ¬ nI 2 = 1 by decide), if_neg (show ¬ nI 2 = 4 by decide)]; rfl
  · rw [f_X7_set, if_pos (show (2 : Int32) ≤ nI 3 by decide), f_X7_set_10, if_neg (show ¬ nI 3 = 0 by decide), if_neg (show ¬ nI 3 = 1 by decide), if_neg (show ¬ nI 3 = 4 by decide)]; rfl
  · rw [f_X7_set, if_pos (show (2 : Int32) ≤ nI 4 by decide), f_X7_set_10, if_neg (show ¬ nI 4 = 0 by decide), if_neg (show ¬ nI 4 = 1 by decide), if_pos (show nI 4 = 4 from rfl)]; rfl
theorem q_set {S : cr_S} {H : List cr_S} {v : cr_V} (hM : mdR S (v 0)) (hP : mdP H v) (x1 x2 : Int32) : q_Ok (o_set S x1 x2) S H v (f_X7_set v x1 x2) := by
  have hkl := hM.2.1.1
  unfold o_set q_Ok
  cases h1 : s_in x1 0 4 with
  | false =>
    refine ⟨v, ?_, hM, hP, sameC.rf⟩
    rw [f_X7_set]
    simp only [f_X7_set_10, q_set_45 h1]
    simp
  | true =>
    obtain ⟨k, -, hk, rfl⟩ := p_inN (a := 0) (b := 4) h1 (by omega) (by omega)
    have hx : cr_x (nI k) = k := cr_xn (by omega)
    rw [q_set_k v x2 hk, f_X7_set_45, q_in, h1, Option.bind_some, q_in, Option.bind_some, hx]
    cases h2 : s_in x2 (cr_least k) (cr_most k) with
    | false => exact ⟨v, by simp, hM, hP, sameC.rf⟩
    | true =>
      simp only [Bool.and_self, if_true, n10, if_false]
      have key : ∃ v', f_X7_set_86 v (nI k) x2 = some (S.2.2.2.1 k, v') ∧ mdR (S.1, S.2.1, S.2.2.1, upd S.2.2.2.1 k x2, S.2.2.2.2) (v' 0) ∧ mdP (s_chg (v 4 0) H S) v' ∧ sameC [0, 1, 3, 7, 8, 9, 10] v v' := by
        obtain ⟨v1, a1, a2, a3, a4⟩ := q_chg hP hM
        rw [f_X7_set_86, a1, Option.bind_some, show (8 : Int32) = nI 8 from rfl, nI_add, if_pos (cr_inn (by omega) (by omega)), cr_xn (by omega)]
        have hs : sameC [0] v1 (cr_a v1 0 (8 + k) x2) := sameC.c (by simp)
        obtain ⟨w1, w2, w3⟩ := id a2.2.2
        refine ⟨_, by rw [w2 k (by omega)], md_g a2 (fun t ht => ?_) ⟨fun j hj => ?_, fun j hj => ?_, fun j hj => ?_⟩, a3.sm hs (by simp) (by simp), a4.tr hs (by simp) (by simp)⟩
        · rw [cr_as, pk_un (by omega)]
        · rw [cr_as, pk_un (by omega)]; exact w1 j hj
        · rw [cr_as]
          by_cases h : j = k
          · subst h; rw [pk_us]; simp [cr_up]
          · rw [pk_un (by omega)]; simp [cr_up, h]; exact w2 j hj
        · rw [cr_as, pk_un (by omega)]; exact w3 j hj
      by_cases h3 : nI k = 0
      · rw [hM.2.1.2.1]
        by_cases h4 : 0 < S.2.1.length
        · rw [if_pos (show nI k = 0 ∧ 0 < S.2.1.length from ⟨h3, h4⟩), if_pos h3, if_neg (nI_nle h4 (by omega))]
          exact ⟨v, rfl, hM, hP, sameC.rf⟩
        · rw [if_neg (show ¬ (nI k = 0 ∧ 0 < S.2.1.length) from fun h => h4 h.2)]
          have h5 : S.2.1.length = 0 := by omega
          rw [if_pos h3, if_pos (show nI S.2.1.length ≤ 0 from by rw [h5]; decide)]
          exact key
      · rw [if_neg (show ¬ (nI k = 0 ∧ 0 < S.2.1.length) from fun h => h3 h.1), if_neg h3]
        exact key
theorem q_ixK (j : Nat) : (69 : Int32) + 2 * nI j = nI (69 + 2 * j) := by rw [show (69 : Int32) = nI 69 from rfl, show (2 : Int32) = nI 2 from rfl, pk_mul, nI_add]
theorem q_isDelivery {S : cr_S} {v : cr_V} (hM : mdR S (v 0)) (m : Int32) : f_X7_isDelivery v m = some (if s_month S.2.2.2.1 m then 1 else 0) := by
  have h9 : v 0 9 = S.2.2.2.1 1 := hM.2.2.2.1 1 (by omega)
  rw [f_X7_isDelivery, h9, p_if]
  unfold s_month
  by_cases h : ((S.2.2.2.1 1 >>> ((m - m / 12 * 12) &&& 31)) &&& 1) = 1 <;> simp [h]
theorem q_isContract {S : cr_S} {v : cr_V} (hM : mdR S (v 0)) (x : Int32) : f_X7_isContract v x = some (s_open S.2.1.length x) := by
  rw [f_X7_isContract, hM.2.1.2.1, s_open]
  split
  · rfl
  · rw [p_if]
theorem q_monthOf {S : cr_S} {v : cr_V} (hM : mdR S (v 0)) {k : Nat} {c : cr_Con} (hc : S.2.1[k]? = some c) : f_X7_monthOf v (nI k) = some c.1 := by
  have hk := p_lt hc
  have := hM.2.1.1
  rw [f_X7_monthOf, q_ixK, if_pos (cr_inn (by omega) (by omega)), cr_xn (by omega)]
  exact congrArg some (hM.2.1.2.2 k c hc).1
theorem q_priceOf {S : cr_S} {v : cr_V} (hM : mdR S (v 0)) {k : Nat} {c : cr_Con} (hc : S.2.1[k]? = some c) : f_X7_priceOf v (nI k) = some c.2 := by
  have hk := p_lt hc
  have := hM.2.1.1
  rw [f_X7_priceOf, q_ixK, show (1 : Int32) = nI 1 from rfl, nI_add, if_pos (cr_inn (by omega) (by omega)), cr_xn (by omega), show 69 + 2 * k + 1 = 70 + 2 * k by omega]
  exact congrArg some (hM.2.1.2.2 k c hc).2
theorem q_sell {S : cr_S} {H : List cr_S} {v : cr_V} (hM : mdR S (v 0)) (hP : mdP H v) (x1 x2 : Int32) : q_Ok (o_sell S x1 x2) S H v (f_X7_sell v x1 x2) := by
  have hkl := hM.2.1.1
  have h0 : v 0 0 = S.2.2.2.2 0 := hM.2.2.2.2 0 (by omega)
  unfold o_sell q_Ok
  rw [f_X7_sell, q_in, Option.bind_some]
  cases h1 : s_in x1 0 999 with
  | false => exact ⟨v, by simp, hM, hP, sameC.rf⟩
  | true =>
    rw [q_in, Option.bind_some]
    cases h2 : s_in x2 1 999 with
    | false => exact ⟨v, by simp, hM, hP, sameC.rf⟩
    | true =>
      simp only [Bool.and_self, if_true, n10, if_false]
      rw [h0]
      by_cases h3 : x1 < S.2.2.2.2 0
      · rw [if_pos h3, if_pos h3]; exact ⟨v, rfl, hM, hP, sameC.rf⟩
      · rw [if_neg h3, if_neg h3, q_isDelivery hM, Option.bind_some]
        cases h4 : s_month S.2.2.2.1 x1 with
        | false => exact ⟨v, by simp, hM, hP, sameC.rf⟩
        | true =>
          simp only [if_true, n10, if_false]
          rw [hM.2.1.2.1]
          simp only [q_6 hkl]
          by_cases h5 : S.2.1.length = 6
          · rw [if_pos h5, if_pos h5]; exact ⟨v, rfl, hM, hP, sameC.rf⟩
          · rw [if_neg h5, if_neg h5]
            obtain ⟨v1, a1, a2, a3, a4⟩ := q_chg hP hM
            have i1 : ((69 : Int32) + 2 * nI S.2.1.length) + 1 = nI (70 + 2 * S.2.1.length) := by rw [q_ixK, show (1 : Int32) = nI 1 from rfl, nI_add]; congr 1; omega
            rw [a1, Option.bind_some, i1, q_ixK, if_pos (cr_inn (by omega) (by omega)), if_pos (cr_inn (by omega) (by omega)), cr_xn (by omega), cr_xn (by omega)]
            simp only [cr_cc, cr_cs]
            have hs : ∀ f, sameC [0] v1 (cr_c v1 0 f) := fun f => sameC.c (by simp)
            obtain ⟨⟨l1, l2, l3⟩, ⟨c1, c2, c3⟩, w1, w2, w3⟩ := a2
            refine ⟨_, rfl, ⟨⟨l1, ?_, fun j z hz => ?_⟩, ⟨by rw [List.length_append]; simp; omega, ?_, fun j z hz => ?_⟩, fun j hj => ?_, fun j hj => ?_, fun j hj => ?_⟩, a3.sm (hs _) (by simp) (by simp), a4.tr (hs _) (by simp) (by simp)⟩
            · rw [cr_cs, pk_un (by omega), pk_un (by omega), pk_un (by omega)]; exact l2
            · have hl : j < S.1.length := p_lt hz
              have hl2 : S.1.length ≤ 12 := l1
              obtain ⟨b1, b2, b3, b4⟩ := l3 j z hz
              refine ⟨?_, ?_, ?_, ?_⟩
              · rw [cr_cs, pk_un (by omega), pk_un (by omega), pk_un (by omega)]; exact b1
              · rw [cr_cs, pk_un (by omega), pk_un (by omega), pk_un (by omega)]; exact b2
              · rw [cr_cs, pk_un (by omega), pk_un (by omega), pk_un (by omega)]; exact b3
              · rw [cr_cs, pk_un (by omega), pk_un (by omega), pk_un (by omega)]; exact b4
            · rw [cr_cs, pk_us, pk_un (by omega), pk_un (by omega), c2, nI_1, List.length_append]; rfl
            · by_cases hj : j < S.2.1.length
              · replace hz : (S.2.1 ++ [(x1, x2)])[j]? = some z := hz
                rw [List.getElem?_append_left hj] at hz
                obtain ⟨b1, b2⟩ := c3 j z hz
                refine ⟨?_, ?_⟩
                · rw [cr_cs, pk_un (by omega), pk_un (by omega), pk_un (by omega)]; exact b1
                · rw [cr_cs, pk_un (by omega), pk_un (by omega), pk_un (by omega)]; exact b2
              · replace hz : (S.2.1 ++ [(x1, x2)])[j]? = some z := hz
                have hl := p_lt hz
                rw [List.length_append] at hl
                simp only [List.length_cons, List.length_nil] at hl
                have hj2 : j = S.2.1.length := by omega
                subst hj2
                rw [List.getElem?_append_right (Nat.le_refl _)] at hz
                simp at hz
                subst hz
                refine ⟨?_, ?_⟩
                · rw [cr_cs, pk_un (by omega), pk_un (by omega), pk_us]
                · rw [cr_cs, pk_un (by omega), pk_us]
            · rw [cr_cs, pk_un (by omega), pk_un (by omega), pk_un (by omega)]; exact w1 j hj
            · rw [cr_cs, pk_un (by omega), pk_un (by omega), pk_un (by omega)]; exact w2 j hj
            · rw [cr_cs, pk_un (by omega), pk_un (by omega), pk_un (by omega)]; exact w3 j hj
theorem q_buyBack {S : cr_S} {H : List cr_S} {v : cr_V} (hM : mdR S (v 0)) (hP : mdP H v) (x1 x2 : Int32) : q_Ok (o_buy S x1 x2) S H v (f_X7_buyBack v x1 x2) := by
  have hkl := hM.2.1.1
  unfold o_buy q_Ok
  rw [f_X7_buyBack, q_isContract hM, Option.bind_some]
  rcases s_open_cases (n := S.2.1.length) (by omega) x1 with ⟨h1, -⟩ | ⟨h1, k, hk, rfl⟩
  · rw [h1]; simp only [if_true]
    rw [if_neg (by simp)]
    exact ⟨v, rfl, hM, hP, sameC.rf⟩
  · rw [h1, q_in]
    simp only [n10, if_false, Option.bind_some, true_and]
    cases h2 : s_in x2 1 999 with
    | false => exact ⟨v, by simp, hM, hP, sameC.rf⟩
    | true =>
      simp only [if_true, n10, if_false]
      obtain ⟨v1, a1, a2, a3, a4⟩ := q_chg hP hM
      have hc : S.2.1[k]? = some S.2.1[k] := List.getElem?_eq_getElem hk
      have h8 : v1 0 8 = S.2.2.2.1 0 := a2.2.2.2.1 0 (by omega)
      have hA : v1 0 1 = S.2.2.2.2 1 := a2.2.2.2.2 1 (by omega)
      rw [a1, Option.bind_some, q_priceOf a2 hc, Option.bind_some, h8, hA, cr_xn (show k < 2 ^ 31 by omega), s_con_of hc]
      have hs : ∀ x, sameC [0] v1 (cr_a v1 0 1 x) := fun f => sameC.c (by simp)
      have hM2 : mdR (S.1, S.2.1, S.2.2.1, S.2.2.2.1, upd S.2.2.2.2 1 (S.2.2.2.2 1 + S.2.2.2.1 0 * (S.2.1[k].2 - x2))) ((cr_a v1 0 1 (S.2.2.2.2 1 + S.2.2.2.1 0 * (S.2.1[k].2 - x2))) 0) := by
        obtain ⟨w1, w2, w3⟩ := id a2.2.2
        refine md_g a2 (fun t ht => ?_) ⟨fun j hj => ?_, fun j hj => ?_, fun j hj => ?_⟩
        · rw [cr_as, pk_un (by omega)]
        · rw [cr_as, pk_un (by omega)]; exact w1 j hj
        · rw [cr_as, pk_un (by omega)]; exact w2 j hj
        · rw [cr_as]
          by_cases h : j = 1
          · subst h; rw [pk_us, pk_us]
          · rw [pk_un h, pk_un h]; exact w3 j hj
      obtain ⟨v2, b1, b2, b3⟩ := q_closes hM2 hk
      rw [b1, Option.bind_some]
      have hs2 := (hs (S.2.2.2.2 1 + S.2.2.2.1 0 * (S.2.1[k].2 - x2))).tr (es := [0]) b3 (by simp) (by simp)
      exact ⟨v2, rfl, b2, a3.sm hs2 (by simp) (by simp), a4.tr hs2 (by simp) (by simp)⟩
