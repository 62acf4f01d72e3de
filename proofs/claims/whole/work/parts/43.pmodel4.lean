/-! the model's operations -/
def s_chg (r : Int32) (H : List cr_S) (S : cr_S) : List cr_S := if r = 0 then s_push H S else H
theorem mdP.sm {H : List cr_S} {v v' : cr_V} {cs : List Nat} (hP : mdP H v) (h : sameC cs v v') (h1 : 1 ∉ cs) (h3 : 3 ∉ cs) : mdP H v' := by
  refine ⟨hP.1, by rw [h 3 h3]; exact hP.2.1, ?_⟩
  rw [h 1 h1]; exact hP.2.2
theorem q_chg {H : List cr_S} {S : cr_S} {v : cr_V} (hP : mdP H v) (hM : mdR S (v 0)) : ∃ v', f_X7_changes v = some v' ∧ mdR S (v' 0) ∧ mdP (s_chg (v 4 0) H S) v' ∧ sameC [1, 3] v v' := by
  unfold s_chg
  by_cases h : v 4 0 = 0
  · rw [if_pos h]
    obtain ⟨v', e1, e2, e3⟩ := q_changes hP hM h
    exact ⟨v', e1, by rw [e3 0 (by simp)]; exact hM, e2, e3⟩
  · rw [if_neg h]
    exact ⟨v, q_changes1 h, hM, hP, sameC.rf⟩
def q_Ok (o : cr_R) (S : cr_S) (H : List cr_S) (v : cr_V) (out : Option (Int32 × cr_V)) : Prop := match o with
  | .inl e => ∃ v', out = some (e, v') ∧ mdR S (v' 0) ∧ mdP H v' ∧ sameC [7, 8, 9, 10] v v'
  | .inr q => ∃ v', out = some (q.1, v') ∧ mdR q.2 (v' 0) ∧ mdP (s_chg (v 4 0) H S) v' ∧ sameC [0, 1, 3, 7, 8, 9, 10] v v'
theorem q_12 {n : Nat} (h : n ≤ 12) : (nI n = 12) = (n = 12) := propext ⟨fun e => nI_inj (b := 12) (by omega) (by omega) e, fun e => by rw [e]; rfl⟩
theorem q_6 {n : Nat} (h : n ≤ 6) : (nI n = 6) = (n = 6) := propext ⟨fun e => nI_inj (b := 6) (by omega) (by omega) e, fun e => by rw [e]; rfl⟩
theorem q_lot {S : cr_S} {H : List cr_S} {v : cr_V} (hM : mdR S (v 0)) (hP : mdP H v) (x1 x2 : Int32) : q_Ok (o_lot S x1 x2) S H v (f_X7_lot v x1 x2) := by
  have hl := hM.1.1
  have h0 : v 0 0 = S.2.2.2.2 0 := hM.2.2.2.2 0 (by omega)
  unfold o_lot q_Ok
  rw [f_X7_lot, q_in, Option.bind_some]
  cases h1 : s_in x1 1 999 with
  | false => exact ⟨v, by simp, hM, hP, sameC.rf⟩
  | true =>
    rw [q_in, Option.bind_some]
    cases h2 : s_in x2 60 100 with
    | false => exact ⟨v, by simp, hM, hP, sameC.rf⟩
    | true =>
      simp only [Bool.and_self, if_true]
      rw [hM.1.2.1]
      simp only [q_12 hl, n10, if_false]
      by_cases h3 : S.1.length = 12
      · rw [if_pos h3, if_pos h3]
        exact ⟨v, rfl, hM, hP, sameC.rf⟩
      · rw [if_neg h3, if_neg h3]
        obtain ⟨v1, a1, a2, a3, a4⟩ := q_chg hP hM
        obtain ⟨v2, b1, b2, b3⟩ := q_makes a2 x1 x2 (v1 0 0) (by omega)
        rw [a1, Option.bind_some, b1, Option.bind_some]
        rw [a4 0 (by simp), h0] at b2
        exact ⟨v2, rfl, b2, a3.sm b3 (by simp) (by simp), a4.tr b3 (by simp) (by simp)⟩
theorem q_worth {S : cr_S} {H : List cr_S} {v : cr_V} (hM : mdR S (v 0)) (hP : mdP H v) (x1 x2 : Int32) : q_Ok (o_worth S x1 x2) S H v (f_X7_worth v x1 x2) := by
  unfold o_worth q_Ok
  rw [f_X7_worth, q_in, Option.bind_some]
  cases h1 : s_in x1 0 3 with
  | false => exact ⟨v, by simp, hM, hP, sameC.rf⟩
  | true =>
    rw [q_in, Option.bind_some]
    cases h2 : s_in x2 1 999 with
    | false => exact ⟨v, by simp, hM, hP, sameC.rf⟩
    | true =>
      obtain ⟨k, k1, k2, rfl⟩ := p_inN (a := 0) (b := 3) h1 (by omega) (by omega)
      obtain ⟨v1, a1, a2, a3, a4⟩ := q_chg hP hM
      simp only [Bool.and_self, if_true, n10, if_false]
      rw [a1, Option.bind_some, show (13 : Int32) = nI 13 from rfl, nI_add, if_pos (cr_inn (by omega) (by omega)), cr_xn (by omega), cr_xn (by omega)]
      have hs : sameC [0] v1 (cr_a v1 0 (13 + k) x2) := sameC.c (by simp)
      obtain ⟨⟨l1, l2, l3⟩, ⟨c1, c2, c3⟩, w1, w2, w3⟩ := a2
      refine ⟨_, by rw [w1 k (by omega)], ⟨⟨l1, ?_, fun j z hz => ?_⟩, ⟨c1, ?_, fun j z hz => ?_⟩, fun j hj => ?_, fun j hj => ?_, fun j hj => ?_⟩, a3.sm hs (by simp) (by simp), a4.tr hs (by simp) (by simp)⟩
      · rw [cr_as, pk_un (by omega)]; exact l2
      · rw [cr_as, pk_un (by omega), pk_un (by omega), pk_un (by omega), pk_un (by omega)]; exact l3 j z hz
      · rw [cr_as, pk_un (by omega)]; exact c2
      · rw [cr_as, pk_un (by omega), pk_un (by omega)]; exact c3 j z hz
      · rw [cr_as]
        by_cases h : j = k
        · subst h; rw [pk_us]; simp [cr_up]
        · rw [pk_un (by omega)]; simp [cr_up, h]; exact w1 j hj
      · rw [cr_as, pk_un (by omega)]; exact w2 j hj
      · rw [cr_as, pk_un (by omega)]; exact w3 j hj
