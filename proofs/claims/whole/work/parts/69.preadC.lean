/-! the readers, on the class -/
section CRR
variable {vh vl vk vt vtl vtk vs vd vo : cr_V} {vx : Nat → Nat → cr_V} {S : cr_S}
theorem s_in_out {w : Int32} {a b j : Nat} (h : s_in w (nI a) (nI b) = false) (h1 : a ≤ j) (h2 : j ≤ b) (hb : b < 2 ^ 31) : ¬ w = nI j := fun e => by
  rw [e, z_inN h1 h2 hb] at h; cases h
theorem p_X6_lotOf (hC : crC S vh vl vk) (n w : Int32) : f_X6_lotOf vh vl vk vt vtl vtk vs vx vd vo n w = some (r_lot S n w) := by
  obtain ⟨hL, hK, hH, hm⟩ := hC
  have hl := hL.1
  have h0 : vh 4 0 = S.2.2.2.2 0 := hH.2.2.1
  rw [f_X6_lotOf, p_X4_rowOf hL, Option.bind_some]
  unfold r_lot
  cases hi : cr_idx S.1 n with
  | none => rfl
  | some k =>
    obtain ⟨x, hx, hn⟩ := cr_idx_some hi
    have hk := p_lt hx
    obtain ⟨a1, a2, a3, a4⟩ := hL.2.2 k x hx
    dsimp only
    rw [if_pos (nI_pos' (by omega)), s_get_of hx, f_X3_tellOfLot]
    cases h1 : s_in w 0 6 with
    | false =>
      have hno := fun j (hj : j ≤ 6) => s_in_out (a := 0) (b := 6) (j := j) h1 (by omega) hj (by omega)
      rw [if_neg (show ¬ w = 0 from hno 0 (by omega)), if_neg (show ¬ w = 1 from hno 1 (by omega)), if_neg (show ¬ w = 2 from hno 2 (by omega)), if_neg (show ¬ w = 3 from hno 3 (by omega)), if_neg (show ¬ w = 4 from hno 4 (by omega)), if_neg (show ¬ w = 5 from hno 5 (by omega)), if_neg (show ¬ w = 6 from hno 6 (by omega))]
      rfl
    | true =>
      obtain ⟨u, u1, u2, rfl⟩ := p_inN (a := 0) (b := 6) h1 (by omega) (by omega)
      have hb := s_band_lt (s_cup x (S.2.2.2.2 0))
      simp only [cr_xn (show k < 2 ^ 31 by omega), cr_inn (show k < 12 by omega) (show 12 < 2 ^ 31 by omega), if_true, h0, p_X4_cupAt hL hx, p_X4_late hL hx, Option.bind_some, p_X6_bandOf, cr_inn hb (show 4 < 2 ^ 31 by omega), cr_xn (show s_band (s_cup x (S.2.2.2.2 0)) < 2 ^ 31 by omega), hH.1 _ hb, a2, a3, a4]
      rcases (show u = 0 ∨ u = 1 ∨ u = 2 ∨ u = 3 ∨ u = 4 ∨ u = 5 ∨ u = 6 by omega) with rfl | rfl | rfl | rfl | rfl | rfl | rfl <;> rfl
theorem p_X6_numberOf (hC : crC S vh vl vk) (x : Int32) : f_X6_numberOf vh vl vk vt vtl vtk vs vx vd vo x = some (r_num S x) := by
  obtain ⟨hL, hK, hH, hm⟩ := hC
  have hl := hL.1
  rw [f_X6_numberOf, hL.2.1]
  unfold r_num
  rcases pk_ix x (show S.1.length < 2 ^ 31 by omega) with h | h | ⟨j, hj, rfl⟩
  · rw [if_neg (Int32.not_le.mpr h), if_neg (Int32.not_le.mpr h)]
  · by_cases h0 : 0 ≤ x
    · rw [if_pos h0, if_pos h0, if_pos h, if_neg (Int32.not_lt.mpr h)]
    · rw [if_neg h0, if_neg h0]
  · have hx : S.1[j]? = some S.1[j] := List.getElem?_eq_getElem hj
    rw [if_pos (nI_pos' (by omega)), if_pos (nI_pos' (by omega)), if_neg (nI_ge hj (by omega)), if_pos (nI_lt hj (by omega)), if_pos (cr_inn (by omega) (by omega)), cr_xn (by omega), s_get_of hx, (hL.2.2 j _ hx).1]
theorem p_X6_contractOf (hC : crC S vh vl vk) (x w : Int32) : f_X6_contractOf vh vl vk vt vtl vtk vs vx vd vo x w = some (r_con S x w) := by
  obtain ⟨hL, hK, hH, hm⟩ := hC
  have hkl := hK.1
  have h0 : vh 4 0 = S.2.2.2.2 0 := hH.2.2.1
  rw [f_X6_contractOf, p_X0_isOpen hK, Option.bind_some]
  unfold r_con
  rcases s_open_cases (n := S.2.1.length) (by omega) x with ⟨h1, -⟩ | ⟨h1, k, hk, rfl⟩
  · rw [h1]; simp
  · have hc : S.2.1[k]? = some S.2.1[k] := List.getElem?_eq_getElem hk
    obtain ⟨a1, a2⟩ := hK.2.2 k _ hc
    rw [h1, if_neg (by decide)]
    simp only [cr_inn (show k < 6 by omega) (show 6 < 2 ^ 31 by omega), cr_xn (show k < 2 ^ 31 by omega), s_con_of hc, a1, a2, h0, if_true]
    cases h1 : s_in w 0 2 with
    | false =>
      have hno := fun j (hj : j ≤ 2) => s_in_out (a := 0) (b := 2) (j := j) h1 (by omega) hj (by omega)
      rw [if_neg (show ¬ w = 0 from hno 0 (by omega)), if_neg (show ¬ w = 1 from hno 1 (by omega)), if_neg (show ¬ w = 2 from hno 2 (by omega)), if_neg (by simp)]
    | true =>
      obtain ⟨u, u1, u2, rfl⟩ := p_inN (a := 0) (b := 2) h1 (by omega) (by omega)
      rcases (show u = 0 ∨ u = 1 ∨ u = 2 by omega) with rfl | rfl | rfl <;> rfl
theorem p_X6_paid (hC : crC S vh vl vk) (n p w : Int32) : f_X6_paid vh vl vk vt vtl vtk vs vx vd vo n p w = some (r_paid S n p w) := by
  obtain ⟨hL, hK, hH, hm⟩ := hC
  have hl := hL.1
  have h0 : vh 4 0 = S.2.2.2.2 0 := hH.2.2.1
  rw [f_X6_paid, p_X4_rowOf hL, Option.bind_some]
  unfold r_paid
  cases hi : cr_idx S.1 n with
  | none => rfl
  | some k =>
    obtain ⟨x, hx, hn⟩ := cr_idx_some hi
    have hk := p_lt hx
    have hb := s_band_lt (s_cup x (S.2.2.2.2 0))
    dsimp only
    rw [if_neg (nI_pos (by omega)), s_get_of hx, p_X6_isWithin, Option.bind_some]
    cases h1 : s_in p 1 999 with
    | false => rfl
    | true =>
      rw [p_X6_isWithin, Option.bind_some]
      cases h2 : s_in w 0 1 with
      | false => rfl
      | true =>
        simp only [Bool.and_self, if_true, n10, if_false]
        rw [h0, p_X4_cupAt hL hx, Option.bind_some, p_X4_late hL hx, Option.bind_some, p_X3_payForBag hH, Option.bind_some, p_X6_bandOf, Option.bind_some, if_pos (cr_inn (by omega) (by omega)), cr_xn (by omega), hH.1 _ hb]
        by_cases h3 : 70 ≤ s_cup x (S.2.2.2.2 0)
        · rw [if_pos h3, if_pos h3, p_if]; rfl
        · rw [if_neg h3, if_neg h3]
theorem p_X6_given (hC : crC S vh vl vk) (x i w : Int32) : ∃ d, f_X6_given vh vl vk vt vtl vtk vs vx vd vo x i w = some (r_given S x i w, d) := by
  obtain ⟨hL, hK, hH, hm⟩ := hC
  have hl := hL.1
  have hkl := hK.1
  have h0 : vh 4 0 = S.2.2.2.2 0 := hH.2.2.1
  rw [f_X6_given, p_X0_isOpen hK, Option.bind_some]
  unfold r_given
  rcases s_open_cases (n := S.2.1.length) (by omega) x with ⟨h1, -⟩ | ⟨h1, k, hk, rfl⟩
  · rw [h1, if_pos rfl, if_neg (by simp)]; exact ⟨_, rfl⟩
  · have hc : S.2.1[k]? = some S.2.1[k] := List.getElem?_eq_getElem hk
    obtain ⟨a1, a2⟩ := hK.2.2 k _ hc
    rw [h1, if_neg (by decide)]
    by_cases hi : i < 0
    · rw [if_pos hi, if_neg (fun h => Int32.not_lt.mpr h.2.1 hi)]; exact ⟨_, rfl⟩
    · rw [if_neg hi, p_X6_isWithin, Option.bind_some]
      have hi2 : 0 ≤ i := Int32.not_lt.mp hi
      cases h2 : s_in w 0 1 with
      | false => rw [if_pos (by simp), if_neg (by simp)]; exact ⟨_, rfl⟩
      | true =>
        rw [if_neg (by simp), if_pos (show (1 : Int32) = 1 ∧ 0 ≤ i ∧ true = true from ⟨rfl, hi2, rfl⟩), if_pos (cr_inn (by omega) (by omega)), cr_xn (show k < 2 ^ 31 by omega), a2, h0]
        obtain ⟨d, e1, e2⟩ := p_X1_plan vk vd hH hL S.2.1[k].2 (S.2.2.2.2 0)
        have hPl : s_pl S (nI k) = s_deliver S.2.2.1 S.2.2.2.1 S.1 S.2.1[k].2 (S.2.2.2.2 0) := by unfold s_pl; rw [cr_xn (by omega), s_con_of hc]
        have hp : ∀ q ∈ s_pl S (nI k), q.1 < S.1.length := by rw [hPl]; exact s_deliver_lt
        rw [← hPl] at e2
        rw [e1, Option.bind_some]
        generalize s_pl S (nI k) = P at *
        obtain ⟨o1, o2, o3, o4, -⟩ := e2
        rw [o2]
        rcases pk_ix i (show P.length < 2 ^ 31 by omega) with h | h | ⟨j, hj, rfl⟩
        · exact (hi h).elim
        · rw [if_neg (Int32.not_lt.mpr h), if_neg (Int32.not_lt.mpr h)]; exact ⟨_, rfl⟩
        · have hq : P[j]? = some P[j] := List.getElem?_eq_getElem hj
          have hr := hp _ (List.getElem_mem hj)
          have hx : S.1[P[j].1]? = some S.1[P[j].1] := List.getElem?_eq_getElem hr
          obtain ⟨b1, b2⟩ := o4 j _ hq
          have hgd : P.getD j (0, 0) = P[j] := by rw [List.getD_eq_getElem?_getD, hq]; rfl
          rw [if_pos (nI_lt hj (by omega)), if_pos (nI_lt hj (by omega)), if_pos (cr_inn (by omega) (by omega)), cr_xn (by omega), b1, b2, hgd, s_get_of hx, if_pos (cr_inn (by omega) (by omega)), cr_xn (by omega), (hL.2.2 _ _ hx).1]
          by_cases hw : w = 0
          · rw [if_pos hw, if_pos hw]; exact ⟨_, rfl⟩
          · rw [if_neg hw, if_neg hw, if_pos (cr_inn (by omega) (by omega))]; exact ⟨_, rfl⟩
theorem p_X6_would {b : Nat} (hI : s_inv b S) (hC : crC S vh vl vk) (x w : Int32) : ∃ d, f_X6_would vh vl vk vt vtl vtk vs vx vd vo x w = some (r_would S x w, d) := by
  obtain ⟨a, m, hm', hIA⟩ := hI
  obtain ⟨hL, hK, hH, hm⟩ := hC
  have hl := hL.1
  have hkl := hK.1
  have h0 : vh 4 0 = S.2.2.2.2 0 := hH.2.2.1
  rw [f_X6_would, p_X0_isOpen hK, Option.bind_some]
  unfold r_would
  rcases s_open_cases (n := S.2.1.length) (by omega) x with ⟨h1, -⟩ | ⟨h1, k, hk, rfl⟩
  · rw [h1, if_pos rfl, if_neg (by simp)]; exact ⟨_, rfl⟩
  · have hc : S.2.1[k]? = some S.2.1[k] := List.getElem?_eq_getElem hk
    obtain ⟨a1, a2⟩ := hK.2.2 k _ hc
    rw [h1, if_neg (by decide), p_X6_isWithin, Option.bind_some]
    cases h2 : s_in w 0 3 with
    | false => rw [if_pos (by simp), if_neg (by simp)]; exact ⟨_, rfl⟩
    | true =>
      rw [if_neg (by simp), if_pos (show (1 : Int32) = 1 ∧ true = true from ⟨rfl, rfl⟩), if_pos (cr_inn (by omega) (by omega)), cr_xn (show k < 2 ^ 31 by omega), a2, h0, s_con_of hc]
      obtain ⟨d, e1, e2⟩ := p_X1_plan vk vd hH hL S.2.1[k].2 (S.2.2.2.2 0)
      have hPl : s_pl S (nI k) = s_deliver S.2.2.1 S.2.2.2.1 S.1 S.2.1[k].2 (S.2.2.2.2 0) := by unfold s_pl; rw [cr_xn (by omega), s_con_of hc]
      have hcu := i_cups hIA S.2.1[k].2
      rw [← hPl] at e2 hcu
      rw [e1, Option.bind_some]
      generalize s_pl S (nI k) = P at *
      obtain ⟨o1, o2, o3, o4, o5, o6, o7, o8⟩ := e2
      rw [o3, o5, o6, o7, o8]
      by_cases h3 : s_left P (S.2.2.2.1 0) ≤ 0
      · rw [if_pos h3, if_pos h3]
        obtain ⟨C, n, n1, n2, n3, n4, n5, n6⟩ := hcu h3
        obtain ⟨bi, f1, f2, f3⟩ := fl_all n1 n2 n3 n4
        have hb : s_bits (s_tot (s_at S.1 (fun y => s_cup y (S.2.2.2.2 0))) P 0) (S.2.2.2.1 0) = bi := by unfold s_bits; rw [n5, n6, f2]; rfl
        rw [hb, hH.2.1 0 (by omega), n5, n6, f1, Option.bind_some]
        obtain ⟨u, u1, u2, rfl⟩ := p_inN (a := 0) (b := 3) h2 (by omega) (by omega)
        rcases (show u = 0 ∨ u = 1 ∨ u = 2 ∨ u = 3 by omega) with rfl | rfl | rfl | rfl
        · rw [if_pos (show nI 0 = 0 from rfl), if_pos (show nI 0 = 0 from rfl)]; exact ⟨_, rfl⟩
        · rw [if_neg (show ¬ nI 1 = 0 by decide), if_pos (show nI 1 = 1 from rfl), if_neg (show ¬ nI 1 = 0 by decide), if_pos (show nI 1 = 1 from rfl)]; exact ⟨_, rfl⟩
        · rw [if_neg (show ¬ nI 2 = 0 by decide), if_neg (show ¬ nI 2 = 1 by decide), if_pos (show nI 2 = 2 from rfl), if_neg (show ¬ nI 2 = 0 by decide), if_neg (show ¬ nI 2 = 1 by decide), if_pos (show nI 2 = 2 from rfl)]; exact ⟨_, rfl⟩
        · rw [if_neg (show ¬ nI 3 = 0 by decide), if_neg (show ¬ nI 3 = 1 by decide), if_neg (show ¬ nI 3 = 2 by decide), if_neg (show ¬ nI 3 = 0 by decide), if_neg (show ¬ nI 3 = 1 by decide), if_neg (show ¬ nI 3 = 2 by decide)]; exact ⟨_, rfl⟩
      · rw [if_neg h3, if_neg h3]; exact ⟨_, rfl⟩
theorem s_bm_nn (p : Int32) : ∀ (i : Nat), i ≤ 24 → (s_bm S p i).1 = (-2000000004) ∨ 0 ≤ (s_bm S p i).1
  | 0, _ => Or.inl rfl
  | i + 1, h => by
    rw [s_bm]
    split
    · split
      · exact Or.inr (nI_pos' (by omega))
      · exact s_bm_nn p i (by omega)
    · exact s_bm_nn p i (by omega)
theorem s_bm_neg {p : Int32} {i : Nat} (h : i ≤ 24) : ((s_bm S p i).1 < 0) = ((s_bm S p i).1 = (-2000000004)) := by
  rcases s_bm_nn (S := S) p i h with e | e
  · rw [e]; exact propext ⟨fun _ => rfl, fun _ => by decide⟩
  · exact propext ⟨fun k => absurd k (Int32.not_lt.mpr e), fun k => by rw [k] at e; exact absurd e (by decide)⟩
theorem p_X6_best_32 {b : Nat} (hI : s_inv b S) (hC : crC S vh vl vk) (p w : Int32) : ∀ (n i : Nat) (vd : cr_V), i ≤ 24 → 24 - i < n →
    ∃ d, f_X6_bestMonth_32 n vh vl vk vt vtl vtk vs vx vd vo p w (s_bm S p i).1 (s_bm S p i).2 (nI i) = some (if (s_bm S p 24).1 < 0 then (s_bm S p 24).1 else if w = 0 then (s_bm S p 24).1 else (s_bm S p 24).2 + 1000000, d) := by
  obtain ⟨a, m, hm', ha, g0, -⟩ := hI
  obtain ⟨hL, hK, hH, hm⟩ := hC
  have h0 : vh 4 0 = S.2.2.2.2 0 := hH.2.2.1
  intro n
  induction n with
  | zero => intro i vd a b; omega
  | succ n ih =>
    intro i vd hi hn
    rw [f_X6_bestMonth_32]
    by_cases hk : i = 24
    · subst hk
      rw [if_pos (show (24 : Int32) ≤ nI 24 by decide)]
      simp only [f_X6_bestMonth_137, ← s_bm_neg (S := S) (p := p) (Nat.le_refl 24)]
      refine ⟨vd, ?_⟩
      by_cases a : (s_bm S p 24).1 < 0 <;> by_cases c : w = 0 <;> simp [a, c]
    · rw [if_neg (show ¬ (24 : Int32) ≤ nI i from c_nle 24 i rfl rfl (by omega) (by omega)), h0]
      have hd : f_X3_isDeliveryMonth vh vl vk (S.2.2.2.2 0 + nI i) = some (if s_month S.2.2.2.1 (S.2.2.2.2 0 + nI i) then 1 else 0) := by
        rw [g0, nI_add]; exact p_X3_isDelivery hH (by omega)
      rw [hd, Option.bind_some]
      obtain ⟨d1, e1, e2⟩ := p_X1_plan vk vd hH hL p (S.2.2.2.2 0 + nI i)
      obtain ⟨o1, o2, o3, o4, o5, o6, o7, o8⟩ := e2
      rw [e1, Option.bind_some, o3, o6]
      simp only [f_X6_bestMonth_121, f_X6_bestMonth_109, nI_1, o6]
      obtain ⟨d2, k2⟩ := ih (i + 1) vd (by omega) (by omega)
      obtain ⟨d3, k3⟩ := ih (i + 1) d1 (by omega) (by omega)
      rw [show s_bm S p (i + 1) = _ from by rw [s_bm]] at k2 k3
      have hneg := s_bm_neg (S := S) (p := p) (i := i) (by omega)
      simp only [← hneg]
      generalize s_tot (s_at S.1 (fun x => s_gain S.2.2.1 S.2.2.2.1 x p (S.2.2.2.2 0 + nI i))) (s_deliver S.2.2.1 S.2.2.2.1 S.1 p (S.2.2.2.2 0 + nI i)) 0 = G at *
      generalize s_left (s_deliver S.2.2.1 S.2.2.2.1 S.1 p (S.2.2.2.2 0 + nI i)) (S.2.2.2.1 0) = F at *
      generalize s_bm S p i = B at *
      cases h1 : s_month S.2.2.2.1 (S.2.2.2.2 0 + nI i) with
      | false =>
        rw [h1] at k2
        refine ⟨d2, ?_⟩
        rw [← k2]; simp
      | true =>
        rw [h1] at k3
        refine ⟨d3, ?_⟩
        rw [← k3]
        by_cases h2 : F = 0 <;> by_cases h3 : B.1 < 0 <;> by_cases h4 : G ≤ B.2 <;> simp [h2, h3, h4]
theorem p_X6_best {b : Nat} (hI : s_inv b S) (hC : crC S vh vl vk) (p w : Int32) : ∃ d, f_X6_bestMonth vh vl vk vt vtl vtk vs vx vd vo p w = some (r_best S p w, d) := by
  rw [f_X6_bestMonth, p_X6_isWithin, Option.bind_some]
  unfold r_best
  cases h1 : s_in p 1 999 with
  | false => exact ⟨vd, by simp⟩
  | true =>
    rw [p_X6_isWithin, Option.bind_some]
    cases h2 : s_in w 0 1 with
    | false => exact ⟨vd, by simp⟩
    | true =>
      simp only [Bool.and_self, if_true, n10, if_false]
      exact p_X6_best_32 hI hC p w 10100 0 vd (by omega) (by omega)
theorem s_bags_0 (m : Int32) : ∀ (L : List cr_Lot) (a : Int32), s_bags 0 m L a = s_sum (fun x => x.2.1) L a
  | [], a => rfl
  | x :: L, a => by
    have hn : ¬ s_cup x m < 0 := by
      have h60 : (60 : Int32) ≤ s_cup x m := by unfold s_cup; split <;> first | assumption | decide
      exact fun h => absurd (Int32.lt_of_le_of_lt h60 h) (by decide)
    rw [s_bags, s_sum, if_neg hn]
    exact s_bags_0 m L _
theorem s_bags_70 (m : Int32) : ∀ (L : List cr_Lot) (a : Int32), s_bags 70 m L a = s_sum (fun x => if s_cup x m < 70 then 0 else x.2.1) L a
  | [], a => rfl
  | x :: L, a => by
    rw [s_bags, s_sum]
    exact s_bags_70 m L _
theorem p_X6_count (hC : crC S vh vl vk) (w : Int32) : f_X6_count vh vl vk vt vtl vtk vs vx vd vo w = some (r_count S (vs 1 0) (vo 1 0) w) := by
  obtain ⟨hL, hK, hH, hm⟩ := hC
  obtain ⟨t1, t2, t3, t4, t5, t6, t7⟩ := hH
  rw [f_X6_count, p_X6_isWithin, Option.bind_some]
  unfold r_count
  cases h1 : s_in w 20 24 with
  | true =>
    obtain ⟨u, u1, u2, rfl⟩ := p_inN (a := 20) (b := 24) h1 (by omega) (by omega)
    have hno : ∀ j, j ≤ 19 → ¬ nI u = nI j := fun j hj e => by have := nI_inj (by omega) (by omega) e; omega
    rw [if_neg (by decide), if_neg (show ¬ nI u = 0 from hno 0 (by omega)), if_neg (show ¬ nI u = 1 from hno 1 (by omega)), if_neg (show ¬ nI u = 2 from hno 2 (by omega)), if_neg (show ¬ nI u = 3 from hno 3 (by omega)), if_neg (show ¬ nI u = 4 from hno 4 (by omega)), if_neg (show ¬ nI u = 5 from hno 5 (by omega)), if_neg (show ¬ nI u = 6 from hno 6 (by omega)), if_neg (show ¬ nI u = 7 from hno 7 (by omega)), if_neg (show ¬ nI u = 8 from hno 8 (by omega)), if_neg (show ¬ nI u = 9 from hno 9 (by omega)), if_neg (show ¬ nI u = 10 from hno 10 (by omega)), if_neg (show ¬ nI u = 11 from hno 11 (by omega)), if_pos rfl, show (20 : Int32) = nI 20 from rfl, pk_sub u1, if_pos (cr_inn (by omega) (by omega)), cr_xn (by omega), t2 _ (by omega)]
  | false =>
    simp only [Bool.false_eq_true, if_false, if_true]
    rw [f_X3_tellCount, hL.2.1, hK.2.1, p_X4_allBags hL, p_X4_bagsToGive hL, t3, t4, t5, t6, t7, hm, s_bags_0, s_bags_70]
    simp only [Option.bind_some]
    by_cases a10 : w = 10
    · subst a10; rfl
    by_cases a11 : w = 11
    · subst a11; rfl
    rw [if_neg a10, if_neg a11]
    by_cases a0 : w = 0
    · rw [if_pos a0, if_pos a0, Option.bind_some]
    rw [if_neg a0, if_neg a0]
    by_cases a1 : w = 1
    · rw [if_pos a1, if_pos a1, Option.bind_some]
    rw [if_neg a1, if_neg a1]
    by_cases a2 : w = 2
    · rw [if_pos a2, if_pos a2, Option.bind_some]
    rw [if_neg a2, if_neg a2]
    by_cases a3 : w = 3
    · rw [if_pos a3, if_pos a3, Option.bind_some]
    rw [if_neg a3, if_neg a3]
    by_cases a4 : w = 4
    · rw [if_pos a4, if_pos a4, Option.bind_some]
    rw [if_neg a4, if_neg a4]
    by_cases a5 : w = 5
    · rw [if_pos a5, if_pos a5, Option.bind_some]
    rw [if_neg a5, if_neg a5]
    by_cases a6 : w = 6
    · rw [if_pos a6, if_pos a6, Option.bind_some]
    rw [if_neg a6, if_neg a6]
    by_cases a7 : w = 7
    · rw [if_pos a7, if_pos a7, Option.bind_some]
    rw [if_neg a7, if_neg a7]
    by_cases a8 : w = 8
    · rw [if_pos a8, if_pos a8, Option.bind_some]
    rw [if_neg a8, if_neg a8]
    by_cases a9 : w = 9
    · rw [if_pos a9, if_pos a9, Option.bind_some]
    rw [if_neg a9, if_neg a9, if_neg a10, if_neg a11, Option.bind_some]
end CRR
