/-! would and lift, on the model -/
noncomputable def s_bits (C n : Int32) : Int32 := (f_Jxf58ca_floatToIntBits_5c35a (FP.fdiv (FP.i2f C) (FP.i2f n))).getD 0
theorem i_sums {g b c : Nat → Int32} {N : Nat} (hb : ∀ j, j < N → ∃ t, t ≤ 9999 ∧ b j = nI t) : ∀ (f : Nat) (ok : Nat → Bool) (w A : Nat), (∀ j, j < N → ok j = true → ∃ u, 70 ≤ u ∧ u ≤ 100 ∧ c j = nI u) → w ≤ 250 →
    ∃ T X, T ≤ w ∧ 70 * T ≤ X ∧ X ≤ 100 * T ∧ s_left (s_plan g b N f ok (nI w)) (nI w) = nI (w - T) ∧ s_tot c (s_plan g b N f ok (nI w)) (nI A) = nI (A + X)
  | 0, ok, w, A, hc, hw => ⟨0, 0, by omega, by omega, by omega, rfl, rfl⟩
  | f + 1, ok, w, A, hc, hw => by
    unfold s_plan
    by_cases h : nI w ≤ 0
    · rw [if_pos h]
      exact ⟨0, 0, by omega, by omega, by omega, rfl, rfl⟩
    · rw [if_neg h]
      cases hs : s_best ok g N with
      | none => exact ⟨0, 0, by omega, by omega, by omega, rfl, rfl⟩
      | some r =>
        obtain ⟨r1, r2⟩ := s_best_lt hs
        obtain ⟨t, t1, t2⟩ := hb r r1
        obtain ⟨u, u1, u2, u3⟩ := hc r r1 r2
        have ht : ∃ k, k ≤ w ∧ s_take (nI w) (nI t) = nI k := by
          unfold s_take
          by_cases hlt : nI t < nI w
          · rw [if_pos hlt]
            exact ⟨t, Nat.le_of_not_lt fun q => nI_nlt (Nat.le_of_lt q) (by omega) hlt, rfl⟩
          · rw [if_neg hlt]; exact ⟨w, Nat.le_refl _, rfl⟩
        obtain ⟨k, k1, k2⟩ := ht
        dsimp only
        unfold s_left s_tot
        dsimp only
        rw [t2, k2, u3, pk_sub k1, pk_mul, nI_add]
        obtain ⟨T, X, e1, e2, e3, e4, e5⟩ := i_sums hb f (fun j => ok j && !decide (j = r)) (w - k) (A + k * u) (fun j hj ho => hc j hj (by simp at ho; exact ho.1)) (by omega)
        have m1 : k * 70 ≤ k * u := Nat.mul_le_mul (Nat.le_refl _) u1
        have m2 : k * u ≤ k * 100 := Nat.mul_le_mul (Nat.le_refl _) u2
        exact ⟨k + T, k * u + X, by omega, by omega, by omega, by rw [e4]; congr 1; omega, by rw [e5]; congr 1; omega⟩
theorem i_cups {a m : Nat} {S : cr_S} (hI : s_invA a m S) (price : Int32) (hl : s_left (s_deliver S.2.2.1 S.2.2.2.1 S.1 price (S.2.2.2.2 0)) (S.2.2.2.1 0) ≤ 0) :
    ∃ C n : Nat, 1 ≤ n ∧ n ≤ 250 ∧ 64 * n ≤ C ∧ C ≤ 100 * n ∧ S.2.2.2.1 0 = nI n ∧ s_tot (s_at S.1 (fun x => s_cup x (S.2.2.2.2 0))) (s_deliver S.2.2.1 S.2.2.2.1 S.1 price (S.2.2.2.2 0)) 0 = nI C := by
  obtain ⟨ha, h0, h5, hd, hL, hK, hw, hs⟩ := hI
  obtain ⟨n, n1, n2, n3⟩ := p_inN (a := 1) (b := 250) (hs 0 (by omega)) (by omega) (by omega)
  unfold s_deliver at hl ⊢
  rw [n3] at hl ⊢
  obtain ⟨T, X, e1, e2, e3, e4, e5⟩ := i_sums (g := s_at S.1 (fun x => s_gain S.2.2.1 S.2.2.2.1 x price (S.2.2.2.2 0))) (b := s_at S.1 (fun x => x.2.1)) (c := s_at S.1 (fun x => s_cup x (S.2.2.2.2 0))) (N := S.1.length) (fun j hj => by
    have hx : S.1[j]? = some S.1[j] := List.getElem?_eq_getElem hj
    obtain ⟨g, g1, g2, g3⟩ := (hL _ (List.getElem_mem hj)).bags
    exact ⟨g, g2, by rw [s_at_of hx]; exact g3⟩) 12 (s_ok S.1 (S.2.2.2.2 0)) n 0 (fun j hj ho => by
    have hx : S.1[j]? = some S.1[j] := List.getElem?_eq_getElem hj
    obtain ⟨c, c1, c2, c3⟩ := s_cup_n (hL _ (List.getElem_mem hj)).1 (Nat.le_refl a) (by omega)
    rw [s_ok_of hx, h0, c3] at ho
    refine ⟨c, ?_, c2, by rw [s_at_of hx, h0]; exact c3⟩
    have hno : ¬ nI c < 70 := by simpa using ho
    exact Nat.le_of_not_lt fun q => hno (nI_lt (b := 70) q (by omega))) n2
  rw [e4] at hl
  have hT : n - T = 0 := by
    rcases Nat.eq_zero_or_pos (n - T) with q | q
    · exact q
    · exact absurd hl (nI_nle q (by omega))
  rw [Nat.zero_add] at e5
  exact ⟨X, n, n1, n2, by omega, by omega, rfl, e5⟩
noncomputable def r_would (S : cr_S) (x w : Int32) : Int32 := if s_open S.2.1.length x = 1 ∧ s_in w 0 3 = true then
    (if s_left (s_pl S x) (S.2.2.2.1 0) ≤ 0 then (if w = 0 then s_tot (s_at S.1 (fun y => s_pay S.2.2.2.1 y (s_con S.2.1 (cr_x x)).2 (S.2.2.2.2 0))) (s_pl S x) 0
      else if w = 1 then s_tot (s_at S.1 (fun y => s_gain S.2.2.1 S.2.2.2.1 y (s_con S.2.1 (cr_x x)).2 (S.2.2.2.2 0))) (s_pl S x) 0 + 1000000
      else if w = 2 then s_used (s_at S.1 (fun y => y.2.1)) (s_pl S x) 0 else s_bits (s_tot (s_at S.1 (fun y => s_cup y (S.2.2.2.2 0))) (s_pl S x) 0) (S.2.2.2.1 0)) else (-2000000002)) else (-2000000001)
theorem q_would_95 {S : cr_S} {v : cr_V} {P : List (Nat × Int32)} {want : Int32} (hM : mdR S (v 0)) (hO : qOut P want v) (hp : ∀ q ∈ P, q.1 < S.1.length) {b : Int32} (hb : f_Jxf58ca_floatToIntBits_5c35a (FP.fdiv (FP.i2f (s_tot (s_at S.1 (fun y => s_cup y (S.2.2.2.2 0))) P 0)) (FP.i2f (S.2.2.2.1 0))) = some b) (hnum : cr_num (FP.fdiv (FP.i2f (s_tot (s_at S.1 (fun y => s_cup y (S.2.2.2.2 0))) P 0)) (FP.i2f (S.2.2.2.1 0))) = true) (w : Int32) : ∀ (n i : Nat), i ≤ P.length → P.length - i < n →
    f_X7_would_95 n v w (s_used (s_at S.1 (fun y => y.2.1)) (P.take i) 0) (s_tot (s_at S.1 (fun y => s_cup y (S.2.2.2.2 0))) (P.take i) 0) (nI i) = some (if w = 2 then s_used (s_at S.1 (fun y => y.2.1)) P 0 else b, v) := by
  obtain ⟨o1, o2, o3, o4⟩ := hO
  have h0 : v 0 0 = S.2.2.2.2 0 := hM.2.2.2.2 0 (by omega)
  have h8 : v 0 8 = S.2.2.2.1 0 := hM.2.2.2.1 0 (by omega)
  intro n
  induction n with
  | zero => intro i a b; omega
  | succ n ih =>
    intro i hi hn
    rw [f_X7_would_95, o2]
    by_cases hk : i = P.length
    · rw [if_pos (show nI P.length ≤ nI i from c_le P.length i rfl rfl (by omega) (by omega)), hk, List.take_length, h8, if_pos hnum]
      by_cases hw : w = 2
      · rw [if_pos hw, if_pos hw]
      · rw [if_neg hw, if_neg hw, hb, Option.bind_some]
    · have hq : P[i]? = some P[i] := List.getElem?_eq_getElem (by omega)
      have hr : P[i].1 < S.1.length := hp _ (List.getElem_mem _)
      have hx : S.1[P[i].1]? = some S.1[P[i].1] := List.getElem?_eq_getElem hr
      obtain ⟨a1, a2⟩ := o4 i _ hq
      have ih2 := ih (i + 1) (by omega) (by omega)
      rw [p_take (by omega), s_tot_app, s_used_app, s_at_of hx, s_at_of hx] at ih2
      rw [if_neg (show ¬ nI P.length ≤ nI i from c_nle P.length i rfl rfl (by omega) (by omega)), if_pos (cr_inn (by omega) (by omega)), cr_xn (by omega), a1, a2, q_of1 hM.1 hx, Option.bind_some]
      have h133 : ∀ s0 : Int32, f_X7_would_133 (f_X7_would_95 n) v w (s_tot (s_at S.1 (fun y => s_cup y (S.2.2.2.2 0))) (P.take i) 0) (nI i) s0 (s_used (s_at S.1 (fun y => y.2.1)) (P.take i) 0) = f_X7_would_95 n v w (s_used (s_at S.1 (fun y => y.2.1)) (P.take i) 0 + s0) (s_tot (s_at S.1 (fun y => s_cup y (S.2.2.2.2 0))) (P.take i) 0 + P[i].2 * s_cup S.1[P[i].1] (S.2.2.2.2 0)) (nI (i + 1)) := by
        intro s0
        rw [f_X7_would_133, if_pos (cr_inn (by omega) (by omega)), cr_xn (by omega), a1, a2, q_cupOf hM.1 hx, Option.bind_some, h0, nI_1]
      by_cases he : P[i].2 = S.1[P[i].1].2.1
      · rw [if_pos he, h133]
        rw [if_pos he] at ih2
        exact ih2
      · rw [if_neg he, h133]
        rw [if_neg he] at ih2
        exact ih2
theorem q_would {b : Nat} {S : cr_S} {v : cr_V} (hI : s_inv b S) (hM : mdR S (v 0)) (x w : Int32) : ∃ v', f_X7_would v x w = some (r_would S x w, v') ∧ sameC [7, 8, 9, 10] v v' := by
  obtain ⟨a, m, hm, hIA⟩ := hI
  have hkl := hM.2.1.1
  have h0 : v 0 0 = S.2.2.2.2 0 := hM.2.2.2.2 0 (by omega)
  rw [f_X7_would, q_isContract hM, Option.bind_some]
  unfold r_would
  rcases s_open_cases (n := S.2.1.length) (by omega) x with ⟨h1, -⟩ | ⟨h1, k, hk, rfl⟩
  · rw [h1]; simp only [if_true]
    rw [if_neg (by simp)]
    exact ⟨v, rfl, sameC.rf⟩
  · have hc : S.2.1[k]? = some S.2.1[k] := List.getElem?_eq_getElem hk
    rw [h1]
    simp only [n10, if_false, true_and]
    rw [q_in, Option.bind_some]
    cases h2 : s_in w 0 3 with
    | false => exact ⟨v, by simp, sameC.rf⟩
    | true =>
      simp only [if_true, n10, if_false]
      obtain ⟨v1, a1, a2, a3⟩ := q_gives hM S.2.1[k].2 (S.2.2.2.2 0)
      have hM1 : mdR S (v1 0) := by rw [a3 0 (by simp)]; exact hM
      have h01 : v1 0 0 = S.2.2.2.2 0 := hM1.2.2.2.2 0 (by omega)
      have hPl : s_pl S (nI k) = s_deliver S.2.2.1 S.2.2.2.1 S.1 S.2.1[k].2 (S.2.2.2.2 0) := by unfold s_pl; rw [cr_xn (by omega), s_con_of hc]
      have hcu := i_cups hIA S.2.1[k].2
      rw [← hPl] at a2 hcu
      have hp : ∀ q ∈ s_pl S (nI k), q.1 < S.1.length := by rw [hPl]; exact s_deliver_lt
      rw [q_priceOf hM hc, Option.bind_some, h0, a1, Option.bind_some, a2.2.2.1, cr_xn (show k < 2 ^ 31 by omega), s_con_of hc]
      generalize s_pl S (nI k) = P at *
      by_cases h3 : s_left P (S.2.2.2.1 0) ≤ 0
      · rw [if_pos h3, if_pos h3]
        obtain ⟨C, n, n1, n2, n3, n4, n5, n6⟩ := hcu h3
        obtain ⟨bi, f1, f2, f3⟩ := fl_all n1 n2 n3 n4
        have hb : s_bits (s_tot (s_at S.1 (fun y => s_cup y (S.2.2.2.2 0))) P 0) (S.2.2.2.1 0) = bi := by unfold s_bits; rw [n5, n6, f2]; rfl
        obtain ⟨u, u1, u2, rfl⟩ := p_inN (a := 0) (b := 3) h2 (by omega) (by omega)
        rw [h01]
        rcases (show u = 0 ∨ u = 1 ∨ u = 2 ∨ u = 3 by omega) with rfl | rfl | rfl | rfl
        · rw [if_neg (show ¬ (2 : Int32) ≤ nI 0 by decide), if_neg (show ¬ nI 0 = 1 by decide), f_X7_would_70, q_paidAll0 hM1.1 hM1.2.2 a2 hp, Option.bind_some, if_neg (show ¬ nI 0 = 1 by decide), f_X7_would_84, Int32.add_zero, if_pos (show nI 0 = 0 from rfl)]
          exact ⟨v1, rfl, a3⟩
        · rw [if_neg (show ¬ (2 : Int32) ≤ nI 1 by decide), if_pos (show nI 1 = 1 from rfl), f_X7_would_70, q_paidAll1 hM1.1 hM1.2.2 a2 hp, Option.bind_some, if_pos (show nI 1 = 1 from rfl), f_X7_would_84, if_neg (show ¬ nI 1 = 0 by decide), if_pos (show nI 1 = 1 from rfl)]
          exact ⟨v1, rfl, a3⟩
        · have := q_would_95 hM1 a2 hp (b := bi) (by rw [n5, n6]; exact f2) (by rw [n5, n6]; exact f3) (nI 2) 10100 0 (by omega) (by have := a2.1; omega)
          rw [if_pos (show (2 : Int32) ≤ nI 2 by decide), if_neg (show ¬ nI 2 = 0 by decide), if_neg (show ¬ nI 2 = 1 by decide), if_pos (show nI 2 = 2 from rfl)]
          rw [if_pos (show nI 2 = 2 from rfl)] at this
          exact ⟨v1, this, a3⟩
        · have := q_would_95 hM1 a2 hp (b := bi) (by rw [n5, n6]; exact f2) (by rw [n5, n6]; exact f3) (nI 3) 10100 0 (by omega) (by have := a2.1; omega)
          rw [if_pos (show (2 : Int32) ≤ nI 3 by decide), if_neg (show ¬ nI 3 = 0 by decide), if_neg (show ¬ nI 3 = 1 by decide), if_neg (show ¬ nI 3 = 2 by decide), hb]
          rw [if_neg (show ¬ nI 3 = 2 by decide)] at this
          exact ⟨v1, this, a3⟩
      · rw [if_neg h3, if_neg h3]
        exact ⟨v1, rfl, a3⟩
noncomputable def r_lift (S : cr_S) (n1 n2 t : Int32) : Int32 := match cr_idx S.1 n1, cr_idx S.1 n2 with
  | some i, some j => if ¬ i = j ∧ s_in t 60 100 = true then s_lf (s_get S.1 i).2.1 (s_cup (s_get S.1 i) (S.2.2.2.2 0)) (s_cup (s_get S.1 j) (S.2.2.2.2 0)) t (cr_x (s_get S.1 j).2.1) 1 else (-2000000001)
  | _, _ => (-2000000001)
theorem q_lift {b : Nat} {S : cr_S} {v : cr_V} (hI : s_inv b S) (hM : mdR S (v 0)) (n1 n2 t : Int32) : f_X7_lift v n1 n2 t = some (r_lift S n1 n2 t) := by
  obtain ⟨a, m, hm, ha, h0, h5, hd, hL, hK, hwo, hs⟩ := hI
  have hB : ∀ x ∈ S.1, s_in x.2.1 1 9999 = true := fun x hx => (hL x hx).inb
  rw [f_X7_lift, q_isLot hM.1, Option.bind_some]
  unfold r_lift
  cases hi : cr_idx S.1 n1 with
  | none => simp
  | some i =>
    obtain ⟨x, hx, hxn⟩ := cr_idx_some hi
    simp only [Option.isSome_some, if_true, n10, if_false]
    rw [q_isLot hM.1, Option.bind_some]
    cases hj : cr_idx S.1 n2 with
    | none => simp
    | some j =>
      obtain ⟨y, hy, hyn⟩ := cr_idx_some hj
      simp only [Option.isSome_some, if_true, n10, if_false]
      by_cases he : n1 = n2
      · have hij : i = j := by rw [he, hj] at hi; exact (Option.some.inj hi).symm
        rw [if_pos he, if_neg (fun q => q.1 hij)]
      · have hij : ¬ i = j := fun q => by
          subst q
          rw [hx] at hy
          cases hy
          exact he (hxn.symm.trans hyn)
        rw [if_neg he, q_in, Option.bind_some]
        cases h2 : s_in t 60 100 with
        | false => simp
        | true =>
          obtain ⟨g, g1, g2, g3⟩ := (hL y (List.mem_of_getElem? hy)).bags
          rw [if_pos (show ¬ i = j ∧ true = true from ⟨hij, rfl⟩)]
          simp only [if_true, n10, if_false]
          rw [q_placeOf hM.1, hi, Option.bind_some, q_placeOf hM.1, hj, Option.bind_some, s_get_of hx, s_get_of hy, g3, cr_xn (by omega)]
          exact q_lift_52 hM hB hx hy g3 g2 t g 1 10100 (by omega) (by omega) (by omega)
