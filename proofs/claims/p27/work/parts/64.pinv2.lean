/-! what every state keeps: the operations, on -/
theorem z_lotLess {a m : Nat} {x : cr_Lot} (h : s_lotZ a m x) {g n : Nat} (hg : x.2.1 = nI g) (hg2 : g ≤ 9999) (hn : n ≤ g) : s_lotZ a m (s_less x (nI n)) := by
  obtain ⟨hz1, -, hz3, hz4⟩ := h
  exact ⟨hz1, ⟨g - n, by omega, by show x.2.1 - nI n = _; rw [hg, pk_sub hn]⟩, hz3, hz4⟩
theorem z_le9 {x : Int32} {g : Nat} (h1 : ¬ x < 1) (h2 : ¬ nI g < x) (hg : g ≤ 9999) : ∃ n, 1 ≤ n ∧ n ≤ g ∧ x = nI n :=
  p_inN (a := 1) (b := g) (by unfold s_in; rw [decide_eq_false (p := x < nI 1) h1, decide_eq_false h2]; rfl)
    (by omega) (by
      have h3 := Int32.le_trans (Int32.not_lt.mp h1) (Int32.not_lt.mp h2)
      exact Nat.le_of_not_lt fun h => nI_ge (b := 1) (a := g) h (by omega) h3)
theorem i_blend {b : Nat} {S : cr_S} (hI : s_inv b S) (hb : b < 2 ^ 30) (x1 x2 x3 x4 : Int32) : s_Op b (o_blend S x1 x2 x3 x4) := by
  obtain ⟨a, m, hm, ha, h0, h5, hd, hL, hK, hw, hs⟩ := hI
  unfold o_blend s_Op
  cases hi : cr_idx S.1 x1 with
  | none => simp; decide
  | some i =>
    cases hj : cr_idx S.1 x3 with
    | none => simp; decide
    | some j =>
      obtain ⟨x, hx, hxn⟩ := cr_idx_some hi
      obtain ⟨y, hy, hyn⟩ := cr_idx_some hj
      have hxi := hL x (List.mem_of_getElem? hx)
      have hyi := hL y (List.mem_of_getElem? hy)
      obtain ⟨g, g1, g2, g3⟩ := hxi.bags
      obtain ⟨k, k1, k2, k3⟩ := hyi.bags
      obtain ⟨c, c1, c2, c3⟩ := s_cup_n hxi.1 (Nat.le_refl a) (by omega)
      obtain ⟨e, e1, e2, e3⟩ := s_cup_n hyi.1 (Nat.le_refl a) (by omega)
      dsimp only
      rw [s_get_of hx, s_get_of hy, g3, k3, h0, c3, e3]
      by_cases h1 : i = j ∨ x2 < 1 ∨ x4 < 1
      · rw [if_pos h1]; first | exact e_1 | exact e_2 | exact e_3
      · rw [if_neg h1]
        rw [not_or, not_or] at h1
        by_cases h2 : nI g < x2 ∨ nI k < x4
        · rw [if_pos h2]; first | exact e_1 | exact e_2 | exact e_3
        · rw [if_neg h2]
          rw [not_or] at h2
          obtain ⟨n, n1, n2, rfl⟩ := z_le9 h1.2.1 h2.1 g2
          obtain ⟨r, r1, r2, rfl⟩ := z_le9 h1.2.2 h2.2 k2
          rw [nI_add]
          by_cases h3 : 9999 < nI (n + r) ∨ (S.1.length = 12 ∧ nI n ≠ nI g ∧ nI r ≠ nI k)
          · rw [if_pos h3]; exact e_3
          · rw [if_neg h3]
            rw [not_or] at h3
            have h4 : n + r ≤ 9999 := Nat.le_of_not_lt fun h => h3.1 (nI_lt (a := 9999) h (by omega))
            have z1 : s_lotZ a m (s_less x (nI n)) := z_lotLess hxi.1 g3 g2 n2
            have z2 : s_lotZ a m (s_less y (nI r)) := z_lotLess hyi.1 k3 k2 r2
            have hne : i ≠ j := h1.1
            have hy2 : (S.1.set i (s_less x (nI n)))[j]? = some y := by rw [List.getElem?_set_ne hne]; exact hy
            have hd2 : s_dist ((S.1.set i (s_less x (nI n))).set j (s_less y (nI r))) := by
              unfold s_dist
              rw [s_set_num (y := s_less y (nI r)) hy2 rfl, s_set_num (y := s_less x (nI n)) hx rfl]; exact hd
            have hL2 : ∀ z ∈ ((S.1.set i (s_less x (nI n))).set j (s_less y (nI r))).filter s_full, s_lotI a m z := fun z hz => by
              obtain ⟨q1, q2⟩ := List.mem_filter.mp hz
              exact ⟨s_set_mem (s_set_mem (P := s_lotZ a m) (fun z hz => (hL z hz).1) z1) z2 z q1, q2⟩
            have hcup : ∃ f, 60 ≤ f ∧ f ≤ 100 ∧ (nI n * nI c + nI r * nI e) / nI (n + r) = nI f := by
              have u1 : n * c ≤ n * 100 := Nat.mul_le_mul (Nat.le_refl _) c2
              have u2 : r * e ≤ r * 100 := Nat.mul_le_mul (Nat.le_refl _) e2
              have u3 : n * 60 ≤ n * c := Nat.mul_le_mul (Nat.le_refl _) c1
              have u4 : r * 60 ≤ r * e := Nat.mul_le_mul (Nat.le_refl _) e1
              rw [pk_mul, pk_mul, nI_add, pk_div (by omega) (by omega) (by omega)]
              refine ⟨_, ?_, ?_, rfl⟩
              · exact (Nat.le_div_iff_mul_le (by omega)).mpr (by omega)
              · exact Nat.div_le_of_le_mul (by omega)
            obtain ⟨d1, d2⟩ := s_add ha (by omega) (s_dist_fl hd2 s_full) hL2 (y := (S.2.2.2.2 5, nI (n + r), (nI n * nI c + nI r * nI e) / nI (n + r), nI a)) h5 (z_inN (a := 1) (b := 9999) (by omega) h4 (by omega)) hcup ⟨a, Nat.le_refl _, rfl⟩
            refine ⟨by rw [h5]; exact z_ans (by omega), a, m + 1, by omega, ha, h0, ?_, d1, d2, hK, hw, hs⟩
            simp [s_up5, cr_up, h5, nI_1]
theorem i_worth {b : Nat} {S : cr_S} (hI : s_inv b S) (x1 x2 : Int32) : s_Op b (o_worth S x1 x2) := by
  obtain ⟨a, m, hm, ha, h0, h5, hd, hL, hK, hw, hs⟩ := hI
  unfold o_worth s_Op
  cases h1 : s_in x1 0 3 with
  | false => simp; decide
  | true =>
    cases h2 : s_in x2 1 999 with
    | false => simp; decide
    | true =>
      obtain ⟨k, k1, k2, rfl⟩ := p_inN (a := 0) (b := 3) h1 (by omega) (by omega)
      simp only [Bool.and_self, if_true]
      rw [cr_xn (by omega)]
      obtain ⟨w, w1, w2, w3⟩ := p_inN (a := 1) (b := 999) (hw k (by omega)) (by omega) (by omega)
      refine ⟨by rw [w3]; exact z_ans (by omega), a, m, by omega, ha, h0, h5, hd, hL, hK, fun j hj => ?_, hs⟩
      show s_in (upd S.2.2.1 k x2 j) 1 999 = true
      rw [cr_up]
      split
      · exact h2
      · exact hw j hj
theorem i_sell {b : Nat} {S : cr_S} (hI : s_inv b S) (hl : S.2.1.length ≤ 6) (x1 x2 : Int32) : s_Op b (o_sell S x1 x2) := by
  obtain ⟨a, m, hm, ha, h0, h5, hd, hL, hK, hw, hs⟩ := hI
  unfold o_sell s_Op
  cases h1 : s_in x1 0 999 with
  | false => simp; decide
  | true =>
    cases h2 : s_in x2 1 999 with
    | false => simp; decide
    | true =>
      obtain ⟨k, k1, k2, rfl⟩ := p_inN (a := 0) (b := 999) h1 (by omega) (by omega)
      simp only [Bool.and_self, if_true]
      rw [h0]
      by_cases h3 : nI k < nI a
      · rw [if_pos h3]; first | exact e_1 | exact e_2 | exact e_3
      · rw [if_neg h3]
        by_cases h4 : s_month S.2.2.2.1 (nI k) = true
        · rw [if_pos h4]
          by_cases h6 : S.2.1.length = 6
          · rw [if_pos h6]; exact e_3
          · rw [if_neg h6]
            have hak : a ≤ k := Nat.le_of_not_lt fun h => h3 (nI_lt h (by omega))
            refine ⟨z_ans (by omega), a, m, by omega, ha, h0, h5, hd, hL, fun c hc => ?_, hw, hs⟩
            rcases List.mem_append.mp hc with h | h
            · exact hK c h
            · rw [List.mem_singleton] at h
              subst h
              exact ⟨⟨k, hak, k2, rfl⟩, h2⟩
        · rw [if_neg h4]; exact e_2
theorem i_set {b : Nat} {S : cr_S} (hI : s_inv b S) (x1 x2 : Int32) : s_Op b (o_set S x1 x2) := by
  obtain ⟨a, m, hm, ha, h0, h5, hd, hL, hK, hw, hs⟩ := hI
  unfold o_set s_Op
  cases h1 : s_in x1 0 4 with
  | false => simp; decide
  | true =>
    obtain ⟨k, k1, k2, rfl⟩ := p_inN (a := 0) (b := 4) h1 (by omega) (by omega)
    rw [cr_xn (by omega)]
    cases h2 : s_in x2 (cr_least k) (cr_most k) with
    | false => simp; decide
    | true =>
      simp only [Bool.and_self, if_true]
      by_cases h3 : nI k = 0 ∧ 0 < S.2.1.length
      · rw [if_pos h3]; exact e_2
      · rw [if_neg h3]
        have hst := hs k (by omega)
        have hk : k = 0 ∨ k = 1 ∨ k = 2 ∨ k = 3 ∨ k = 4 := by omega
        have hlo : (-2000000001 : Int32) < S.2.2.2.1 k := by
          have h3 : (-2000000001 : Int32) < cr_least k := by
            rcases hk with rfl | rfl | rfl | rfl | rfl <;> decide
          have h4 : cr_least k ≤ S.2.2.2.1 k := by
            unfold s_in at hst
            simp at hst
            exact hst.1
          exact Int32.lt_of_lt_of_le h3 h4
        refine ⟨hlo, a, m, by omega, ha, h0, h5, hd, hL, hK, hw, fun j hj => ?_⟩
        show s_in (upd S.2.2.2.1 k x2 j) _ _ = true
        rw [cr_up]
        split
        · rename_i e; subst e; exact h2
        · exact hs j hj
theorem i_buy {b : Nat} {S : cr_S} (hI : s_inv b S) (hl : S.2.1.length ≤ 6) (x1 x2 : Int32) : s_Op b (o_buy S x1 x2) := by
  obtain ⟨a, m, hm, ha, h0, h5, hd, hL, hK, hw, hs⟩ := hI
  unfold o_buy s_Op
  by_cases h1 : s_open S.2.1.length x1 = 1 ∧ s_in x2 1 999 = true
  · rw [if_pos h1]
    rcases s_open_cases (n := S.2.1.length) (by omega) x1 with ⟨h2, -⟩ | ⟨h2, k, hk, rfl⟩
    · rw [h2] at h1; exact absurd h1.1 (by decide)
    · have hc : S.2.1[k]? = some S.2.1[k] := List.getElem?_eq_getElem hk
      rw [cr_xn (by omega), s_con_of hc]
      obtain ⟨p, p1, p2, p3⟩ := p_inN (a := 1) (b := 999) (hK _ (List.getElem_mem hk)).2 (by omega) (by omega)
      obtain ⟨n, n1, n2, rfl⟩ := p_inN (a := 1) (b := 999) h1.2 (by omega) (by omega)
      obtain ⟨s, s1, s2, s3⟩ := p_inN (a := 1) (b := 250) (hs 0 (by omega)) (by omega) (by omega)
      rw [p3, s3]
      have e1 : (nI p - nI n).toInt = (p : Int) - n := pk_sub_toInt (by omega) (by omega)
      have b1 : (s : Int) * ((p : Int) - n) ≤ 250 * 999 := by
        refine Int.le_trans (Int.mul_le_mul_of_nonneg_left (show (p : Int) - n ≤ 999 by omega) (by omega)) ?_
        omega
      have b2 : -(250 * 999) ≤ (s : Int) * ((p : Int) - n) := by
        refine Int.le_trans ?_ (Int.mul_le_mul_of_nonneg_left (show (-999 : Int) ≤ (p : Int) - n by omega) (by omega))
        omega
      have e2 : (nI s * (nI p - nI n)).toInt = (s : Int) * ((p : Int) - n) := z_mul (nI_toInt (by omega)) e1 (by omega) (by omega)
      refine ⟨?_, a, m, by omega, ha, ?_, ?_, hd, hL, fun c hc => hK c (List.mem_of_mem_eraseIdx hc), hw, hs⟩
      · rw [Int32.lt_iff_toInt_lt, e2]
        have : (-2000000001 : Int32).toInt = -2000000001 := rfl
        omega
      · simpa [cr_up] using h0
      · simpa [cr_up] using h5
  · rw [if_neg h1]; first | exact e_1 | exact e_2 | exact e_3
theorem i_pass {b : Nat} {S : cr_S} (hI : s_inv b S) (hl : S.2.1.length ≤ 6) (x1 : Int32) : s_Op b (o_pass S x1) := by
  obtain ⟨a, m, hm, ha, h0, h5, hd, hL, hK, hw, hs⟩ := hI
  unfold o_pass s_Op
  cases h1 : s_in x1 1 24 with
  | false => simp; decide
  | true =>
    obtain ⟨k, k1, k2, rfl⟩ := p_inN (a := 1) (b := 24) h1 (by omega) (by omega)
    rw [if_pos rfl, h0, nI_add]
    by_cases h2 : nI (a + k) ≤ 999
    · rw [if_pos h2]
      have h3 : a + k ≤ 999 := Nat.le_of_not_lt fun h => nI_ge (a := 999) h (by omega) h2
      refine ⟨z_ans (by omega), a + k, m, by omega, h3, ?_, ?_, hd, fun x hx => (hL x hx).mono (by omega) (Nat.le_refl _), fun c hc => ?_, hw, hs⟩
      · simp [cr_up]
      · simpa [cr_up] using h5
      · obtain ⟨q1, q2⟩ := List.mem_filter.mp hc
        obtain ⟨⟨d, d1, d2, d3⟩, d4⟩ := hK c q1
        unfold s_keep at q2
        rw [d3] at q2
        have q3 : ¬ nI d < nI (a + k) := by simpa using q2
        exact ⟨⟨d, Nat.le_of_not_lt fun h => q3 (nI_lt h (by omega)), d2, d3⟩, d4⟩
    · rw [if_neg h2]; first | exact e_1 | exact e_2 | exact e_3
theorem z_take2 {u : Int32} {n : Nat} (hu : 0 < u) (hn : n ≤ 9999) : ∃ k, k ≤ n ∧ s_take u (nI n) = nI k := by
  unfold s_take
  by_cases h : nI n < u
  · rw [if_pos h]; exact ⟨n, Nat.le_refl _, rfl⟩
  · rw [if_neg h]
    obtain ⟨j, j1, rfl⟩ := nI_of (x := u) (Int32.not_lt.mpr (Int32.le_of_lt hu))
    exact ⟨j, Nat.le_of_not_lt fun h2 => h (nI_lt h2 j1), rfl⟩
theorem s_tot_n {f : Nat → Int32} : ∀ (P : List (Nat × Int32)) (A : Nat), (∀ q ∈ P, (∃ g, g ≤ 9999 ∧ q.2 = nI g) ∧ ∃ k, k ≤ 2000 ∧ f q.1 = nI k) → ∃ r, r ≤ A + P.length * 19998000 ∧ s_tot f P (nI A) = nI r
  | [], A, _ => ⟨A, by simp, rfl⟩
  | q :: P, A, h => by
    obtain ⟨⟨g, g1, g2⟩, k, k1, k2⟩ := h q (by simp)
    have hm : g * k ≤ 9999 * 2000 := Nat.mul_le_mul g1 k1
    unfold s_tot
    rw [g2, k2, pk_mul, nI_add]
    obtain ⟨r, r1, r2⟩ := s_tot_n P (A + g * k) (fun q hq => h q (by simp [hq]))
    refine ⟨r, ?_, r2⟩
    rw [List.length_cons]
    omega
theorem s_give_Z {a m : Nat} : ∀ (P : List (Nat × Int32)) (L : List cr_Lot), (P.map (·.1)).Nodup → (∀ x ∈ L, s_lotZ a m x) → (∀ q ∈ P, ∃ x g n, L[q.1]? = some x ∧ x.2.1 = nI g ∧ g ≤ 9999 ∧ n ≤ g ∧ q.2 = nI n) → ∀ x ∈ s_give P L, s_lotZ a m x
  | [], L, _, hL, _ => hL
  | p :: P, L, hn, hL, hq => by
    rw [List.map_cons, List.nodup_cons] at hn
    obtain ⟨x, g, n, h1, h2, h3, h4, h5⟩ := hq p (by simp)
    unfold s_give
    rw [s_get_of h1, h5]
    refine s_give_Z P _ hn.2 (s_set_mem hL (z_lotLess (hL x (List.mem_of_getElem? h1)) h2 h3 h4)) fun q hqm => ?_
    obtain ⟨y, g', n', u1, u2, u3, u4, u5⟩ := hq q (by simp [hqm])
    have hne : p.1 ≠ q.1 := fun e => hn.1 (by rw [e]; exact List.mem_map.mpr ⟨q, hqm, rfl⟩)
    exact ⟨y, g', n', by rw [List.getElem?_set_ne hne]; exact u1, u2, u3, u4, u5⟩
theorem i_plan {a m : Nat} {L : List cr_Lot} {w st : Nat → Int32} (hL : ∀ x ∈ L, s_lotI a m x) (price mo : Int32) {q : Nat × Int32} (hq : q ∈ s_deliver w st L price mo) : ∃ x g n, L[q.1]? = some x ∧ x.2.1 = nI g ∧ g ≤ 9999 ∧ n ≤ g ∧ q.2 = nI n := by
  obtain ⟨h1, -, u, h2, h3⟩ := s_plan_mem hq
  have hx : L[q.1]? = some L[q.1] := List.getElem?_eq_getElem h1
  obtain ⟨g, g1, g2, g3⟩ := (hL _ (List.getElem_mem h1)).bags
  rw [s_at_of hx, g3] at h3
  obtain ⟨n, n1, n2⟩ := z_take2 h2 g2
  exact ⟨L[q.1], g, n, hx, g3, g2, n1, by rw [h3, n2]⟩
theorem s_plan_len {g b : Nat → Int32} {N : Nat} : ∀ {f : Nat} {ok : Nat → Bool} {want : Int32}, (s_plan g b N f ok want).length ≤ f
  | 0, ok, want => by simp [s_plan]
  | f + 1, ok, want => by
    unfold s_plan
    split
    · simp
    · split
      · simp
      · rw [List.length_cons]; exact Nat.succ_le_succ s_plan_len
theorem s_deliver_len {w st : Nat → Int32} {L : List cr_Lot} {price m : Int32} : (s_deliver w st L price m).length ≤ 12 := s_plan_len
theorem i_meet {b : Nat} {S : cr_S} (hI : s_inv b S) (hl12 : S.1.length ≤ 12) (hl : S.2.1.length ≤ 6) (x1 : Int32) : s_Op b (o_meet S x1) := by
  obtain ⟨a, m, hm, ha, h0, h5, hd, hL, hK, hw, hs⟩ := hI
  unfold o_meet s_Op
  by_cases h1 : s_open S.2.1.length x1 = 1
  · rw [if_pos h1]
    rcases s_open_cases (n := S.2.1.length) (by omega) x1 with ⟨h2, -⟩ | ⟨h2, k, hk, rfl⟩
    · rw [h2] at h1; exact absurd h1 (by decide)
    · have hc : S.2.1[k]? = some S.2.1[k] := List.getElem?_eq_getElem hk
      rw [cr_xn (by omega), s_con_of hc]
      by_cases h3 : S.2.1[k].1 = S.2.2.2.2 0
      · rw [if_pos h3]
        by_cases h4 : s_left (s_deliver S.2.2.1 S.2.2.2.1 S.1 S.2.1[k].2 (S.2.2.2.2 0)) (S.2.2.2.1 0) ≤ 0
        · rw [if_pos h4]
          obtain ⟨p, p1, p2, p3⟩ := p_inN (a := 1) (b := 999) (hK _ (List.getElem_mem hk)).2 (by omega) (by omega)
          have hpl : (s_deliver S.2.2.1 S.2.2.2.1 S.1 S.2.1[k].2 (S.2.2.2.2 0)).length ≤ 12 := s_deliver_len
          obtain ⟨r, r1, r2⟩ := s_tot_n (f := s_at S.1 (fun x => s_pay S.2.2.2.1 x S.2.1[k].2 (S.2.2.2.2 0))) (s_deliver S.2.2.1 S.2.2.2.1 S.1 S.2.1[k].2 (S.2.2.2.2 0)) 0 (fun q hq => by
            obtain ⟨x, g, n, u1, u2, u3, u4, u5⟩ := i_plan hL _ _ hq
            obtain ⟨j, j1, j2, j3⟩ := s_pay_n (hL x (List.mem_of_getElem? u1)).1 (Nat.le_refl a) (by omega) hs p2
            exact ⟨⟨n, by omega, u5⟩, j, j2, by rw [s_at_of u1, p3, h0]; exact j3⟩)
          refine ⟨?_, a, m, by omega, ha, ?_, ?_, ?_, fun x hx => ?_, fun c hc => hK c (List.mem_of_mem_eraseIdx hc), hw, hs⟩
          · dsimp only
            rw [show (0 : Int32) = nI 0 from rfl, r2]; exact z_ans (by omega)
          · simpa [cr_up] using h0
          · simpa [cr_up] using h5
          · exact s_dist_fl (by unfold s_dist; rw [s_give_num]; exact hd) s_full
          · obtain ⟨q1, q2⟩ := List.mem_filter.mp hx
            exact ⟨s_give_Z _ _ s_plan_nd (fun x hx => (hL x hx).1) (fun q hq => i_plan hL _ _ hq) x q1, q2⟩
        · rw [if_neg h4]; exact e_2
      · rw [if_neg h3]; first | exact e_1 | exact e_2 | exact e_3
  · rw [if_neg h1]; first | exact e_1 | exact e_2 | exact e_3
