/-! undo and readers, on the model -/
theorem q_undo_22 {m : Nat} (hm : m ≤ 3) : ∀ (n k : Nat) (v : cr_V), k ≤ 81 → 81 - k < n → v 3 0 = nI m → ∃ v', f_X7_undo_22 n v (nI k) = some (nI m, v') ∧ (∀ t, v' 0 t = if k ≤ t ∧ t < 81 then v 1 (81 * m + t) else v 0 t) ∧ sameC [0] v v' := by
  intro n
  induction n with
  | zero => intro k v a b; omega
  | succ n ih =>
    intro k v hk hn h3
    rw [f_X7_undo_22, h3, show (81 : Int32) * nI m + nI k = nI (81 * m + k) from by rw [show (81 : Int32) = nI 81 from rfl, pk_mul, nI_add]]
    by_cases hke : 81 ≤ k
    · rw [if_pos (show (81 : Int32) ≤ nI k from c_le 81 k rfl rfl (by omega) (by omega))]
      exact ⟨_, rfl, fun t => by rw [if_neg (by omega)], sameC.rf⟩
    · rw [if_neg (show ¬ (81 : Int32) ≤ nI k from c_nle 81 k rfl rfl (by omega) (by omega)), if_pos (cr_inn (by omega) (by omega)), if_pos (cr_inn (by omega) (by omega)), cr_xn (by omega), cr_xn (by omega), nI_1]
      obtain ⟨v', e1, e2, e3⟩ := ih (k + 1) (cr_a v 0 k (v 1 (81 * m + k))) (by omega) (by omega) (by simpa [cr_ce] using h3)
      refine ⟨v', e1, fun t => ?_, (sameC.c (cs := [0]) (by simp)).tr e3 (fun c h => h) (fun c h => h)⟩
      rw [e2, cr_as, show cr_a v 0 k (v 1 (81 * m + k)) 1 = v 1 from by funext z; simp [cr_ce]]
      by_cases h1 : k + 1 ≤ t ∧ t < 81
      · rw [if_pos h1, if_pos (by omega)]
      · rw [if_neg h1]
        by_cases h2 : t = k
        · subst h2; rw [pk_us, if_pos (by omega)]
        · rw [pk_un h2, if_neg (by omega)]
theorem q_undo0 {v : cr_V} (hP : mdP [] v) : f_X7_undo v = some ((-2000000002), v) := by
  rw [f_X7_undo, if_pos (show v 3 0 = 0 from hP.2.1)]
theorem q_undo1 {H : List cr_S} {T : cr_S} {v : cr_V} (hP : mdP (H ++ [T]) v) : ∃ v', f_X7_undo v = some (nI H.length, v') ∧ mdR T (v' 0) ∧ mdP H v' ∧ sameC [0, 3] v v' := by
  obtain ⟨p1, p2, p3⟩ := hP
  rw [List.length_append] at p1 p2
  simp only [List.length_cons, List.length_nil, Nat.zero_add] at p1 p2
  rw [f_X7_undo, p2, if_neg (nI_ne0 (by omega) (by omega)), q_pr (by omega), Nat.add_sub_cancel]
  have hs : sameC [3] v (cr_i v 3 (nI H.length)) := sameC.c (by simp)
  obtain ⟨v', e1, e2, e3⟩ := q_undo_22 (m := H.length) (by omega) 10100 0 (cr_i v 3 (nI H.length)) (by omega) (by omega) (by simp [cr_ce])
  refine ⟨v', e1, ?_, ⟨by omega, by rw [e3 3 (by simp)]; simp [cr_ce], fun i U hU => ?_⟩, hs.tr e3 (by simp) (by simp)⟩
  · refine md_congr (p3 H.length T (by simp)) fun t ht => ?_
    rw [e2, if_pos (by omega), hs 1 (by simp)]
  · have hl := p_lt hU
    have := p3 i U (by rw [List.getElem?_append_left hl]; exact hU)
    rw [e3 1 (by simp), hs 1 (by simp)]
    exact this
noncomputable def r_num (S : cr_S) (x : Int32) : Int32 := if 0 ≤ x then (if x < nI S.1.length then (s_get S.1 (cr_x x)).1 else (-2000000004)) else (-2000000001)
theorem q_numberOf {S : cr_S} {v : cr_V} (hM : mdR S (v 0)) (x : Int32) : f_X7_numberOf v x = some (r_num S x) := by
  have hl := hM.1.1
  rw [f_X7_numberOf, hM.1.2.1]
  unfold r_num
  rcases pk_ix x (show S.1.length < 2 ^ 31 by omega) with h | h | ⟨j, hj, rfl⟩
  · rw [if_neg (Int32.not_le.mpr h), if_neg (Int32.not_le.mpr h)]
  · by_cases h0 : 0 ≤ x
    · rw [if_pos h0, if_pos h0, if_neg (Int32.not_lt.mpr h), if_neg (Int32.not_lt.mpr h)]
    · rw [if_neg h0, if_neg h0]
  · have hx : S.1[j]? = some S.1[j] := List.getElem?_eq_getElem hj
    rw [if_pos (nI_pos' (by omega)), if_pos (nI_pos' (by omega)), if_pos (nI_lt hj (by omega)), if_pos (nI_lt hj (by omega)), q_of0 hM.1 hx, Option.bind_some, cr_xn (by omega), s_get_of hx]
noncomputable def r_con (S : cr_S) (x w : Int32) : Int32 := if s_open S.2.1.length x = 1 ∧ s_in w 0 2 = true then (if w = 0 then (s_con S.2.1 (cr_x x)).1 else if w = 1 then (s_con S.2.1 (cr_x x)).2 else (s_con S.2.1 (cr_x x)).1 - S.2.2.2.2 0) else (-2000000001)
theorem q_contractOf {S : cr_S} {v : cr_V} (hM : mdR S (v 0)) (x w : Int32) : f_X7_contractOf v x w = some (r_con S x w) := by
  have hkl := hM.2.1.1
  have h0 : v 0 0 = S.2.2.2.2 0 := hM.2.2.2.2 0 (by omega)
  rw [f_X7_contractOf, q_isContract hM, Option.bind_some]
  unfold r_con
  rcases s_open_cases (n := S.2.1.length) (by omega) x with ⟨h1, -⟩ | ⟨h1, k, hk, rfl⟩
  · rw [h1]; simp
  · have hc : S.2.1[k]? = some S.2.1[k] := List.getElem?_eq_getElem hk
    rw [h1, q_in]
    simp only [n10, if_false, Option.bind_some, true_and]
    cases h2 : s_in w 0 2 with
    | false => simp
    | true =>
      simp only [if_true, n10, if_false]
      rw [q_monthOf hM hc, q_priceOf hM hc, cr_xn (by omega), s_con_of hc, h0]
      simp only [Option.bind_some]
      by_cases a : w = 0
      · rw [if_pos a, if_pos a]
      · rw [if_neg a, if_neg a]
        by_cases b : w = 1
        · rw [if_pos b, if_pos b]
        · rw [if_neg b, if_neg b]
def r_paid (S : cr_S) (n p w : Int32) : Int32 := match cr_idx S.1 n with
  | none => (-2000000001)
  | some k => if s_in p 1 999 && s_in w 0 1 then (if 70 ≤ s_cup (s_get S.1 k) (S.2.2.2.2 0) then (if w = 0 then s_pay S.2.2.2.1 (s_get S.1 k) p (S.2.2.2.2 0) else s_gain S.2.2.1 S.2.2.2.1 (s_get S.1 k) p (S.2.2.2.2 0) + 10000) else (-2000000004)) else (-2000000001)
theorem q_paid {S : cr_S} {v : cr_V} (hM : mdR S (v 0)) (n p w : Int32) : f_X7_paid v n p w = some (r_paid S n p w) := by
  have h0 : v 0 0 = S.2.2.2.2 0 := hM.2.2.2.2 0 (by omega)
  rw [f_X7_paid, q_isLot hM.1, Option.bind_some]
  unfold r_paid
  cases hi : cr_idx S.1 n with
  | none => simp
  | some k =>
    obtain ⟨x, hx, hn⟩ := cr_idx_some hi
    simp only [Option.isSome_some, if_true, n10, if_false, s_get_of hx]
    rw [q_in, Option.bind_some]
    cases h1 : s_in p 1 999 with
    | false => simp
    | true =>
      rw [q_in, Option.bind_some]
      cases h2 : s_in w 0 1 with
      | false => simp
      | true =>
        simp only [Bool.and_self, if_true, n10, if_false]
        rw [q_placeOf hM.1, hi, Option.bind_some, s_enc, q_cupOf hM.1 hx, Option.bind_some, h0, q_paidAt hM.1 hM.2.2 hx, q_gainAt hM.1 hM.2.2 hx, Option.bind_some, Option.bind_some]
        by_cases h3 : 70 ≤ s_cup x (S.2.2.2.2 0)
        · rw [if_pos h3, if_pos h3, p_if]
        · rw [if_neg h3, if_neg h3]
