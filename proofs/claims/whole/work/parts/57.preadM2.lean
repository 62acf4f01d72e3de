noncomputable def r_lot (S : cr_S) (n w : Int32) : Int32 := match cr_idx S.1 n with
  | none => (-2000000001)
  | some k => if s_in w 0 6 = true then (if w = 0 then (s_get S.1 k).2.1 else if w = 1 then (s_get S.1 k).2.2.1 else if w = 2 then (s_get S.1 k).2.2.2 else if w = 3 then s_cup (s_get S.1 k) (S.2.2.2.2 0) else if w = 4 then S.2.2.1 (s_band (s_cup (s_get S.1 k) (S.2.2.2.2 0))) else if w = 5 then s_late (s_get S.1 k) (S.2.2.2.2 0) else nI (s_band (s_cup (s_get S.1 k) (S.2.2.2.2 0)))) else (-2000000001)
theorem q_lotOf {S : cr_S} {v : cr_V} (hM : mdR S (v 0)) (n w : Int32) : f_X7_lotOf v n w = some (r_lot S n w) := by
  have h0 : v 0 0 = S.2.2.2.2 0 := hM.2.2.2.2 0 (by omega)
  rw [f_X7_lotOf, q_isLot hM.1, Option.bind_some]
  unfold r_lot
  cases hi : cr_idx S.1 n with
  | none => simp
  | some k =>
    obtain ⟨x, hx, hn⟩ := cr_idx_some hi
    simp only [Option.isSome_some, if_true, n10, if_false, s_get_of hx]
    rw [q_in, Option.bind_some]
    cases h1 : s_in w 0 6 with
    | false => simp
    | true =>
      simp only [if_true, n10, if_false]
      rw [q_placeOf hM.1, hi, Option.bind_some, s_enc]
      have hb := s_band_lt (s_cup x (S.2.2.2.2 0))
      have e4 : ((13 : Int32) + nI (s_band (s_cup x (S.2.2.2.2 0)))) = nI (13 + s_band (s_cup x (S.2.2.2.2 0))) := by rw [show (13 : Int32) = nI 13 from rfl, nI_add]
      simp only [q_cupOf hM.1 hx, q_lateAt hM.1 hx, h0, Option.bind_some, q_bandOf]
      rw [e4, if_pos (cr_inn (by omega) (by omega)), cr_xn (by omega), hM.2.2.1 _ hb]
      by_cases a0 : w = 0
      · subst a0
        rw [if_pos rfl, if_pos rfl, show (0 : Int32) + 1 = 1 from rfl, q_of1 hM.1 hx]; rfl
      · rw [if_neg a0, if_neg a0]
        by_cases a1 : w = 1
        · subst a1
          rw [if_pos rfl, if_pos rfl, show (1 : Int32) + 1 = 2 from rfl, q_of2 hM.1 hx]; rfl
        · rw [if_neg a1, if_neg a1]
          by_cases a2 : w = 2
          · subst a2
            rw [if_pos rfl, if_pos rfl, show (2 : Int32) + 1 = 3 from rfl, q_of3 hM.1 hx]; rfl
          · rw [if_neg a2, if_neg a2]
            by_cases a3 : w = 3
            · rw [if_pos a3, if_pos a3]
            · rw [if_neg a3, if_neg a3]
              by_cases a4 : w = 4
              · rw [if_pos a4, if_pos a4]
              · rw [if_neg a4, if_neg a4]
                by_cases a5 : w = 5
                · rw [if_pos a5, if_pos a5]
                · rw [if_neg a5, if_neg a5]
def s_bags (c m : Int32) : List cr_Lot → Int32 → Int32
  | [], a => a
  | x :: L, a => s_bags c m L (a + (if s_cup x m < c then 0 else x.2.1))
theorem q_bags_4 {S : cr_S} {v : cr_V} (hM : mdR S (v 0)) (c : Int32) : ∀ (n k : Nat) (a : Int32), k ≤ S.1.length → S.1.length - k < n → f_X7_bags_4 n v c a (nI k) = some (s_bags c (S.2.2.2.2 0) (S.1.drop k) a) := by
  have hl := hM.1.1
  have h0 : v 0 0 = S.2.2.2.2 0 := hM.2.2.2.2 0 (by omega)
  intro n
  induction n with
  | zero => intro k a h1 h2; omega
  | succ n ih =>
    intro k a hk hn
    rw [f_X7_bags_4, hM.1.2.1]
    by_cases hk2 : k = S.1.length
    · rw [if_pos (show nI S.1.length ≤ nI k from c_le S.1.length k rfl rfl (by omega) (by omega)), hk2, List.drop_length]; rfl
    · have hx : S.1[k]? = some S.1[k] := List.getElem?_eq_getElem (by omega)
      rw [if_neg (show ¬ nI S.1.length ≤ nI k from c_nle S.1.length k rfl rfl (by omega) (by omega)), q_cupOf hM.1 hx, Option.bind_some, h0, p_drop (by omega), q_of1 hM.1 hx, Option.bind_some]
      simp only [f_X7_bags_35, nI_1, s_bags]
      by_cases h : s_cup S.1[k] (S.2.2.2.2 0) < c
      · rw [if_pos h, if_pos h]; exact ih (k + 1) _ (by omega) (by omega)
      · rw [if_neg h, if_neg h]; exact ih (k + 1) _ (by omega) (by omega)
theorem q_bags {S : cr_S} {v : cr_V} (hM : mdR S (v 0)) (c : Int32) : f_X7_bags v c = some (s_bags c (S.2.2.2.2 0) S.1 0) :=
  q_bags_4 hM c 10100 0 0 (by omega) (by have := hM.1.1; omega)
