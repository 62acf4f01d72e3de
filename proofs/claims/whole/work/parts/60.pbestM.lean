def s_bm (S : cr_S) (p : Int32) : Nat → Int32 × Int32
  | 0 => ((-2000000004), 0)
  | i + 1 => if s_month S.2.2.2.1 (S.2.2.2.2 0 + nI i) = true ∧ s_left (s_deliver S.2.2.1 S.2.2.2.1 S.1 p (S.2.2.2.2 0 + nI i)) (S.2.2.2.1 0) = 0 then
      (if (s_bm S p i).1 < 0 ∨ ¬ s_tot (s_at S.1 (fun x => s_gain S.2.2.1 S.2.2.2.1 x p (S.2.2.2.2 0 + nI i))) (s_deliver S.2.2.1 S.2.2.2.1 S.1 p (S.2.2.2.2 0 + nI i)) 0 ≤ (s_bm S p i).2 then
        (nI i, s_tot (s_at S.1 (fun x => s_gain S.2.2.1 S.2.2.2.1 x p (S.2.2.2.2 0 + nI i))) (s_deliver S.2.2.1 S.2.2.2.1 S.1 p (S.2.2.2.2 0 + nI i)) 0) else s_bm S p i) else s_bm S p i
def r_best (S : cr_S) (p w : Int32) : Int32 := if s_in p 1 999 && s_in w 0 1 then (if (s_bm S p 24).1 < 0 then (s_bm S p 24).1 else if w = 0 then (s_bm S p 24).1 else (s_bm S p 24).2 + 1000000) else (-2000000001)
theorem q_best_32 {S : cr_S} (p w : Int32) : ∀ (n i : Nat) (v : cr_V), i ≤ 24 → 24 - i < n → mdR S (v 0) →
    ∃ v', f_X7_bestMonth_32 n v p w (s_bm S p i).1 (s_bm S p i).2 (nI i) = some (if (s_bm S p 24).1 < 0 then (s_bm S p 24).1 else if w = 0 then (s_bm S p 24).1 else (s_bm S p 24).2 + 1000000, v') ∧ sameC [7, 8, 9, 10] v v' := by
  intro n
  induction n with
  | zero => intro i v a b; omega
  | succ n ih =>
    intro i v hi hn hM
    have h0 : v 0 0 = S.2.2.2.2 0 := hM.2.2.2.2 0 (by omega)
    rw [f_X7_bestMonth_32]
    by_cases hk : i = 24
    · subst hk
      rw [if_pos (show (24 : Int32) ≤ nI 24 by decide)]
      simp only [f_X7_bestMonth_115]
      refine ⟨v, ?_, sameC.rf⟩
      by_cases a : (s_bm S p 24).1 < 0
      · rw [if_pos a, if_pos a]
      · rw [if_neg a, if_neg a]
        by_cases b : w = 0
        · rw [if_pos b, if_pos b]
        · rw [if_neg b, if_neg b]
    · rw [if_neg (show ¬ (24 : Int32) ≤ nI i from c_nle 24 i rfl rfl (by omega) (by omega)), h0]
      obtain ⟨v1, a1, a2, a3⟩ := q_gives hM p (S.2.2.2.2 0 + nI i)
      have hM1 : mdR S (v1 0) := by rw [a3 0 (by simp)]; exact hM
      obtain ⟨v', e1, e2⟩ := ih (i + 1) v1 (by omega) (by omega) hM1
      refine ⟨v', ?_, a3.tr e2 (fun c h => h) (fun c h => h)⟩
      rw [← e1, a1, Option.bind_some, q_paidAll1 hM1.1 hM1.2.2 a2 s_deliver_lt, Option.bind_some, q_isDelivery hM1, Option.bind_some, a2.2.2.1]
      simp only [f_X7_bestMonth_94, f_X7_bestMonth_101, nI_1]
      rw [show s_bm S p (i + 1) = _ from by rw [s_bm]]
      generalize s_tot (s_at S.1 (fun x => s_gain S.2.2.1 S.2.2.2.1 x p (S.2.2.2.2 0 + nI i))) (s_deliver S.2.2.1 S.2.2.2.1 S.1 p (S.2.2.2.2 0 + nI i)) 0 = G
      generalize s_left (s_deliver S.2.2.1 S.2.2.2.1 S.1 p (S.2.2.2.2 0 + nI i)) (S.2.2.2.1 0) = F
      generalize s_bm S p i = B
      cases h1 : s_month S.2.2.2.1 (S.2.2.2.2 0 + nI i) with
      | false => simp
      | true =>
        by_cases h2 : F = 0 <;> by_cases h3 : B.1 < 0 <;> by_cases h4 : G ≤ B.2 <;> simp [h2, h3, h4]
theorem q_best {S : cr_S} {v : cr_V} (hM : mdR S (v 0)) (p w : Int32) : ∃ v', f_X7_bestMonth v p w = some (r_best S p w, v') ∧ sameC [7, 8, 9, 10] v v' := by
  rw [f_X7_bestMonth, q_in, Option.bind_some]
  unfold r_best
  cases h1 : s_in p 1 999 with
  | false => exact ⟨v, by simp, sameC.rf⟩
  | true =>
    rw [q_in, Option.bind_some]
    cases h2 : s_in w 0 1 with
    | false => exact ⟨v, by simp, sameC.rf⟩
    | true =>
      simp only [Bool.and_self, if_true, n10, if_false]
      obtain ⟨v', e1, e2⟩ := q_best_32 (S := S) p w 10100 0 v (by omega) (by omega) hM
      exact ⟨v', e1, e2⟩
