/-! the plan, on the model -/
def s_cnt (ok : Nat → Bool) : Nat → Nat
  | 0 => 0
  | n + 1 => s_cnt ok n + if ok n then 1 else 0
theorem s_cnt_le (ok : Nat → Bool) : ∀ n, s_cnt ok n ≤ n
  | 0 => Nat.le_refl _
  | n + 1 => by have := s_cnt_le ok n; unfold s_cnt; split <;> omega
theorem s_cnt_same {ok : Nat → Bool} {r : Nat} : ∀ {n : Nat}, n ≤ r → s_cnt (fun j => ok j && !decide (j = r)) n = s_cnt ok n
  | 0, _ => rfl
  | n + 1, h => by
    have := s_cnt_same (ok := ok) (r := r) (n := n) (by omega)
    unfold s_cnt
    rw [this]
    simp [show ¬ n = r by omega]
theorem s_cnt_rem {ok : Nat → Bool} {r : Nat} (ho : ok r = true) : ∀ {n : Nat}, r < n → s_cnt (fun j => ok j && !decide (j = r)) n + 1 = s_cnt ok n
  | 0, h => by omega
  | n + 1, h => by
    unfold s_cnt
    by_cases hn : n = r
    · subst hn
      rw [s_cnt_same (Nat.le_refl _)]
      simp [ho]
    · have := s_cnt_rem ho (n := n) (by omega)
      rw [← this]
      simp [hn]
      omega
theorem s_cnt_none {ok : Nat → Bool} {g : Nat → Int32} : ∀ {n : Nat}, s_cnt ok n = 0 → s_best ok g n = none
  | 0, _ => rfl
  | n + 1, h => by
    unfold s_cnt at h
    by_cases ho : ok n = true
    · simp [ho] at h
    · unfold s_best
      rw [if_neg ho]
      exact s_cnt_none (by omega)
def qOut (P : List (Nat × Int32)) (want : Int32) (v : cr_V) : Prop := P.length ≤ 12 ∧ v 9 0 = nI P.length ∧ v 10 0 = want ∧ ∀ i q, P[i]? = some q → v 7 i = nI q.1 ∧ v 8 i = q.2
theorem q_take_le (a b : Int32) : (if a ≤ b then a else b) = s_take a b := by
  unfold s_take
  by_cases h : a ≤ b
  · rw [if_pos h, if_neg (Int32.not_lt.mpr h)]
  · rw [if_neg h, if_pos (Int32.not_le.mp h)]
