/-! months that pass, on the model -/
theorem r_1 (a c s : Int32) : a - s - c * s = a - (c + 1) * s := by rw [Int32.add_mul, Int32.one_mul, Int32.sub_eq_add_neg, Int32.sub_eq_add_neg, Int32.sub_eq_add_neg, Int32.neg_add, Int32.add_assoc, Int32.add_comm (-s), ← Int32.sub_eq_add_neg (-(c * s))]
theorem r_2 (a b c s t : Int32) : a - b * s * t - c * (s * t) = a - (b + c) * s * t := by rw [Int32.mul_assoc, Int32.mul_assoc, Int32.add_mul, Int32.sub_eq_add_neg, Int32.sub_eq_add_neg, Int32.sub_eq_add_neg, Int32.neg_add, Int32.add_assoc, ← Int32.sub_eq_add_neg (-(b * (s * t)))]
theorem r_3 (a c : Int32) : a + 1 + c = a + (c + 1) := by rw [Int32.add_assoc, Int32.add_comm 1]
def s_ne (m : Int32) (c : cr_Con) : Bool := !decide (c.1 = m)
def s_pm (st g : Nat → Int32) (k : Nat) : Nat → Int32 := upd (upd g 1 (g 1 - nI k * (st 0 * st 4))) 3 (g 3 + nI k)
theorem md_gg {L : List cr_Lot} {K : List cr_Con} {w st g g' s : Nat → Int32} (hM : mdR (L, K, w, st, g) s) (h : ∀ j, j < 6 → g j = g' j) : mdR (L, K, w, st, g') s := ⟨hM.1, hM.2.1, hM.2.2.1, hM.2.2.2.1, fun j hj => (hM.2.2.2.2 j hj).trans (h j hj)⟩
theorem er_mid {α : Type} (A B : List α) (c : α) : (A ++ [c] ++ B).eraseIdx A.length = A ++ B := by
  rw [List.append_assoc, List.eraseIdx_append_of_length_le (Nat.le_refl _)]; simp
theorem q_fails_12 {L : List cr_Lot} {w st : Nat → Int32} {m : Int32} : ∀ (j : Nat) (A B : List cr_Con) (n : Nat) (v : cr_V) (g : Nat → Int32) (x1 : Int32), A.length = j → j < n → mdR (L, A ++ B, w, st, g) (v 0) → g 0 = m →
    ∃ v', f_X7_fails_12 n v x1 (nI j - 1) = some (x1 + nI (A.length - (A.filter (s_ne m)).length), v') ∧ mdR (L, A.filter (s_ne m) ++ B, w, st, s_pm st g (A.length - (A.filter (s_ne m)).length)) (v' 0) ∧ sameC [0] v v' := by
  intro j
  induction j with
  | zero =>
    intro A B n v g x1 hA hn hM h0
    have hA2 : A = [] := List.length_eq_zero_iff.mp hA
    subst hA2
    obtain ⟨n, rfl⟩ : ∃ k, n = k + 1 := ⟨n - 1, by omega⟩
    rw [f_X7_fails_12, if_pos (show nI 0 - 1 < 0 by decide)]
    refine ⟨v, by simp [show nI 0 = 0 from rfl], md_gg hM fun j hj => ?_, sameC.rf⟩
    simp only [s_pm, List.length_nil, List.filter_nil, Nat.sub_zero, show nI 0 = 0 from rfl, Int32.zero_mul, Int32.sub_zero, Int32.add_zero]
    by_cases h1 : j = 3
    · subst h1; rw [pk_us]
    · rw [pk_un h1]
      by_cases h2 : j = 1
      · subst h2; rw [pk_us]
      · rw [pk_un h2]
  | succ j ih =>
    intro A B n v g x1 hA hn hM h0
    rcases List.eq_nil_or_concat A with rfl | ⟨A', c, rfl⟩
    · simp at hA
    rw [List.concat_eq_append] at *
    have hA' : A'.length = j := by simpa using hA
    have hlen := hM.2.1.1
    simp only [List.length_append, List.length_cons, List.length_nil] at hlen
    obtain ⟨n, rfl⟩ : ∃ k, n = k + 1 := ⟨n - 1, by omega⟩
    have hc : (A' ++ [c] ++ B)[j]? = some c := by rw [← hA', List.append_assoc, List.getElem?_append_right (Nat.le_refl _)]; simp
    have hv0 : v 0 0 = m := (hM.2.2.2.2 0 (by omega)).trans h0
    rw [f_X7_fails_12, q_pr (by omega), Nat.add_sub_cancel, if_neg (nI_pos (by omega)), q_monthOf hM hc, Option.bind_some, hv0, List.filter_append]
    simp only [f_X7_fails_72, show nI j + (-1) = nI j - 1 from (Int32.sub_eq_add_neg _ _).symm]
    by_cases h1 : c.1 = m
    · rw [if_pos h1]
      obtain ⟨v1, a1, a2, a3⟩ := q_closes hM (k := j) (by simp; omega)
      have hf : [c].filter (s_ne m) = [] := by simp [s_ne, h1]
      rw [a1, Option.bind_some, hf]
      have a2 : mdR (L, A' ++ B, w, st, g) (v1 0) := by
        have e : (A' ++ [c] ++ B).eraseIdx j = A' ++ B := by rw [← hA']; exact er_mid A' B c
        rw [← e]; exact a2
      have h8 : v1 0 8 = st 0 := a2.2.2.2.1 0 (by omega)
      have h12 : v1 0 12 = st 4 := a2.2.2.2.1 4 (by omega)
      have hg1 : v1 0 1 = g 1 := a2.2.2.2.2 1 (by omega)
      have hg3 : v1 0 3 = g 3 := a2.2.2.2.2 3 (by omega)
      rw [h8, h12, hg1]
      simp only [cr_cc, cr_cs]
      have e3 : upd (v1 0) 1 (g 1 - st 0 * st 4) 3 = g 3 := by rw [pk_un (by omega), hg3]
      rw [e3]
      have hM2 : mdR (L, A' ++ B, w, st, upd (upd g 1 (g 1 - st 0 * st 4)) 3 (g 3 + 1)) ((cr_c v1 0 (upd (upd (v1 0) 1 (g 1 - st 0 * st 4)) 3 (g 3 + 1))) 0) := by
        obtain ⟨w1, w2, w3⟩ := id a2.2.2
        refine md_g a2 (fun t ht => ?_) ⟨fun j hj => ?_, fun j hj => ?_, fun j hj => ?_⟩
        · rw [cr_cs, pk_un (by omega), pk_un (by omega)]
        · rw [cr_cs, pk_un (by omega), pk_un (by omega)]; exact w1 j hj
        · rw [cr_cs, pk_un (by omega), pk_un (by omega)]; exact w2 j hj
        · rw [cr_cs]
          by_cases h3 : j = 3
          · subst h3; rw [pk_us, pk_us]
          · rw [pk_un h3, pk_un h3]
            by_cases h : j = 1
            · subst h; rw [pk_us, pk_us]
            · rw [pk_un h, pk_un h]; exact w3 j hj
      obtain ⟨v2, b1, b2, b3⟩ := ih A' B n _ _ (x1 + 1) hA' (by omega) hM2 (by rw [pk_un (by omega), pk_un (by omega)]; exact h0)
      have hfl : (A'.filter (s_ne m)).length ≤ A'.length := List.length_filter_le _ _
      have hcnt : (A' ++ [c]).length - (A'.filter (s_ne m) ++ []).length = (A'.length - (A'.filter (s_ne m)).length) + 1 := by simp; omega
      rw [hcnt]
      refine ⟨v2, ?_, ?_, a3.tr ((sameC.c (cs := [0]) (by simp)).tr (es := [0]) b3 (by simp) (by simp)) (by simp) (by simp)⟩
      · rw [b1, ← nI_1, r_3]
      · rw [List.append_nil]
        refine md_gg b2 fun j hj => ?_
        simp only [s_pm]
        by_cases h3 : j = 3
        · subst h3; rw [pk_us, pk_us, pk_us, ← nI_1, r_3]
        · rw [pk_un h3, pk_un h3]
          by_cases h : j = 1
          · subst h; rw [pk_us, pk_us, pk_un (by omega), pk_us, ← nI_1, r_1]
          · rw [pk_un h, pk_un h, pk_un h3, pk_un h]
    · rw [if_neg h1]
      have hf : [c].filter (s_ne m) = [c] := by simp [s_ne, h1]
      rw [hf]
      obtain ⟨v2, b1, b2, b3⟩ := ih A' ([c] ++ B) n v g x1 hA' (by omega) (by rw [← List.append_assoc]; exact hM) h0
      have hcnt : (A' ++ [c]).length - (A'.filter (s_ne m) ++ [c]).length = A'.length - (A'.filter (s_ne m)).length := by simp
      rw [hcnt]
      exact ⟨v2, b1, by rw [List.append_assoc]; exact b2, b3⟩
