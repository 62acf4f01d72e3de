def s_lf (bi ci cj t : Int32) : Nat → Nat → Int32
  | 0, _ => (-2000000004)
  | r + 1, k => if (bi * ci + nI k * cj) / (bi + nI k) < t then s_lf bi ci cj t r (k + 1) else nI k
theorem q_lift_52 {S : cr_S} {v : cr_V} (hM : mdR S (v 0)) (hB : ∀ x ∈ S.1, s_in x.2.1 1 9999 = true) {i j b : Nat} {x y : cr_Lot} (hx : S.1[i]? = some x) (hy : S.1[j]? = some y) (hb : y.2.1 = nI b) (hb9 : b ≤ 9999) (t : Int32) : ∀ (r k n : Nat), r < n → k + r = b + 1 → 1 ≤ k →
    f_X7_lift_52 n v t (nI i) (nI j) (nI k) = some (s_lf x.2.1 (s_cup x (S.2.2.2.2 0)) (s_cup y (S.2.2.2.2 0)) t r k) := by
  have h0 : v 0 0 = S.2.2.2.2 0 := hM.2.2.2.2 0 (by omega)
  have hbx := hB x (List.mem_of_getElem? hx)
  intro r
  induction r with
  | zero =>
    intro k n hn hk h1
    obtain ⟨n, rfl⟩ : ∃ m, n = m + 1 := ⟨n - 1, by omega⟩
    rw [f_X7_lift_52, q_of1 hM.1 hy, Option.bind_some, hb, if_pos (nI_lt (show b < k by omega) (by omega))]; rfl
  | succ r ih =>
    intro k n hn hk h1
    obtain ⟨n, rfl⟩ : ∃ m, n = m + 1 := ⟨n - 1, by omega⟩
    obtain ⟨a, a1, a2, ha⟩ := p_inN (a := 1) (b := 9999) hbx (by omega) (by omega)
    have hnz : ¬ x.2.1 + nI k = 0 := by rw [ha, nI_add]; exact nI_ne0 (by omega) (by omega)
    rw [f_X7_lift_52, q_of1 hM.1 hy, Option.bind_some, hb, if_neg (nI_nlt (show k ≤ b by omega) (by omega)), q_of1 hM.1 hx, Option.bind_some, q_cupOf hM.1 hx, Option.bind_some, q_cupOf hM.1 hy, Option.bind_some, f_X7_blended, if_neg hnz, Option.bind_some, h0, nI_1, s_lf]
    by_cases hc : (x.2.1 * s_cup x (S.2.2.2.2 0) + nI k * s_cup y (S.2.2.2.2 0)) / (x.2.1 + nI k) < t
    · rw [if_pos hc, if_pos hc]; exact ih (k + 1) n (by omega) (by omega) (by omega)
    · rw [if_neg hc, if_neg hc]
