def s_open (n : Nat) (x : Int32) : Int32 := if x < 0 then 0 else if nI n ≤ x then 0 else 1
theorem s_open_cases {n : Nat} (hn : n < 2 ^ 31) (x : Int32) : (s_open n x = 0 ∧ ∀ j, j < n → x ≠ nI j) ∨ (s_open n x = 1 ∧ ∃ j, j < n ∧ x = nI j) := by
  unfold s_open
  rcases pk_ix x hn with h | h | ⟨j, hj, rfl⟩
  · exact Or.inl ⟨if_pos h, fun j hj e => nI_pos (show j < 2 ^ 31 by omega) (e ▸ h)⟩
  · refine Or.inl ⟨by by_cases h0 : x < 0 <;> simp [h0, h], fun j hj e => nI_ge hj hn (e ▸ h)⟩
  · exact Or.inr ⟨by rw [if_neg (nI_pos (by omega)), if_neg (nI_ge hj hn)], j, hj, rfl⟩
theorem p_X0_isOpen {K : List cr_Con} {vk : cr_V} (hK : crK K vk) (x : Int32) : f_X0_isOpen vk x = some (s_open K.length x) := by
  rw [f_X0_isOpen, hK.2.1, s_open]
  split
  · rfl
  · rw [p_if]
theorem p_X0_add {K : List cr_Con} {vk : cr_V} (hK : crK K vk) (x1 x2 : Int32) (h6 : K.length < 6) : ∃ v, f_X0_add vk x1 x2 = some (nI K.length, v) ∧ crK (K ++ [(x1, x2)]) v := by
  obtain ⟨l1, l2, l3⟩ := hK
  rw [f_X0_add, l2, if_pos (show nI K.length < 6 from c_lt K.length 6 rfl rfl (by omega) (by omega)), if_pos (cr_inn h6 (by omega)), cr_xn (by omega)]
  refine ⟨_, by rw [Int32.add_sub_cancel], ⟨by rw [List.length_append]; simp; omega, ?_, fun j x hx => ?_⟩⟩
  · simp [cr_ce, nI_1]
  · by_cases hj : j < K.length
    · rw [List.getElem?_append_left hj] at hx
      have hne : ¬ j = K.length := by omega
      simpa [cr_ce, cr_up, hne] using l3 j x hx
    · have hl := p_lt hx
      rw [List.length_append] at hl
      simp at hl
      have hj2 : j = K.length := by omega
      subst hj2
      rw [List.getElem?_append_right (Nat.le_refl _)] at hx
      simp at hx
      subst hx
      simp [cr_ce, cr_up]
theorem p_X0_addFull {K : List cr_Con} {vk : cr_V} (hK : crK K vk) (x1 x2 : Int32) (h6 : K.length = 6) : f_X0_add vk x1 x2 = some (-2000000003, vk) := by
  rw [f_X0_add, hK.2.1, if_neg (show ¬ nI K.length < 6 from c_nlt K.length 6 rfl rfl (by omega) (by omega))]
theorem p_X0_drop_13 {K : List cr_Con} (hl : K.length ≤ 6) {j : Nat} (hj : j < K.length) : ∀ (n k : Nat) (vk : cr_V), j ≤ k → k + 1 ≤ K.length → K.length - k < n → vk 2 0 = nI K.length →
    (∀ i x, i < k → (K.eraseIdx j)[i]? = some x → vk 0 i = x.1 ∧ vk 1 i = x.2) → (∀ i x, k < i → K[i]? = some x → vk 0 i = x.1 ∧ vk 1 i = x.2) →
    ∃ v, f_X0_drop_13 n vk (nI (k + 1)) = some v ∧ crK (K.eraseIdx j) v := by
  intro n
  have hlen : (K.eraseIdx j).length = K.length - 1 := by rw [List.length_eraseIdx, if_pos hj]
  induction n with
  | zero => intro k vl h1 h2; omega
  | succ n ih =>
    intro k vk hjk hk hn hs h1 h2
    rw [f_X0_drop_13, hs]
    by_cases hk2 : k + 1 = K.length
    · rw [if_pos (show nI K.length ≤ nI (k + 1) from c_le K.length (k + 1) rfl rfl (by omega) (by omega))]
      refine ⟨_, rfl, ⟨by omega, ?_, fun i x hx => ?_⟩⟩
      · simp [cr_ce, hlen, ← hk2, nI_pred]
      · have := p_lt hx
        simpa [cr_ce] using h1 i x (by omega) hx
    · have hx : K[k + 1]? = some K[k + 1] := List.getElem?_eq_getElem (by omega)
      obtain ⟨a1, a2⟩ := h2 (k + 1) _ (by omega) hx
      rw [if_neg (show ¬ nI K.length ≤ nI (k + 1) from c_nle K.length (k + 1) rfl rfl (by omega) (by omega)), if_pos (cr_inn (by omega) (by omega)), nI_pred, if_pos (cr_inn (by omega) (by omega)), cr_xn (by omega), cr_xn (by omega), a1, a2, nI_1]
      refine ih (k + 1) _ (by omega) (by omega) (by omega) (by simpa [cr_ce] using hs) (fun i x hi hx2 => ?_) (fun i x hi hx2 => ?_)
      · by_cases hik : i = k
        · subst hik
          rw [List.getElem?_eraseIdx, if_neg (by omega), hx] at hx2
          cases hx2
          simp [cr_ce, cr_up]
        · simpa [cr_ce, cr_up, hik] using h1 i x (by omega) hx2
      · have hne : ¬ i = k := by omega
        simpa [cr_ce, cr_up, hne] using h2 i x (by omega) hx2
theorem p_X0_drop {K : List cr_Con} {vk : cr_V} (hK : crK K vk) {j : Nat} (hj : j < K.length) : ∃ v, f_X0_drop vk (nI j) = some v ∧ crK (K.eraseIdx j) v := by
  obtain ⟨l1, l2, l3⟩ := id hK
  have ho : s_open K.length (nI j) = 1 := by unfold s_open; rw [if_neg (nI_pos (by omega)), if_neg (nI_ge hj (by omega))]
  rw [f_X0_drop, p_X0_isOpen hK, Option.bind_some, ho, if_neg (by decide), nI_1]
  exact p_X0_drop_13 l1 hj 10100 j vk (Nat.le_refl _) (by omega) (by omega) l2 (fun i x hi hx => by rw [List.getElem?_eraseIdx, if_pos hi] at hx; exact l3 i x hx) (fun i x _ hx => l3 i x hx)
def s_keep (m : Int32) (c : cr_Con) : Bool := !decide (c.1 < m)
theorem p_X0_dropBefore_4 {K : List cr_Con} (hl : K.length ≤ 6) (m : Int32) : ∀ (n row left : Nat) (vk : cr_V), row ≤ K.length → K.length - row < n → left = ((K.take row).filter (s_keep m)).length → vk 2 0 = nI K.length →
    (∀ j x, ((K.take row).filter (s_keep m))[j]? = some x → vk 0 j = x.1 ∧ vk 1 j = x.2) → (∀ j x, row ≤ j → K[j]? = some x → vk 0 j = x.1 ∧ vk 1 j = x.2) →
    ∃ v, f_X0_dropBefore_4 n vk m (nI left) (nI row) = some (nI (K.length - (K.filter (s_keep m)).length), v) ∧ crK (K.filter (s_keep m)) v := by
  intro n
  induction n with
  | zero => intro row left vl h1 h2; omega
  | succ n ih =>
    intro row left vl hk hn hleft hs h1 h2
    have hll : left ≤ row := by rw [hleft]; refine Nat.le_trans (List.length_filter_le _ _) ?_; rw [List.length_take]; omega
    rw [f_X0_dropBefore_4, hs]
    by_cases hk2 : row = K.length
    · rw [if_pos (show nI K.length ≤ nI row from c_le K.length row rfl rfl (by omega) (by omega))]
      subst hk2
      rw [List.take_length] at hleft h1
      refine ⟨_, by rw [hleft, pk_sub (List.length_filter_le _ _)], ⟨by omega, ?_, fun j x hx => ?_⟩⟩
      · simp [cr_ce, hleft]
      · simpa [cr_ce] using h1 j x hx
    · have hrow : row < K.length := by omega
      have hx : K[row]? = some K[row] := List.getElem?_eq_getElem hrow
      obtain ⟨a1, a2⟩ := h2 row _ (Nat.le_refl _) hx
      rw [if_neg (show ¬ nI K.length ≤ nI row from c_nle K.length row rfl rfl (by omega) (by omega)), if_pos (cr_inn (by omega) (by omega)), cr_xn (show row < 2 ^ 31 by omega), a1]
      have hf : (K.take (row + 1)).filter (s_keep m) = (K.take row).filter (s_keep m) ++ (if s_keep m K[row] then [K[row]] else []) := by
        rw [p_take hrow, List.filter_append]
        congr 1
        simp only [List.filter_cons, List.filter_nil]
      by_cases he : K[row].1 < m
      · rw [if_pos he, f_X0_dropBefore_49, nI_1]
        have hsf : s_keep m K[row] = false := by simp [s_keep, he]
        rw [hsf] at hf
        simp at hf
        exact ih (row + 1) left vl (by omega) (by omega) (by rw [hf]; exact hleft) hs (by rw [hf]; exact h1) (fun j x hj => h2 j x (by omega))
      · rw [if_neg he, if_pos (cr_inn (show left < 6 by omega) (by omega)), f_X0_dropBefore_49, nI_1, nI_1, cr_xn (show left < 2 ^ 31 by omega), a2]
        have hsf : s_keep m K[row] = true := by simp [s_keep, he]
        rw [hsf] at hf
        simp at hf
        refine ih (row + 1) (left + 1) _ (by omega) (by omega) (by rw [hf, List.length_append, hleft]; rfl) (by simpa [cr_ce] using hs) (fun j x hx2 => ?_) (fun j x hj hx2 => ?_)
        · rw [hf] at hx2
          by_cases hj : j < left
          · rw [List.getElem?_append_left (by rw [← hleft]; exact hj)] at hx2
            have hne : ¬ j = left := by omega
            simpa [cr_ce, cr_up, hne] using h1 j x hx2
          · have hl2 := p_lt hx2
            rw [List.length_append, ← hleft] at hl2
            simp at hl2
            have hj2 : j = left := by omega
            subst hj2
            rw [List.getElem?_append_right (by omega), ← hleft] at hx2
            simp at hx2
            subst hx2
            simp [cr_ce, cr_up]
        · have hne : ¬ j = left := by omega
          simpa [cr_ce, cr_up, hne] using h2 j x (by omega) hx2
theorem p_X0_dropBefore {K : List cr_Con} {vk : cr_V} (hK : crK K vk) (m : Int32) : ∃ v, f_X0_dropBefore vk m = some (nI (K.length - (K.filter (s_keep m)).length), v) ∧ crK (K.filter (s_keep m)) v :=
  p_X0_dropBefore_4 hK.1 m 10100 0 0 vk (by omega) (by have := hK.1; omega) rfl hK.2.1 (fun j x h => by simp at h) (fun j x _ h => hK.2.2 j x h)
