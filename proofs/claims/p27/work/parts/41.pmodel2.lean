-- the loops that move cells
theorem q_pr {n : Nat} (h : 0 < n) : nI n - 1 = nI (n - 1) := by obtain ⟨m, rfl⟩ : ∃ m, n = m + 1 := ⟨n - 1, by omega⟩; exact nI_pred m
theorem q_ix0 (j : Nat) : (17 : Int32) + 4 * nI j = nI (17 + 4 * j) := by rw [show (17 : Int32) = nI 17 from rfl, show (4 : Int32) = nI 4 from rfl, pk_mul, nI_add]
theorem cr_as (v : cr_V) (c k : Nat) (x : Int32) : cr_a v c k x c = upd (v c) k x := cr_cs _ _ _
theorem q_setM {S : cr_S} {s s' : Nat → Int32} (hM : mdR S s) {k : Nat} {x y : cr_Lot} (hx : S.1[k]? = some x) (hk : s' (17 + 4 * k) = y.1 ∧ s' (18 + 4 * k) = y.2.1 ∧ s' (19 + 4 * k) = y.2.2.1 ∧ s' (20 + 4 * k) = y.2.2.2) (hj : ∀ t, t < 17 + 4 * k ∨ 20 + 4 * k < t → s' t = s t) : mdR (S.1.set k y, S.2) s' := by
  obtain ⟨⟨l1, l2, l3⟩, ⟨k1, k2, k3⟩, w1, w2, w3⟩ := hM
  have hl := p_lt hx
  refine ⟨⟨by rw [List.length_set]; exact l1, by rw [List.length_set, hj 6 (by omega)]; exact l2, fun j z hz => ?_⟩, ⟨k1, by rw [hj 7 (by omega)]; exact k2, fun j z hz => ?_⟩, fun j h => ?_, fun j h => ?_, fun j h => ?_⟩
  · by_cases hjk : j = k
    · subst hjk
      rw [List.getElem?_set_self hl] at hz
      cases hz
      exact hk
    · rw [List.getElem?_set_ne (Ne.symm hjk)] at hz
      rw [hj _ (by omega), hj _ (by omega), hj _ (by omega), hj _ (by omega)]
      exact l3 j z hz
  · rw [hj _ (by omega), hj _ (by omega)]
    exact k3 j z hz
  · rw [hj _ (by omega)]; exact w1 j h
  · rw [hj _ (by omega)]; exact w2 j h
  · rw [hj _ (by omega)]; exact w3 j h
theorem q_eraseM {S : cr_S} {s s' : Nat → Int32} (hM : mdR S s) {k : Nat} (hk : k < S.1.length) (h6 : s' 6 = nI (S.1.length - 1)) (hs : ∀ t, t ≠ 6 → s' t = if 17 + 4 * k ≤ t ∧ t < 17 + 4 * (S.1.length - 1) then s (t + 4) else s t) : mdR (S.1.eraseIdx k, S.2) s' := by
  obtain ⟨⟨l1, l2, l3⟩, ⟨k1, k2, k3⟩, w1, w2, w3⟩ := hM
  have hlen : (S.1.eraseIdx k).length = S.1.length - 1 := by rw [List.length_eraseIdx, if_pos hk]
  have hf : ∀ t, t ≠ 6 → t < 17 ∨ 69 ≤ t → s' t = s t := fun t h h2 => by rw [hs t h, if_neg (by omega)]
  refine ⟨⟨by rw [hlen]; omega, by rw [hlen]; exact h6, fun j z hz => ?_⟩, ⟨k1, by rw [hf 7 (by omega) (by omega)]; exact k2, fun j z hz => ?_⟩, fun j h => ?_, fun j h => ?_, fun j h => ?_⟩
  · have hl := p_lt hz
    rw [hlen] at hl
    rw [List.getElem?_eraseIdx] at hz
    by_cases hj : j < k
    · rw [if_pos hj] at hz
      rw [hs _ (by omega), hs _ (by omega), hs _ (by omega), hs _ (by omega), if_neg (by omega), if_neg (by omega), if_neg (by omega), if_neg (by omega)]
      exact l3 j z hz
    · rw [if_neg hj] at hz
      rw [hs _ (by omega), hs _ (by omega), hs _ (by omega), hs _ (by omega), if_pos (by omega), if_pos (by omega), if_pos (by omega), if_pos (by omega)]
      exact l3 (j + 1) z hz
  · rw [hf _ (by omega) (by omega), hf _ (by omega) (by omega)]; exact k3 j z hz
  · rw [hf _ (by omega) (by omega)]; exact w1 j h
  · rw [hf _ (by omega) (by omega)]; exact w2 j h
  · rw [hf _ (by omega) (by omega)]; exact w3 j h
theorem q_eraseK {S : cr_S} {s s' : Nat → Int32} (hM : mdR S s) {k : Nat} (hk : k < S.2.1.length) (h6 : s' 7 = nI (S.2.1.length - 1)) (hs : ∀ t, t ≠ 7 → s' t = if 69 + 2 * k ≤ t ∧ t < 69 + 2 * (S.2.1.length - 1) then s (t + 2) else s t) : mdR (S.1, S.2.1.eraseIdx k, S.2.2) s' := by
  obtain ⟨⟨l1, l2, l3⟩, ⟨k1, k2, k3⟩, w1, w2, w3⟩ := hM
  have hlen : (S.2.1.eraseIdx k).length = S.2.1.length - 1 := by rw [List.length_eraseIdx, if_pos hk]
  have hf : ∀ t, t ≠ 7 → t < 69 → s' t = s t := fun t h h2 => by rw [hs t h, if_neg (by omega)]
  refine ⟨⟨l1, by rw [hf 6 (by omega) (by omega)]; exact l2, fun j z hz => ?_⟩, ⟨by rw [hlen]; omega, by rw [hlen]; exact h6, fun j z hz => ?_⟩, fun j h => ?_, fun j h => ?_, fun j h => ?_⟩
  · have hl := p_lt hz
    have hl : j < S.1.length := hl
    rw [hf _ (by omega) (by omega), hf _ (by omega) (by omega), hf _ (by omega) (by omega), hf _ (by omega) (by omega)]; exact l3 j z hz
  · have hl := p_lt hz
    have hl : j < (S.2.1.eraseIdx k).length := hl
    have hz : (S.2.1.eraseIdx k)[j]? = some z := hz
    rw [hlen] at hl
    rw [List.getElem?_eraseIdx] at hz
    by_cases hj : j < k
    · rw [if_pos hj] at hz
      rw [hs _ (by omega), hs _ (by omega), if_neg (by omega), if_neg (by omega)]
      exact k3 j z hz
    · rw [if_neg hj] at hz
      rw [hs _ (by omega), hs _ (by omega), if_pos (by omega), if_pos (by omega)]
      exact k3 (j + 1) z hz
  · rw [hf _ (by omega) (by omega)]; exact w1 j h
  · rw [hf _ (by omega) (by omega)]; exact w2 j h
  · rw [hf _ (by omega) (by omega)]; exact w3 j h
def s_takes (L : List cr_Lot) (k : Nat) (b : Int32) : List cr_Lot := if (s_get L k).2.1 - b = 0 then (L.set k (s_less (s_get L k) b)).eraseIdx k else L.set k (s_less (s_get L k) b)
