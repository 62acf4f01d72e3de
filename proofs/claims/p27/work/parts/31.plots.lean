theorem p_X0_copyFrom_2 (vk2 : cr_V) : ∀ (n k : Nat) (vk : cr_V), k ≤ 6 → 6 - k < n → (∀ j, j < k → vk 0 j = vk2 0 j ∧ vk 1 j = vk2 1 j) →
    ∃ v, f_X0_copyFrom_2 n vk vk2 (nI k) = some v ∧ (∀ j, j < 6 → v 0 j = vk2 0 j ∧ v 1 j = vk2 1 j) ∧ v 2 0 = vk2 2 0 := by
  intro n
  induction n with
  | zero => intro k vl h1 h2; omega
  | succ n ih =>
    intro k vl hk hn h
    rw [f_X0_copyFrom_2]
    by_cases hk2 : k = 6
    · subst hk2
      rw [if_pos (show (6 : Int32) ≤ nI 6 from c_le 6 6 rfl rfl (by omega) (by omega))]
      refine ⟨_, rfl, fun j hj => ?_, ?_⟩
      · simpa [cr_ce] using h j hj
      · simp [cr_ce]
    · rw [if_neg (show ¬ (6 : Int32) ≤ nI k from c_nle 6 k rfl rfl (by omega) (by omega)), if_pos (cr_inn (by omega) (by omega)), nI_1 k]
      refine ih (k + 1) _ (by omega) (by omega) fun j hj => ?_
      by_cases hjk : j = k
      · subst hjk
        simp [cr_ce, cr_up, cr_xn (show j < 2 ^ 31 by omega)]
      · simpa [cr_ce, cr_up, cr_xn (show k < 2 ^ 31 by omega), hjk] using h j (by omega)
theorem p_X0_copyFrom (vk vk2 : cr_V) : ∃ v, f_X0_copyFrom vk vk2 = some v ∧ (∀ j, j < 6 → v 0 j = vk2 0 j ∧ v 1 j = vk2 1 j) ∧ v 2 0 = vk2 2 0 :=
  p_X0_copyFrom_2 vk2 10100 0 vk (by omega) (by omega) (fun j hj => by omega)
theorem p_X3_copyFrom_49 (vh2 vl2 vk2 vl vk : cr_V) : ∀ (n k : Nat) (vh : cr_V), k ≤ 5 → 5 - k < n → (∀ j, j < 4 → vh 2 j = vh2 2 j) → (∀ j, j < k → vh 3 j = vh2 3 j) →
    ∃ v, f_X3_copyFrom_49 n vh vl vk vh2 vl2 vk2 (nI k) = some (v, vl, vk) ∧ (∀ j, j < 4 → v 2 j = vh2 2 j) ∧ (∀ j, j < 5 → v 3 j = vh2 3 j) ∧ v 4 0 = vh2 4 0 ∧ v 5 0 = vh2 5 0 ∧ v 6 0 = vh2 6 0 ∧ v 7 0 = vh2 7 0 ∧ v 8 0 = vh2 8 0 := by
  intro n
  induction n with
  | zero => intro k vl h1 h2; omega
  | succ n ih =>
    intro k vh hk hn h2 h
    rw [f_X3_copyFrom_49]
    by_cases hk2 : k = 5
    · subst hk2
      rw [if_pos (show (5 : Int32) ≤ nI 5 from c_le 5 5 rfl rfl (by omega) (by omega))]
      refine ⟨_, rfl, fun j hj => ?_, fun j hj => ?_, ?_, ?_, ?_, ?_, ?_⟩
      · simpa [cr_ce] using h2 j hj
      · simpa [cr_ce] using h j hj
      all_goals simp [cr_ce]
    · rw [if_neg (show ¬ (5 : Int32) ≤ nI k from c_nle 5 k rfl rfl (by omega) (by omega)), if_pos (cr_inn (by omega) (by omega)), nI_1 k]
      refine ih (k + 1) _ (by omega) (by omega) (fun j hj => by simpa [cr_ce] using h2 j hj) fun j hj => ?_
      by_cases hjk : j = k
      · subst hjk
        simp [cr_ce, cr_up, cr_xn (show j < 2 ^ 31 by omega)]
      · simpa [cr_ce, cr_up, cr_xn (show k < 2 ^ 31 by omega), hjk] using h j (by omega)
theorem p_X3_copyFrom_24 (vh2 vl2 vk2 vl vk : cr_V) : ∀ (n k : Nat) (vh : cr_V), k ≤ 4 → 4 - k < n → (∀ j, j < k → vh 2 j = vh2 2 j) →
    ∃ v, f_X3_copyFrom_24 n vh vl vk vh2 vl2 vk2 (nI k) = some (v, vl, vk) ∧ (∀ j, j < 4 → v 2 j = vh2 2 j) ∧ (∀ j, j < 5 → v 3 j = vh2 3 j) ∧ v 4 0 = vh2 4 0 ∧ v 5 0 = vh2 5 0 ∧ v 6 0 = vh2 6 0 ∧ v 7 0 = vh2 7 0 ∧ v 8 0 = vh2 8 0 := by
  intro n
  induction n with
  | zero => intro k vl h1 h2; omega
  | succ n ih =>
    intro k vh hk hn h
    rw [f_X3_copyFrom_24]
    by_cases hk2 : k = 4
    · subst hk2
      rw [if_pos (show (4 : Int32) ≤ nI 4 from c_le 4 4 rfl rfl (by omega) (by omega))]
      exact p_X3_copyFrom_49 vh2 vl2 vk2 vl vk 10100 0 vh (by omega) (by omega) h (fun j hj => by omega)
    · rw [if_neg (show ¬ (4 : Int32) ≤ nI k from c_nle 4 k rfl rfl (by omega) (by omega)), if_pos (cr_inn (by omega) (by omega)), nI_1 k]
      refine ih (k + 1) _ (by omega) (by omega) fun j hj => ?_
      by_cases hjk : j = k
      · subst hjk
        simp [cr_ce, cr_up, cr_xn (show j < 2 ^ 31 by omega)]
      · simpa [cr_ce, cr_up, cr_xn (show k < 2 ^ 31 by omega), hjk] using h j (by omega)
theorem p_lt {α : Type} {L : List α} {j : Nat} {x : α} (h : L[j]? = some x) : j < L.length := (List.getElem?_eq_some_iff.mp h).1
theorem p_X3_copyFrom {S : cr_S} {vh2 vl2 vk2 : cr_V} (hC : crC S vh2 vl2 vk2) (vh vl vk : cr_V) : ∃ h l k, f_X3_copyFrom vh vl vk vh2 vl2 vk2 = some (h, l, k) ∧ crC S h l k := by
  obtain ⟨⟨l1, l2, l3⟩, ⟨k1, k2, k3⟩, ⟨h1, h2, h3, h4, h5, h6, h7⟩, hm⟩ := hC
  obtain ⟨l, e1, a1, a2, a3⟩ := p_X4_copyFrom vl vl2
  obtain ⟨k, e2, b1, b2⟩ := p_X0_copyFrom vk vk2
  obtain ⟨h, e3, c1, c2, c3, c4, c5, c6, c7⟩ := p_X3_copyFrom_24 vh2 vl2 vk2 l k 10100 0 vh (by omega) (by omega) (fun j hj => by omega)
  refine ⟨h, l, k, ?_, ⟨l1, a2.trans l2, fun j x hx => ?_⟩, ⟨k1, b2.trans k2, fun j x hx => ?_⟩, ⟨fun j hj => (c1 j hj).trans (h1 j hj), fun j hj => (c2 j hj).trans (h2 j hj), c3.trans h3, c4.trans h4, c5.trans h5, c6.trans h6, c7.trans h7⟩, a3.trans hm⟩
  · simp only [f_X3_copyFrom, e1, e2, Option.bind_some]; exact e3
  · obtain ⟨q1, q2, q3, q4⟩ := a1 j (by have := p_lt hx; omega)
    obtain ⟨r1, r2, r3, r4⟩ := l3 j x hx
    exact ⟨q1.trans r1, q2.trans r2, q3.trans r3, q4.trans r4⟩
  · obtain ⟨q1, q2⟩ := b1 j (by have := p_lt hx; omega)
    obtain ⟨r1, r2⟩ := k3 j x hx
    exact ⟨q1.trans r1, q2.trans r2⟩
-- rows by number
def cr_idx (L : List cr_Lot) (n : Int32) : Option Nat := L.findIdx? (fun x => decide (x.1 = n))
theorem cr_idx_some {L : List cr_Lot} {n : Int32} {k : Nat} (h : cr_idx L n = some k) : ∃ x, L[k]? = some x ∧ x.1 = n := by
  obtain ⟨hk, h1, -⟩ := List.findIdx?_eq_some_iff_getElem.mp h
  exact ⟨L[k], by simp [hk], by simpa using h1⟩
theorem cr_idx_lt {L : List cr_Lot} {n : Int32} {k : Nat} (h : cr_idx L n = some k) : k < L.length := by
  obtain ⟨x, hx, -⟩ := cr_idx_some h
  exact p_lt hx
theorem cr_idx_at {L : List cr_Lot} {n : Int32} {k : Nat} {x : cr_Lot} (hx : L[k]? = some x) (hn : x.1 = n) (hb : ∀ j y, j < k → L[j]? = some y → ¬ y.1 = n) : cr_idx L n = some k := by
  refine List.findIdx?_eq_some_iff_getElem.mpr ⟨p_lt hx, ?_, fun j hj => ?_⟩
  · rw [(List.getElem?_eq_some_iff.mp hx).2]; simpa using hn
  · have hl := p_lt hx
    simpa using hb j _ hj (List.getElem?_eq_getElem (by omega))
theorem cr_idx_none {L : List cr_Lot} {n : Int32} (hb : ∀ (j : Nat) (y : cr_Lot), L[j]? = some y → ¬ y.1 = n) : cr_idx L n = none := by
  refine List.findIdx?_eq_none_iff.mpr fun x hx => ?_
  obtain ⟨j, hj⟩ := List.getElem?_of_mem hx
  simpa using hb j x hj
theorem p_X4_rowOf_2 {L : List cr_Lot} {vl : cr_V} (hL : crL L vl) (x1 : Int32) : ∀ (n k : Nat), k ≤ L.length → L.length - k < n → (∀ j y, j < k → L[j]? = some y → ¬ y.1 = x1) →
    f_X4_rowOf_2 n vl x1 (nI k) = some (match cr_idx L x1 with | some k => nI k | none => -1) := by
  obtain ⟨l1, l2, l3⟩ := hL
  intro n
  induction n with
  | zero => intro k h1 h2; omega
  | succ n ih =>
    intro k hk hn h
    rw [f_X4_rowOf_2, l2]
    by_cases hk2 : k = L.length
    · rw [if_pos (show nI L.length ≤ nI k from c_le L.length k rfl rfl (by omega) (by omega)), cr_idx_none (fun j y hy => h j y (by have := p_lt hy; omega) hy)]
    · rw [if_neg (show ¬ nI L.length ≤ nI k from c_nle L.length k rfl rfl (by omega) (by omega)), if_pos (cr_inn (by omega) (by omega)), cr_xn (by omega), nI_1]
      have hx : L[k]? = some L[k] := List.getElem?_eq_getElem (by omega)
      rw [(l3 k _ hx).1]
      by_cases he : L[k].1 = x1
      · rw [if_pos he, cr_idx_at hx he h]
      · rw [if_neg he]
        refine ih (k + 1) (by omega) (by omega) fun j y hj hy => ?_
        by_cases hjk : j = k
        · subst hjk
          rw [hx] at hy; cases hy; exact he
        · exact h j y (by omega) hy
theorem p_X4_rowOf {L : List cr_Lot} {vl : cr_V} (hL : crL L vl) (x1 : Int32) : f_X4_rowOf vl x1 = some (match cr_idx L x1 with | some k => nI k | none => -1) :=
  p_X4_rowOf_2 hL x1 10100 0 (by omega) (by have := hL.1; omega) (fun j y hj => by omega)
theorem p_X4_isFull {L : List cr_Lot} {vl : cr_V} (hL : crL L vl) : f_X4_isFull vl = some (if L.length = 12 then 1 else 0) := by
  obtain ⟨l1, l2, -⟩ := hL
  rw [f_X4_isFull, l2]
  by_cases h : L.length = 12
  · rw [if_neg (show ¬ nI L.length < 12 from c_nlt L.length 12 rfl rfl (by omega) (by omega)), if_pos h]
  · rw [if_pos (show nI L.length < 12 from c_lt L.length 12 rfl rfl (by omega) (by omega)), if_neg h]
theorem p_X4_add {L : List cr_Lot} {vl : cr_V} (hL : crL L vl) (x1 x2 x3 : Int32) (h12 : L.length < 12) : ∃ v, f_X4_add vl x1 x2 x3 = some (vl 5 0, v) ∧ crL (L ++ [(vl 5 0, x1, x2, x3)]) v ∧ v 5 0 = vl 5 0 + 1 := by
  have hF : f_X4_isFull vl = some 0 := by rw [p_X4_isFull hL, if_neg (by omega)]
  obtain ⟨l1, l2, l3⟩ := hL
  rw [f_X4_add, hF, Option.bind_some, if_pos rfl, l2, if_pos (cr_inn h12 (by omega)), cr_xn (by omega)]
  refine ⟨_, by rw [Int32.add_sub_cancel], ⟨by rw [List.length_append]; simp; omega, ?_, fun j x hx => ?_⟩, ?_⟩
  · simp [cr_ce, nI_1]
  · by_cases hj : j < L.length
    · rw [List.getElem?_append_left hj] at hx
      have hne : ¬ j = L.length := by omega
      simpa [cr_ce, cr_up, hne] using l3 j x hx
    · have hl := p_lt hx
      rw [List.length_append] at hl
      simp at hl
      have hj2 : j = L.length := by omega
      subst hj2
      rw [List.getElem?_append_right (Nat.le_refl _)] at hx
      simp at hx
      subst hx
      simp [cr_ce, cr_up]
  · simp [cr_ce]
theorem p_X4_addFull {L : List cr_Lot} {vl : cr_V} (hL : crL L vl) (x1 x2 x3 : Int32) (h12 : L.length = 12) : f_X4_add vl x1 x2 x3 = some (-2000000003, vl) := by
  rw [f_X4_add, p_X4_isFull hL, Option.bind_some, if_pos h12, if_neg (by decide)]
