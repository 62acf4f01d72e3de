/-! deliveries met, on the model -/
theorem z_sub {a b : Int32} (ha : s_in a 1 9999 = true) (h1 : 1 ≤ b) (h2 : b ≤ a) : a - b = 0 ∨ 0 < a - b := by
  obtain ⟨n, n1, n2, rfl⟩ := p_inN (a := 1) (b := 9999) ha (by omega) (by omega)
  have hb : s_in b 1 9999 = true := by
    have h3 : b ≤ 9999 := Int32.le_trans h2 (c_le n 9999 rfl rfl n2 (by omega))
    simp [s_in, Int32.not_lt.mpr h1, Int32.not_lt.mpr h3]
  obtain ⟨m, m1, m2, rfl⟩ := p_inN (a := 1) (b := 9999) hb (by omega) (by omega)
  have hmn : m ≤ n := Nat.le_of_not_lt fun h => (c_nle m n rfl rfl h (by omega)) h2
  have e : nI n - nI m = nI (n - m) := by
    rw [show n = (n - m) + m by omega, ← nI_add, Int32.add_sub_cancel, Nat.add_sub_cancel]
  rw [e]
  by_cases hz : n = m
  · left; rw [hz, Nat.sub_self]; rfl
  · right; exact c_lt 0 (n - m) rfl rfl (by omega) (by omega)
theorem z_pos {u : Int32} (h : 0 < u) : 1 ≤ u := by
  rw [Int32.lt_iff_toInt_lt] at h
  rw [Int32.le_iff_toInt_le]
  have h1 : (1 : Int32).toInt = 1 := rfl
  have h0 : (0 : Int32).toInt = 0 := rfl
  omega
theorem z_take {a u : Int32} (ha : s_in a 1 9999 = true) (hu : 0 < u) : a - s_take u a = 0 ∨ 0 < a - s_take u a := by
  unfold s_take
  by_cases h : a < u
  · rw [if_pos h]; left; exact Int32.sub_self a
  · rw [if_neg h]; exact z_sub ha (z_pos hu) (Int32.not_lt.mp h)
theorem z_full {x : cr_Lot} (h : s_in x.2.1 1 9999 = true) : s_full x = true := by
  obtain ⟨n, n1, n2, e⟩ := p_inN (a := 1) (b := 9999) h (by omega) (by omega)
  have : ¬ x.2.1 ≤ 0 := by rw [e]; exact nI_nle n1 (by omega)
  unfold s_full
  rw [decide_eq_false this]; rfl
theorem s_give_num : ∀ (P : List (Nat × Int32)) (L : List cr_Lot), (s_give P L).map (·.1) = L.map (·.1)
  | [], L => rfl
  | p :: P, L => by
    unfold s_give
    rw [s_give_num P]
    refine List.ext_getElem? fun j => ?_
    rw [List.getElem?_map, List.getElem?_map]
    by_cases hj : p.1 = j
    · subst hj
      by_cases hl : p.1 < L.length
      · rw [List.getElem?_set_self hl, List.getElem?_eq_getElem hl]
        simp [s_less, s_get_of (List.getElem?_eq_getElem hl)]
      · rw [List.getElem?_eq_none (by rw [List.length_set]; omega), List.getElem?_eq_none (by omega)]
    · rw [List.getElem?_set_ne hj]
theorem s_give_other {j : Nat} : ∀ (P : List (Nat × Int32)) (L : List cr_Lot), j ∉ P.map (·.1) → (s_give P L)[j]? = L[j]?
  | [], L, _ => rfl
  | p :: P, L, h => by
    rw [List.map_cons, List.mem_cons, not_or] at h
    unfold s_give
    rw [s_give_other P _ h.2, List.getElem?_set_ne (Ne.symm h.1)]
def nOut (P : List (Nat × Int32)) (L : List cr_Lot) (v : cr_V) : Prop := P.length ≤ 12 ∧ v 9 0 = nI P.length ∧ ∀ i q x, P[i]? = some q → L[q.1]? = some x → v 7 i = x.1 ∧ v 8 i = q.2
