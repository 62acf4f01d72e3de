/-! deliveries met, on the model -/
theorem z_sub {a b : Int32} (ha : s_in a 1 9999 = true) (h1 : 1 ≤ b) (h2 : b ≤ a) : a - b = 0 ∨ 0 < a - b := by
  obtain ⟨n, n1, n2, rfl⟩ := p_inN (a := 1) (b := 9999) ha (by omega) (by omega)
  have hb : s_in b 1 9999 = true := by
    have h3 : b ≤ 9999 := Int32.le_trans h2 (c_le n 9999 rfl rfl n2 (by omega))
    simp [s_in, Int32.not_lt.mpr h1, Int32.not_lt.mpr h3]
  obtain ⟨m, m1, m2, rfl⟩ := p_inN (a := 1) (b := 9999) hb (by omega) (by omega)
  have hmn : m ≤ n := Nat.le_of_not_lt fun h => (c_nle m n rfl rfl h (by omega)) h2
  have e : nI n - nI m = nI (n - m) := by
    rw [show n = (n - m) + m by omega, ← nI_add, Int32.add_sub_cancel, Nat.add_sub_cancel]
  rw [e]
  by_cases hz : n = m
  · left; rw [hz, Nat.sub_self]; rfl
  · right; exact c_lt 0 (n - m) rfl rfl (by omega) (by omega)
theorem z_pos {u : Int32} (h : 0 < u) : 1 ≤ u := by
  rw [Int32.lt_iff_toInt_lt] at h
  rw [Int32.le_iff_toInt_le]
  have h1 : (1 : Int32).toInt = 1 := rfl
  have h0 : (0 : Int32).toInt = 0 := rfl
  omega
theorem z_take {a u : Int32} (ha : s_in a 1 9999 = true) (hu : 0 < u) : a - s_take u a = 0 ∨ 0 < a - s_take u a := by
  unfold s_take
  by_cases h : a < u
  · rw [if_pos h]; left; exact Int32.sub_self a
  · rw [if_neg h]; exact z_sub ha (z_pos hu) (Int32.not_lt.mp h)
theorem z_full {x : cr_Lot} (h : s_in x.2.1 1 9999 = true) : s_full x = true := by
  obtain ⟨n, n1, n2, e⟩ := p_inN (a := 1) (b := 9999) h (by omega) (by omega)
  have : ¬ x.2.1 ≤ 0 := by rw [e]; exact nI_nle n1 (by omega)
  unfold s_full
  rw [decide_eq_false this]; rfl
theorem s_give_num : ∀ (P : List (Nat × Int32)) (L : List cr_Lot), (s_give P L).map (·.1) = L.map (·.1)
  | [], L => rfl
  | p :: P, L => by
    unfold s_give
    rw [s_give_num P]
    refine List.ext_getElem? fun j => ?_
    rw [List.getElem?_map, List.getElem?_map]
    by_cases hj : p.1 = j
    · subst hj
      by_cases hl : p.1 < L.length
      · rw [List.getElem?_set_self hl, List.getElem?_eq_getElem hl]
        simp [s_less, s_get_of (List.getElem?_eq_getElem hl)]
      · rw [List.getElem?_eq_none (by rw [List.length_set]; omega), List.getElem?_eq_none (by omega)]
    · rw [List.getElem?_set_ne hj]
theorem s_give_other {j : Nat} : ∀ (P : List (Nat × Int32)) (L : List cr_Lot), j ∉ P.map (·.1) → (s_give P L)[j]? = L[j]?
  | [], L, _ => rfl
  | p :: P, L, h => by
    rw [List.map_cons, List.mem_cons, not_or] at h
    unfold s_give
    rw [s_give_other P _ h.2, List.getElem?_set_ne (Ne.symm h.1)]
def nOut (P : List (Nat × Int32)) (L : List cr_Lot) (v : cr_V) : Prop := P.length ≤ 12 ∧ v 9 0 = nI P.length ∧ ∀ i q x, P[i]? = some q → L[q.1]? = some x → v 7 i = x.1 ∧ v 8 i = q.2
theorem q_meet_73 {L : List cr_Lot} {P : List (Nat × Int32)} {s : Nat → Int32} (hL : mdL L s) (hp : ∀ q ∈ P, q.1 < L.length) (hl : P.length ≤ 12) (x1 pay : Int32) : ∀ (n i : Nat) (v : cr_V), i ≤ P.length → P.length - i < n → v 0 = s → v 9 0 = nI P.length →
    (∀ j q x, j < i → P[j]? = some q → L[q.1]? = some x → v 7 j = x.1) → (∀ j q, i ≤ j → P[j]? = some q → v 7 j = nI q.1) → (∀ (j : Nat) (q : Nat × Int32), P[j]? = some q → v 8 j = q.2) →
    ∃ v', f_X7_meet_73 n v x1 pay (nI i) = f_X7_meet_106 10100 v' x1 pay 0 ∧ nOut P L v' ∧ sameC [7] v v' := by
  have hl12 := hL.1
  intro n
  induction n with
  | zero => intro i v a b; omega
  | succ n ih =>
    intro i v hi hn hv h9 ha hb hc
    rw [f_X7_meet_73, h9]
    by_cases hk : i = P.length
    · rw [if_pos (show nI P.length ≤ nI i from c_le P.length i rfl rfl (by omega) (by omega))]
      exact ⟨v, rfl, ⟨hl, h9, fun j q x hq hx => ⟨ha j q x (by have := p_lt hq; omega) hq hx, hc j q hq⟩⟩, sameC.rf⟩
    · have hq : P[i]? = some P[i] := List.getElem?_eq_getElem (by omega)
      have hr : P[i].1 < L.length := hp _ (List.getElem_mem _)
      have hx : L[P[i].1]? = some L[P[i].1] := List.getElem?_eq_getElem hr
      have hLv : mdL L (v 0) := by rw [hv]; exact hL
      rw [if_neg (show ¬ nI P.length ≤ nI i from c_nle P.length i rfl rfl (by omega) (by omega)), if_pos (cr_inn (by omega) (by omega)), cr_xn (by omega), hb i _ (Nat.le_refl _) hq, q_of0 hLv hx, Option.bind_some, nI_1]
      obtain ⟨v', e1, e2, e3⟩ := ih (i + 1) (cr_a v 7 i L[P[i].1].1) (by omega) (by omega) (by simp [cr_ce, hv]) (by simp [cr_ce, h9]) (fun j q x hj hq2 hx2 => by
        by_cases hji : j = i
        · subst hji
          rw [hq] at hq2; cases hq2
          rw [hx] at hx2; cases hx2
          rw [cr_as, pk_us]
        · rw [cr_as, pk_un hji]; exact ha j q x (by omega) hq2 hx2) (fun j q hj hq2 => by
        rw [cr_as, pk_un (by omega)]; exact hb j q (by omega) hq2) (fun j q hq2 => by simpa [cr_ce] using hc j q hq2)
      exact ⟨v', e1, e2, (sameC.c (cs := [7]) (by simp)).tr e3 (fun c h => h) (fun c h => h)⟩
