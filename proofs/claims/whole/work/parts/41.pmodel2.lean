-- the loops that move cells
theorem cr_as (v : cr_V) (c k : Nat) (x : Int32) : cr_a v c k x c = upd (v c) k x := cr_cs _ _ _
theorem q_takes_51 {e : Nat} (he : e ≤ 77) : ∀ (n k : Nat) (v : cr_V), 17 ≤ k → k ≤ e + 4 → e + 5 - k < n → (17 : Int32) + 4 * v 0 6 = nI e → ∃ v', f_X7_takes_51 n v (nI k) = some v' ∧ (∀ t, v' 0 t = if k ≤ t ∧ t < e then v 0 (t + 4) else v 0 t) ∧ sameC [0] v v' := by
  intro n
  induction n with
  | zero => intro k v a b c; omega
  | succ n ih =>
    intro k v hk hk2 hn h6
    rw [f_X7_takes_51, h6]
    by_cases hke : e ≤ k
    · rw [if_pos (show nI e ≤ nI k from c_le e k rfl rfl hke (by omega))]
      exact ⟨v, rfl, fun t => by rw [if_neg (by omega)], sameC.rf⟩
    · rw [if_neg (show ¬ nI e ≤ nI k from c_nle e k rfl rfl (by omega) (by omega)), show (4 : Int32) = nI 4 from rfl, nI_add, if_pos (cr_inn (by omega) (by omega)), if_pos (cr_inn (by omega) (by omega)), cr_xn (by omega), cr_xn (by omega), nI_1]
      obtain ⟨v', e1, e2, e3⟩ := ih (k + 1) (cr_a v 0 k (v 0 (k + 4))) (by omega) (by omega) (by omega) (by rw [cr_as, pk_un (by omega)]; exact h6)
      refine ⟨v', e1, fun t => ?_, sameC.tr (sameC.c (by simp)) e3 (fun c h => h) (fun c h => h)⟩
      rw [e2, cr_as]
      by_cases h1 : k + 1 ≤ t ∧ t < e
      · rw [if_pos h1, if_pos (by omega), pk_un (by omega)]
      · rw [if_neg h1]
        by_cases h2 : t = k
        · subst h2; rw [pk_us, if_pos (by omega)]
        · rw [pk_un h2, if_neg (by omega)]
theorem q_closes_18 {e : Nat} (he : e ≤ 79) : ∀ (n k : Nat) (v : cr_V), 69 ≤ k → k ≤ e + 4 → e + 5 - k < n → (69 : Int32) + 2 * v 0 7 = nI e → ∃ v', f_X7_closes_18 n v (nI k) = some v' ∧ (∀ t, v' 0 t = if k ≤ t ∧ t < e then v 0 (t + 2) else v 0 t) ∧ sameC [0] v v' := by
  intro n
  induction n with
  | zero => intro k v a b c; omega
  | succ n ih =>
    intro k v hk hk2 hn h6
    rw [f_X7_closes_18, h6]
    by_cases hke : e ≤ k
    · rw [if_pos (show nI e ≤ nI k from c_le e k rfl rfl hke (by omega))]
      exact ⟨v, rfl, fun t => by rw [if_neg (by omega)], sameC.rf⟩
    · rw [if_neg (show ¬ nI e ≤ nI k from c_nle e k rfl rfl (by omega) (by omega)), show (2 : Int32) = nI 2 from rfl, nI_add, if_pos (cr_inn (by omega) (by omega)), if_pos (cr_inn (by omega) (by omega)), cr_xn (by omega), cr_xn (by omega), nI_1]
      obtain ⟨v', e1, e2, e3⟩ := ih (k + 1) (cr_a v 0 k (v 0 (k + 2))) (by omega) (by omega) (by omega) (by rw [cr_as, pk_un (by omega)]; exact h6)
      refine ⟨v', e1, fun t => ?_, sameC.tr (sameC.c (by simp)) e3 (fun c h => h) (fun c h => h)⟩
      rw [e2, cr_as]
      by_cases h1 : k + 1 ≤ t ∧ t < e
      · rw [if_pos h1, if_pos (by omega), pk_un (by omega)]
      · rw [if_neg h1]
        by_cases h2 : t = k
        · subst h2; rw [pk_us, if_pos (by omega)]
        · rw [pk_un h2, if_neg (by omega)]
theorem q_setM {S : cr_S} {s s' : Nat → Int32} (hM : mdR S s) {k : Nat} {x y : cr_Lot} (hx : S.1[k]? = some x) (hk : s' (17 + 4 * k) = y.1 ∧ s' (18 + 4 * k) = y.2.1 ∧ s' (19 + 4 * k) = y.2.2.1 ∧ s' (20 + 4 * k) = y.2.2.2) (hj : ∀ t, t < 17 + 4 * k ∨ 20 + 4 * k < t → s' t = s t) : mdR (S.1.set k y, S.2) s' := by
  obtain ⟨⟨l1, l2, l3⟩, ⟨k1, k2, k3⟩, w1, w2, w3⟩ := hM
  have hl := p_lt hx
  refine ⟨⟨by rw [List.length_set]; exact l1, by rw [List.length_set, hj 6 (by omega)]; exact l2, fun j z hz => ?_⟩, ⟨k1, by rw [hj 7 (by omega)]; exact k2, fun j z hz => ?_⟩, fun j h => ?_, fun j h => ?_, fun j h => ?_⟩
  · by_cases hjk : j = k
    · subst hjk
      rw [List.getElem?_set_self hl] at hz
      cases hz
      exact hk
    · rw [List.getElem?_set_ne (Ne.symm hjk)] at hz
      rw [hj _ (by omega), hj _ (by omega), hj _ (by omega), hj _ (by omega)]
      exact l3 j z hz
  · rw [hj _ (by omega), hj _ (by omega)]
    exact k3 j z hz
  · rw [hj _ (by omega)]; exact w1 j h
  · rw [hj _ (by omega)]; exact w2 j h
  · rw [hj _ (by omega)]; exact w3 j h
def s_takes (L : List cr_Lot) (k : Nat) (b : Int32) : List cr_Lot := if (s_get L k).2.1 - b = 0 then (L.set k (s_less (s_get L k) b)).eraseIdx k else L.set k (s_less (s_get L k) b)
theorem q_takes {S : cr_S} {v : cr_V} (hM : mdR S (v 0)) {n b : Int32} {k : Nat} (hi : cr_idx S.1 n = some k) : ∃ v', f_X7_takes v n b = some v' ∧ mdR (s_takes S.1 k b, S.2) (v' 0) ∧ sameC [0] v v' := by
  obtain ⟨x, hx, hn⟩ := cr_idx_some hi
  have hl := p_lt hx
  have h12 := hM.1.1
  obtain ⟨a1, a2, a3, a4⟩ := hM.1.2.2 k x hx
  have i1 : ((17 : Int32) + 4 * nI k) + 1 = nI (18 + 4 * k) := by rw [show (1 : Int32) = nI 1 from rfl, q_ix]; congr 1; omega
  have hM2 : mdR (S.1.set k (s_less x b), S.2) ((cr_a v 0 (18 + 4 * k) (v 0 (18 + 4 * k) - b)) 0) := by
    refine q_setM hM hx ⟨?_, ?_, ?_, ?_⟩ (fun t ht => ?_)
    · rw [cr_as, pk_un (by omega)]; exact a1
    · rw [cr_as, pk_us, a2]; rfl
    · rw [cr_as, pk_un (by omega)]; exact a3
    · rw [cr_as, pk_un (by omega)]; exact a4
    · rw [cr_as, pk_un (by omega)]
  have hx2 : (S.1.set k (s_less x b))[k]? = some (s_less x b) := List.getElem?_set_self hl
  unfold s_takes
  rw [s_get_of hx, f_X7_takes, q_placeOf hM.1, hi, Option.bind_some, s_enc, i1, if_pos (cr_inn (by omega) (by omega)), cr_xn (by omega), q_of1 hM2.1 hx2, Option.bind_some]
  show ∃ v', (if x.2.1 - b = 0 then _ else _) = some v' ∧ _
  by_cases hz : x.2.1 - b = 0
  · rw [if_pos hz, if_pos hz]
    obtain ⟨⟨l1, l2, l3⟩, ⟨k1, k2, k3⟩, w1, w2, w3⟩ := hM2
    generalize cr_a v 0 (18 + 4 * k) (v 0 (18 + 4 * k) - b) = u at *
    sorry
  · rw [if_neg hz, if_neg hz]
    exact ⟨_, rfl, hM2, sameC.c (by simp)⟩
