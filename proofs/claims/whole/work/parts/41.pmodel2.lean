-- the loops that move cells
theorem q_pr {n : Nat} (h : 0 < n) : nI n - 1 = nI (n - 1) := by obtain ⟨m, rfl⟩ : ∃ m, n = m + 1 := ⟨n - 1, by omega⟩; exact nI_pred m
theorem q_ix0 (j : Nat) : (17 : Int32) + 4 * nI j = nI (17 + 4 * j) := by rw [show (17 : Int32) = nI 17 from rfl, show (4 : Int32) = nI 4 from rfl, pk_mul, nI_add]
theorem cr_as (v : cr_V) (c k : Nat) (x : Int32) : cr_a v c k x c = upd (v c) k x := cr_cs _ _ _
theorem q_takes_51 {e : Nat} (he : e ≤ 77) : ∀ (n k : Nat) (v : cr_V), 17 ≤ k → k ≤ e + 4 → e + 5 - k < n → (17 : Int32) + 4 * v 0 6 = nI e → ∃ v', f_X7_takes_51 n v (nI k) = some v' ∧ (∀ t, v' 0 t = if k ≤ t ∧ t < e then v 0 (t + 4) else v 0 t) ∧ sameC [0] v v' := by
  intro n
  induction n with
  | zero => intro k v a b c; omega
  | succ n ih =>
    intro k v hk hk2 hn h6
    rw [f_X7_takes_51, h6]
    by_cases hke : e ≤ k
    · rw [if_pos (show nI e ≤ nI k from c_le e k rfl rfl hke (by omega))]
      exact ⟨v, rfl, fun t => by rw [if_neg (by omega)], sameC.rf⟩
    · rw [if_neg (show ¬ nI e ≤ nI k from c_nle e k rfl rfl (by omega) (by omega)), show (4 : Int32) = nI 4 from rfl, nI_add, if_pos (cr_inn (by omega) (by omega)), if_pos (cr_inn (by omega) (by omega)), cr_xn (by omega), cr_xn (by omega), nI_1]
      obtain ⟨v', e1, e2, e3⟩ := ih (k + 1) (cr_a v 0 k (v 0 (k + 4))) (by omega) (by omega) (by omega) (by rw [cr_as, pk_un (by omega)]; exact h6)
      refine ⟨v', e1, fun t => ?_, sameC.tr (sameC.c (by simp)) e3 (fun c h => h) (fun c h => h)⟩
      rw [e2, cr_as]
      by_cases h1 : k + 1 ≤ t ∧ t < e
      · rw [if_pos h1, if_pos (by omega), pk_un (by omega)]
      · rw [if_neg h1]
        by_cases h2 : t = k
        · subst h2; rw [pk_us, if_pos (by omega)]
        · rw [pk_un h2, if_neg (by omega)]
theorem q_closes_18 {e : Nat} (he : e ≤ 79) : ∀ (n k : Nat) (v : cr_V), 69 ≤ k → k ≤ e + 4 → e + 5 - k < n → (69 : Int32) + 2 * v 0 7 = nI e → ∃ v', f_X7_closes_18 n v (nI k) = some v' ∧ (∀ t, v' 0 t = if k ≤ t ∧ t < e then v 0 (t + 2) else v 0 t) ∧ sameC [0] v v' := by
  intro n
  induction n with
  | zero => intro k v a b c; omega
  | succ n ih =>
    intro k v hk hk2 hn h6
    rw [f_X7_closes_18, h6]
    by_cases hke : e ≤ k
    · rw [if_pos (show nI e ≤ nI k from c_le e k rfl rfl hke (by omega))]
      exact ⟨v, rfl, fun t => by rw [if_neg (by omega)], sameC.rf⟩
    · rw [if_neg (show ¬ nI e ≤ nI k from c_nle e k rfl rfl (by omega) (by omega)), show (2 : Int32) = nI 2 from rfl, nI_add, if_pos (cr_inn (by omega) (by omega)), if_pos (cr_inn (by omega) (by omega)), cr_xn (by omega), cr_xn (by omega), nI_1]
      obtain ⟨v', e1, e2, e3⟩ := ih (k + 1) (cr_a v 0 k (v 0 (k + 2))) (by omega) (by omega) (by omega) (by rw [cr_as, pk_un (by omega)]; exact h6)
      refine ⟨v', e1, fun t => ?_, sameC.tr (sameC.c (by simp)) e3 (fun c h => h) (fun c h => h)⟩
      rw [e2, cr_as]
      by_cases h1 : k + 1 ≤ t ∧ t < e
      · rw [if_pos h1, if_pos (by omega), pk_un (by omega)]
      · rw [if_neg h1]
        by_cases h2 : t = k
        · subst h2; rw [pk_us, if_pos (by omega)]
        · rw [pk_un h2, if_neg (by omega)]
theorem q_setM {S : cr_S} {s s' : Nat → Int32} (hM : mdR S s) {k : Nat} {x y : cr_Lot} (hx : S.1[k]? = some x) (hk : s' (17 + 4 * k) = y.1 ∧ s' (18 + 4 * k) = y.2.1 ∧ s' (19 + 4 * k) = y.2.2.1 ∧ s' (20 + 4 * k) = y.2.2.2) (hj : ∀ t, t < 17 + 4 * k ∨ 20 + 4 * k < t → s' t = s t) : mdR (S.1.set k y, S.2) s' := by
  obtain ⟨⟨l1, l2, l3⟩, ⟨k1, k2, k3⟩, w1, w2, w3⟩ := hM
  have hl := p_lt hx
  refine ⟨⟨by rw [List.length_set]; exact l1, by rw [List.length_set, hj 6 (by omega)]; exact l2, fun j z hz => ?_⟩, ⟨k1, by rw [hj 7 (by omega)]; exact k2, fun j z hz => ?_⟩, fun j h => ?_, fun j h => ?_, fun j h => ?_⟩
  · by_cases hjk : j = k
    · subst hjk
      rw [List.getElem?_set_self hl] at hz
      cases hz
      exact hk
    · rw [List.getElem?_set_ne (Ne.symm hjk)] at hz
      rw [hj _ (by omega), hj _ (by omega), hj _ (by omega), hj _ (by omega)]
      exact l3 j z hz
  · rw [hj _ (by omega), hj _ (by omega)]
    exact k3 j z hz
  · rw [hj _ (by omega)]; exact w1 j h
  · rw [hj _ (by omega)]; exact w2 j h
  · rw [hj _ (by omega)]; exact w3 j h
theorem q_eraseM {S : cr_S} {s s' : Nat → Int32} (hM : mdR S s) {k : Nat} (hk : k < S.1.length) (h6 : s' 6 = nI (S.1.length - 1)) (hs : ∀ t, t ≠ 6 → s' t = if 17 + 4 * k ≤ t ∧ t < 17 + 4 * (S.1.length - 1) then s (t + 4) else s t) : mdR (S.1.eraseIdx k, S.2) s' := by
  obtain ⟨⟨l1, l2, l3⟩, ⟨k1, k2, k3⟩, w1, w2, w3⟩ := hM
  have hlen : (S.1.eraseIdx k).length = S.1.length - 1 := by rw [List.length_eraseIdx, if_pos hk]
  have hf : ∀ t, t ≠ 6 → t < 17 ∨ 69 ≤ t → s' t = s t := fun t h h2 => by rw [hs t h, if_neg (by omega)]
  refine ⟨⟨by rw [hlen]; omega, by rw [hlen]; exact h6, fun j z hz => ?_⟩, ⟨k1, by rw [hf 7 (by omega) (by omega)]; exact k2, fun j z hz => ?_⟩, fun j h => ?_, fun j h => ?_, fun j h => ?_⟩
  · have hl := p_lt hz
    rw [hlen] at hl
    rw [List.getElem?_eraseIdx] at hz
    by_cases hj : j < k
    · rw [if_pos hj] at hz
      rw [hs _ (by omega), hs _ (by omega), hs _ (by omega), hs _ (by omega), if_neg (by omega), if_neg (by omega), if_neg (by omega), if_neg (by omega)]
      exact l3 j z hz
    · rw [if_neg hj] at hz
      rw [hs _ (by omega), hs _ (by omega), hs _ (by omega), hs _ (by omega), if_pos (by omega), if_pos (by omega), if_pos (by omega), if_pos (by omega)]
      exact l3 (j + 1) z hz
  · rw [hf _ (by omega) (by omega), hf _ (by omega) (by omega)]; exact k3 j z hz
  · rw [hf _ (by omega) (by omega)]; exact w1 j h
  · rw [hf _ (by omega) (by omega)]; exact w2 j h
  · rw [hf _ (by omega) (by omega)]; exact w3 j h
theorem q_eraseK {S : cr_S} {s s' : Nat → Int32} (hM : mdR S s) {k : Nat} (hk : k < S.2.1.length) (h6 : s' 7 = nI (S.2.1.length - 1)) (hs : ∀ t, t ≠ 7 → s' t = if 69 + 2 * k ≤ t ∧ t < 69 + 2 * (S.2.1.length - 1) then s (t + 2) else s t) : mdR (S.1, S.2.1.eraseIdx k, S.2.2) s' := by
  obtain ⟨⟨l1, l2, l3⟩, ⟨k1, k2, k3⟩, w1, w2, w3⟩ := hM
  have hlen : (S.2.1.eraseIdx k).length = S.2.1.length - 1 := by rw [List.length_eraseIdx, if_pos hk]
  have hf : ∀ t, t ≠ 7 → t < 69 → s' t = s t := fun t h h2 => by rw [hs t h, if_neg (by omega)]
  refine ⟨⟨l1, by rw [hf 6 (by omega) (by omega)]; exact l2, fun j z hz => ?_⟩, ⟨by rw [hlen]; omega, by rw [hlen]; exact h6, fun j z hz => ?_⟩, fun j h => ?_, fun j h => ?_, fun j h => ?_⟩
  · have hl := p_lt hz
    have hl : j < S.1.length := hl
    rw [hf _ (by omega) (by omega), hf _ (by omega) (by omega), hf _ (by omega) (by omega), hf _ (by omega) (by omega)]; exact l3 j z hz
  · have hl := p_lt hz
    have hl : j < (S.2.1.eraseIdx k).length := hl
    have hz : (S.2.1.eraseIdx k)[j]? = some z := hz
    rw [hlen] at hl
    rw [List.getElem?_eraseIdx] at hz
    by_cases hj : j < k
    · rw [if_pos hj] at hz
      rw [hs _ (by omega), hs _ (by omega), if_neg (by omega), if_neg (by omega)]
      exact k3 j z hz
    · rw [if_neg hj] at hz
      rw [hs _ (by omega), hs _ (by omega), if_pos (by omega), if_pos (by omega)]
      exact k3 (j + 1) z hz
  · rw [hf _ (by omega) (by omega)]; exact w1 j h
  · rw [hf _ (by omega) (by omega)]; exact w2 j h
  · rw [hf _ (by omega) (by omega)]; exact w3 j h
theorem q_closes {S : cr_S} {v : cr_V} (hM : mdR S (v 0)) {k : Nat} (hk : k < S.2.1.length) : ∃ v', f_X7_closes v (nI k) = some v' ∧ mdR (S.1, S.2.1.eraseIdx k, S.2.2) (v' 0) ∧ sameC [0] v v' := by
  obtain ⟨k1, k2, k3⟩ := id hM.2.1
  have hi : (69 : Int32) + 2 * nI k = nI (69 + 2 * k) := by rw [show (69 : Int32) = nI 69 from rfl, show (2 : Int32) = nI 2 from rfl, pk_mul, nI_add]
  rw [f_X7_closes, hi]
  obtain ⟨v', e1, e2, e3⟩ := q_closes_18 (e := 69 + 2 * (S.2.1.length - 1)) (by omega) 10100 (69 + 2 * k) (cr_a v 0 7 (v 0 7 - 1)) (by omega) (by omega) (by omega) (by
    rw [cr_as, pk_us, k2, q_pr (by omega), show (69 : Int32) = nI 69 from rfl, show (2 : Int32) = nI 2 from rfl, pk_mul, nI_add])
  refine ⟨v', e1, q_eraseK hM hk ?_ fun t ht => ?_, sameC.tr (sameC.c (by simp)) e3 (fun c h => h) (fun c h => h)⟩
  · rw [e2, if_neg (by omega), cr_as, pk_us, k2, q_pr (by omega)]
  · rw [e2, cr_as]
    by_cases hc : 69 + 2 * k ≤ t ∧ t < 69 + 2 * (S.2.1.length - 1)
    · rw [if_pos hc, if_pos hc, pk_un (by omega)]
    · rw [if_neg hc, if_neg hc, pk_un ht]
def s_takes (L : List cr_Lot) (k : Nat) (b : Int32) : List cr_Lot := if (s_get L k).2.1 - b = 0 then (L.set k (s_less (s_get L k) b)).eraseIdx k else L.set k (s_less (s_get L k) b)
theorem q_takes {S : cr_S} {v : cr_V} (hM : mdR S (v 0)) {n b : Int32} {k : Nat} (hi : cr_idx S.1 n = some k) : ∃ v', f_X7_takes v n b = some v' ∧ mdR (s_takes S.1 k b, S.2) (v' 0) ∧ sameC [0] v v' := by
  obtain ⟨x, hx, hn⟩ := cr_idx_some hi
  have hl := p_lt hx
  have h12 := hM.1.1
  obtain ⟨a1, a2, a3, a4⟩ := hM.1.2.2 k x hx
  have i1 : ((17 : Int32) + 4 * nI k) + 1 = nI (18 + 4 * k) := by rw [show (1 : Int32) = nI 1 from rfl, q_ix]; congr 1; omega
  have hM2 : mdR (S.1.set k (s_less x b), S.2) ((cr_a v 0 (18 + 4 * k) (v 0 (18 + 4 * k) - b)) 0) := by
    refine q_setM hM hx ⟨?_, ?_, ?_, ?_⟩ (fun t ht => ?_)
    · rw [cr_as, pk_un (by omega)]; exact a1
    · rw [cr_as, pk_us, a2]; rfl
    · rw [cr_as, pk_un (by omega)]; exact a3
    · rw [cr_as, pk_un (by omega)]; exact a4
    · rw [cr_as, pk_un (by omega)]
  have hx2 : (S.1.set k (s_less x b))[k]? = some (s_less x b) := List.getElem?_set_self hl
  unfold s_takes
  rw [s_get_of hx, f_X7_takes, q_placeOf hM.1, hi, Option.bind_some, s_enc, i1, if_pos (cr_inn (by omega) (by omega)), cr_xn (by omega), q_of1 hM2.1 hx2, Option.bind_some]
  show ∃ v', (if x.2.1 - b = 0 then _ else _) = some v' ∧ _
  by_cases hz : x.2.1 - b = 0
  · rw [if_pos hz, if_pos hz]
    have hle : (S.1.set k (s_less x b)).length = S.1.length := List.length_set ..
    have h6 := hM2.1.2.1
    rw [hle] at h6
    have hu : sameC [0] v (cr_a v 0 (18 + 4 * k) (v 0 (18 + 4 * k) - b)) := sameC.c (by simp)
    generalize cr_a v 0 (18 + 4 * k) (v 0 (18 + 4 * k) - b) = u at *
    obtain ⟨v', e1, e2, e3⟩ := q_takes_51 (e := 17 + 4 * (S.1.length - 1)) (by omega) 10100 (17 + 4 * k) (cr_a u 0 6 (u 0 6 - 1)) (by omega) (by omega) (by omega) (by
      rw [cr_as, pk_us, h6, q_pr (by omega), show (17 : Int32) = nI 17 from rfl, show (4 : Int32) = nI 4 from rfl, pk_mul, nI_add])
    rw [q_ix0]
    refine ⟨v', e1, q_eraseM hM2 (by rw [hle]; exact hl) ?_ fun t ht => ?_, sameC.tr hu (sameC.tr (es := [0]) (sameC.c (cs := [0]) (by simp)) e3 (fun c h => h) (fun c h => h)) (fun c h => h) (fun c h => h)⟩
    · rw [e2, if_neg (by omega), cr_as, pk_us, h6, q_pr (by omega), hle]
    · rw [e2, cr_as, hle]
      by_cases hc : 17 + 4 * k ≤ t ∧ t < 17 + 4 * (S.1.length - 1)
      · rw [if_pos hc, if_pos hc, pk_un (by omega)]
      · rw [if_neg hc, if_neg hc, pk_un ht]
  · rw [if_neg hz, if_neg hz]
    exact ⟨_, rfl, hM2, sameC.c (by simp)⟩
