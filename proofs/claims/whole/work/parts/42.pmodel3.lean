/-! the model's past -/
theorem nI_inj {a b : Nat} (ha : a < 2 ^ 31) (hb : b < 2 ^ 31) (h : nI a = nI b) : a = b := by
  rcases Nat.lt_trichotomy a b with q | q | q
  · have := nI_lt q hb; rw [h] at this; exact (Int32.lt_irrefl this).elim
  · exact q
  · have := nI_lt q ha; rw [h] at this; exact (Int32.lt_irrefl this).elim
theorem md_congr {S : cr_S} {s s' : Nat → Int32} (hM : mdR S s) (h : ∀ t, t < 81 → s' t = s t) : mdR S s' := by
  obtain ⟨⟨l1, l2, l3⟩, ⟨k1, k2, k3⟩, w1, w2, w3⟩ := hM
  refine ⟨⟨l1, by rw [h 6 (by omega)]; exact l2, fun j z hz => ?_⟩, ⟨k1, by rw [h 7 (by omega)]; exact k2, fun j z hz => ?_⟩, fun j hj => ?_, fun j hj => ?_, fun j hj => ?_⟩
  · have hl := p_lt hz
    rw [h _ (by omega), h _ (by omega), h _ (by omega), h _ (by omega)]; exact l3 j z hz
  · have hl := p_lt hz
    rw [h _ (by omega), h _ (by omega)]; exact k3 j z hz
  · rw [h _ (by omega)]; exact w1 j hj
  · rw [h _ (by omega)]; exact w2 j hj
  · rw [h _ (by omega)]; exact w3 j hj
def mdP (H : List cr_S) (v : cr_V) : Prop := H.length ≤ 4 ∧ v 3 0 = nI H.length ∧ ∀ i T, H[i]? = some T → mdR T (fun t => v 1 (81 * i + t))
def s_push (H : List cr_S) (S : cr_S) : List cr_S := if H.length = 4 then H.tail ++ [S] else H ++ [S]
theorem q_copies_2 (p0 : cr_V) : ∀ (n k : Nat) (v : cr_V), k ≤ 81 → 81 - k < n → ∃ v', f_X7_copies_2 n p0 v (nI k) = some v' ∧ (∀ t, v' 0 t = if k ≤ t ∧ t < 81 then p0 0 t else v 0 t) ∧ sameC [0] v v' := by
  intro n
  induction n with
  | zero => intro k v a b; omega
  | succ n ih =>
    intro k v hk hn
    rw [f_X7_copies_2]
    by_cases hke : 81 ≤ k
    · rw [if_pos (show (81 : Int32) ≤ nI k from c_le 81 k rfl rfl (by omega) (by omega))]
      exact ⟨v, rfl, fun t => by rw [if_neg (by omega)], sameC.rf⟩
    · rw [if_neg (show ¬ (81 : Int32) ≤ nI k from c_nle 81 k rfl rfl (by omega) (by omega)), if_pos (cr_inn (by omega) (by omega)), cr_xn (by omega), nI_1]
      obtain ⟨v', e1, e2, e3⟩ := ih (k + 1) (cr_a v 0 k (p0 0 k)) (by omega) (by omega)
      refine ⟨v', e1, fun t => ?_, sameC.tr (sameC.c (by simp)) e3 (fun c h => h) (fun c h => h)⟩
      rw [e2, cr_as]
      by_cases h1 : k + 1 ≤ t ∧ t < 81
      · rw [if_pos h1, if_pos (by omega)]
      · rw [if_neg h1]
        by_cases h2 : t = k
        · subst h2; rw [pk_us, if_pos (by omega)]
        · rw [pk_un h2, if_neg (by omega)]
theorem q_copies (p0 p1 : cr_V) : ∃ v', f_X7_copies p0 p1 = some v' ∧ (∀ t, v' 0 t = if t < 81 then p0 0 t else p1 0 t) := by
  obtain ⟨v', e1, e2, e3⟩ := q_copies_2 p0 10100 0 p1 (by omega) (by omega)
  exact ⟨v', e1, fun t => by rw [e2]; simp⟩
theorem q_changes_18 : ∀ (n k : Nat) (v : cr_V), k ≤ 243 → 243 - k < n → ∃ v', f_X7_changes_18 n v (nI k) = f_X7_changes_56 v' ∧ (∀ t, v' 1 t = if k ≤ t ∧ t < 243 then v 1 (t + 81) else v 1 t) ∧ v' 3 0 = v 3 0 - 1 ∧ sameC [1, 3] v v' := by
  intro n
  induction n with
  | zero => intro k v a b; omega
  | succ n ih =>
    intro k v hk hn
    rw [f_X7_changes_18]
    by_cases hke : 243 ≤ k
    · rw [if_pos (show (243 : Int32) ≤ nI k from c_le 243 k rfl rfl (by omega) (by omega))]
      exact ⟨_, rfl, fun t => by rw [if_neg (by omega)]; simp [cr_ce], by simp [cr_ce], sameC.c (by simp)⟩
    · rw [if_neg (show ¬ (243 : Int32) ≤ nI k from c_nle 243 k rfl rfl (by omega) (by omega)), show (81 : Int32) = nI 81 from rfl, nI_add, if_pos (cr_inn (by omega) (by omega)), if_pos (cr_inn (by omega) (by omega)), cr_xn (by omega), cr_xn (by omega), nI_1]
      obtain ⟨v', e1, e2, e3, e4⟩ := ih (k + 1) (cr_a v 1 k (v 1 (k + 81))) (by omega) (by omega)
      refine ⟨v', e1, fun t => ?_, by rw [e3]; simp [cr_ce], sameC.tr (sameC.c (cs := [1, 3]) (by simp)) e4 (fun c h => h) (fun c h => h)⟩
      rw [e2, cr_as]
      by_cases h1 : k + 1 ≤ t ∧ t < 243
      · rw [if_pos h1, if_pos (by omega), pk_un (by omega)]
      · rw [if_neg h1]
        by_cases h2 : t = k
        · subst h2; rw [pk_us, if_pos (by omega)]
        · rw [pk_un h2, if_neg (by omega)]
theorem q_changes_58 {m : Nat} (hm : m ≤ 3) : ∀ (n k : Nat) (v : cr_V), k ≤ 81 → 81 - k < n → v 3 0 = nI m → ∃ v', f_X7_changes_58 n v (nI k) = some v' ∧ (∀ t, v' 1 t = if 81 * m + k ≤ t ∧ t < 81 * m + 81 then v 0 (t - 81 * m) else v 1 t) ∧ v' 3 0 = nI (m + 1) ∧ sameC [1, 3] v v' := by
  intro n
  induction n with
  | zero => intro k v a b; omega
  | succ n ih =>
    intro k v hk hn h3
    rw [f_X7_changes_58, h3, show (81 : Int32) * nI m + nI k = nI (81 * m + k) from by rw [show (81 : Int32) = nI 81 from rfl, pk_mul, nI_add]]
    by_cases hke : 81 ≤ k
    · rw [if_pos (show (81 : Int32) ≤ nI k from c_le 81 k rfl rfl (by omega) (by omega))]
      exact ⟨_, rfl, fun t => by rw [if_neg (by omega)]; simp [cr_ce], by simp [cr_ce, nI_1], sameC.c (by simp)⟩
    · rw [if_neg (show ¬ (81 : Int32) ≤ nI k from c_nle 81 k rfl rfl (by omega) (by omega)), if_pos (cr_inn (by omega) (by omega)), if_pos (cr_inn (by omega) (by omega)), cr_xn (by omega), cr_xn (by omega), nI_1]
      obtain ⟨v', e1, e2, e3, e4⟩ := ih (k + 1) (cr_a v 1 (81 * m + k) (v 0 k)) (by omega) (by omega) (by simpa [cr_ce] using h3)
      refine ⟨v', e1, fun t => ?_, e3, sameC.tr (sameC.c (cs := [1, 3]) (by simp)) e4 (fun c h => h) (fun c h => h)⟩
      rw [e2, cr_as, show cr_a v 1 (81 * m + k) (v 0 k) 0 = v 0 from by funext z; simp [cr_ce]]
      by_cases h1 : 81 * m + (k + 1) ≤ t ∧ t < 81 * m + 81
      · rw [if_pos h1, if_pos (by omega)]
      · rw [if_neg h1]
        by_cases h2 : t = 81 * m + k
        · subst h2; rw [pk_us, if_pos (by omega), show 81 * m + k - 81 * m = k by omega]
        · rw [pk_un h2, if_neg (by omega)]
theorem q_changes_56 {H : List cr_S} {S : cr_S} {v : cr_V} (hP : mdP H v) (hM : mdR S (v 0)) (h4 : H.length < 4) : ∃ v', f_X7_changes_56 v = some v' ∧ mdP (H ++ [S]) v' ∧ sameC [1, 3] v v' := by
  obtain ⟨p1, p2, p3⟩ := hP
  obtain ⟨v', e1, e2, e3, e4⟩ := q_changes_58 (m := H.length) (by omega) 10100 0 v (by omega) (by omega) p2
  refine ⟨v', e1, ⟨by rw [List.length_append]; simp; omega, by rw [e3, List.length_append]; rfl, fun i T hT => ?_⟩, e4⟩
  have hl := p_lt hT
  rw [List.length_append] at hl
  simp only [List.length_cons, List.length_nil] at hl
  by_cases hi : i < H.length
  · rw [List.getElem?_append_left hi] at hT
    exact md_congr (p3 i T hT) fun t ht => by rw [e2, if_neg (by omega)]
  · have hi2 : i = H.length := by omega
    subst hi2
    rw [List.getElem?_append_right (Nat.le_refl _)] at hT
    simp at hT
    subst hT
    exact md_congr hM fun t ht => by rw [e2, if_pos (by omega), show 81 * H.length + t - 81 * H.length = t by omega]
theorem q_changes {H : List cr_S} {S : cr_S} {v : cr_V} (hP : mdP H v) (hM : mdR S (v 0)) (h0 : v 4 0 = 0) : ∃ v', f_X7_changes v = some v' ∧ mdP (s_push H S) v' ∧ sameC [1, 3] v v' := by
  rw [f_X7_changes, if_pos h0, hP.2.1]
  unfold s_push
  by_cases h4 : H.length = 4
  · rw [if_pos h4, if_pos (show nI H.length = 4 by rw [h4]; rfl)]
    obtain ⟨v1, e1, e2, e3, e4⟩ := q_changes_18 10100 0 v (by omega) (by omega)
    have hP1 : mdP H.tail v1 := by
      refine ⟨by rw [List.length_tail]; omega, by rw [e3, hP.2.1, q_pr (by omega), List.length_tail], fun i T hT => ?_⟩
      have hl := p_lt hT
      rw [List.length_tail] at hl
      rw [List.getElem?_tail] at hT
      exact md_congr (hP.2.2 (i + 1) T hT) fun t ht => by
        rw [e2, if_pos (by omega), show 81 * i + t + 81 = 81 * (i + 1) + t by omega]
    obtain ⟨v', a1, a2, a3⟩ := q_changes_56 (S := S) hP1 (by rw [e4 0 (by simp)]; exact hM) (by rw [List.length_tail]; omega)
    exact ⟨v', by rw [show (0 : Int32) = nI 0 from rfl, e1]; exact a1, a2, sameC.tr e4 a3 (fun c h => h) (fun c h => h)⟩
  · rw [if_neg h4, if_neg (show ¬ nI H.length = 4 from fun e => h4 (nI_inj (b := 4) (by have := hP.1; omega) (by omega) e))]
    exact q_changes_56 hP hM (by have := hP.1; omega)
theorem q_changes1 {v : cr_V} (h0 : v 4 0 ≠ 0) : f_X7_changes v = some v := by rw [f_X7_changes, if_neg h0]
