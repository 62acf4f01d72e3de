/-! the model -/
theorem cr_cc (v : cr_V) (c : Nat) (f g : Nat → Int32) : cr_c (cr_c v c f) c g = cr_c v c g := by funext k; simp only [cr_ce]; split <;> rfl
theorem cr_cs (v : cr_V) (c : Nat) (f : Nat → Int32) : cr_c v c f c = f := by rw [cr_ce, if_pos rfl]
def sameC (cs : List Nat) (v v' : cr_V) : Prop := ∀ c, c ∉ cs → v' c = v c
theorem sameC.rf {cs : List Nat} {v : cr_V} : sameC cs v v := fun _ _ => rfl
theorem sameC.tr {cs ds es : List Nat} {u v w : cr_V} (h : sameC cs u v) (k : sameC ds v w) (h1 : ∀ c, c ∈ cs → c ∈ es) (h2 : ∀ c, c ∈ ds → c ∈ es) : sameC es u w := fun c hc => (k c (fun z => hc (h2 c z))).trans (h c (fun z => hc (h1 c z)))
theorem sameC.c {v : cr_V} {c : Nat} {f : Nat → Int32} {cs : List Nat} (h : c ∈ cs) : sameC cs v (cr_c v c f) := fun k hk => by rw [cr_ce, if_neg (fun e => hk (by rw [e]; exact h))]
theorem q_ix (j w : Nat) : (17 : Int32) + 4 * nI j + nI w = nI (17 + 4 * j + w) := by rw [show (17 : Int32) = nI 17 from rfl, show (4 : Int32) = nI 4 from rfl, pk_mul, nI_add, nI_add]
theorem q_of {v : cr_V} {j w : Nat} (h : 17 + 4 * j + w < 81) : f_X7_of v (nI j) (nI w) = some (v 0 (17 + 4 * j + w)) := by
  rw [f_X7_of, q_ix, if_pos (cr_inn h (by omega)), cr_xn (by omega)]
theorem q_of0 {v : cr_V} {L : List cr_Lot} (hL : mdL L (v 0)) {j : Nat} {x : cr_Lot} (hx : L[j]? = some x) : f_X7_of v (nI j) 0 = some x.1 := by
  have h1 := hL.1; have h2 := p_lt hx
  rw [show (0 : Int32) = nI 0 from rfl, q_of (by omega)]; exact congrArg some (hL.2.2 j x hx).1
theorem q_of1 {v : cr_V} {L : List cr_Lot} (hL : mdL L (v 0)) {j : Nat} {x : cr_Lot} (hx : L[j]? = some x) : f_X7_of v (nI j) 1 = some x.2.1 := by
  have h1 := hL.1; have h2 := p_lt hx
  rw [show (1 : Int32) = nI 1 from rfl, q_of (by omega), show 17 + 4 * j + 1 = 18 + 4 * j by omega]; exact congrArg some (hL.2.2 j x hx).2.1
theorem q_of2 {v : cr_V} {L : List cr_Lot} (hL : mdL L (v 0)) {j : Nat} {x : cr_Lot} (hx : L[j]? = some x) : f_X7_of v (nI j) 2 = some x.2.2.1 := by
  have h1 := hL.1; have h2 := p_lt hx
  rw [show (2 : Int32) = nI 2 from rfl, q_of (by omega), show 17 + 4 * j + 2 = 19 + 4 * j by omega]; exact congrArg some (hL.2.2 j x hx).2.2.1
theorem q_of3 {v : cr_V} {L : List cr_Lot} (hL : mdL L (v 0)) {j : Nat} {x : cr_Lot} (hx : L[j]? = some x) : f_X7_of v (nI j) 3 = some x.2.2.2 := by
  have h1 := hL.1; have h2 := p_lt hx
  rw [show (3 : Int32) = nI 3 from rfl, q_of (by omega), show 17 + 4 * j + 3 = 20 + 4 * j by omega]; exact congrArg some (hL.2.2 j x hx).2.2.2
theorem q_in (x a b : Int32) : f_X7_in x a b = some (if s_in x a b then 1 else 0) := by
  unfold f_X7_in s_in
  by_cases h1 : x < a
  · simp [h1]
  · by_cases h2 : b < x <;> simp [h1, h2]
theorem q_placeOf_2 {L : List cr_Lot} {v : cr_V} (hL : mdL L (v 0)) (x1 : Int32) : ∀ (n k : Nat), k ≤ L.length → L.length - k < n → (∀ j y, j < k → L[j]? = some y → ¬ y.1 = x1) →
    f_X7_placeOf_2 n v x1 (nI k) = some (s_enc (-2000000004) (cr_idx L x1)) := by
  obtain ⟨l1, l2, l3⟩ := id hL
  intro n
  induction n with
  | zero => intro k h1 h2; omega
  | succ n ih =>
    intro k hk hn h
    rw [f_X7_placeOf_2, l2]
    by_cases hk2 : k = L.length
    · rw [if_pos (show nI L.length ≤ nI k from c_le L.length k rfl rfl (by omega) (by omega)), cr_idx_none (fun j y hy => h j y (by have := p_lt hy; omega) hy)]; rfl
    · have hx : L[k]? = some L[k] := List.getElem?_eq_getElem (by omega)
      rw [if_neg (show ¬ nI L.length ≤ nI k from c_nle L.length k rfl rfl (by omega) (by omega)), q_of0 hL hx, Option.bind_some, nI_1]
      by_cases he : L[k].1 = x1
      · rw [if_pos he, cr_idx_at hx he h]; rfl
      · rw [if_neg he]
        refine ih (k + 1) (by omega) (by omega) fun j y hj hy => ?_
        by_cases hjk : j = k
        · subst hjk
          rw [hx] at hy; cases hy; exact he
        · exact h j y (by omega) hy
theorem q_placeOf {L : List cr_Lot} {v : cr_V} (hL : mdL L (v 0)) (x1 : Int32) : f_X7_placeOf v x1 = some (s_enc (-2000000004) (cr_idx L x1)) :=
  q_placeOf_2 hL x1 10100 0 (by omega) (by have := hL.1; omega) (fun j y hj => by omega)
theorem q_isLot {L : List cr_Lot} {v : cr_V} (hL : mdL L (v 0)) (x1 : Int32) : f_X7_isLot v x1 = some (if (cr_idx L x1).isSome then 1 else 0) := by
  rw [f_X7_isLot, q_placeOf hL, Option.bind_some]
  cases h : cr_idx L x1 with
  | none => rfl
  | some k =>
    have := cr_idx_lt h
    have := hL.1
    rw [s_enc, if_neg (nI_pos (by omega))]; rfl
theorem q_cupAt {L : List cr_Lot} {v : cr_V} (hL : mdL L (v 0)) {j : Nat} {x : cr_Lot} (hx : L[j]? = some x) (m : Int32) : f_X7_cupAt v (nI j) m = some (s_cup x m) := by
  rw [f_X7_cupAt, q_of2 hL hx, Option.bind_some, q_of3 hL hx, Option.bind_some, p_if]; rfl
theorem q_cupOf {L : List cr_Lot} {v : cr_V} (hL : mdL L (v 0)) {j : Nat} {x : cr_Lot} (hx : L[j]? = some x) : f_X7_cupOf v (nI j) = some (s_cup x (v 0 0)) := by
  rw [f_X7_cupOf, q_cupAt hL hx, Option.bind_some]
theorem q_bandOf (c : Int32) : f_X7_bandOf c = some (nI (s_band c)) := by
  unfold f_X7_bandOf s_band
  split <;> (try split) <;> (try split) <;> rfl
theorem q_lateAt {L : List cr_Lot} {v : cr_V} (hL : mdL L (v 0)) {j : Nat} {x : cr_Lot} (hx : L[j]? = some x) (m : Int32) : f_X7_lateAt v (nI j) m = some (s_late x m) := by
  rw [f_X7_lateAt, q_of3 hL hx, Option.bind_some, p_if]; rfl
theorem q_paidAt {L : List cr_Lot} {w st g : Nat → Int32} {v : cr_V} (hL : mdL L (v 0)) (hG : mdG w st g (v 0)) {j : Nat} {x : cr_Lot} (hx : L[j]? = some x) (price m : Int32) : f_X7_paidAt v (nI j) price m = some (s_pay st x price m) := by
  have e2 : v 0 10 = st 2 := hG.2.1 2 (by omega)
  have e3 : v 0 11 = st 3 := hG.2.1 3 (by omega)
  rw [f_X7_paidAt, q_cupAt hL hx, Option.bind_some, q_lateAt hL hx, Option.bind_some, e2, e3, p_if]; rfl
theorem q_gainAt {L : List cr_Lot} {w st g : Nat → Int32} {v : cr_V} (hL : mdL L (v 0)) (hG : mdG w st g (v 0)) {j : Nat} {x : cr_Lot} (hx : L[j]? = some x) (price m : Int32) : f_X7_gainAt v (nI j) price m = some (s_gain w st x price m) := by
  have hb := s_band_lt (s_cup x m)
  rw [f_X7_gainAt, q_paidAt hL hG hx, Option.bind_some, q_cupAt hL hx, Option.bind_some, q_bandOf, Option.bind_some, show (13 : Int32) = nI 13 from rfl, nI_add, if_pos (cr_inn (by omega) (by omega)), cr_xn (by omega), hG.1 _ hb]; rfl
theorem q_makes {S : cr_S} {v : cr_V} (hM : mdR S (v 0)) (x1 x2 x3 : Int32) (h12 : S.1.length < 12) : ∃ v', f_X7_makes v x1 x2 x3 = some (S.2.2.2.2 5, v') ∧ mdR (S.1 ++ [(S.2.2.2.2 5, x1, x2, x3)], S.2.1, S.2.2.1, S.2.2.2.1, s_up5 S.2.2.2.2) (v' 0) ∧ sameC [0] v v' := by
  obtain ⟨⟨l1, l2, l3⟩, ⟨k1, k2, k3⟩, w1, w2, w3⟩ := hM
  have i0 : ((17 : Int32) + 4 * nI S.1.length) + 0 = nI (17 + 4 * S.1.length) := q_ix _ 0
  have i1 : ((17 : Int32) + 4 * nI S.1.length) + 1 = nI (17 + 4 * S.1.length + 1) := q_ix _ 1
  have i2 : ((17 : Int32) + 4 * nI S.1.length) + 2 = nI (17 + 4 * S.1.length + 2) := q_ix _ 2
  have i3 : ((17 : Int32) + 4 * nI S.1.length) + 3 = nI (17 + 4 * S.1.length + 3) := q_ix _ 3
  rw [f_X7_makes, l2, i0, i1, i2, i3, if_pos (cr_inn (by omega) (by omega)), if_pos (cr_inn (by omega) (by omega)), if_pos (cr_inn (by omega) (by omega)), if_pos (cr_inn (by omega) (by omega)), cr_xn (by omega), cr_xn (by omega), cr_xn (by omega), cr_xn (by omega)]
  generalize hp : 17 + 4 * S.1.length = p
  have h5 : v 0 5 = S.2.2.2.2 5 := w3 5 (by omega)
  simp only [cr_cc, cr_cs]
  have e6 : ∀ a b c d : Int32, upd (upd (upd (upd (v 0) p a) (p + 1) b) (p + 2) c) (p + 3) d 6 = nI S.1.length := fun a b c d => by
    simp [cr_up, l2, show ¬ 6 = p by omega, show ¬ 6 = p + 1 by omega, show ¬ 6 = p + 2 by omega, show ¬ 6 = p + 3 by omega]
  have e5 : ∀ a b c d e : Int32, upd (upd (upd (upd (upd (v 0) p a) (p + 1) b) (p + 2) c) (p + 3) d) 6 e 5 = S.2.2.2.2 5 := fun a b c d e => by
    simp [cr_up, h5, show ¬ 5 = p by omega, show ¬ 5 = p + 1 by omega, show ¬ 5 = p + 2 by omega, show ¬ 5 = p + 3 by omega]
  rw [e6, e5]
  have ed : upd (upd (upd (upd (upd (upd (v 0) p (v 0 5)) (p + 1) x1) (p + 2) x2) (p + 3) x3) 6 (nI S.1.length + 1)) 5 (S.2.2.2.2 5 + 1) 5 = S.2.2.2.2 5 + 1 := by simp [cr_up]
  rw [ed, Int32.add_sub_cancel, nI_1, h5]
  refine ⟨_, rfl, ⟨⟨by rw [List.length_append]; simp; omega, ?_, fun j x hx => ?_⟩, ⟨k1, ?_, fun j x hx => ?_⟩, fun j hj => ?_, fun j hj => ?_, fun j hj => ?_⟩, sameC.c (by simp)⟩
  · simp [cr_ce, cr_up, List.length_append]
  · by_cases hj : j < S.1.length
    · rw [List.getElem?_append_left hj] at hx
      obtain ⟨a1, a2, a3, a4⟩ := l3 j x hx
      refine ⟨?_, ?_, ?_, ?_⟩
      · rw [← a1]; rw [cr_cs, pk_un (by omega), pk_un (by omega), pk_un (by omega), pk_un (by omega), pk_un (by omega), pk_un (by omega)]
      · rw [← a2]; rw [cr_cs, pk_un (by omega), pk_un (by omega), pk_un (by omega), pk_un (by omega), pk_un (by omega), pk_un (by omega)]
      · rw [← a3]; rw [cr_cs, pk_un (by omega), pk_un (by omega), pk_un (by omega), pk_un (by omega), pk_un (by omega), pk_un (by omega)]
      · rw [← a4]; rw [cr_cs, pk_un (by omega), pk_un (by omega), pk_un (by omega), pk_un (by omega), pk_un (by omega), pk_un (by omega)]
    · have hl := p_lt hx
      rw [List.length_append] at hl
      simp at hl
      have hj2 : j = S.1.length := by omega
      subst hj2
      rw [List.getElem?_append_right (Nat.le_refl _)] at hx
      simp at hx
      subst hx
      have hq : p = 17 + 4 * S.1.length := hp.symm
      refine ⟨?_, ?_, ?_, ?_⟩
      · rw [← hq]; rw [cr_cs, pk_un (by omega), pk_un (by omega), pk_un (by omega), pk_un (by omega), pk_un (by omega), pk_us]
      · rw [show 18 + 4 * S.1.length = p + 1 by omega]; rw [cr_cs, pk_un (by omega), pk_un (by omega), pk_un (by omega), pk_un (by omega), pk_us]
      · rw [show 19 + 4 * S.1.length = p + 2 by omega]; rw [cr_cs, pk_un (by omega), pk_un (by omega), pk_un (by omega), pk_us]
      · rw [show 20 + 4 * S.1.length = p + 3 by omega]; rw [cr_cs, pk_un (by omega), pk_un (by omega), pk_us]
  · rw [← k2]; rw [cr_cs, pk_un (by omega), pk_un (by omega), pk_un (by omega), pk_un (by omega), pk_un (by omega), pk_un (by omega)]
  · have hl := p_lt hx
    obtain ⟨a1, a2⟩ := k3 j x hx
    refine ⟨?_, ?_⟩
    · rw [← a1]; rw [cr_cs, pk_un (by omega), pk_un (by omega), pk_un (by omega), pk_un (by omega), pk_un (by omega), pk_un (by omega)]
    · rw [← a2]; rw [cr_cs, pk_un (by omega), pk_un (by omega), pk_un (by omega), pk_un (by omega), pk_un (by omega), pk_un (by omega)]
  · rw [← w1 j hj]; rw [cr_cs, pk_un (by omega), pk_un (by omega), pk_un (by omega), pk_un (by omega), pk_un (by omega), pk_un (by omega)]
  · rw [← w2 j hj]; rw [cr_cs, pk_un (by omega), pk_un (by omega), pk_un (by omega), pk_un (by omega), pk_un (by omega), pk_un (by omega)]
  · by_cases hj5 : j = 5
    · subst hj5; simp [cr_ce, cr_up, s_up5]
    · show _ = s_up5 S.2.2.2.2 j
      rw [show s_up5 S.2.2.2.2 j = S.2.2.2.2 j from by simp [s_up5, cr_up, hj5], ← w3 j hj]
      rw [cr_cs, pk_un (by omega), pk_un (by omega), pk_un (by omega), pk_un (by omega), pk_un (by omega), pk_un (by omega)]
