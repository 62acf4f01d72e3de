def s_cup (x : cr_Lot) (m : Int32) : Int32 := if 60 ≤ x.2.2.1 - (m - x.2.2.2) / 4 then x.2.2.1 - (m - x.2.2.2) / 4 else 60
def s_late (x : cr_Lot) (m : Int32) : Int32 := if 0 ≤ m - x.2.2.2 - 3 then m - x.2.2.2 - 3 else 0
def s_pay (st : Nat → Int32) (x : cr_Lot) (price m : Int32) : Int32 := if 1 ≤ price + (s_cup x m - 80) * st 2 - st 3 * s_late x m then price + (s_cup x m - 80) * st 2 - st 3 * s_late x m else 1
def s_band (c : Int32) : Nat := if 70 ≤ c then (if 80 ≤ c then (if 90 ≤ c then 3 else 2) else 1) else 0
def s_gain (w st : Nat → Int32) (x : cr_Lot) (price m : Int32) : Int32 := s_pay st x price m - w (s_band (s_cup x m))
theorem s_band_lt (c : Int32) : s_band c < 4 := by unfold s_band; split <;> (try split) <;> (try split) <;> omega
theorem p_if {α : Type} {c : Prop} [Decidable c] (a b : α) : (if c then some a else some b) = some (if c then a else b) := by split <;> rfl
theorem p_X4_cupAt {L : List cr_Lot} {vl : cr_V} (hL : crL L vl) {j : Nat} {x : cr_Lot} (hx : L[j]? = some x) (m : Int32) : f_X4_cupAt vl (nI j) m = some (s_cup x m) := by
  obtain ⟨l1, l2, l3⟩ := hL
  have hj := p_lt hx
  obtain ⟨-, -, e3, e4⟩ := l3 j x hx
  rw [f_X4_cupAt, if_pos (cr_inn (by omega) (by omega)), cr_xn (by omega), e3, e4, p_if]; rfl
theorem p_X4_late {L : List cr_Lot} {vl : cr_V} (hL : crL L vl) {j : Nat} {x : cr_Lot} (hx : L[j]? = some x) (m : Int32) : f_X4_monthsTooOld vl (nI j) m = some (s_late x m) := by
  obtain ⟨l1, l2, l3⟩ := hL
  have hj := p_lt hx
  obtain ⟨-, -, e3, e4⟩ := l3 j x hx
  rw [f_X4_monthsTooOld, if_pos (cr_inn (by omega) (by omega)), cr_xn (by omega), e4, p_if]; rfl
theorem p_X6_bandOf (c : Int32) : f_X6_bandOf c = some (nI (s_band c)) := by
  unfold f_X6_bandOf s_band
  split <;> (try split) <;> (try split) <;> rfl
theorem p_X3_payForBag {w st g : Nat → Int32} {vh vl vk : cr_V} (hH : crH w st g vh) (x : cr_Lot) (price m : Int32) : f_X3_payForBag vh vl vk price (s_cup x m) (s_late x m) = some (s_pay st x price m) := by
  rw [f_X3_payForBag, hH.2.1 2 (by omega), hH.2.1 3 (by omega), p_if]; rfl
-- the empty ones go
def s_full (x : cr_Lot) : Bool := !decide (x.2.1 ≤ 0)
theorem p_take {α : Type} {L : List α} {k : Nat} (h : k < L.length) : L.take (k + 1) = L.take k ++ [L[k]] := by rw [List.take_add_one, List.getElem?_eq_getElem h]; rfl
theorem p_X4_dropEmpty_4 {L : List cr_Lot} (hl : L.length ≤ 12) (md : Int32) : ∀ (n row left : Nat) (vl : cr_V), row ≤ L.length → L.length - row < n → left = ((L.take row).filter s_full).length → vl 4 0 = nI L.length → vl 5 0 = md →
    (∀ j x, ((L.take row).filter s_full)[j]? = some x → vl 0 j = x.1 ∧ vl 1 j = x.2.1 ∧ vl 2 j = x.2.2.1 ∧ vl 3 j = x.2.2.2) → (∀ j x, row ≤ j → L[j]? = some x → vl 0 j = x.1 ∧ vl 1 j = x.2.1 ∧ vl 2 j = x.2.2.1 ∧ vl 3 j = x.2.2.2) →
    ∃ v, f_X4_dropEmpty_4 n vl (nI left) (nI row) = some v ∧ crL (L.filter s_full) v ∧ v 5 0 = md := by
  intro n
  induction n with
  | zero => intro row left vl h1 h2; omega
  | succ n ih =>
    intro row left vl hk hn hleft hs hm h1 h2
    have hll : left ≤ row := by rw [hleft]; refine Nat.le_trans (List.length_filter_le _ _) ?_; rw [List.length_take]; omega
    rw [f_X4_dropEmpty_4, hs]
    by_cases hk2 : row = L.length
    · rw [if_pos (show nI L.length ≤ nI row from c_le L.length row rfl rfl (by omega) (by omega))]
      subst hk2
      rw [List.take_length] at hleft h1
      refine ⟨_, rfl, ⟨by omega, ?_, fun j x hx => ?_⟩, ?_⟩
      · simp [cr_ce, hleft]
      · simpa [cr_ce] using h1 j x hx
      · simpa [cr_ce] using hm
    · have hrow : row < L.length := by omega
      have hx : L[row]? = some L[row] := List.getElem?_eq_getElem hrow
      obtain ⟨a1, a2, a3, a4⟩ := h2 row _ (Nat.le_refl _) hx
      rw [if_neg (show ¬ nI L.length ≤ nI row from c_nle L.length row rfl rfl (by omega) (by omega)), if_pos (cr_inn (by omega) (by omega)), cr_xn (show row < 2 ^ 31 by omega), a2]
      have hf : (L.take (row + 1)).filter s_full = (L.take row).filter s_full ++ (if s_full L[row] then [L[row]] else []) := by
        rw [p_take hrow, List.filter_append]
        congr 1
        simp only [List.filter_cons, List.filter_nil]
      by_cases he : L[row].2.1 ≤ 0
      · rw [if_pos he, f_X4_dropEmpty_72, nI_1]
        have hsf : s_full L[row] = false := by simp [s_full, he]
        rw [hsf] at hf
        simp at hf
        exact ih (row + 1) left vl (by omega) (by omega) (by rw [hf]; exact hleft) hs hm (by rw [hf]; exact h1) (fun j x hj => h2 j x (by omega))
      · rw [if_neg he, if_pos (cr_inn (show left < 12 by omega) (by omega)), f_X4_dropEmpty_72, nI_1, nI_1, cr_xn (show left < 2 ^ 31 by omega), a1, a3, a4]
        have hsf : s_full L[row] = true := by simp [s_full, he]
        rw [hsf] at hf
        simp at hf
        refine ih (row + 1) (left + 1) _ (by omega) (by omega) (by rw [hf, List.length_append, hleft]; rfl) (by simpa [cr_ce] using hs) (by simpa [cr_ce] using hm) (fun j x hx2 => ?_) (fun j x hj hx2 => ?_)
        · rw [hf] at hx2
          by_cases hj : j < left
          · rw [List.getElem?_append_left (by rw [← hleft]; exact hj)] at hx2
            have hne : ¬ j = left := by omega
            simpa [cr_ce, cr_up, hne] using h1 j x hx2
          · have hl2 := p_lt hx2
            rw [List.length_append, ← hleft] at hl2
            simp at hl2
            have hj2 : j = left := by omega
            subst hj2
            rw [List.getElem?_append_right (by omega), ← hleft] at hx2
            simp at hx2
            subst hx2
            simp [cr_ce, cr_up]
        · have hne : ¬ j = left := by omega
          simpa [cr_ce, cr_up, hne] using h2 j x (by omega) hx2
theorem p_X4_dropEmpty {L : List cr_Lot} {vl : cr_V} (hL : crL L vl) : ∃ v, f_X4_dropEmpty vl = some v ∧ crL (L.filter s_full) v ∧ v 5 0 = vl 5 0 :=
  p_X4_dropEmpty_4 hL.1 (vl 5 0) 10100 0 0 vl (by omega) (by have := hL.1; omega) rfl hL.2.1 rfl (fun j x h => by simp at h) (fun j x _ h => hL.2.2 j x h)
-- sums
def s_sum (f : cr_Lot → Int32) : List cr_Lot → Int32 → Int32
  | [], a => a
  | x :: l, a => s_sum f l (a + f x)
theorem p_drop {α : Type} {L : List α} {k : Nat} (h : k < L.length) : L.drop k = L[k] :: L.drop (k + 1) := List.drop_eq_getElem_cons h
theorem p_X4_allBags_4 {L : List cr_Lot} {vl : cr_V} (hL : crL L vl) : ∀ (n k : Nat) (a : Int32), k ≤ L.length → L.length - k < n → f_X4_allBags_4 n vl a (nI k) = some (s_sum (fun x => x.2.1) (L.drop k) a) := by
  obtain ⟨l1, l2, l3⟩ := hL
  intro n
  induction n with
  | zero => intro k a h1 h2; omega
  | succ n ih =>
    intro k a hk hn
    rw [f_X4_allBags_4, l2]
    by_cases hk2 : k = L.length
    · rw [if_pos (show nI L.length ≤ nI k from c_le L.length k rfl rfl (by omega) (by omega)), hk2, List.drop_length]; rfl
    · have hx : L[k]? = some L[k] := List.getElem?_eq_getElem (by omega)
      rw [if_neg (show ¬ nI L.length ≤ nI k from c_nle L.length k rfl rfl (by omega) (by omega)), if_pos (cr_inn (by omega) (by omega)), cr_xn (by omega), (l3 k _ hx).2.1, nI_1, ih (k + 1) _ (by omega) (by omega), p_drop (show k < L.length by omega)]
      rfl
theorem p_X4_allBags {L : List cr_Lot} {vl : cr_V} (hL : crL L vl) : f_X4_allBags vl = some (s_sum (fun x => x.2.1) L 0) := p_X4_allBags_4 hL 10100 0 0 (by omega) (by have := hL.1; omega)
theorem p_X4_bagsToGive_4 {L : List cr_Lot} {vl : cr_V} (hL : crL L vl) (m : Int32) : ∀ (n k : Nat) (a : Int32), k ≤ L.length → L.length - k < n → f_X4_bagsToGive_4 n vl m a (nI k) = some (s_sum (fun x => if s_cup x m < 70 then 0 else x.2.1) (L.drop k) a) := by
  obtain ⟨l1, l2, l3⟩ := id hL
  intro n
  induction n with
  | zero => intro k a h1 h2; omega
  | succ n ih =>
    intro k a hk hn
    rw [f_X4_bagsToGive_4, l2]
    by_cases hk2 : k = L.length
    · rw [if_pos (show nI L.length ≤ nI k from c_le L.length k rfl rfl (by omega) (by omega)), hk2, List.drop_length]; rfl
    · have hx : L[k]? = some L[k] := List.getElem?_eq_getElem (by omega)
      rw [if_neg (show ¬ nI L.length ≤ nI k from c_nle L.length k rfl rfl (by omega) (by omega)), p_X4_cupAt hL hx, Option.bind_some, p_drop (show k < L.length by omega), s_sum]
      by_cases hc : s_cup L[k] m < 70
      · rw [if_pos hc, f_X4_bagsToGive_32, nI_1, ih (k + 1) _ (by omega) (by omega), if_pos hc, Int32.add_zero]
      · rw [if_neg hc, if_pos (cr_inn (by omega) (by omega)), f_X4_bagsToGive_32, cr_xn (by omega), (l3 k _ hx).2.1, nI_1, ih (k + 1) _ (by omega) (by omega), if_neg hc]
theorem p_X4_bagsToGive {L : List cr_Lot} {vl : cr_V} (hL : crL L vl) (m : Int32) : f_X4_bagsToGive vl m = some (s_sum (fun x => if s_cup x m < 70 then 0 else x.2.1) L 0) := p_X4_bagsToGive_4 hL m 10100 0 0 (by omega) (by have := hL.1; omega)
