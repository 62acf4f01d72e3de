/-! the law's arrays, and what they stand for -/
def mg (g l c : cr_V) : Nat → Int32 := fun t => if t < 17 then g 0 t else if t < 69 then l 0 (t - 17) else c 0 (t - 69)
theorem mg_g {g l c : cr_V} {t : Nat} (h : t < 17) : mg g l c t = g 0 t := if_pos h
theorem mg_l {g l c : cr_V} {t : Nat} (h : t < 52) : mg g l c (17 + t) = l 0 t := by
  unfold mg; rw [if_neg (by omega), if_pos (by omega), show 17 + t - 17 = t by omega]
theorem mg_c {g l c : cr_V} {t : Nat} : mg g l c (69 + t) = c 0 t := by
  unfold mg; rw [if_neg (by omega), if_neg (by omega), show 69 + t - 69 = t by omega]
abbrev lwG (S : cr_S) (g l c : cr_V) : Prop := mdR S (mg g l c)
def ldL (L : List cr_Lot) (g l : cr_V) : Prop := L.length ≤ 12 ∧ g 0 6 = nI L.length ∧ ∀ j x, L[j]? = some x → l 0 (4 * j) = x.1 ∧ l 0 (4 * j + 1) = x.2.1 ∧ l 0 (4 * j + 2) = x.2.2.1 ∧ l 0 (4 * j + 3) = x.2.2.2
def ldK (K : List cr_Con) (g c : cr_V) : Prop := K.length ≤ 6 ∧ g 0 7 = nI K.length ∧ ∀ j x, K[j]? = some x → c 0 (2 * j) = x.1 ∧ c 0 (2 * j + 1) = x.2
theorem lwG.L {S : cr_S} {g l c : cr_V} (h : lwG S g l c) : ldL S.1 g l := by
  obtain ⟨⟨l1, l2, l3⟩, -⟩ := h
  refine ⟨l1, by rw [mg_g (by omega)] at l2; exact l2, fun j x hx => ?_⟩
  have hj := p_lt hx
  obtain ⟨a1, a2, a3, a4⟩ := l3 j x hx
  rw [mg_l (by omega)] at a1
  rw [show 18 + 4 * j = 17 + (4 * j + 1) by omega, mg_l (by omega)] at a2
  rw [show 19 + 4 * j = 17 + (4 * j + 2) by omega, mg_l (by omega)] at a3
  rw [show 20 + 4 * j = 17 + (4 * j + 3) by omega, mg_l (by omega)] at a4
  exact ⟨a1, a2, a3, a4⟩
theorem lwG.K {S : cr_S} {g l c : cr_V} (h : lwG S g l c) : ldK S.2.1 g c := by
  obtain ⟨-, ⟨l1, l2, l3⟩, -⟩ := h
  refine ⟨l1, by rw [mg_g (by omega)] at l2; exact l2, fun j x hx => ?_⟩
  obtain ⟨a1, a2⟩ := l3 j x hx
  rw [mg_c] at a1
  rw [show 70 + 2 * j = 69 + (2 * j + 1) by omega, mg_c] at a2
  exact ⟨a1, a2⟩
theorem lwG.g {S : cr_S} {g l c : cr_V} (h : lwG S g l c) {j : Nat} (hj : j < 6) : g 0 j = S.2.2.2.2 j := by
  have := h.2.2.2.2 j hj
  rwa [mg_g (by omega)] at this
theorem lwG.s {S : cr_S} {g l c : cr_V} (h : lwG S g l c) {j : Nat} (hj : j < 5) : g 0 (8 + j) = S.2.2.2.1 j := by
  have := h.2.2.2.1 j hj
  rwa [mg_g (by omega)] at this
theorem lwG.w {S : cr_S} {g l c : cr_V} (h : lwG S g l c) {j : Nat} (hj : j < 4) : g 0 (13 + j) = S.2.2.1 j := by
  have := h.2.2.1 j hj
  rwa [mg_g (by omega)] at this
theorem n_ix (j w : Nat) : (4 : Int32) * nI j + nI w = nI (4 * j + w) := by rw [show (4 : Int32) = nI 4 from rfl, pk_mul, nI_add]
theorem n_x0 (j : Nat) : (4 : Int32) * nI j = nI (4 * j) := by rw [show (4 : Int32) = nI 4 from rfl, pk_mul]
theorem n_x1 (j : Nat) : (4 : Int32) * nI j + 1 = nI (4 * j + 1) := n_ix j 1
theorem n_x2 (j : Nat) : (4 : Int32) * nI j + 2 = nI (4 * j + 2) := n_ix j 2
theorem n_x3 (j : Nat) : (4 : Int32) * nI j + 3 = nI (4 * j + 3) := n_ix j 3
theorem n_y0 (j : Nat) : (2 : Int32) * nI j = nI (2 * j) := by rw [show (2 : Int32) = nI 2 from rfl, pk_mul]
theorem n_y1 (j : Nat) : (2 : Int32) * nI j + 1 = nI (2 * j + 1) := by rw [n_y0, nI_1]
theorem n_max (v k : Int32) : (if v ≤ k then some k else some v) = some (if k ≤ v then v else k) := by
  by_cases h : v ≤ k
  · rw [if_pos h]
    by_cases h2 : k ≤ v
    · rw [if_pos h2, Int32.le_antisymm h h2]
    · rw [if_neg h2]
  · rw [if_neg h, if_pos (Int32.le_of_lt (Int32.not_le.mp h))]
theorem n_cup {L : List cr_Lot} {g l : cr_V} (hL : ldL L g l) {j : Nat} {x : cr_Lot} (hx : L[j]? = some x) (m : Int32) : f_L_cup l (nI j) m = some (s_cup x m) := by
  obtain ⟨h1, h2, h3⟩ := hL
  have hj := p_lt hx
  obtain ⟨a1, a2, a3, a4⟩ := h3 j x hx
  rw [f_L_cup, n_x2 j, n_x3 j, if_pos (cr_inn (by omega) (by omega)), if_pos (cr_inn (by omega) (by omega)), cr_xn (by omega), cr_xn (by omega), a3, a4, n_max]
  rfl
theorem n_band (c : Int32) : f_L_band c = some (nI (s_band c)) := by
  have e1 : (89 : Int32).toInt = 89 := rfl
  have e2 : (79 : Int32).toInt = 79 := rfl
  have e3 : (69 : Int32).toInt = 69 := rfl
  have e4 : (90 : Int32).toInt = 90 := rfl
  have e5 : (80 : Int32).toInt = 80 := rfl
  have e6 : (70 : Int32).toInt = 70 := rfl
  unfold f_L_band s_band
  simp only [Int32.le_iff_toInt_le, e1, e2, e3, e4, e5, e6]
  by_cases h1 : c.toInt ≤ 69
  · rw [if_pos (by omega), if_pos (by omega), if_pos h1, if_neg (by omega)]; rfl
  · by_cases h2 : c.toInt ≤ 79
    · rw [if_pos (by omega), if_pos h2, if_neg h1, if_pos (by omega), if_neg (by omega)]; rfl
    · by_cases h3 : c.toInt ≤ 89
      · rw [if_pos h3, if_neg h2, if_pos (by omega), if_pos (by omega), if_neg (by omega)]; rfl
      · rw [if_neg h3, if_pos (by omega), if_pos (by omega), if_pos (by omega)]; rfl
theorem n_late (d : Int32) (h : 0 ≤ d) : (if d ≤ 3 then 0 else d - 3) = (if 0 ≤ d - 3 then d - 3 else 0) := by
  rw [Int32.le_iff_toInt_le] at h
  have e0 : (0 : Int32).toInt = 0 := rfl
  have e3 : (3 : Int32).toInt = 3 := rfl
  have hd := d.toInt_lt
  have e : (d - 3).toInt = d.toInt - 3 := z_sb rfl e3 (by omega) (by omega)
  by_cases h1 : d ≤ 3
  · rw [if_pos h1]
    rw [Int32.le_iff_toInt_le] at h1
    by_cases h2 : 0 ≤ d - 3
    · rw [if_pos h2]
      rw [Int32.le_iff_toInt_le] at h2
      exact Int32.toInt_inj.mp (by omega)
    · rw [if_neg h2]
  · rw [if_neg h1]
    rw [Int32.le_iff_toInt_le] at h1
    rw [if_pos (by rw [Int32.le_iff_toInt_le]; omega)]
theorem n_E (p c a l b : Int32) : ((p + c * a) - 80 * a) - l * b = p + (c - 80) * a - b * l := by grind
/-- no lot is from a month to come -/
def n_old (L : List cr_Lot) (m : Int32) : Prop := ∀ x ∈ L, 0 ≤ m - x.2.2.2
theorem n_paid {L : List cr_Lot} {st : Nat → Int32} {g l : cr_V} (hL : ldL L g l) (h2 : g 0 10 = st 2) (h3 : g 0 11 = st 3) {m : Int32} (ho : n_old L m) {j : Nat} {x : cr_Lot} (hx : L[j]? = some x) (p : Int32) : f_L_paid g l (nI j) p m = some (s_pay st x p m) := by
  obtain ⟨b1, b2, b3⟩ := id hL
  have hj := p_lt hx
  obtain ⟨a1, a2, a3, a4⟩ := b3 j x hx
  have key : ∀ d : Int32, f_L_paid_30 g l (nI j) p m d = some (if 1 ≤ p + (s_cup x m - 80) * st 2 - st 3 * d then p + (s_cup x m - 80) * st 2 - st 3 * d else 1) := fun d => by
    rw [f_L_paid_30, n_cup hL hx, Option.bind_some, h2, h3, n_E, n_max]
  rw [f_L_paid, n_x3 j, if_pos (cr_inn (by omega) (by omega)), cr_xn (by omega), a4, key, key]
  have hl := n_late (m - x.2.2.2) (ho x (List.mem_of_getElem? hx))
  unfold s_pay s_late
  rw [← hl]
  by_cases h : m - x.2.2.2 ≤ 3
  · rw [if_pos h, if_pos h]
  · rw [if_neg h, if_neg h]
theorem n_gain {L : List cr_Lot} {w st : Nat → Int32} {g l : cr_V} (hL : ldL L g l) (h2 : g 0 10 = st 2) (h3 : g 0 11 = st 3) (hw : ∀ j, j < 4 → g 0 (13 + j) = w j) {m : Int32} (ho : n_old L m) {j : Nat} {x : cr_Lot} (hx : L[j]? = some x) (p : Int32) : f_L_gain g l (nI j) p m = some (s_gain w st x p m) := by
  have hb := s_band_lt (s_cup x m)
  rw [f_L_gain, n_paid hL h2 h3 ho hx, Option.bind_some, n_cup hL hx, Option.bind_some, n_band, Option.bind_some, show (13 : Int32) = nI 13 from rfl, nI_add, if_pos (cr_inn (by omega) (by omega)), cr_xn (by omega), hw _ hb]
  rfl
theorem n_find_2 {L : List cr_Lot} {g l : cr_V} (hL : ldL L g l) (x1 : Int32) : ∀ (n k : Nat), k ≤ L.length → L.length - k < n → (∀ j y, j < k → L[j]? = some y → ¬ y.1 = x1) →
    f_L_find_2 n g l x1 (nI k) = some (match cr_idx L x1 with | some k => nI k | none => -1) := by
  obtain ⟨l1, l2, l3⟩ := hL
  intro n
  induction n with
  | zero => intro k h1 h2; omega
  | succ n ih =>
    intro k hk hn h
    rw [f_L_find_2, l2]
    by_cases hk2 : k = L.length
    · rw [if_pos (show nI L.length ≤ nI k from c_le L.length k rfl rfl (by omega) (by omega)), f_L_find_25, l2, if_pos (show nI L.length ≤ nI k from c_le L.length k rfl rfl (by omega) (by omega)), cr_idx_none (fun j y hy => h j y (by have := p_lt hy; omega) hy)]
    · rw [if_neg (show ¬ nI L.length ≤ nI k from c_nle L.length k rfl rfl (by omega) (by omega)), n_x0, if_pos (cr_inn (by omega) (by omega)), cr_xn (by omega), nI_1]
      have hx : L[k]? = some L[k] := List.getElem?_eq_getElem (by omega)
      rw [(l3 k _ hx).1]
      by_cases he : L[k].1 = x1
      · rw [if_pos he, cr_idx_at hx he h, f_L_find_25, l2, if_neg (show ¬ nI L.length ≤ nI k from c_nle L.length k rfl rfl (by omega) (by omega))]
      · rw [if_neg he]
        refine ih (k + 1) (by omega) (by omega) fun j y hj hy => ?_
        by_cases hjk : j = k
        · subst hjk
          rw [hx] at hy; cases hy; exact he
        · exact h j y (by omega) hy
theorem n_find {L : List cr_Lot} {g l : cr_V} (hL : ldL L g l) (x1 : Int32) {k : Nat} (hk : cr_idx L x1 = some k) : f_L_find g l x1 = some (nI k) := by
  rw [f_L_find]
  have := n_find_2 hL x1 10100 0 (by omega) (by have := hL.1; omega) (fun j y hj => by omega)
  rw [hk] at this
  exact this
/-! changes of the law's arrays -/
theorem mg_ug {g l c : cr_V} {k : Nat} {x : Int32} (h : k < 17) : mg (cr_a g 0 k x) l c = upd (mg g l c) k x := by
  funext t
  unfold mg
  by_cases ht : t = k
  · subst ht
    rw [if_pos h, cr_as, pk_us, pk_us]
  · rw [pk_un ht, cr_as, pk_un ht]
theorem mg_ul {g l c : cr_V} {k : Nat} {x : Int32} (h : k < 52) : mg g (cr_a l 0 k x) c = upd (mg g l c) (17 + k) x := by
  funext t
  unfold mg
  by_cases ht : t = 17 + k
  · subst ht
    rw [if_neg (by omega), if_pos (by omega), cr_as, pk_us, show 17 + k - 17 = k by omega, pk_us]
  · rw [pk_un ht]
    by_cases h1 : t < 17
    · rw [if_pos h1, if_pos h1]
    · rw [if_neg h1, if_neg h1, cr_as, pk_un (by omega)]
theorem mg_uc {g l c : cr_V} {k : Nat} {x : Int32} : mg g l (cr_a c 0 k x) = upd (mg g l c) (69 + k) x := by
  funext t
  unfold mg
  by_cases ht : t = 69 + k
  · subst ht
    rw [if_neg (by omega), if_neg (by omega), cr_as, pk_us, show 69 + k - 69 = k by omega, pk_us]
  · rw [pk_un ht]
    by_cases h1 : t < 17
    · rw [if_pos h1, if_pos h1]
    · rw [if_neg h1, if_neg h1]
      by_cases h2 : t < 69
      · rw [if_pos h2, if_pos h2]
      · rw [if_neg h2, if_neg h2, cr_as, pk_un (by omega)]
theorem n_makes {S : cr_S} {g l c : cr_V} (hM : lwG S g l c) (x1 x2 x3 : Int32) (h12 : S.1.length < 12) : ∃ g' l', f_L_makes g l x1 x2 x3 = some (S.2.2.2.2 5, g', l') ∧ lwG (S.1 ++ [(S.2.2.2.2 5, x1, x2, x3)], S.2.1, S.2.2.1, S.2.2.2.1, s_up5 S.2.2.2.2) g' l' c := by
  have hl2 := hM.L.2.1
  have h5 : g 0 5 = S.2.2.2.2 5 := hM.g (by omega)
  rw [f_L_makes, hl2, n_x0, nI_1, show (2 : Int32) = nI 2 from rfl, show (3 : Int32) = nI 3 from rfl, nI_add, nI_add, if_pos (cr_inn (by omega) (by omega)), if_pos (cr_inn (by omega) (by omega)), if_pos (cr_inn (by omega) (by omega)), if_pos (cr_inn (by omega) (by omega)), cr_xn (by omega), cr_xn (by omega), cr_xn (by omega), cr_xn (by omega)]
  have e6 : (cr_a g 0 5 (g 0 5 + 1)) 0 6 = nI S.1.length := by rw [cr_as, pk_un (by omega), hl2]
  rw [e6]
  have e5 : (cr_a (cr_a g 0 5 (g 0 5 + 1)) 0 6 (nI S.1.length + 1)) 0 5 = S.2.2.2.2 5 + 1 := by rw [cr_as, pk_un (by omega), cr_as, pk_us, h5]
  rw [e5, Int32.add_sub_cancel, nI_1, h5]
  refine ⟨_, _, rfl, ?_⟩
  unfold lwG
  rw [mg_ug (by omega), mg_ug (by omega), mg_ul (by omega), mg_ul (by omega), mg_ul (by omega), mg_ul (by omega)]
  obtain ⟨⟨l1, l2, l3⟩, ⟨k1, k2, k3⟩, w1, w2, w3⟩ := hM
  generalize mg g l c = s at *
  generalize hp : 4 * S.1.length = p
  refine ⟨⟨by rw [List.length_append]; simp; omega, ?_, fun j x hx => ?_⟩, ⟨k1, ?_, fun j x hx => ?_⟩, fun j hj => ?_, fun j hj => ?_, fun j hj => ?_⟩
  · simp [cr_up, List.length_append]
  · by_cases hj : j < S.1.length
    · rw [List.getElem?_append_left hj] at hx
      obtain ⟨a1, a2, a3, a4⟩ := l3 j x hx
      refine ⟨?_, ?_, ?_, ?_⟩
      · rw [← a1]; rw [pk_un (by omega), pk_un (by omega), pk_un (by omega), pk_un (by omega), pk_un (by omega), pk_un (by omega)]
      · rw [← a2]; rw [pk_un (by omega), pk_un (by omega), pk_un (by omega), pk_un (by omega), pk_un (by omega), pk_un (by omega)]
      · rw [← a3]; rw [pk_un (by omega), pk_un (by omega), pk_un (by omega), pk_un (by omega), pk_un (by omega), pk_un (by omega)]
      · rw [← a4]; rw [pk_un (by omega), pk_un (by omega), pk_un (by omega), pk_un (by omega), pk_un (by omega), pk_un (by omega)]
    · have hl := p_lt hx
      rw [List.length_append] at hl
      simp at hl
      have hj2 : j = S.1.length := by omega
      subst hj2
      rw [List.getElem?_append_right (Nat.le_refl _)] at hx
      simp at hx
      subst hx
      refine ⟨?_, ?_, ?_, ?_⟩
      · rw [hp]; rw [pk_un (by omega), pk_un (by omega), pk_un (by omega), pk_un (by omega), pk_un (by omega), pk_us]
      · rw [show 18 + 4 * S.1.length = 17 + (p + 1) by omega]; rw [pk_un (by omega), pk_un (by omega), pk_un (by omega), pk_un (by omega), pk_us]
      · rw [show 19 + 4 * S.1.length = 17 + (p + 2) by omega]; rw [pk_un (by omega), pk_un (by omega), pk_un (by omega), pk_us]
      · rw [show 20 + 4 * S.1.length = 17 + (p + 3) by omega]; rw [pk_un (by omega), pk_un (by omega), pk_us]
  · rw [← k2]; rw [pk_un (by omega), pk_un (by omega), pk_un (by omega), pk_un (by omega), pk_un (by omega), pk_un (by omega)]
  · have hl := p_lt hx
    obtain ⟨a1, a2⟩ := k3 j x hx
    refine ⟨?_, ?_⟩
    · rw [← a1]; rw [pk_un (by omega), pk_un (by omega), pk_un (by omega), pk_un (by omega), pk_un (by omega), pk_un (by omega)]
    · rw [← a2]; rw [pk_un (by omega), pk_un (by omega), pk_un (by omega), pk_un (by omega), pk_un (by omega), pk_un (by omega)]
  · rw [← w1 j hj]; rw [pk_un (by omega), pk_un (by omega), pk_un (by omega), pk_un (by omega), pk_un (by omega), pk_un (by omega)]
  · rw [← w2 j hj]; rw [pk_un (by omega), pk_un (by omega), pk_un (by omega), pk_un (by omega), pk_un (by omega), pk_un (by omega)]
  · by_cases hj5 : j = 5
    · subst hj5
      rw [pk_un (by omega), pk_us]; simp [s_up5, cr_up]
    · show _ = s_up5 S.2.2.2.2 j
      rw [show s_up5 S.2.2.2.2 j = S.2.2.2.2 j from by simp [s_up5, cr_up, hj5], ← w3 j hj]
      rw [pk_un (by omega), pk_un (by omega), pk_un (by omega), pk_un (by omega), pk_un (by omega), pk_un (by omega)]
theorem n_takes_46 {e : Nat} (he : e ≤ 44) : ∀ (n k : Nat) (g l : cr_V), k ≤ e + 4 → e + 5 - k < n → (4 : Int32) * g 0 6 = nI e → ∃ l', f_L_takes_46 n g l (nI k) = some (g, l') ∧ ∀ t, l' 0 t = if k ≤ t ∧ t < e then l 0 (t + 4) else l 0 t := by
  intro n
  induction n with
  | zero => intro k g l a b; omega
  | succ n ih =>
    intro k g l hk2 hn h6
    rw [f_L_takes_46, h6]
    by_cases hke : e ≤ k
    · rw [if_pos (show nI e ≤ nI k from c_le e k rfl rfl hke (by omega))]
      exact ⟨l, rfl, fun t => by rw [if_neg (by omega)]⟩
    · rw [if_neg (show ¬ nI e ≤ nI k from c_nle e k rfl rfl (by omega) (by omega)), show (4 : Int32) = nI 4 from rfl, nI_add, if_pos (cr_inn (by omega) (by omega)), if_pos (cr_inn (by omega) (by omega)), cr_xn (by omega), cr_xn (by omega), nI_1]
      obtain ⟨l', e1, e2⟩ := ih (k + 1) g (cr_a l 0 k (l 0 (k + 4))) (by omega) (by omega) h6
      refine ⟨l', e1, fun t => ?_⟩
      rw [e2, cr_as]
      by_cases h1 : k + 1 ≤ t ∧ t < e
      · rw [if_pos h1, if_pos (by omega), pk_un (by omega)]
      · rw [if_neg h1]
        by_cases h2 : t = k
        · subst h2; rw [pk_us, if_pos (by omega)]
        · rw [pk_un h2, if_neg (by omega)]
theorem n_close_12 {e : Nat} (he : e ≤ 10) : ∀ (n k : Nat) (g c : cr_V), k ≤ e + 4 → e + 5 - k < n → (2 : Int32) * g 0 7 = nI e → ∃ c', f_L_close_12 n g c (nI k) = some (g, c') ∧ ∀ t, c' 0 t = if k ≤ t ∧ t < e then c 0 (t + 2) else c 0 t := by
  intro n
  induction n with
  | zero => intro k g l a b; omega
  | succ n ih =>
    intro k g l hk2 hn h6
    rw [f_L_close_12, h6]
    by_cases hke : e ≤ k
    · rw [if_pos (show nI e ≤ nI k from c_le e k rfl rfl hke (by omega))]
      exact ⟨l, rfl, fun t => by rw [if_neg (by omega)]⟩
    · rw [if_neg (show ¬ nI e ≤ nI k from c_nle e k rfl rfl (by omega) (by omega)), show (2 : Int32) = nI 2 from rfl, nI_add, if_pos (cr_inn (by omega) (by omega)), if_pos (cr_inn (by omega) (by omega)), cr_xn (by omega), cr_xn (by omega), nI_1]
      obtain ⟨l', e1, e2⟩ := ih (k + 1) g (cr_a l 0 k (l 0 (k + 2))) (by omega) (by omega) h6
      refine ⟨l', e1, fun t => ?_⟩
      rw [e2, cr_as]
      by_cases h1 : k + 1 ≤ t ∧ t < e
      · rw [if_pos h1, if_pos (by omega), pk_un (by omega)]
      · rw [if_neg h1]
        by_cases h2 : t = k
        · subst h2; rw [pk_us, if_pos (by omega)]
        · rw [pk_un h2, if_neg (by omega)]
theorem n_close {S : cr_S} {g l c : cr_V} (hM : lwG S g l c) {k : Nat} (hk : k < S.2.1.length) : ∃ g' c', f_L_close g c (nI k) = some (g', c') ∧ lwG (S.1, S.2.1.eraseIdx k, S.2.2) g' l c' := by
  obtain ⟨k1, k2, k3⟩ := hM.K
  rw [f_L_close, n_y0]
  obtain ⟨c', e1, e2⟩ := n_close_12 (e := 2 * (S.2.1.length - 1)) (by omega) 10100 (2 * k) (cr_a g 0 7 (g 0 7 - 1)) c (by omega) (by omega) (by
    rw [cr_as, pk_us, k2, q_pr (by omega), n_y0])
  refine ⟨_, c', e1, ?_⟩
  unfold lwG
  refine q_eraseK hM hk ?_ fun t ht => ?_
  · rw [mg_g (by omega), cr_as, pk_us, k2, q_pr (by omega)]
  · unfold mg
    by_cases h1 : t < 17
    · rw [if_pos h1, cr_as, pk_un ht, if_neg (by omega), if_pos h1]
    · rw [if_neg h1, if_neg h1]
      by_cases h2 : t < 69
      · rw [if_pos h2, if_pos h2, if_neg (by omega)]
      · rw [if_neg h2, if_neg h2, e2]
        by_cases h3 : 69 + 2 * k ≤ t ∧ t < 69 + 2 * (S.2.1.length - 1)
        · rw [if_pos h3, if_pos (by omega), if_neg (by omega), if_neg (by omega), show t + 2 - 69 = t - 69 + 2 by omega]
        · rw [if_neg h3, if_neg (by omega)]
theorem n_le0 {a : Int32} (h : a = 0 ∨ 0 < a) : (a ≤ 0) = (a = 0) := by
  refine propext ⟨fun k => ?_, fun k => by rw [k]; exact Int32.le_refl _⟩
  rcases h with h | h
  · exact h
  · exact absurd k (Int32.not_le.mpr h)
theorem n_takes {S : cr_S} {g l c : cr_V} (hM : lwG S g l c) {n b : Int32} {k : Nat} (hi : cr_idx S.1 n = some k) (hz : (s_get S.1 k).2.1 - b = 0 ∨ 0 < (s_get S.1 k).2.1 - b) : ∃ g' l', f_L_takes g l n b = some (g', l') ∧ lwG (s_takes S.1 k b, S.2) g' l' c := by
  obtain ⟨x, hx, hn⟩ := cr_idx_some hi
  have hl := p_lt hx
  obtain ⟨l1, l2, l3⟩ := hM.L
  obtain ⟨a1, a2, a3, a4⟩ := l3 k x hx
  rw [s_get_of hx] at hz
  have hM2 : lwG (S.1.set k (s_less x b), S.2) g (cr_a l 0 (4 * k + 1) (l 0 (4 * k + 1) - b)) c := by
    unfold lwG
    rw [mg_ul (by omega)]
    obtain ⟨b1, b2, b3, b4⟩ := hM.1.2.2 k x hx
    refine q_setM hM hx ⟨?_, ?_, ?_, ?_⟩ (fun t ht => ?_)
    · rw [pk_un (by omega)]; exact b1
    · rw [show 18 + 4 * k = 17 + (4 * k + 1) by omega, pk_us, a2]; rfl
    · rw [pk_un (by omega)]; exact b3
    · rw [pk_un (by omega)]; exact b4
    · rw [pk_un (by omega)]
  unfold s_takes
  rw [s_get_of hx, f_L_takes, n_find hM.L n hi, Option.bind_some, n_x1, n_x0, if_pos (cr_inn (by omega) (by omega)), cr_xn (by omega)]
  rw [show (cr_a l 0 (4 * k + 1) (l 0 (4 * k + 1) - b)) 0 (4 * k + 1) = x.2.1 - b from by rw [cr_as, pk_us, a2]]
  by_cases h0 : x.2.1 - b = 0
  · rw [if_pos (show x.2.1 - b ≤ 0 by rw [n_le0 hz]; exact h0), if_pos h0]
    have hle : (S.1.set k (s_less x b)).length = S.1.length := List.length_set ..
    generalize cr_a l 0 (4 * k + 1) (l 0 (4 * k + 1) - b) = u at *
    obtain ⟨l', e1, e2⟩ := n_takes_46 (e := 4 * (S.1.length - 1)) (by omega) 10100 (4 * k) (cr_a g 0 6 (g 0 6 - 1)) u (by omega) (by omega) (by
      rw [cr_as, pk_us, l2, q_pr (by omega), n_x0])
    refine ⟨_, l', e1, ?_⟩
    unfold lwG
    refine q_eraseM (S := (S.1.set k (s_less x b), S.2)) hM2 (by show k < (S.1.set k (s_less x b)).length; rw [hle]; exact hl) ?_ fun t ht => ?_
    · rw [mg_g (by omega), cr_as, pk_us, l2, q_pr (by omega)]
      show _ = nI ((S.1.set k (s_less x b)).length - 1)
      rw [hle]
    · show _ = if 17 + 4 * k ≤ t ∧ t < 17 + 4 * ((S.1.set k (s_less x b)).length - 1) then _ else _
      rw [hle]
      unfold mg
      by_cases h1 : t < 17
      · rw [if_pos h1, cr_as, pk_un ht, if_neg (by omega), if_pos h1]
      · rw [if_neg h1, if_neg h1]
        by_cases h2 : t < 69
        · rw [if_pos h2, if_pos h2, e2]
          by_cases h3 : 17 + 4 * k ≤ t ∧ t < 17 + 4 * (S.1.length - 1)
          · rw [if_pos h3, if_pos (by omega), if_neg (by omega), if_pos (by omega), show t + 4 - 17 = t - 17 + 4 by omega]
          · rw [if_neg h3, if_neg (by omega)]
        · rw [if_neg h2, if_neg h2, if_neg (by omega)]
  · rw [if_neg (show ¬ x.2.1 - b ≤ 0 by rw [n_le0 hz]; exact h0), if_neg h0]
    exact ⟨_, _, rfl, hM2⟩
