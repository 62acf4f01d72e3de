/-! the text and its orders -/
def s_chr (T : List Int32) (p : Nat) : Int32 := T.getD p 0
def s_num (T : List Int32) : Nat → Nat → Int32 → Nat × Int32
  | 0, p, a => (p, a)
  | d + 1, p, a => if s_in (s_chr T p) 48 57 then s_num T d (p + 1) (10 * a + s_chr T p - 48) else (p, a)
def s_nums (T : List Int32) : Nat → Nat → Nat × Option (List Int32)
  | 0, p => if (s_num T 4 p 0).1 = p then (p, none) else if s_chr T (s_num T 4 p 0).1 = 59 then ((s_num T 4 p 0).1 + 1, some [(s_num T 4 p 0).2]) else ((s_num T 4 p 0).1, none)
  | w + 1, p => if (s_num T 4 p 0).1 = p then (p, none) else if s_chr T (s_num T 4 p 0).1 = 44 then ((s_nums T w ((s_num T 4 p 0).1 + 1)).1, (s_nums T w ((s_num T 4 p 0).1 + 1)).2.map ((s_num T 4 p 0).2 :: ·)) else ((s_num T 4 p 0).1, none)
def s_sep (T : List Int32) : Nat → Nat → Nat × Option (List Int32)
  | 0, p => if s_chr T p = 59 then (p + 1, some []) else (p, none)
  | w + 1, p => if s_chr T p = 44 then s_nums T w (p + 1) else (p, none)
theorem s_nums_eq (T : List Int32) (w p : Nat) : s_nums T w p = if (s_num T 4 p 0).1 = p then (p, none) else ((s_sep T w (s_num T 4 p 0).1).1, (s_sep T w (s_num T 4 p 0).1).2.map ((s_num T 4 p 0).2 :: ·)) := by
  cases w with
  | zero =>
    rw [s_nums, s_sep]
    split
    · rfl
    · split <;> rfl
  | succ w =>
    rw [s_nums, s_sep]
    split
    · rfl
    · split <;> rfl
def s_want (c : Int32) : Nat := if c = 98 then 4 else if c = 99 then 1 else if c = 100 then 1 else if c = 108 then 2 else if c = 109 then 1 else if c = 115 then 2 else 0
def s_read (T : List Int32) (p : Nat) : Nat × Option (List Int32) := if s_want (s_chr T p) = 0 then (p, none) else s_nums T (s_want (s_chr T p) - 1) (p + 1)
def s_txt (T : List Int32) : Prop := T.length ≤ 60 ∧ ∀ c ∈ T, s_in c 32 126 = true
theorem s_chr_of {T : List Int32} {p : Nat} {c : Int32} (h : T[p]? = some c) : s_chr T p = c := by unfold s_chr; rw [List.getD_eq_getElem?_getD, h]; rfl
theorem s_chr_end {T : List Int32} {p : Nat} (h : T.length ≤ p) : s_chr T p = 0 := by unfold s_chr; rw [List.getD_eq_getElem?_getD, List.getElem?_eq_none h]; rfl
theorem s_chr_in {T : List Int32} {p : Nat} {a b : Int32} (h0 : s_in 0 a b = false) (h : s_in (s_chr T p) a b = true) : p < T.length := by
  by_cases hp : p < T.length
  · exact hp
  · rw [s_chr_end (by omega), h0] at h; cases h
theorem s_chr_eq {T : List Int32} {p : Nat} {c : Int32} (h0 : c ≠ 0) (h : s_chr T p = c) : p < T.length := by
  by_cases hp : p < T.length
  · exact hp
  · rw [s_chr_end (by omega)] at h; exact absurd h.symm h0
theorem s_num_le (T : List Int32) : ∀ (d p : Nat) (a : Int32), p ≤ T.length → p ≤ (s_num T d p a).1 ∧ (s_num T d p a).1 ≤ T.length
  | 0, p, a, h => ⟨Nat.le_refl _, h⟩
  | d + 1, p, a, h => by
    rw [s_num]
    split
    · rename_i hc
      have hp := s_chr_in (by decide) hc
      have := s_num_le T d (p + 1) (10 * a + s_chr T p - 48) hp
      exact ⟨by omega, this.2⟩
    · exact ⟨Nat.le_refl _, h⟩
theorem s_nums_le (T : List Int32) : ∀ (w p : Nat), p ≤ T.length → p ≤ (s_nums T w p).1 ∧ (s_nums T w p).1 ≤ T.length ∧ ∀ a, (s_nums T w p).2 = some a → p < (s_nums T w p).1 ∧ a.length = w + 1
  | 0, p, h => by
    have h1 := s_num_le T 4 p 0 h
    rw [s_nums]
    split
    · exact ⟨Nat.le_refl _, h, fun a ha => by cases ha⟩
    · split
      · rename_i hc
        have hp := s_chr_eq (by decide) hc
        exact ⟨by show p ≤ (s_num T 4 p 0).1 + 1; omega, hp, fun a ha => ⟨by show p < (s_num T 4 p 0).1 + 1; omega, by cases ha; rfl⟩⟩
      · exact ⟨h1.1, h1.2, fun a ha => by cases ha⟩
  | w + 1, p, h => by
    have h1 := s_num_le T 4 p 0 h
    rw [s_nums]
    split
    · exact ⟨Nat.le_refl _, h, fun a ha => by cases ha⟩
    · split
      · rename_i hc
        have hp := s_chr_eq (by decide) hc
        obtain ⟨i1, i2, i3⟩ := s_nums_le T w ((s_num T 4 p 0).1 + 1) hp
        refine ⟨by dsimp only; omega, i2, fun a ha => ?_⟩
        dsimp only at ha ⊢
        cases hq : (s_nums T w ((s_num T 4 p 0).1 + 1)).2 with
        | none => rw [hq] at ha; cases ha
        | some b =>
          rw [hq] at ha
          cases ha
          have := i3 b hq
          exact ⟨by omega, by simp [this.2]⟩
      · exact ⟨h1.1, h1.2, fun a ha => by cases ha⟩
theorem s_read_le {T : List Int32} {p : Nat} (h : p < T.length) : p ≤ (s_read T p).1 ∧ (s_read T p).1 ≤ T.length ∧ ∀ a, (s_read T p).2 = some a → p < (s_read T p).1 ∧ a.length = s_want (s_chr T p) ∧ s_want (s_chr T p) ≠ 0 := by
  rw [s_read]
  split
  · exact ⟨Nat.le_refl _, Nat.le_of_lt h, fun a ha => by cases ha⟩
  · obtain ⟨i1, i2, i3⟩ := s_nums_le T (s_want (s_chr T p) - 1) (p + 1) h
    refine ⟨by omega, i2, fun a ha => ?_⟩
    have := i3 a ha
    exact ⟨by omega, by omega, by assumption⟩
noncomputable def s_call (S : cr_S) (c : Int32) (a : List Int32) : cr_R :=
  if c = 98 then o_blend S (a.getD 0 0) (a.getD 1 0) (a.getD 2 0) (a.getD 3 0) else if c = 99 then o_cup S (a.getD 0 0) else if c = 100 then o_meet S (a.getD 0 0) else if c = 108 then o_lot S (a.getD 0 0) (a.getD 1 0) else if c = 115 then o_sell S (a.getD 0 0) (a.getD 1 0) else o_pass S (a.getD 0 0)
/-- all orders from a place on: the first with a fault (where it stands, reason, cause), or how many and the state behind them -/
noncomputable def s_run (T : List Int32) : Nat → Nat → cr_S → Nat → (Nat × Int32 × Int32) ⊕ (Nat × cr_S)
  | 0, _, S, d => .inr (d, S)
  | n + 1, p, S, d => if p < T.length then (match (s_read T p).2 with
      | none => .inl (p, 1, nI ((s_read T p).1 - p))
      | some a => match s_call S (s_chr T p) a with
        | .inl e => .inl (p, 2, e)
        | .inr q => s_run T n (s_read T p).1 q.2 (d + 1)) else .inr (d, S)
/-! the text on the model -/
def mdT (T : List Int32) (v : cr_V) : Prop := s_txt T ∧ v 6 0 = nI T.length ∧ ∀ (j : Nat) (x : Int32), T[j]? = some x → v 5 j = x
theorem mdT.sm {T : List Int32} {v v' : cr_V} {cs : List Nat} (hT : mdT T v) (h : sameC cs v v') (h5 : 5 ∉ cs) (h6 : 6 ∉ cs) : mdT T v' := ⟨hT.1, by rw [h 6 h6]; exact hT.2.1, by rw [h 5 h5]; exact hT.2.2⟩
theorem q_isAt {T : List Int32} {v : cr_V} (hT : mdT T v) {p : Nat} (hp : p ≤ T.length) (h11 : v 11 0 = nI p) {a b : Int32} (h0 : s_in 0 a b = false) : f_X7_isAt v a b = some (if s_in (s_chr T p) a b = true then 1 else 0) := by
  obtain ⟨⟨t1, t2⟩, t3, t4⟩ := hT
  rw [f_X7_isAt, t3, h11]
  by_cases hk : p < T.length
  · have hx : T[p]? = some T[p] := List.getElem?_eq_getElem hk
    rw [if_neg (nI_ge hk (by omega)), if_pos (cr_inn (by omega) (by omega)), cr_xn (by omega), t4 p _ hx, q_in, Option.bind_some, s_chr_of hx]
    cases s_in T[p] a b <;> simp
  · rw [if_pos (nI_le (by omega) (by omega)), s_chr_end (by omega), h0]
    simp
theorem q_sign {T : List Int32} {v : cr_V} (hT : mdT T v) {p : Nat} (hp : p ≤ T.length) (h11 : v 11 0 = nI p) {c : Int32} (h0 : s_in 0 c c = false) : ∃ v', f_X7_sign v c = some (if s_chr T p = c then 1 else 0, v') ∧ v' 11 0 = nI (if s_chr T p = c then p + 1 else p) ∧ sameC [11] v v' := by
  have he : (s_in (s_chr T p) c c = true) = (s_chr T p = c) := by
    unfold s_in
    simp only [Bool.not_eq_true', Bool.or_eq_false_iff, decide_eq_false_iff_not]
    exact propext ⟨fun h => Int32.le_antisymm (Int32.not_lt.mp h.2) (Int32.not_lt.mp h.1), fun h => by rw [h]; exact ⟨Int32.lt_irrefl, Int32.lt_irrefl⟩⟩
  rw [f_X7_sign, q_isAt hT hp h11 h0, Option.bind_some]
  simp only [he]
  by_cases h : s_chr T p = c
  · simp only [if_pos h]
    rw [if_neg (by decide), f_X7_sign_21, if_pos (by decide)]
    exact ⟨_, rfl, by rw [h11, nI_1]; simp [cr_ce], sameC.c (by simp)⟩
  · simp only [if_neg h]
    rw [if_pos trivial, f_X7_sign_21, if_pos (by decide)]
    exact ⟨_, rfl, by rw [h11]; simp [cr_ce], sameC.c (by simp)⟩
theorem q_number_12 {T : List Int32} {w p0 : Nat} (hw : w < 4) : ∀ (n d p : Nat) (v : cr_V) (a : Int32), d ≤ 4 → d < n → p0 + 4 = p + d → mdT T v → p ≤ T.length → v 11 0 = nI p → v 17 w = a →
    ∃ v', f_X7_number_12 n v (nI w) (nI p0) = some (if (s_num T d p a).1 ≤ p0 then 0 else 1, v') ∧ v' 11 0 = nI (s_num T d p a).1 ∧ v' 17 w = (s_num T d p a).2 ∧ (∀ j, j ≠ w → v' 17 j = v 17 j) ∧ sameC [11, 17] v v' := by
  intro n
  induction n with
  | zero => intro d p v a h1 h2; omega
  | succ n ih =>
    intro d p v a hd hn hp hT hpl h11 h17
    have hl := hT.1.1
    have h74 : ∀ r : Nat × Int32, r = (p, a) → ∃ v', f_X7_number_74 v (nI p0) = some (if r.1 ≤ p0 then 0 else 1, v') ∧ v' 11 0 = nI r.1 ∧ v' 17 w = r.2 ∧ (∀ j, j ≠ w → v' 17 j = v 17 j) ∧ sameC [11, 17] v v' := by
      intro r hr
      subst hr
      rw [f_X7_number_74, h11]
      by_cases h : p ≤ p0
      · rw [if_pos (nI_le h (by omega)), if_pos h]; exact ⟨v, rfl, h11, h17, fun j hj => rfl, sameC.rf⟩
      · rw [if_neg (nI_ge (by omega) (by omega)), if_neg h]; exact ⟨v, rfl, h11, h17, fun j hj => rfl, sameC.rf⟩
    rw [f_X7_number_12, q_isAt hT hpl h11 (by decide), Option.bind_some]
    cases d with
    | zero =>
      have h4 : (4 : Int32) ≤ v 11 0 - nI p0 := by
        rw [h11, pk_sub (by omega), show p - p0 = 4 by omega]; decide
      by_cases hc : s_in (s_chr T p) 48 57 = true
      · simp only [if_pos hc]
        rw [if_neg (by decide), if_pos h4]; exact h74 _ rfl
      · simp only [if_neg hc]
        rw [if_pos trivial]; exact h74 _ rfl
    | succ d =>
      have h4 : ¬ (4 : Int32) ≤ v 11 0 - nI p0 := by
        rw [h11, pk_sub (by omega), show p - p0 = 3 - d by omega]
        exact c_nle 4 (3 - d) rfl rfl (by omega) (by omega)
      by_cases hc : s_in (s_chr T p) 48 57 = true
      · have hpl2 := s_chr_in (by decide) hc
        have hx : T[p]? = some T[p] := List.getElem?_eq_getElem hpl2
        have h5 : v 5 p = s_chr T p := by rw [s_chr_of hx]; exact hT.2.2 p _ hx
        simp only [if_pos hc]
        rw [if_neg (by decide), if_neg h4, if_pos (cr_inn hw (by omega)), h11, if_pos (cr_inn (by omega) (by omega)), cr_xn (by omega), cr_xn (by omega), h5, h17, nI_1]
        have hs : sameC [11, 17] v (cr_i (cr_a v 17 w (10 * a + s_chr T p - 48)) 11 (nI (p + 1))) := (sameC.c (cs := [11, 17]) (by simp)).tr (sameC.c (cs := [11, 17]) (by simp)) (by simp) (by simp)
        obtain ⟨v', e1, e2, e3, e4, e5⟩ := ih d (p + 1) (cr_i (cr_a v 17 w (10 * a + s_chr T p - 48)) 11 (nI (p + 1))) (10 * a + s_chr T p - 48) (by omega) (by omega) (by omega) (hT.sm hs (by simp) (by simp)) hpl2 (by simp [cr_ce]) (by simp [cr_ce, cr_up])
        rw [s_num, if_pos hc]
        exact ⟨v', e1, e2, e3, fun j hj => by rw [e4 j hj]; simp [cr_ce, cr_up, hj], hs.tr e5 (by simp) (by simp)⟩
      · rw [if_pos (by simp [hc])]
        exact h74 _ (by rw [s_num, if_neg hc])
theorem q_number {T : List Int32} {w p : Nat} {v : cr_V} (hw : w < 4) (hT : mdT T v) (hp : p ≤ T.length) (h11 : v 11 0 = nI p) :
    ∃ v', f_X7_number v (nI w) = some (if (s_num T 4 p 0).1 = p then 0 else 1, v') ∧ v' 11 0 = nI (s_num T 4 p 0).1 ∧ v' 17 w = (s_num T 4 p 0).2 ∧ (∀ j, j ≠ w → v' 17 j = v 17 j) ∧ sameC [11, 17] v v' := by
  have hs : sameC [11, 17] v (cr_a v 17 w 0) := sameC.c (cs := [11, 17]) (by simp)
  obtain ⟨v', e1, e2, e3, e4, e5⟩ := q_number_12 (p0 := p) hw 10100 4 p (cr_a v 17 w 0) 0 (by omega) (by omega) (by omega) (hT.sm hs (by simp) (by simp)) hp (by simpa [cr_ce] using h11) (by simp [cr_ce, cr_up])
  rw [f_X7_number, if_pos (cr_inn hw (by omega)), cr_xn (by omega), h11, e1]
  have := (s_num_le T 4 p 0 hp).1
  refine ⟨v', ?_, e2, e3, fun j hj => by rw [e4 j hj]; simp [cr_ce, cr_up, hj], hs.tr e5 (by simp) (by simp)⟩
  by_cases h : (s_num T 4 p 0).1 = p
  · rw [if_pos h, if_pos (by omega)]
  · rw [if_neg h, if_neg (by omega)]
theorem q_numbersOf (c : Int32) : f_X7_numbersOf c = some (nI (s_want c)) := by
  unfold f_X7_numbersOf s_want f_X7_numbersOf_12 f_X7_numbersOf_44
  by_cases h1 : c = 98
  · subst h1; rfl
  by_cases h2 : c = 99
  · subst h2; rfl
  by_cases h3 : c = 100
  · subst h3; rfl
  by_cases h4 : c = 108
  · subst h4; rfl
  by_cases h5 : c = 109
  · subst h5; rfl
  by_cases h6 : c = 115
  · subst h6; rfl
  simp [h1, h2, h3, h4, h5, h6]
  rfl
theorem q_reads_60 {T : List Int32} : ∀ (n w k p : Nat) (v : cr_V), w + 1 < n → k + w ≤ 4 → mdT T v → p ≤ T.length → v 11 0 = nI p →
    ∃ v', f_X7_reads_60 n v (nI (k + w)) 1 (nI k) = some (if (s_sep T w p).2.isSome then 1 else 0, v') ∧ v' 11 0 = nI (s_sep T w p).1 ∧ (∀ j, j < k → v' 17 j = v 17 j) ∧ (∀ a, (s_sep T w p).2 = some a → ∀ j, j < w → v' 17 (k + j) = a.getD j 0) ∧ sameC [11, 17] v v' := by
  intro n
  induction n with
  | zero => intro w k p v h1; omega
  | succ n ih =>
    intro w k p v hn hk hT hp h11
    rw [f_X7_reads_60]
    cases w with
    | zero =>
      rw [if_pos (nI_le (by omega) (by omega)), f_X7_reads_98, if_neg (by decide)]
      obtain ⟨v', e1, e2, e3⟩ := q_sign hT hp h11 (c := 59) (by decide)
      rw [e1, Option.bind_some, s_sep]
      by_cases h : s_chr T p = 59
      · simp only [if_pos h] at e2 ⊢
        rw [if_neg (by decide)]
        exact ⟨v', rfl, e2, fun j hj => by rw [e3 17 (by simp)], fun a ha j hj => by omega, e3.tr sameC.rf (by simp) (fun c h => h)⟩
      · simp only [if_neg h] at e2 ⊢
        rw [if_pos trivial]
        exact ⟨v', rfl, e2, fun j hj => by rw [e3 17 (by simp)], fun a ha j hj => by omega, e3.tr sameC.rf (by simp) (fun c h => h)⟩
    | succ w =>
      have h0 : ∀ u : cr_V, f_X7_reads_60 n u (nI (k + (w + 1))) 0 (nI k + 1) = some (0, u) := by
        intro u
        cases n with
        | zero => omega
        | succ n =>
          rw [f_X7_reads_60, f_X7_reads_98]
          simp
      rw [if_neg (nI_ge (by omega) (by omega)), if_neg (by decide)]
      obtain ⟨v1, e1, e2, e3⟩ := q_sign hT hp h11 (c := 44) (by decide)
      rw [e1, Option.bind_some, s_sep]
      by_cases h : s_chr T p = 44
      · have hp2 := s_chr_eq (by decide) h
        simp only [if_pos h] at e2 ⊢
        rw [if_neg (by decide)]
        obtain ⟨v2, g1, g2, g3, g4, g5⟩ := q_number (w := k) (by omega) (hT.sm e3 (by simp) (by simp)) hp2 e2
        have hs2 : sameC [11, 17] v v2 := e3.tr g5 (by simp) (fun c h => h)
        rw [g1, Option.bind_some, s_nums_eq]
        have hle := s_num_le T 4 (p + 1) 0 hp2
        by_cases hz : (s_num T 4 (p + 1) 0).1 = p + 1
        · simp only [if_pos hz]
          rw [if_pos trivial, f_X7_reads_90, f_X7_reads_91, h0]
          exact ⟨v2, rfl, by rw [g2, hz], fun j hj => by rw [g4 j (by omega), e3 17 (by simp)], fun a ha => (by cases ha), hs2⟩
        · simp only [if_neg hz]
          rw [if_neg (by decide), f_X7_reads_91, nI_1, show k + (w + 1) = (k + 1) + w by omega]
          obtain ⟨v3, i1, i2, i3, i4, i5⟩ := ih w (k + 1) (s_num T 4 (p + 1) 0).1 v2 (by omega) (by omega) (hT.sm hs2 (by simp) (by simp)) hle.2 g2
          rw [i1]
          refine ⟨v3, ?_, i2, fun j hj => by rw [i3 j (by omega), g4 j (by omega), e3 17 (by simp)], fun a ha j hj => ?_, hs2.tr i5 (fun c h => h) (fun c h => h)⟩
          · cases (s_sep T w (s_num T 4 (p + 1) 0).1).2 <;> rfl
          · cases hq : (s_sep T w (s_num T 4 (p + 1) 0).1).2 with
            | none => rw [hq] at ha; cases ha
            | some b =>
              rw [hq] at ha
              cases ha
              cases j with
              | zero => rw [Nat.add_zero, i3 k (by omega), g3]; rfl
              | succ j => rw [show k + (j + 1) = (k + 1) + j by omega, i4 b hq j (by omega)]; rfl
      · simp only [if_neg h] at e2 ⊢
        rw [if_pos trivial, f_X7_reads_90, f_X7_reads_91, h0]
        exact ⟨v1, rfl, e2, fun j hj => by rw [e3 17 (by simp)], fun a ha => (by cases ha), e3.tr sameC.rf (by simp) (fun c h => h)⟩
theorem s_want_le (c : Int32) : s_want c ≤ 4 := by unfold s_want; (repeat' split) <;> omega
theorem s_in_0 {T : List Int32} {p : Nat} (hT : s_txt T) (h : s_in (s_chr T p) 33 126 = false) : s_want (s_chr T p) = 0 := by
  unfold s_want
  have : ∀ c : Int32, s_in c 33 126 = true → s_chr T p ≠ c := fun c hc e => by rw [e, hc] at h; cases h
  rw [if_neg (this 98 (by decide)), if_neg (this 99 (by decide)), if_neg (this 100 (by decide)), if_neg (this 108 (by decide)), if_neg (this 109 (by decide)), if_neg (this 115 (by decide))]
theorem q_reads {T : List Int32} {p : Nat} {v : cr_V} (hT : mdT T v) (hp : p < T.length) (h11 : v 11 0 = nI p) :
    ∃ v', f_X7_reads v = some (if (s_read T p).2.isSome then 1 else 0, v') ∧ v' 11 0 = nI (s_read T p).1 ∧ (∀ a, (s_read T p).2 = some a → v' 16 0 = s_chr T p ∧ ∀ j, j < s_want (s_chr T p) → v' 17 j = a.getD j 0) ∧ sameC [11, 16, 17] v v' := by
  have hl := hT.1.1
  have hx : T[p]? = some T[p] := List.getElem?_eq_getElem hp
  have h5 : v 5 p = s_chr T p := by rw [s_chr_of hx]; exact hT.2.2 p _ hx
  rw [f_X7_reads, q_isAt hT (by omega) h11 (by decide), Option.bind_some]
  cases hc : s_in (s_chr T p) 33 126 with
  | false =>
    have hw := s_in_0 hT.1 hc
    rw [if_pos (by simp), f_X7_reads_25, q_numbersOf, Option.bind_some, show s_want 0 = 0 by decide, if_pos (show nI 0 = 0 from rfl), s_read, if_pos hw]
    exact ⟨_, rfl, by simpa [cr_ce] using h11, fun a ha => (by cases ha), sameC.c (by simp)⟩
  | true =>
    rw [if_neg (by simp), h11, if_pos (cr_inn (by omega) (by omega)), cr_xn (by omega), h5, f_X7_reads_25, q_numbersOf, Option.bind_some, s_read]
    have hw4 := s_want_le (s_chr T p)
    by_cases hw : s_want (s_chr T p) = 0
    · rw [if_pos (by rw [hw]; rfl), if_pos hw]
      exact ⟨_, rfl, by simpa [cr_ce] using h11, fun a ha => (by cases ha), sameC.c (by simp)⟩
    · rw [if_neg (nI_ne0 (by omega) (by omega)), if_neg hw, h11, nI_1]
      have hs : sameC [11, 16, 17] v (cr_i (cr_i v 16 (s_chr T p)) 11 (nI (p + 1))) := (sameC.c (cs := [11, 16, 17]) (by simp)).tr (sameC.c (cs := [11, 16, 17]) (by simp)) (fun c h => h) (fun c h => h)
      obtain ⟨v2, g1, g2, g3, g4, g5⟩ := q_number (w := 0) (p := p + 1) (by omega) (hT.sm hs (by simp) (by simp)) hp (by simp [cr_ce])
      have hs2 : sameC [11, 16, 17] v v2 := hs.tr g5 (fun c h => h) (by simp)
      have hle := s_num_le T 4 (p + 1) 0 hp
      rw [show (0 : Int32) = nI 0 from rfl, g1, Option.bind_some, s_nums_eq]
      by_cases hz : (s_num T 4 (p + 1) 0).1 = p + 1
      · simp only [if_pos hz]
        refine ⟨v2, ?_, by rw [g2, hz], fun a ha => (by cases ha), hs2⟩
        rw [f_X7_reads_60]
        split
        · rw [f_X7_reads_98, if_pos rfl]; rfl
        · rw [f_X7_reads_98, if_pos rfl]; rfl
      · simp only [if_neg hz]
        obtain ⟨v3, i1, i2, i3, i4, i5⟩ := q_reads_60 10100 (s_want (s_chr T p) - 1) 1 (s_num T 4 (p + 1) 0).1 v2 (by omega) (by omega) (hT.sm hs2 (by simp) (by simp)) hle.2 g2
        rw [show 1 + (s_want (s_chr T p) - 1) = s_want (s_chr T p) by omega] at i1
        refine ⟨v3, ?_, i2, fun a ha => ?_, hs2.tr i5 (fun c h => h) (by simp)⟩
        · rw [show (1 : Int32) = nI 1 from rfl] at i1 ⊢
          rw [i1]
          cases (s_sep T (s_want (s_chr T p) - 1) (s_num T 4 (p + 1) 0).1).2 <;> rfl
        · cases hq : (s_sep T (s_want (s_chr T p) - 1) (s_num T 4 (p + 1) 0).1).2 with
          | none => rw [hq] at ha; cases ha
          | some b =>
            rw [hq] at ha
            cases ha
            refine ⟨by rw [i5 16 (by simp), g5 16 (by simp)]; simp [cr_ce], fun j hj => ?_⟩
            cases j with
            | zero => rw [i3 0 (by omega), g3]; rfl
            | succ j => rw [show j + 1 = 1 + j by omega, i4 b hq j (by omega), show 1 + j = j + 1 by omega]; rfl
