/-! the text and its orders -/
def s_chr (T : List Int32) (p : Nat) : Int32 := T.getD p 0
def s_num (T : List Int32) : Nat → Nat → Int32 → Nat × Int32
  | 0, p, a => (p, a)
  | d + 1, p, a => if s_in (s_chr T p) 48 57 then s_num T d (p + 1) (10 * a + s_chr T p - 48) else (p, a)
def s_nums (T : List Int32) : Nat → Nat → Nat × Option (List Int32)
  | 0, p => if (s_num T 4 p 0).1 = p then (p, none) else if s_chr T (s_num T 4 p 0).1 = 59 then ((s_num T 4 p 0).1 + 1, some [(s_num T 4 p 0).2]) else ((s_num T 4 p 0).1, none)
  | w + 1, p => if (s_num T 4 p 0).1 = p then (p, none) else if s_chr T (s_num T 4 p 0).1 = 44 then ((s_nums T w ((s_num T 4 p 0).1 + 1)).1, (s_nums T w ((s_num T 4 p 0).1 + 1)).2.map ((s_num T 4 p 0).2 :: ·)) else ((s_num T 4 p 0).1, none)
def s_sep (T : List Int32) : Nat → Nat → Nat × Option (List Int32)
  | 0, p => if s_chr T p = 59 then (p + 1, some []) else (p, none)
  | w + 1, p => if s_chr T p = 44 then s_nums T w (p + 1) else (p, none)
theorem s_nums_eq (T : List Int32) (w p : Nat) : s_nums T w p = if (s_num T 4 p 0).1 = p then (p, none) else ((s_sep T w (s_num T 4 p 0).1).1, (s_sep T w (s_num T 4 p 0).1).2.map ((s_num T 4 p 0).2 :: ·)) := by
  cases w with
  | zero =>
    rw [s_nums, s_sep]
    split
    · rfl
    · split <;> rfl
  | succ w =>
    rw [s_nums, s_sep]
    split
    · rfl
    · split <;> rfl
def s_want (c : Int32) : Nat := if c = 98 then 4 else if c = 99 then 1 else if c = 100 then 1 else if c = 108 then 2 else if c = 109 then 1 else if c = 115 then 2 else 0
def s_read (T : List Int32) (p : Nat) : Nat × Option (List Int32) := if s_want (s_chr T p) = 0 then (p, none) else s_nums T (s_want (s_chr T p) - 1) (p + 1)
def s_txt (T : List Int32) : Prop := T.length ≤ 60 ∧ ∀ c ∈ T, s_in c 32 126 = true
theorem s_chr_of {T : List Int32} {p : Nat} {c : Int32} (h : T[p]? = some c) : s_chr T p = c := by unfold s_chr; rw [List.getD_eq_getElem?_getD, h]; rfl
theorem s_chr_end {T : List Int32} {p : Nat} (h : T.length ≤ p) : s_chr T p = 0 := by unfold s_chr; rw [List.getD_eq_getElem?_getD, List.getElem?_eq_none h]; rfl
theorem s_chr_in {T : List Int32} {p : Nat} {a b : Int32} (h0 : s_in 0 a b = false) (h : s_in (s_chr T p) a b = true) : p < T.length := by
  by_cases hp : p < T.length
  · exact hp
  · rw [s_chr_end (by omega), h0] at h; cases h
theorem s_chr_eq {T : List Int32} {p : Nat} {c : Int32} (h0 : c ≠ 0) (h : s_chr T p = c) : p < T.length := by
  by_cases hp : p < T.length
  · exact hp
  · rw [s_chr_end (by omega)] at h; exact absurd h.symm h0
theorem s_num_le (T : List Int32) : ∀ (d p : Nat) (a : Int32), p ≤ T.length → p ≤ (s_num T d p a).1 ∧ (s_num T d p a).1 ≤ T.length
  | 0, p, a, h => ⟨Nat.le_refl _, h⟩
  | d + 1, p, a, h => by
    rw [s_num]
    split
    · rename_i hc
      have hp := s_chr_in (by decide) hc
      have := s_num_le T d (p + 1) (10 * a + s_chr T p - 48) hp
      exact ⟨by omega, this.2⟩
    · exact ⟨Nat.le_refl _, h⟩
theorem s_nums_le (T : List Int32) : ∀ (w p : Nat), p ≤ T.length → p ≤ (s_nums T w p).1 ∧ (s_nums T w p).1 ≤ T.length ∧ ∀ a, (s_nums T w p).2 = some a → p < (s_nums T w p).1 ∧ a.length = w + 1
  | 0, p, h => by
    have h1 := s_num_le T 4 p 0 h
    rw [s_nums]
    split
    · exact ⟨Nat.le_refl _, h, fun a ha => by cases ha⟩
    · split
      · rename_i hc
        have hp := s_chr_eq (by decide) hc
        exact ⟨by show p ≤ (s_num T 4 p 0).1 + 1; omega, hp, fun a ha => ⟨by show p < (s_num T 4 p 0).1 + 1; omega, by cases ha; rfl⟩⟩
      · exact ⟨h1.1, h1.2, fun a ha => by cases ha⟩
  | w + 1, p, h => by
    have h1 := s_num_le T 4 p 0 h
    rw [s_nums]
    split
    · exact ⟨Nat.le_refl _, h, fun a ha => by cases ha⟩
    · split
      · rename_i hc
        have hp := s_chr_eq (by decide) hc
        obtain ⟨i1, i2, i3⟩ := s_nums_le T w ((s_num T 4 p 0).1 + 1) hp
        refine ⟨by dsimp only; omega, i2, fun a ha => ?_⟩
        dsimp only at ha ⊢
        cases hq : (s_nums T w ((s_num T 4 p 0).1 + 1)).2 with
        | none => rw [hq] at ha; cases ha
        | some b =>
          rw [hq] at ha
          cases ha
          have := i3 b hq
          exact ⟨by omega, by simp [this.2]⟩
      · exact ⟨h1.1, h1.2, fun a ha => by cases ha⟩
theorem s_read_le {T : List Int32} {p : Nat} (h : p < T.length) : p ≤ (s_read T p).1 ∧ (s_read T p).1 ≤ T.length ∧ ∀ a, (s_read T p).2 = some a → p < (s_read T p).1 ∧ a.length = s_want (s_chr T p) ∧ s_want (s_chr T p) ≠ 0 := by
  rw [s_read]
  split
  · exact ⟨Nat.le_refl _, Nat.le_of_lt h, fun a ha => by cases ha⟩
  · obtain ⟨i1, i2, i3⟩ := s_nums_le T (s_want (s_chr T p) - 1) (p + 1) h
    refine ⟨by omega, i2, fun a ha => ?_⟩
    have := i3 a ha
    exact ⟨by omega, by omega, by assumption⟩
noncomputable def s_call (S : cr_S) (c : Int32) (a : List Int32) : cr_R :=
  if c = 98 then o_blend S (a.getD 0 0) (a.getD 1 0) (a.getD 2 0) (a.getD 3 0) else if c = 99 then o_cup S (a.getD 0 0) else if c = 100 then o_meet S (a.getD 0 0) else if c = 108 then o_lot S (a.getD 0 0) (a.getD 1 0) else if c = 115 then o_sell S (a.getD 0 0) (a.getD 1 0) else o_pass S (a.getD 0 0)
/-- all orders from a place on: the first with a fault (where it stands, reason, cause), or how many and the state behind them -/
noncomputable def s_run (T : List Int32) : Nat → Nat → cr_S → Nat → (Nat × Int32 × Int32) ⊕ (Nat × cr_S)
  | 0, _, S, d => .inr (d, S)
  | n + 1, p, S, d => if p < T.length then (match (s_read T p).2 with
      | none => .inl (p, 1, nI ((s_read T p).1 - p))
      | some a => match s_call S (s_chr T p) a with
        | .inl e => .inl (p, 2, e)
        | .inr q => s_run T n (s_read T p).1 q.2 (d + 1)) else .inr (d, S)
/-! the text on the model -/
def mdT (T : List Int32) (v : cr_V) : Prop := s_txt T ∧ v 6 0 = nI T.length ∧ ∀ (j : Nat) (x : Int32), T[j]? = some x → v 5 j = x
theorem mdT.sm {T : List Int32} {v v' : cr_V} {cs : List Nat} (hT : mdT T v) (h : sameC cs v v') (h5 : 5 ∉ cs) (h6 : 6 ∉ cs) : mdT T v' := ⟨hT.1, by rw [h 6 h6]; exact hT.2.1, by rw [h 5 h5]; exact hT.2.2⟩
theorem s_want_le (c : Int32) : s_want c ≤ 4 := by unfold s_want; (repeat' split) <;> omega
theorem s_in_0 {T : List Int32} {p : Nat} (hT : s_txt T) (h : s_in (s_chr T p) 33 126 = false) : s_want (s_chr T p) = 0 := by
  unfold s_want
  have : ∀ c : Int32, s_in c 33 126 = true → s_chr T p ≠ c := fun c hc e => by rw [e, hc] at h; cases h
  rw [if_neg (this 98 (by decide)), if_neg (this 99 (by decide)), if_neg (this 100 (by decide)), if_neg (this 108 (by decide)), if_neg (this 109 (by decide)), if_neg (this 115 (by decide))]
