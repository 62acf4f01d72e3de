/-! which lots are given: the plan -/
def s_best (ok : Nat → Bool) (g : Nat → Int32) : Nat → Option Nat
  | 0 => none
  | n + 1 => if ok n then (match s_best ok g n with | none => some n | some b => if g n ≤ g b then some b else some n) else s_best ok g n
def s_enc (e : Int32) : Option Nat → Int32
  | none => e
  | some b => nI b
theorem s_best_lt {ok : Nat → Bool} {g : Nat → Int32} : ∀ {n b : Nat}, s_best ok g n = some b → b < n ∧ ok b = true
  | 0, b, h => by cases h
  | n + 1, b, h => by
    unfold s_best at h
    by_cases ho : ok n = true
    · rw [if_pos ho] at h
      cases hb : s_best ok g n with
      | none => rw [hb] at h; cases h; exact ⟨by omega, ho⟩
      | some c =>
        rw [hb] at h
        dsimp only at h
        obtain ⟨h1, h2⟩ := s_best_lt hb
        by_cases hc : g n ≤ g c
        · rw [if_pos hc] at h; cases h; exact ⟨by omega, h2⟩
        · rw [if_neg hc] at h; cases h; exact ⟨by omega, ho⟩
    · rw [if_neg ho] at h
      obtain ⟨h1, h2⟩ := s_best_lt h
      exact ⟨by omega, h2⟩
def s_take (want bags : Int32) : Int32 := if bags < want then bags else want
def s_plan (g b : Nat → Int32) (N : Nat) : Nat → (Nat → Bool) → Int32 → List (Nat × Int32)
  | 0, _, _ => []
  | f + 1, ok, want => if want ≤ 0 then [] else match s_best ok g N with
    | none => []
    | some r => (r, s_take want (b r)) :: s_plan g b N f (fun j => ok j && !decide (j = r)) (want - s_take want (b r))
theorem s_plan_none {g b : Nat → Int32} {N : Nat} {ok : Nat → Bool} (h : s_best ok g N = none) : ∀ (f : Nat) (want : Int32), s_plan g b N f ok want = []
  | 0, _ => rfl
  | f + 1, want => by unfold s_plan; rw [h]; split <;> rfl
theorem s_plan_done {g b : Nat → Int32} {N : Nat} {ok : Nat → Bool} {want : Int32} (h : want ≤ 0) : ∀ (f : Nat), s_plan g b N f ok want = []
  | 0 => rfl
  | f + 1 => by unfold s_plan; rw [if_pos h]
def s_tot (f : Nat → Int32) : List (Nat × Int32) → Int32 → Int32
  | [], a => a
  | q :: l, a => s_tot f l (a + q.2 * f q.1)
def s_used (b : Nat → Int32) : List (Nat × Int32) → Int32 → Int32
  | [], a => a
  | q :: l, a => s_used b l (a + (if q.2 = b q.1 then 1 else 0))
def s_left : List (Nat × Int32) → Int32 → Int32
  | [], a => a
  | q :: l, a => s_left l (a - q.2)
theorem s_tot_app (f : Nat → Int32) (q : Nat × Int32) : ∀ (P : List (Nat × Int32)) (a : Int32), s_tot f (P ++ [q]) a = s_tot f P a + q.2 * f q.1
  | [], a => rfl
  | x :: P, a => s_tot_app f q P _
theorem s_used_app (b : Nat → Int32) (q : Nat × Int32) : ∀ (P : List (Nat × Int32)) (a : Int32), s_used b (P ++ [q]) a = s_used b P a + (if q.2 = b q.1 then 1 else 0)
  | [], a => rfl
  | x :: P, a => s_used_app b q P _
def plOut (g b p c : Nat → Int32) (P : List (Nat × Int32)) (want : Int32) (d : cr_V) : Prop :=
  P.length ≤ 12 ∧ d 2 0 = nI P.length ∧ d 3 0 = want ∧ (∀ i q, P[i]? = some q → d 0 i = nI q.1 ∧ d 1 i = q.2) ∧ d 4 0 = s_tot p P 0 ∧ d 5 0 = s_tot g P 0 ∧ d 6 0 = s_tot c P 0 ∧ d 7 0 = s_used b P 0
def plIn (ok : Nat → Bool) (g p c : Nat → Int32) (N : Nat) (d : cr_V) : Prop := (∀ j, j < N → d 8 j = if ok j then 1 else 0) ∧ ∀ j, j < N → d 9 j = c j ∧ d 10 j = p j ∧ d 11 j = g j
theorem p_X1_best_4 {ok : Nat → Bool} {g p c : Nat → Int32} {N : Nat} {d : cr_V} (hN : N ≤ 12) (hd : plIn ok g p c N d) : ∀ (n k : Nat), k ≤ N → N - k < n →
    f_X1_rowOfGreatestGain_4 n d (nI N) (s_enc (-1) (s_best ok g k)) (nI k) = some (s_enc (-1) (s_best ok g N)) := by
  obtain ⟨h1, h2⟩ := hd
  intro n
  induction n with
  | zero => intro k a b; omega
  | succ n ih =>
    intro k hk hn
    rw [f_X1_rowOfGreatestGain_4]
    by_cases hk2 : k = N
    · rw [if_pos (show nI N ≤ nI k from c_le N k rfl rfl (by omega) (by omega)), hk2]
    · have ih2 := ih (k + 1) (by omega) (by omega)
      rw [if_neg (show ¬ nI N ≤ nI k from c_nle N k rfl rfl (by omega) (by omega)), if_pos (cr_inn (by omega) (by omega)), cr_xn (by omega), h1 k (by omega)]
      rw [show s_best ok g (k + 1) = (if ok k then (match s_best ok g k with | none => some k | some b => if g k ≤ g b then some b else some k) else s_best ok g k) from rfl] at ih2
      by_cases ho : ok k = true
      · rw [if_pos ho] at ih2 ⊢
        rw [if_neg (by decide)]
        cases hb : s_best ok g k with
        | none =>
          rw [hb] at ih2
          rw [s_enc, if_pos (by decide), f_X1_rowOfGreatestGain_37, f_X1_rowOfGreatestGain_39, nI_1]
          exact ih2
        | some r =>
          obtain ⟨h3, h4⟩ := s_best_lt hb
          rw [hb] at ih2
          dsimp only at ih2
          rw [s_enc, if_neg (nI_pos (by omega)), if_pos (cr_inn (by omega) (by omega)), cr_xn (by omega), (h2 k (by omega)).2.2, (h2 r (by omega)).2.2]
          by_cases hg : g k ≤ g r
          · rw [if_pos hg] at ih2 ⊢
            rw [f_X1_rowOfGreatestGain_39, nI_1]
            exact ih2
          · rw [if_neg hg] at ih2 ⊢
            rw [f_X1_rowOfGreatestGain_37, f_X1_rowOfGreatestGain_39, nI_1]
            exact ih2
      · rw [if_neg ho] at ih2 ⊢
        rw [if_pos rfl, f_X1_rowOfGreatestGain_39, nI_1]
        exact ih2
theorem p_X1_best {ok : Nat → Bool} {g p c : Nat → Int32} {N : Nat} {d : cr_V} (hN : N ≤ 12) (hd : plIn ok g p c N d) : f_X1_rowOfGreatestGain d (nI N) = some (s_enc (-1) (s_best ok g N)) :=
  p_X1_best_4 hN hd 10100 0 (by omega) (by omega)
theorem p_X1_take {ok : Nat → Bool} {g b p c : Nat → Int32} {N : Nat} {P : List (Nat × Int32)} {want : Int32} {d : cr_V} (hN : N ≤ 12) (hO : plOut g b p c P want d) (hd : plIn ok g p c N d) {r : Nat} (hr : r < N) (hP : P.length < 12) :
    ∃ d', f_X1_take d (nI r) (b r) = some d' ∧ plOut g b p c (P ++ [(r, s_take want (b r))]) (want - s_take want (b r)) d' ∧ plIn (fun j => ok j && !decide (j = r)) g p c N d' := by
  obtain ⟨o1, o2, o3, o4, o5, o6, o7, o8⟩ := hO
  obtain ⟨h1, h2⟩ := hd
  obtain ⟨e1, e2, e3⟩ := h2 r hr
  have hz : vp_nar .boolean 0 = 0 := rfl
  have hrows : ∀ (i : Nat) (q : Nat × Int32), (P ++ [(r, s_take want (b r))])[i]? = some q → (upd (d 0) P.length (nI r)) i = nI q.1 ∧ (upd (d 1) P.length (s_take want (b r))) i = q.2 := by
    intro i q hq
    by_cases hi : i < P.length
    · rw [List.getElem?_append_left hi] at hq
      have hne : ¬ i = P.length := by omega
      simpa [cr_up, hne] using o4 i q hq
    · have hl := p_lt hq
      rw [List.length_append] at hl
      simp at hl
      have hi2 : i = P.length := by omega
      subst hi2
      rw [List.getElem?_append_right (Nat.le_refl _)] at hq
      simp at hq
      subst hq
      simp [cr_up]
  have hlen : (P ++ [(r, s_take want (b r))]).length = P.length + 1 := by rw [List.length_append]; rfl
  have hwait : ∀ (f : Nat → Int32), (∀ j, j < N → f j = if ok j then 1 else 0) → ∀ j, j < N → (upd f r 0) j = if (ok j && !decide (j = r)) then 1 else 0 := by
    intro f hf j hj
    by_cases hjr : j = r
    · subst hjr; simp [cr_up]
    · simp [cr_up, hjr, hf j hj]
  have hx1 : cr_x (nI r) = r := cr_xn (by omega)
  have hx2 : cr_x (nI P.length) = P.length := cr_xn (by omega)
  have ht : (if b r < want then b r else want) = s_take want (b r) := rfl
  rw [f_X1_take]
  simp only [o2, o3, o5, o6, o7, o8, hx1, hx2, e1, e2, e3, ht]
  generalize s_take want (b r) = t at *
  rw [if_pos (show nI P.length < 12 from c_lt P.length 12 rfl rfl (by omega) (by omega)), if_pos (cr_inn hP (by omega)), if_pos (cr_inn (by omega) (by omega))]
  by_cases htb : t = b r
  · rw [if_pos htb, f_X1_take_125, if_pos (cr_inn (by omega) (by omega)), hx1]
    refine ⟨_, rfl, ⟨by omega, ?_, ?_, fun i q hq => ?_, ?_, ?_, ?_, ?_⟩, fun j hj => ?_, fun j hj => ?_⟩
    · simp [cr_ce, hlen, nI_1]
    · simp [cr_ce]
    · simpa [cr_ce] using hrows i q hq
    · simp [cr_ce, s_tot_app]
    · simp [cr_ce, s_tot_app]
    · simp [cr_ce, s_tot_app]
    · simp [cr_ce, s_used_app, htb]
    · have := hwait _ h1 j hj
      simpa [cr_ce, hz] using this
    · simpa [cr_ce] using h2 j hj
  · rw [if_neg htb, f_X1_take_125, if_pos (cr_inn (by omega) (by omega)), hx1]
    refine ⟨_, rfl, ⟨by omega, ?_, ?_, fun i q hq => ?_, ?_, ?_, ?_, ?_⟩, fun j hj => ?_, fun j hj => ?_⟩
    · simp [cr_ce, hlen, nI_1]
    · simp [cr_ce]
    · simpa [cr_ce] using hrows i q hq
    · simp [cr_ce, s_tot_app]
    · simp [cr_ce, s_tot_app]
    · simp [cr_ce, s_tot_app]
    · simp [cr_ce, s_used_app, htb, o8]
    · have := hwait _ h1 j hj
      simpa [cr_ce, hz] using this
    · simpa [cr_ce] using h2 j hj
