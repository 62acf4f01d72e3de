/-! the text and its orders, on the class -/
def crT (T : List Int32) (vo : cr_V) : Prop := s_txt T ∧ vo 1 0 = nI T.length ∧ ∀ (j : Nat) (x : Int32), T[j]? = some x → vo 0 j = x
theorem crT.sm {T : List Int32} {v v' : cr_V} {cs : List Nat} (hT : crT T v) (h : sameC cs v v') (h0 : 0 ∉ cs) (h1 : 1 ∉ cs) : crT T v' := ⟨hT.1, by rw [h 1 h1]; exact hT.2.1, by rw [h 0 h0]; exact hT.2.2⟩
theorem cr_char_of {c : Int32} (h : s_in c 32 126 = true) : cr_char c = true := by
  obtain ⟨k, k1, k2, rfl⟩ := p_inN (a := 32) (b := 126) h (by omega) (by omega)
  exact decide_eq_true (pk_charN (show k < 65536 by omega)).1
def p_Ok (o : cr_R) (out : Option (Int32 × cr_V × cr_V × cr_V × cr_V)) : Prop := match o with
  | .inl e => ∃ h l k d, out = some (e, h, l, k, d)
  | .inr q => ∃ h l k d, out = some (q.1, h, l, k, d) ∧ crC q.2 h l k
theorem p_X6_isError (x : Int32) : f_X6_isError x = some (if s_in x (-2000000004) (-2000000001) = true then 1 else 0) := by
  rw [f_X6_isError, p_X6_isWithin, Option.bind_some]
  cases s_in x (-2000000004) (-2000000001) <;> rfl
def p_Run (T : List Int32) (B D : Nat) (o : (Nat × Int32 × Int32) ⊕ (Nat × cr_S)) (out : Option (cr_V × cr_V × cr_V × cr_V × cr_V)) : Prop := match o with
  | .inl r => ∃ vo h l k d, out = some (vo, h, l, k, d) ∧ vo 2 0 = nI r.1 ∧ vo 3 0 = r.2.1 ∧ vo 4 0 = r.2.2 ∧ ¬ vo 3 0 = 0 ∧ crT T vo
  | .inr r => ∃ vo h l k d, out = some (vo, h, l, k, d) ∧ vo 3 0 = 0 ∧ vo 5 0 = nI r.1 ∧ crC r.2 h l k ∧ crT T vo ∧ s_inv B r.2 ∧ r.1 ≤ D
theorem p_Run.mono {T : List Int32} {B D B' D' : Nat} {o : (Nat × Int32 × Int32) ⊕ (Nat × cr_S)} {out : Option (cr_V × cr_V × cr_V × cr_V × cr_V)} (h : p_Run T B D o out) (hB : B ≤ B') (hD : D ≤ D') : p_Run T B' D' o out := by
  unfold p_Run at *
  cases o with
  | inl r => exact h
  | inr r =>
    obtain ⟨vo, h', l, k, d, e1, e2, e3, e4, e5, e6, e7⟩ := h
    exact ⟨vo, h', l, k, d, e1, e2, e3, e4, e5, e6.mono hB, Nat.le_trans e7 hD⟩
theorem z_nerr {r : Int32} (h : (-2000000001) < r) : s_in r (-2000000004) (-2000000001) = false := by
  unfold s_in
  rw [decide_eq_true h]; simp
