/-! the orders, on the model -/
theorem i_call {b : Nat} {S : cr_S} (hI : s_inv b S) (hb : b < 2 ^ 30) (h12 : S.1.length ≤ 12) (h6 : S.2.1.length ≤ 6) (c : Int32) (a : List Int32) : s_Op b (s_call S c a) := by
  unfold s_call
  split
  · exact i_blend hI hb _ _ _ _
  · split
    · exact i_cup hI _
    · split
      · exact i_meet hI h12 h6 _
      · split
        · exact i_lot hI hb _ _
        · split
          · exact i_sell hI h6 _ _
          · exact i_pass hI h6 _
theorem q_eta {α β : Type} (x : Option (α × β)) : (x.bind fun q => some (q.1, q.2)) = x := by cases x <;> rfl
def q_Run (o : (Nat × Int32 × Int32) ⊕ (Nat × cr_S)) (H : List cr_S) (v : cr_V) (out : Option (Int32 × cr_V)) : Prop := match o with
  | .inl r => ∃ v', out = some (0, v') ∧ v' 12 0 = nI r.1 ∧ v' 13 0 = r.2.1 ∧ v' 14 0 = r.2.2 ∧ mdP H v' ∧ v' 4 0 = 0 ∧ sameC [0, 1, 3, 4, 7, 8, 9, 10, 11, 12, 13, 14, 15, 16, 17] v v'
  | .inr r => ∃ v', out = some (1, v') ∧ v' 15 0 = nI r.1 ∧ mdR r.2 (v' 0) ∧ mdP H v' ∧ v' 4 0 = 0 ∧ sameC [0, 1, 3, 4, 7, 8, 9, 10, 11, 12, 13, 14, 15, 16, 17] v v'
theorem q_Run.tr {o : (Nat × Int32 × Int32) ⊕ (Nat × cr_S)} {H : List cr_S} {u v : cr_V} {out : Option (Int32 × cr_V)} {cs : List Nat} (h : q_Run o H v out) (hs : sameC cs u v) (hc : ∀ c, c ∈ cs → c ∈ [0, 1, 3, 4, 7, 8, 9, 10, 11, 12, 13, 14, 15, 16, 17]) : q_Run o H u out := by
  unfold q_Run at *
  cases o with
  | inl r =>
    obtain ⟨v', e1, e2, e3, e4, e5, e6, e7⟩ := h
    exact ⟨v', e1, e2, e3, e4, e5, e6, hs.tr e7 hc (fun c h => h)⟩
  | inr r =>
    obtain ⟨v', e1, e2, e3, e4, e5, e6⟩ := h
    exact ⟨v', e1, e2, e3, e4, e5, hs.tr e6 hc (fun c h => h)⟩
theorem z_err {e : Int32} (h : s_in e (-2000000004) (-2000000001) = true) : e ≤ -2000000001 := by
  unfold s_in at h
  simp at h
  exact h.2
/-- the model, whole: the state, the past, the text -/
def mdA (S : cr_S) (H : List cr_S) (T : List Int32) (v : cr_V) : Prop := mdR S (v 0) ∧ mdP H v ∧ mdT T v ∧ v 4 0 = 0
noncomputable def r_fault (T : List Int32) (S : cr_S) (w : Int32) : Int32 := if s_in w 0 2 = true then (match s_run T 61 0 S 0 with
  | .inl r => if w = 0 then nI r.1 else if w = 1 then r.2.1 else r.2.2
  | .inr _ => (-2000000004)) else (-2000000001)
theorem md_back {S : cr_S} {s s' c : cr_V} (hM : mdR S (s 0)) (h : ∀ t, s' 0 t = if t < 81 then s 0 t else c 0 t) : mdR S (s' 0) := md_congr hM fun t ht => by rw [h, if_pos ht]
noncomputable def o_play (T : List Int32) (S : cr_S) : cr_R := match s_run T 61 0 S 0 with
  | .inl _ => .inl (-2000000002)
  | .inr r => .inr (nI r.1, r.2)
def s_typed (T : List Int32) (c : Int32) : Int32 ⊕ List Int32 := if s_in c 32 126 = true then (if T.length = 60 then .inl (-2000000003) else .inr (T ++ [c])) else .inl (-2000000001)
theorem s_txt.add {T : List Int32} {c : Int32} (h : s_txt T) (hl : ¬ T.length = 60) (hc : s_in c 32 126 = true) : s_txt (T ++ [c]) := by
  have := h.1
  refine ⟨by rw [List.length_append, List.length_singleton]; omega, fun x hx => ?_⟩
  rcases List.mem_append.mp hx with k | k
  · exact h.2 x k
  · rw [List.mem_singleton] at k; rw [k]; exact hc
