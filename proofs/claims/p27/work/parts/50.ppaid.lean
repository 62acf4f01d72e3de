/-! what a plan's lots are -/
theorem s_plan_mem {g b : Nat → Int32} {N : Nat} : ∀ {f : Nat} {ok : Nat → Bool} {want : Int32} {q : Nat × Int32}, q ∈ s_plan g b N f ok want → q.1 < N ∧ ok q.1 = true ∧ ∃ u : Int32, 0 < u ∧ q.2 = s_take u (b q.1)
  | 0, ok, want, q, h => by simp [s_plan] at h
  | f + 1, ok, want, q, h => by
    unfold s_plan at h
    by_cases hw : want ≤ 0
    · rw [if_pos hw] at h; simp at h
    · rw [if_neg hw] at h
      cases hb : s_best ok g N with
      | none => rw [hb] at h; simp at h
      | some r =>
        obtain ⟨h1, h2⟩ := s_best_lt hb
        rw [hb] at h
        dsimp only at h
        rcases List.mem_cons.mp h with rfl | h
        · exact ⟨h1, h2, want, Int32.not_le.mp hw, rfl⟩
        · obtain ⟨a1, a2, a3⟩ := s_plan_mem h
          simp at a2
          exact ⟨a1, a2.1, a3⟩
theorem s_plan_nd {g b : Nat → Int32} {N : Nat} : ∀ {f : Nat} {ok : Nat → Bool} {want : Int32}, ((s_plan g b N f ok want).map (·.1)).Nodup
  | 0, ok, want => by simp [s_plan]
  | f + 1, ok, want => by
    unfold s_plan
    by_cases hw : want ≤ 0
    · rw [if_pos hw]; simp
    · rw [if_neg hw]
      cases hb : s_best ok g N with
      | none => simp
      | some r =>
        dsimp only
        rw [List.map_cons, List.nodup_cons]
        refine ⟨fun h => ?_, s_plan_nd⟩
        obtain ⟨q, hq, he⟩ := List.mem_map.mp h
        have := (s_plan_mem hq).2.1
        simp [he] at this
theorem s_deliver_lt {w st : Nat → Int32} {L : List cr_Lot} {price m : Int32} : ∀ q ∈ s_deliver w st L price m, q.1 < L.length := fun q hq => (s_plan_mem hq).1
