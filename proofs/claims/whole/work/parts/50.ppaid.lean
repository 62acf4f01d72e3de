/-! what a plan's lots are -/
theorem s_plan_mem {g b : Nat → Int32} {N : Nat} : ∀ {f : Nat} {ok : Nat → Bool} {want : Int32} {q : Nat × Int32}, q ∈ s_plan g b N f ok want → q.1 < N ∧ ok q.1 = true ∧ ∃ u : Int32, 0 < u ∧ q.2 = s_take u (b q.1)
  | 0, ok, want, q, h => by simp [s_plan] at h
  | f + 1, ok, want, q, h => by
    unfold s_plan at h
    by_cases hw : want ≤ 0
    · rw [if_pos hw] at h; simp at h
    · rw [if_neg hw] at h
      cases hb : s_best ok g N with
      | none => rw [hb] at h; simp at h
      | some r =>
        obtain ⟨h1, h2⟩ := s_best_lt hb
        rw [hb] at h
        dsimp only at h
        rcases List.mem_cons.mp h with rfl | h
        · exact ⟨h1, h2, want, Int32.not_le.mp hw, rfl⟩
        · obtain ⟨a1, a2, a3⟩ := s_plan_mem h
          simp at a2
          exact ⟨a1, a2.1, a3⟩
theorem s_plan_nd {g b : Nat → Int32} {N : Nat} : ∀ {f : Nat} {ok : Nat → Bool} {want : Int32}, ((s_plan g b N f ok want).map (·.1)).Nodup
  | 0, ok, want => by simp [s_plan]
  | f + 1, ok, want => by
    unfold s_plan
    by_cases hw : want ≤ 0
    · rw [if_pos hw]; simp
    · rw [if_neg hw]
      cases hb : s_best ok g N with
      | none => simp
      | some r =>
        dsimp only
        rw [List.map_cons, List.nodup_cons]
        refine ⟨fun h => ?_, s_plan_nd⟩
        obtain ⟨q, hq, he⟩ := List.mem_map.mp h
        have := (s_plan_mem hq).2.1
        simp [he] at this
theorem q_paidAll_6 {L : List cr_Lot} {w st g : Nat → Int32} {v : cr_V} (hL : mdL L (v 0)) (hG : mdG w st g (v 0)) {P : List (Nat × Int32)} {want : Int32} (hO : qOut P want v) (hp : ∀ q ∈ P, q.1 < L.length) (price m : Int32) : ∀ (n i : Nat), i ≤ P.length → P.length - i < n →
    f_X7_paidAll_6 n v price m 0 (s_tot (s_at L (fun x => s_pay st x price m)) (P.take i) 0) (nI i) = some (s_tot (s_at L (fun x => s_pay st x price m)) P 0) ∧
    f_X7_paidAll_6 n v price m 1 (s_tot (s_at L (fun x => s_gain w st x price m)) (P.take i) 0) (nI i) = some (s_tot (s_at L (fun x => s_gain w st x price m)) P 0) := by
  obtain ⟨o1, o2, o3, o4⟩ := hO
  intro n
  induction n with
  | zero => intro i a b; omega
  | succ n ih =>
    intro i hi hn
    rw [f_X7_paidAll_6, f_X7_paidAll_6, o2]
    by_cases hk : i = P.length
    · rw [if_pos (show nI P.length ≤ nI i from c_le P.length i rfl rfl (by omega) (by omega)), if_pos (show nI P.length ≤ nI i from c_le P.length i rfl rfl (by omega) (by omega)), hk, List.take_length]
      exact ⟨rfl, rfl⟩
    · have hq : P[i]? = some P[i] := List.getElem?_eq_getElem (by omega)
      have hr : P[i].1 < L.length := hp _ (List.getElem_mem _)
      have hx : L[P[i].1]? = some L[P[i].1] := List.getElem?_eq_getElem hr
      obtain ⟨a1, a2⟩ := o4 i _ hq
      obtain ⟨b1, b2⟩ := ih (i + 1) (by omega) (by omega)
      rw [p_take (by omega), s_tot_app, s_at_of hx] at b1 b2
      rw [if_neg (show ¬ nI P.length ≤ nI i from c_nle P.length i rfl rfl (by omega) (by omega)), if_pos (cr_inn (by omega) (by omega)), if_pos rfl, if_neg (show ¬ nI P.length ≤ nI i from c_nle P.length i rfl rfl (by omega) (by omega)), if_pos (cr_inn (by omega) (by omega)), if_neg (by decide), cr_xn (by omega), a1, a2, q_paidAt hL hG hx, q_gainAt hL hG hx, Option.bind_some, Option.bind_some, f_X7_paidAll_57, f_X7_paidAll_57, nI_1]
      exact ⟨b1, b2⟩
theorem q_paidAll0 {L : List cr_Lot} {w st g : Nat → Int32} {v : cr_V} (hL : mdL L (v 0)) (hG : mdG w st g (v 0)) {P : List (Nat × Int32)} {want : Int32} (hO : qOut P want v) (hp : ∀ q ∈ P, q.1 < L.length) (price m : Int32) : f_X7_paidAll v price m 0 = some (s_tot (s_at L (fun x => s_pay st x price m)) P 0) :=
  (q_paidAll_6 hL hG hO hp price m 10100 0 (by omega) (by have := hO.1; omega)).1
theorem q_paidAll1 {L : List cr_Lot} {w st g : Nat → Int32} {v : cr_V} (hL : mdL L (v 0)) (hG : mdG w st g (v 0)) {P : List (Nat × Int32)} {want : Int32} (hO : qOut P want v) (hp : ∀ q ∈ P, q.1 < L.length) (price m : Int32) : f_X7_paidAll v price m 1 = some (s_tot (s_at L (fun x => s_gain w st x price m)) P 0) :=
  (q_paidAll_6 hL hG hO hp price m 10100 0 (by omega) (by have := hO.1; omega)).2
theorem s_deliver_lt {w st : Nat → Int32} {L : List cr_Lot} {price m : Int32} : ∀ q ∈ s_deliver w st L price m, q.1 < L.length := fun q hq => (s_plan_mem hq).1
