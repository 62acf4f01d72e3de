/-! the model's operations -/
def s_chg (r : Int32) (H : List cr_S) (S : cr_S) : List cr_S := if r = 0 then s_push H S else H
theorem mdP.sm {H : List cr_S} {v v' : cr_V} {cs : List Nat} (hP : mdP H v) (h : sameC cs v v') (h1 : 1 ∉ cs) (h3 : 3 ∉ cs) : mdP H v' := by
  refine ⟨hP.1, by rw [h 3 h3]; exact hP.2.1, ?_⟩
  rw [h 1 h1]; exact hP.2.2
def q_Ok (o : cr_R) (S : cr_S) (H : List cr_S) (v : cr_V) (out : Option (Int32 × cr_V)) : Prop := match o with
  | .inl e => ∃ v', out = some (e, v') ∧ mdR S (v' 0) ∧ mdP H v' ∧ sameC [7, 8, 9, 10] v v'
  | .inr q => ∃ v', out = some (q.1, v') ∧ mdR q.2 (v' 0) ∧ mdP (s_chg (v 4 0) H S) v' ∧ sameC [0, 1, 3, 7, 8, 9, 10] v v'
theorem q_12 {n : Nat} (h : n ≤ 12) : (nI n = 12) = (n = 12) := propext ⟨fun e => nI_inj (b := 12) (by omega) (by omega) e, fun e => by rw [e]; rfl⟩
theorem q_6 {n : Nat} (h : n ≤ 6) : (nI n = 6) = (n = 6) := propext ⟨fun e => nI_inj (b := 6) (by omega) (by omega) e, fun e => by rw [e]; rfl⟩
