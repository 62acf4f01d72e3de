/-! class and model, side by side: every call answers alike -/
def lwR (b : Nat) (vh vl vk vs vo vz : cr_V) (vx : Nat → Nat → cr_V) : Prop := ∃ (S : cr_S) (H : List cr_S) (T : List Int32), crC S vh vl vk ∧ crX H vs vx ∧ crT T vo ∧ mdA S H T vz ∧ s_inv b S ∧ ∀ U ∈ H, s_inv b U
theorem mdA.sm {S : cr_S} {H : List cr_S} {T : List Int32} {v v' : cr_V} (hA : mdA S H T v) (h : sameC [7, 8, 9, 10] v v') : mdA S H T v' :=
  ⟨by rw [h 0 (by simp)]; exact hA.1, hA.2.1.sm h (by simp) (by simp), hA.2.2.1.sm h (by simp) (by simp), by rw [h 4 (by simp)]; exact hA.2.2.2⟩
theorem s_push_mem {H : List cr_S} {S U : cr_S} (h : U ∈ s_push H S) : U ∈ H ∨ U = S := by
  unfold s_push at h
  split at h
  · rcases List.mem_append.mp h with k | k
    · exact Or.inl (List.mem_of_mem_tail k)
    · exact Or.inr (List.mem_singleton.mp k)
  · rcases List.mem_append.mp h with k | k
    · exact Or.inl k
    · exact Or.inr (List.mem_singleton.mp k)
def q_Md (o : cr_R) (S : cr_S) (H : List cr_S) (T : List Int32) (out : Option (Int32 × cr_V)) : Prop := match o with
  | .inl e => ∃ v', out = some (e, v') ∧ mdA S H T v'
  | .inr q => ∃ v', out = some (q.1, v') ∧ mdA q.2 (s_push H S) T v'
theorem q_Ok.md {o : cr_R} {S : cr_S} {H : List cr_S} {T : List Int32} {v : cr_V} {out : Option (Int32 × cr_V)} (h : q_Ok o S H v out) (hA : mdA S H T v) : q_Md o S H T out := by
  unfold q_Ok at h
  unfold q_Md
  cases o with
  | inl e =>
    obtain ⟨v', e1, e2, e3, e4⟩ := h
    exact ⟨v', e1, e2, e3, hA.2.2.1.sm e4 (by simp) (by simp), by rw [e4 4 (by simp)]; exact hA.2.2.2⟩
  | inr q =>
    obtain ⟨v', e1, e2, e3, e4⟩ := h
    have hc : s_chg (v 4 0) H S = s_push H S := by unfold s_chg; rw [if_pos hA.2.2.2]
    rw [hc] at e3
    exact ⟨v', e1, e2, e3, hA.2.2.1.sm e4 (by simp) (by simp), by rw [e4 4 (by simp)]; exact hA.2.2.2⟩
section LWR
variable {b : Nat} {vh vl vk vt vtl vtk vs vd vo vz : cr_V} {vx : Nat → Nat → cr_V}
theorem lw_op {o : cr_R} {S : cr_S} {H : List cr_S} {T : List Int32} {outC : Option (Int32 × cr_V × cr_V × cr_V × cr_V × cr_V × cr_V × cr_V × (Nat → Nat → cr_V))} {outM : Option (Int32 × cr_V)} (hO : p_OpX o S H outC) (hT : crT T vo) (hQ : q_Ok o S H vz outM) (hA : mdA S H T vz) (hi : s_Op b o) (hI : s_inv b S) (hH : ∀ U ∈ H, s_inv b U) :
    ∃ r h l k t tl tk s x vz', outC = some (r, h, l, k, t, tl, tk, s, x) ∧ outM = some (r, vz') ∧ lwR (b + 60) h l k s vo vz' x := by
  have hq := hQ.md hA
  unfold p_OpX at hO
  cases o with
  | inl e =>
    obtain ⟨h, l, k, t, tl, tk, s, x, e1, e2, e3⟩ := hO
    obtain ⟨v', f1, f2⟩ := hq
    exact ⟨e, h, l, k, t, tl, tk, s, x, v', e1, f1, S, H, T, e2, e3, hT, f2, hI.mono (by omega), fun U hU => (hH U hU).mono (by omega)⟩
  | inr q =>
    obtain ⟨h, l, k, t, tl, tk, s, x, e1, e2, e3⟩ := hO
    obtain ⟨v', f1, f2⟩ := hq
    refine ⟨q.1, h, l, k, t, tl, tk, s, x, v', e1, f1, q.2, s_push H S, T, e2, e3, hT, f2, hi.2.mono (by omega), fun U hU => ?_⟩
    rcases s_push_mem hU with k | k
    · exact (hH U k).mono (by omega)
    · rw [k]; exact hI.mono (by omega)
theorem s_inv.dist {S : cr_S} (h : s_inv b S) : s_dist S.1 := by
  obtain ⟨a, m, hm, ha, h0, h5, hd, hr⟩ := h
  exact hd
theorem s_inv.bag {S : cr_S} (h : s_inv b S) : ∀ x ∈ S.1, s_in x.2.1 1 9999 = true := by
  obtain ⟨a, m, hm, ha, h0, h5, hd, hL, hr⟩ := h
  exact fun x hx => (hL x hx).inb
theorem s_inv.bag1 {S : cr_S} (h : s_inv b S) : ∀ (j : Nat) (x : cr_Lot), S.1[j]? = some x → 1 ≤ x.2.1 := by
  obtain ⟨a, m, hm, ha, h0, h5, hd, hL, hr⟩ := h
  intro j x hx
  obtain ⟨g, g1, g2, g3⟩ := (hL x (List.mem_of_getElem? hx)).bags
  rw [g3]; exact c_le 1 g rfl rfl g1 (by omega)
theorem s_inv.pas {S : cr_S} (h : s_inv b S) : ∃ a, a ≤ 999 ∧ S.2.2.2.2 0 = nI a ∧ ∀ c ∈ S.2.1, ¬ c.1 < S.2.2.2.2 0 := by
  obtain ⟨a, m, hm, ha, h0, h5, hd, hL, hK, hr⟩ := h
  refine ⟨a, ha, h0, fun d hd => ?_⟩
  obtain ⟨⟨k, k1, k2, k3⟩, -⟩ := hK d hd
  rw [k3, h0]; exact nI_nlt k1 (by omega)
end LWR
