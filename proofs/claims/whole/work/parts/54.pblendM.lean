/-! a blend, on the model -/
theorem q_blend_s {S : cr_S} {H : List cr_S} {v : cr_V} (hM : mdR S (v 0)) (hP : mdP H v) (hd : s_dist S.1) (hB : ∀ x ∈ S.1, s_in x.2.1 1 9999 = true) {x1 x2 x3 x4 : Int32} {i j : Nat} {x y : cr_Lot} (hx : S.1[i]? = some x) (hnx : x.1 = x1) (hy : S.1[j]? = some y) (hny : y.1 = x3) (hij : ¬ i = j) (h1 : 1 ≤ x2) (h2 : 1 ≤ x4) (h3 : x2 ≤ x.2.1) (h4 : x4 ≤ y.2.1) (h9 : x2 + x4 ≤ 9999) (h12 : ¬ (S.1.length = 12 ∧ x2 ≠ x.2.1 ∧ x4 ≠ y.2.1)) (hnz : ¬ x2 + x4 = 0) :
    ∃ v', ((f_X7_changes v).bind fun q3 => (f_X7_cupOf q3 (nI i)).bind fun q4 => (f_X7_cupOf q3 (nI j)).bind fun q5 => (f_X7_blended x2 q4 x4 q5).bind fun q6 => (f_X7_takes q3 x1 x2).bind fun q7 => (f_X7_takes q7 x3 x4).bind fun q8 => (f_X7_makes q8 (x2 + x4) q6 (q8 0 0)).bind fun q9 => some (q9.1, q9.2)) = some (S.2.2.2.2 5, v') ∧
      mdR (((S.1.set i (s_less x x2)).set j (s_less y x4)).filter s_full ++ [(S.2.2.2.2 5, x2 + x4, (x2 * s_cup x (S.2.2.2.2 0) + x4 * s_cup y (S.2.2.2.2 0)) / (x2 + x4), S.2.2.2.2 0)], S.2.1, S.2.2.1, S.2.2.2.1, s_up5 S.2.2.2.2) (v' 0) ∧ mdP (s_chg (v 4 0) H S) v' ∧ sameC [0, 1, 3, 7, 8, 9, 10] v v' := by
  have hl := hM.1.1
  have hil := p_lt hx
  have hjl := p_lt hy
  obtain ⟨v1, a1, a2, a3, a4⟩ := q_chg hP hM
  have h0 : v1 0 0 = S.2.2.2.2 0 := a2.2.2.2.2 0 (by omega)
  have hfl : S.1.filter s_full = S.1 := List.filter_eq_self.mpr fun z hz => z_full (hB z hz)
  have hbx := hB x (List.mem_of_getElem? hx)
  have hby := hB y (List.mem_of_getElem? hy)
  obtain ⟨k1, b1, b2⟩ := s_takes_fl hd hx (z_full hbx) (z_sub hbx h1 h3)
  rw [hfl] at b1 b2
  rw [hnx] at b1
  obtain ⟨v2, c1, c2, c3⟩ := q_takes a2 (b := x2) b1
  rw [b2] at c2
  have hd2 : s_dist (S.1.set i (s_less x x2)) := by
    have := s_give_num [(i, x2)] S.1
    simp only [s_give, s_get_of hx] at this
    unfold s_dist
    rw [this]; exact hd
  have hy2 : (S.1.set i (s_less x x2))[j]? = some y := by rw [List.getElem?_set_ne hij]; exact hy
  obtain ⟨k2, d1, d2⟩ := s_takes_fl hd2 hy2 (z_full hby) (z_sub hby h2 h4)
  rw [hny] at d1
  obtain ⟨v3, e1, e2, e3⟩ := q_takes c2 (b := x4) d1
  rw [d2] at e2
  have hlen : (((S.1.set i (s_less x x2)).set j (s_less y x4)).filter s_full).length < 12 := by
    have hle : (((S.1.set i (s_less x x2)).set j (s_less y x4)).filter s_full).length ≤ S.1.length := Nat.le_trans (List.length_filter_le _ _) (by rw [List.length_set, List.length_set]; exact Nat.le_refl _)
    by_cases hn : S.1.length = 12
    · have hex : ∃ z, z ∈ (S.1.set i (s_less x x2)).set j (s_less y x4) ∧ ¬ s_full z = true := by
        by_cases hq : x4 = y.2.1
        · refine ⟨s_less y x4, List.mem_of_getElem? (i := j) (List.getElem?_set_self (by rw [List.length_set]; exact hjl)), ?_⟩
          simp [s_full, s_less, hq]
        · by_cases hq2 : x2 = x.2.1
          · refine ⟨s_less x x2, List.mem_of_getElem? (i := i) (by rw [List.getElem?_set_ne (Ne.symm hij)]; exact List.getElem?_set_self hil), ?_⟩
            simp [s_full, s_less, hq2]
          · exact absurd ⟨hn, hq2, hq⟩ h12
      have := List.length_filter_lt_length_iff_exists.mpr hex
      rw [List.length_set, List.length_set] at this
      omega
    · omega
  obtain ⟨v4, g1, g2, g3⟩ := q_makes e2 (x2 + x4) ((x2 * s_cup x (S.2.2.2.2 0) + x4 * s_cup y (S.2.2.2.2 0)) / (x2 + x4)) (S.2.2.2.2 0) hlen
  have h03 : v3 0 0 = S.2.2.2.2 0 := e2.2.2.2.2 0 (by omega)
  rw [a1, Option.bind_some, q_cupOf a2.1 hx, Option.bind_some, q_cupOf a2.1 hy, Option.bind_some, f_X7_blended, if_neg hnz, Option.bind_some, c1, Option.bind_some, e1, Option.bind_some, h03, h0, g1, Option.bind_some]
  have hs := (c3.tr (es := [0]) e3 (by simp) (by simp)).tr (es := [0]) g3 (by simp) (by simp)
  exact ⟨v4, rfl, g2, a3.sm hs (by simp) (by simp), a4.tr hs (by simp) (by simp)⟩
