theorem md_g {S : cr_S} {s s' w st g : Nat → Int32} (hM : mdR S s) (h : ∀ t, t = 6 ∨ t = 7 ∨ 17 ≤ t → s' t = s t) (hG : mdG w st g s') : mdR (S.1, S.2.1, w, st, g) s' := by
  obtain ⟨⟨l1, l2, l3⟩, ⟨k1, k2, k3⟩, _⟩ := hM
  refine ⟨⟨l1, by rw [h 6 (by omega)]; exact l2, fun j z hz => ?_⟩, ⟨k1, by rw [h 7 (by omega)]; exact k2, fun j z hz => ?_⟩, hG⟩
  · rw [h _ (by omega), h _ (by omega), h _ (by omega), h _ (by omega)]; exact l3 j z hz
  · rw [h _ (by omega), h _ (by omega)]; exact k3 j z hz
theorem q_nz {a b : Int32} (h : b < a) : ¬ a - b = 0 := fun e => by
  have h2 : a = b := by rw [← Int32.sub_add_cancel a b, e, Int32.zero_add]
  rw [h2] at h
  exact (Int32.lt_irrefl h).elim
theorem q_part {S : cr_S} {H : List cr_S} {v : cr_V} (hM : mdR S (v 0)) (hP : mdP H v) (x1 x2 : Int32) : q_Ok (o_part S x1 x2) S H v (f_X7_part v x1 x2) := by
  have hl := hM.1.1
  unfold o_part q_Ok
  rw [f_X7_part, q_isLot hM.1, Option.bind_some]
  cases hi : cr_idx S.1 x1 with
  | none => exact ⟨v, by simp, hM, hP, sameC.rf⟩
  | some k =>
    obtain ⟨x, hx, hn⟩ := cr_idx_some hi
    have hk := p_lt hx
    simp only [Option.isSome_some, if_true, n10, if_false, s_get_of hx]
    by_cases h1 : 1 ≤ x2
    · rw [if_pos h1, if_pos h1, q_placeOf hM.1, hi, Option.bind_some, s_enc, q_of1 hM.1 hx, Option.bind_some]
      by_cases h2 : x2 < x.2.1
      · rw [if_pos h2, if_pos h2, hM.1.2.1]
        simp only [q_12 hl]
        by_cases h3 : S.1.length = 12
        · rw [if_pos h3, if_pos h3]
          exact ⟨v, rfl, hM, hP, sameC.rf⟩
        · rw [if_neg h3, if_neg h3]
          obtain ⟨v1, a1, a2, a3, a4⟩ := q_chg hP hM
          obtain ⟨v2, b1, b2, b3⟩ := q_takes a2 (b := x2) hi
          unfold s_takes at b2
          rw [s_get_of hx, if_neg (q_nz h2)] at b2
          have hx2 : (S.1.set k (s_less x x2))[k]? = some (s_less x x2) := List.getElem?_set_self hk
          obtain ⟨v3, c1, c2, c3⟩ := q_makes b2 x2 (s_less x x2).2.2.1 (s_less x x2).2.2.2 (by show (S.1.set k (s_less x x2)).length < 12; rw [List.length_set]; omega)
          rw [a1, Option.bind_some, b1, Option.bind_some, q_of2 b2.1 hx2, Option.bind_some, q_of3 b2.1 hx2, Option.bind_some, c1, Option.bind_some]
          have hs := b3.tr (es := [0]) c3 (by simp) (by simp)
          exact ⟨v3, rfl, c2, a3.sm hs (by simp) (by simp), a4.tr hs (by simp) (by simp)⟩
      · rw [if_neg h2, if_neg h2]
        exact ⟨v, rfl, hM, hP, sameC.rf⟩
    · rw [if_neg h1, if_neg h1]
      exact ⟨v, rfl, hM, hP, sameC.rf⟩
theorem q_lt1 {a : Int32} (h : 1 ≤ a) : (1 < a) = ¬ a = 1 := by
  refine propext ⟨fun q e => ?_, fun q => ?_⟩
  · rw [e] at q; exact (Int32.lt_irrefl q).elim
  · exact Int32.lt_of_le_of_ne h (Ne.symm q)
theorem q_cup {S : cr_S} {H : List cr_S} {v : cr_V} (hM : mdR S (v 0)) (hP : mdP H v) (hB : ∀ (j : Nat) (x : cr_Lot), S.1[j]? = some x → 1 ≤ x.2.1) (x1 : Int32) : q_Ok (o_cup S x1) S H v (f_X7_cup v x1) := by
  have hl := hM.1.1
  unfold o_cup q_Ok
  rw [f_X7_cup, q_isLot hM.1, Option.bind_some]
  cases hi : cr_idx S.1 x1 with
  | none => exact ⟨v, by simp, hM, hP, sameC.rf⟩
  | some k =>
    obtain ⟨x, hx, hn⟩ := cr_idx_some hi
    have hk := p_lt hx
    simp only [Option.isSome_some, if_true, n10, if_false, s_get_of hx]
    rw [q_placeOf hM.1, hi, Option.bind_some, s_enc, q_of1 hM.1 hx, Option.bind_some]
    simp only [q_lt1 (hB k x hx)]
    by_cases h1 : x.2.1 = 1
    · rw [if_pos h1, if_neg (fun q => q h1)]
      exact ⟨v, rfl, hM, hP, sameC.rf⟩
    · rw [if_neg h1, if_pos h1]
      obtain ⟨v1, a1, a2, a3, a4⟩ := q_chg hP hM
      have i1 : ((17 : Int32) + 4 * nI k) + 1 = nI (18 + 4 * k) := by rw [show (1 : Int32) = nI 1 from rfl, q_ix]; congr 1; omega
      have i2 : ((17 : Int32) + 4 * nI k) + 2 = nI (19 + 4 * k) := by rw [show (2 : Int32) = nI 2 from rfl, q_ix]; congr 1; omega
      have i3 : ((17 : Int32) + 4 * nI k) + 3 = nI (20 + 4 * k) := by rw [show (3 : Int32) = nI 3 from rfl, q_ix]; congr 1; omega
      have h0 : v1 0 0 = S.2.2.2.2 0 := a2.2.2.2.2 0 (by omega)
      obtain ⟨y1, y2, y3, y4⟩ := a2.1.2.2 k x hx
      rw [a1, Option.bind_some, q_cupOf a2.1 hx, Option.bind_some, i1, i2, i3, if_pos (cr_inn (by omega) (by omega)), if_pos (cr_inn (by omega) (by omega)), if_pos (cr_inn (by omega) (by omega)), cr_xn (by omega), cr_xn (by omega), cr_xn (by omega), h0]
      simp only [cr_cc, cr_cs]
      have hs : ∀ f, sameC [0] v1 (cr_c v1 0 f) := fun f => sameC.c (by simp)
      refine ⟨_, rfl, ?_, a3.sm (hs _) (by simp) (by simp), a4.tr (hs _) (by simp) (by simp)⟩
      rw [cr_cs]
      refine q_setM a2 hx ⟨?_, ?_, ?_, ?_⟩ (fun t ht => ?_)
      · rw [pk_un (by omega), pk_un (by omega), pk_un (by omega)]; exact y1
      · rw [pk_un (by omega), pk_un (by omega), pk_us, y2]; rfl
      · rw [pk_un (by omega), pk_us]; rfl
      · rw [pk_us, pk_un (by omega), pk_un (by omega), h0]; rfl
      · rw [pk_un (by omega), pk_un (by omega), pk_un (by omega)]
