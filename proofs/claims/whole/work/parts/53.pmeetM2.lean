theorem q_meet_106 {S : cr_S} (hd : s_dist S.1) (hB : ∀ x ∈ S.1, s_in x.2.1 1 9999 = true) {P : List (Nat × Int32)} (hp : ∀ q ∈ P, q.1 < S.1.length ∧ ∃ u : Int32, 0 < u ∧ q.2 = s_take u (s_at S.1 (fun x => x.2.1) q.1)) (hnd : (P.map (·.1)).Nodup) (hl : P.length ≤ 12) {k : Nat} (hk : k < S.2.1.length) (pay : Int32) : ∀ (n i : Nat) (v : cr_V), i ≤ P.length → P.length - i < n → nOut P S.1 v →
    mdR ((s_give (P.take i) S.1).filter s_full, S.2) (v 0) →
    ∃ v', f_X7_meet_106 n v (nI k) pay (nI i) = some (pay, v') ∧ mdR ((s_give P S.1).filter s_full, S.2.1.eraseIdx k, S.2.2.1, S.2.2.2.1, upd (upd (upd S.2.2.2.2 1 (S.2.2.2.2 1 + pay)) 2 (S.2.2.2.2 2 + 1)) 4 (S.2.2.2.2 4 + S.2.2.2.1 0)) (v' 0) ∧ sameC [0] v v' := by
  intro n
  induction n with
  | zero => intro i v a b; omega
  | succ n ih =>
    intro i v hi hn hO hM
    rw [f_X7_meet_106, hO.2.1]
    by_cases hkk : i = P.length
    · rw [if_pos (show nI P.length ≤ nI i from c_le P.length i rfl rfl (by omega) (by omega))]
      subst hkk
      rw [List.take_length] at hM
      obtain ⟨w1, w2, w3⟩ := id hM.2.2
      have hg1 : v 0 1 = S.2.2.2.2 1 := w3 1 (by omega)
      have hg2 : v 0 2 = S.2.2.2.2 2 := w3 2 (by omega)
      have hg4 : v 0 4 = S.2.2.2.2 4 := w3 4 (by omega)
      have hg8 : v 0 8 = S.2.2.2.1 0 := w2 0 (by omega)
      simp only [cr_cc, cr_cs]
      rw [hg1]
      rw [show upd (v 0) 1 (S.2.2.2.2 1 + pay) 2 = S.2.2.2.2 2 from by rw [pk_un (by omega), hg2]]
      rw [show upd (upd (v 0) 1 (S.2.2.2.2 1 + pay)) 2 (S.2.2.2.2 2 + 1) 4 = S.2.2.2.2 4 from by rw [pk_un (by omega), pk_un (by omega), hg4]]
      rw [show upd (upd (v 0) 1 (S.2.2.2.2 1 + pay)) 2 (S.2.2.2.2 2 + 1) 8 = S.2.2.2.1 0 from by rw [pk_un (by omega), pk_un (by omega), hg8]]
      have hM2 : mdR ((s_give P S.1).filter s_full, S.2.1, S.2.2.1, S.2.2.2.1, upd (upd (upd S.2.2.2.2 1 (S.2.2.2.2 1 + pay)) 2 (S.2.2.2.2 2 + 1)) 4 (S.2.2.2.2 4 + S.2.2.2.1 0)) ((cr_c v 0 (upd (upd (upd (v 0) 1 (S.2.2.2.2 1 + pay)) 2 (S.2.2.2.2 2 + 1)) 4 (S.2.2.2.2 4 + S.2.2.2.1 0))) 0) := by
        refine md_g hM (fun t ht => ?_) ⟨fun j hj => ?_, fun j hj => ?_, fun j hj => ?_⟩
        · rw [cr_cs, pk_un (by omega), pk_un (by omega), pk_un (by omega)]
        · rw [cr_cs, pk_un (by omega), pk_un (by omega), pk_un (by omega)]; exact w1 j hj
        · rw [cr_cs, pk_un (by omega), pk_un (by omega), pk_un (by omega)]; exact w2 j hj
        · rw [cr_cs]
          by_cases h4 : j = 4
          · subst h4; rw [pk_us, pk_us]
          · rw [pk_un h4, pk_un h4]
            by_cases h2 : j = 2
            · subst h2; rw [pk_us, pk_us]
            · rw [pk_un h2, pk_un h2]
              by_cases h1 : j = 1
              · subst h1; rw [pk_us, pk_us]
              · rw [pk_un h1, pk_un h1]; exact w3 j hj
      obtain ⟨v2, b1, b2, b3⟩ := q_closes hM2 hk
      exact ⟨v2, by rw [b1, Option.bind_some], b2, (sameC.c (cs := [0]) (by simp)).tr b3 (fun c h => h) (fun c h => h)⟩
    · have hq : P[i]? = some P[i] := List.getElem?_eq_getElem (by omega)
      obtain ⟨hr, u, hu, hqu⟩ := hp _ (List.getElem_mem (show i < P.length by omega))
      have hx : S.1[P[i].1]? = some S.1[P[i].1] := List.getElem?_eq_getElem hr
      rw [s_at_of hx] at hqu
      obtain ⟨a1, a2⟩ := hO.2.2 i _ _ hq hx
      have hbx := hB _ (List.getElem_mem hr)
      have hdG : s_dist (s_give (P.take i) S.1) := by unfold s_dist; rw [s_give_num]; exact hd
      have hnot : P[i].1 ∉ (P.take i).map (·.1) := fun h => by
        have hpw := List.pairwise_iff_getElem.mp hnd
        obtain ⟨q, hq1, hq2⟩ := List.mem_map.mp h
        obtain ⟨j, hj⟩ := List.getElem?_of_mem hq1
        have hjl := p_lt hj
        rw [List.length_take] at hjl
        rw [List.getElem?_take_of_lt (by omega)] at hj
        have hj2 : P[j] = q := (List.getElem?_eq_some_iff.mp hj).2
        refine hpw j i (by rw [List.length_map]; omega) (by rw [List.length_map]; omega) (by omega) ?_
        rw [List.getElem_map, List.getElem_map, hj2]; exact hq2
      have hxG : (s_give (P.take i) S.1)[P[i].1]? = some S.1[P[i].1] := by rw [s_give_other _ _ hnot]; exact hx
      obtain ⟨k', c1, c2⟩ := s_takes_fl hdG hxG (z_full hbx) (b := P[i].2) (by rw [hqu]; exact z_take hbx hu)
      obtain ⟨v1, d1, d2, d3⟩ := q_takes hM (b := P[i].2) c1
      rw [if_neg (show ¬ nI P.length ≤ nI i from c_nle P.length i rfl rfl (by omega) (by omega)), if_pos (cr_inn (by omega) (by omega)), cr_xn (by omega), a1, a2, d1, Option.bind_some, nI_1]
      have d2 : mdR ((s_give (P.take (i + 1)) S.1).filter s_full, S.2) (v1 0) := by
        rw [p_take (by omega), s_give_app, s_get_of hxG, ← c2]
        exact d2
      obtain ⟨v2, e1, e2, e3⟩ := ih (i + 1) v1 (by omega) (by omega) ⟨hO.1, by rw [d3 9 (by simp)]; exact hO.2.1, by rw [d3 7 (by simp), d3 8 (by simp)]; exact hO.2.2⟩ d2
      exact ⟨v2, e1, e2, d3.tr e3 (fun c h => h) (fun c h => h)⟩
theorem q_meet {S : cr_S} {H : List cr_S} {v : cr_V} (hM : mdR S (v 0)) (hP : mdP H v) (hd : s_dist S.1) (hB : ∀ x ∈ S.1, s_in x.2.1 1 9999 = true) (x1 : Int32) : q_Ok (o_meet S x1) S H v (f_X7_meet v x1) := by
  have hkl := hM.2.1.1
  have h0 : v 0 0 = S.2.2.2.2 0 := hM.2.2.2.2 0 (by omega)
  unfold o_meet q_Ok
  rw [f_X7_meet, q_isContract hM, Option.bind_some]
  rcases s_open_cases (n := S.2.1.length) (by omega) x1 with ⟨h1, -⟩ | ⟨h1, k, hk, rfl⟩
  · rw [h1]; simp only [if_true]
    rw [if_neg (by simp)]
    exact ⟨v, rfl, hM, hP, sameC.rf⟩
  · have hc : S.2.1[k]? = some S.2.1[k] := List.getElem?_eq_getElem hk
    rw [h1]
    simp only [n10, if_false, if_true]
    rw [q_priceOf hM hc, Option.bind_some, cr_xn (show k < 2 ^ 31 by omega), s_con_of hc, h0]
    obtain ⟨v1, a1, a2, a3⟩ := q_gives hM S.2.1[k].2 (S.2.2.2.2 0)
    have hM1 : mdR S (v1 0) := by rw [a3 0 (by simp)]; exact hM
    have hP1 : mdP H v1 := hP.sm a3 (by simp) (by simp)
    rw [a1, Option.bind_some, q_monthOf hM1 hc, Option.bind_some, a3 0 (by simp), h0]
    by_cases h2 : S.2.1[k].1 = S.2.2.2.2 0
    · rw [if_pos h2, if_pos h2, a2.2.2.1]
      by_cases h3 : s_left (s_deliver S.2.2.1 S.2.2.2.1 S.1 S.2.1[k].2 (S.2.2.2.2 0)) (S.2.2.2.1 0) ≤ 0
      · rw [if_pos h3, if_pos h3]
        obtain ⟨v2, b1, b2, b3, b4⟩ := q_chg hP1 hM1
        have hO2 : qOut (s_deliver S.2.2.1 S.2.2.2.1 S.1 S.2.1[k].2 (S.2.2.2.2 0)) (s_left (s_deliver S.2.2.1 S.2.2.2.1 S.1 S.2.1[k].2 (S.2.2.2.2 0)) (S.2.2.2.1 0)) v2 := ⟨a2.1, by rw [b4 9 (by simp)]; exact a2.2.1, by rw [b4 10 (by simp)]; exact a2.2.2.1, by rw [b4 7 (by simp), b4 8 (by simp)]; exact a2.2.2.2⟩
        have h02 : v2 0 0 = S.2.2.2.2 0 := b2.2.2.2.2 0 (by omega)
        rw [b1, Option.bind_some, q_priceOf b2 hc, Option.bind_some, h02, q_paidAll0 b2.1 b2.2.2 hO2 s_deliver_lt, Option.bind_some]
        generalize hPl : s_deliver S.2.2.1 S.2.2.2.1 S.1 S.2.1[k].2 (S.2.2.2.2 0) = P at *
        have hpm : ∀ q ∈ P, q.1 < S.1.length ∧ ∃ u : Int32, 0 < u ∧ q.2 = s_take u (s_at S.1 (fun x => x.2.1) q.1) := fun q hq => by
          rw [← hPl] at hq
          obtain ⟨c1, c2, c3⟩ := s_plan_mem hq
          exact ⟨c1, c3⟩
        obtain ⟨v3, c1, c2, c3⟩ := q_meet_73 b2.1 (fun q hq => (hpm q hq).1) a2.1 (nI k) (s_tot (s_at S.1 (fun x => s_pay S.2.2.2.1 x S.2.1[k].2 (S.2.2.2.2 0))) P 0) 10100 0 v2 (by omega) (by have := a2.1; omega) rfl hO2.2.1 (fun j q x hj => by omega) (fun j q _ hq => (hO2.2.2.2 j q hq).1) (fun j q hq => (hO2.2.2.2 j q hq).2)
        obtain ⟨v4, d1, d2, d3⟩ := q_meet_106 hd hB hpm (by rw [← hPl]; exact s_plan_nd) a2.1 hk (s_tot (s_at S.1 (fun x => s_pay S.2.2.2.1 x S.2.1[k].2 (S.2.2.2.2 0))) P 0) 10100 0 v3 (by omega) (by have := a2.1; omega) c2 (by
          rw [c3 0 (by simp)]
          have e : (s_give (P.take 0) S.1).filter s_full = S.1 := by
            rw [List.take_zero, s_give]
            exact List.filter_eq_self.mpr fun x hx => z_full (hB x hx)
          rw [e]; exact b2)
        refine ⟨v4, c1.trans d1, d2, ?_, ?_⟩
        · have := (b3.sm c3 (by simp) (by simp)).sm d3 (by simp) (by simp)
          rw [a3 4 (by simp)] at this
          exact this
        · exact a3.tr (b4.tr (c3.tr (es := [0, 7]) d3 (by simp) (by simp)) (es := [0, 1, 3, 7]) (by simp) (by simp)) (by simp) (by simp)
      · rw [if_neg h3, if_neg h3]
        exact ⟨v1, rfl, hM1, hP1, a3⟩
    · rw [if_neg h2, if_neg h2]
      exact ⟨v1, rfl, hM1, hP1, a3⟩
