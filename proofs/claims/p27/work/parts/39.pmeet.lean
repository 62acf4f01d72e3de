theorem s_give_app (q : Nat × Int32) : ∀ (P : List (Nat × Int32)) (L : List cr_Lot), s_give (P ++ [q]) L = (s_give P L).set q.1 (s_less (s_get (s_give P L) q.1) q.2)
  | [], L => rfl
  | x :: P, L => s_give_app q P _
theorem s_give_len : ∀ (P : List (Nat × Int32)) (L : List cr_Lot), (s_give P L).length = L.length
  | [], L => rfl
  | x :: P, L => by rw [s_give, s_give_len P, List.length_set]
theorem s_plan_lt {g b : Nat → Int32} {N : Nat} : ∀ (f : Nat) (ok : Nat → Bool) (want : Int32) (q : Nat × Int32), q ∈ s_plan g b N f ok want → q.1 < N
  | 0, ok, want, q, h => by simp [s_plan] at h
  | f + 1, ok, want, q, h => by
    unfold s_plan at h
    split at h
    · simp at h
    · cases hb : s_best ok g N with
      | none => rw [hb] at h; simp at h
      | some r =>
        rw [hb] at h
        rcases List.mem_cons.mp h with e | e
        · rw [e]; exact (s_best_lt hb).1
        · exact s_plan_lt f _ _ q e
theorem p_X3_meet_63 {w st g : Nat → Int32} {L : List cr_Lot} {K : List cr_Con} {P : List (Nat × Int32)} {vh vk d : cr_V} {md pay : Int32} (hL12 : L.length ≤ 12) (hK : crK K vk) (hH : crH w st g vh) (hP : P.length ≤ 12) (d2 : d 2 0 = nI P.length) (dr : ∀ i q, P[i]? = some q → d 0 i = nI q.1 ∧ d 1 i = q.2) (dp : d 4 0 = pay) (hlt : ∀ q ∈ P, q.1 < L.length) {j : Nat} (hj : j < K.length) :
    ∀ (n i : Nat) (vl : cr_V), i ≤ P.length → P.length - i < n → crL (s_give (P.take i) L) vl → vl 5 0 = md →
    ∃ h l k, f_X3_meetContract_63 n vh vl vk d (nI j) (nI i) = some (pay, h, l, k, d) ∧ crL ((s_give P L).filter s_full) l ∧ l 5 0 = md ∧ crK (K.eraseIdx j) k ∧ crH w st (upd (upd (upd g 1 (g 1 + pay)) 2 (g 2 + 1)) 4 (g 4 + st 0)) h := by
  intro n
  induction n with
  | zero => intro i vl a b; omega
  | succ n ih =>
    intro i vl hi hn hL hm
    rw [f_X3_meetContract_63, d2]
    by_cases hi2 : i = P.length
    · rw [if_pos (show nI P.length ≤ nI i from c_le P.length i rfl rfl (by omega) (by omega))]
      subst hi2
      rw [List.take_length] at hL
      obtain ⟨l, e1, e2, e3⟩ := p_X4_dropEmpty hL
      obtain ⟨k, e4, e5⟩ := p_X0_drop hK hj
      rw [e1, Option.bind_some, e4, Option.bind_some, dp]
      refine ⟨_, l, k, rfl, e2, e3.trans hm, e5, ?_, ?_, ?_, ?_, ?_, ?_, ?_⟩
      · simpa [cr_ce] using hH.1
      · simpa [cr_ce] using hH.2.1
      · simpa [cr_ce, cr_up] using hH.2.2.1
      · simp [cr_ce, cr_up, hH.2.2.2.1]
      · simp [cr_ce, cr_up, hH.2.2.2.2.1]
      · simpa [cr_ce, cr_up] using hH.2.2.2.2.2.1
      · simp [cr_ce, cr_up, hH.2.2.2.2.2.2, hH.2.1 0]
    · have hq : P[i]? = some P[i] := List.getElem?_eq_getElem (by omega)
      obtain ⟨a1, a2⟩ := dr i _ hq
      have hr := hlt _ (List.mem_of_getElem? hq)
      have hlen : (s_give (P.take i) L).length = L.length := s_give_len _ _
      obtain ⟨x, hx⟩ : ∃ x, (s_give (P.take i) L)[P[i].1]? = some x := ⟨_, List.getElem?_eq_getElem (l := s_give (P.take i) L) (by rw [hlen]; exact hr)⟩
      rw [if_neg (show ¬ nI P.length ≤ nI i from c_nle P.length i rfl rfl (by omega) (by omega)), if_pos (cr_inn (by omega) (by omega)), cr_xn (by omega), a1, if_pos (cr_inn (by omega) (by omega)), cr_xn (by omega), a2, nI_1]
      refine ih (i + 1) _ (by omega) (by omega) ?_ (by simpa [cr_ce] using hm)
      rw [p_take (show i < P.length by omega), s_give_app, s_get_of hx]
      exact p_less hL hx _
theorem p_X3_meetContract {S : cr_S} {vh vl vk : cr_V} (hC : crC S vh vl vk) (vd : cr_V) (x1 : Int32) : match o_meet S x1 with
    | .inl e => ∃ d, f_X3_meetContract vh vl vk vd x1 = some (e, vh, vl, vk, d)
    | .inr q => ∃ h l k d, f_X3_meetContract vh vl vk vd x1 = some (q.1, h, l, k, d) ∧ crC q.2 h l k := by
  obtain ⟨hL, hK, hH, hm⟩ := hC
  have hl := hL.1
  have hkl := hK.1
  have h0 : vh 4 0 = S.2.2.2.2 0 := hH.2.2.1
  unfold o_meet
  rw [f_X3_meetContract, p_X0_isOpen hK, Option.bind_some]
  rcases s_open_cases (show S.2.1.length < 2 ^ 31 by omega) x1 with ⟨h1, -⟩ | ⟨h1, j, hj, rfl⟩
  · rw [h1, if_neg (show ¬ (0 : Int32) = 1 by decide), if_pos rfl]
    exact ⟨vd, rfl⟩
  · obtain ⟨c, hc⟩ : ∃ c, S.2.1[j]? = some c := ⟨_, List.getElem?_eq_getElem hj⟩
    obtain ⟨b1, b2⟩ := hK.2.2 j c hc
    have hx : cr_x (nI j) = j := cr_xn (by omega)
    rw [h1, if_pos rfl, hx, s_con_of hc]
    simp only [n10, if_false]
    rw [if_pos (cr_inn (by omega) (by omega)), b1, h0, b2]
    by_cases h2 : c.1 = S.2.2.2.2 0
    · rw [if_pos h2, if_pos h2]
      obtain ⟨d, e1, o1, o2, o3, o4, o5, o6, o7, o8⟩ := p_X1_plan vk vd hH hL c.2 (S.2.2.2.2 0)
      rw [e1, Option.bind_some, o3]
      by_cases h3 : s_left (s_deliver S.2.2.1 S.2.2.2.1 S.1 c.2 (S.2.2.2.2 0)) (S.2.2.2.1 0) ≤ 0
      · rw [if_pos h3, if_pos h3]
        obtain ⟨h, l, k, e2, f1, f2, f3, f4⟩ := p_X3_meet_63 (L := S.1) hl hK hH o1 o2 o4 o5 (fun q hq => s_plan_lt _ _ _ q hq) hj 10100 0 vl (by omega) (by omega) (by simpa [s_give] using hL) rfl
        exact ⟨h, l, k, d, e2, f1, f3, f4, by rw [f2, hm]; simp [cr_up]⟩
      · rw [if_neg h3, if_neg h3]
        exact ⟨d, rfl⟩
    · rw [if_neg h2, if_neg h2]
      exact ⟨vd, rfl⟩
