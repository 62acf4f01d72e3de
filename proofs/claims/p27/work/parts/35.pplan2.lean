def s_at (L : List cr_Lot) (f : cr_Lot → Int32) (j : Nat) : Int32 := match L[j]? with
  | some x => f x
  | none => 0
def s_ok (L : List cr_Lot) (m : Int32) (j : Nat) : Bool := match L[j]? with
  | some x => !decide (s_cup x m < 70)
  | none => false
theorem s_at_of {L : List cr_Lot} {f : cr_Lot → Int32} {j : Nat} {x : cr_Lot} (h : L[j]? = some x) : s_at L f j = f x := by unfold s_at; rw [h]
theorem s_ok_of {L : List cr_Lot} {m : Int32} {j : Nat} {x : cr_Lot} (h : L[j]? = some x) : s_ok L m j = !decide (s_cup x m < 70) := by unfold s_ok; rw [h]
def s_deliver (w st : Nat → Int32) (L : List cr_Lot) (price m : Int32) : List (Nat × Int32) := s_plan (s_at L (fun x => s_gain w st x price m)) (s_at L (fun x => x.2.1)) L.length 12 (s_ok L m) (st 0)
theorem p_X1_rate_3 {w st g : Nat → Int32} {L : List cr_Lot} {vh vl : cr_V} (vk : cr_V) (hH : crH w st g vh) (hL : crL L vl) (price m : Int32) : ∀ (n k : Nat) (d : cr_V), k ≤ L.length → L.length - k < n →
    plIn (s_ok L m) (s_at L (fun x => s_gain w st x price m)) (s_at L (fun x => s_pay st x price m)) (s_at L (fun x => s_cup x m)) k d →
    ∃ d', f_X1_rate_3 n d vh vl vk price m (nI k) = some d' ∧ plIn (s_ok L m) (s_at L (fun x => s_gain w st x price m)) (s_at L (fun x => s_pay st x price m)) (s_at L (fun x => s_cup x m)) L.length d' := by
  have hl := hL.1
  intro n
  induction n with
  | zero => intro k d a b; omega
  | succ n ih =>
    intro k d hk hn hd
    rw [f_X1_rate_3, hL.2.1]
    by_cases hk2 : k = L.length
    · rw [if_pos (show nI L.length ≤ nI k from c_le L.length k rfl rfl (by omega) (by omega))]
      subst hk2
      exact ⟨d, rfl, hd⟩
    · have hx : L[k]? = some L[k] := List.getElem?_eq_getElem (by omega)
      rw [if_neg (show ¬ nI L.length ≤ nI k from c_nle L.length k rfl rfl (by omega) (by omega)), p_X4_cupAt hL hx, Option.bind_some]
      have hxk : cr_x (nI k) = k := cr_xn (by omega)
      have hb := s_band_lt (s_cup L[k] m)
      have hxb : cr_x (nI (s_band (s_cup L[k] m))) = s_band (s_cup L[k] m) := cr_xn (by omega)
      have step : ∀ (s0 : Int32), vp_nar .boolean s0 = (if s_ok L m k then 1 else 0) → ∃ d', f_X1_rate_45 (f_X1_rate_3 n) d vh vl vk price m (nI k) (s_cup L[k] m) s0 (nI k) = some d' ∧ plIn (s_ok L m) (s_at L (fun x => s_gain w st x price m)) (s_at L (fun x => s_pay st x price m)) (s_at L (fun x => s_cup x m)) L.length d' := by
        intro s0 hs0
        rw [f_X1_rate_45, if_pos (cr_inn (by omega) (by omega)), if_pos (cr_inn (by omega) (by omega)), p_X4_late hL hx, Option.bind_some, p_X3_payForBag hH, Option.bind_some, p_X6_bandOf, Option.bind_some, if_pos (cr_inn hb (by omega)), nI_1, hs0, hxk, hxb, hH.1 _ hb]
        refine ih (k + 1) _ (by omega) (by omega) ⟨fun j hj => ?_, fun j hj => ?_⟩
        · by_cases hjk : j = k
          · subst hjk; simp [cr_ce, cr_up]
          · simpa [cr_ce, cr_up, hjk] using hd.1 j (by omega)
        · by_cases hjk : j = k
          · subst hjk; simp [cr_ce, cr_up, s_at_of hx, s_gain]
          · simpa [cr_ce, cr_up, hjk] using hd.2 j (by omega)
      by_cases hc : s_cup L[k] m < 70
      · rw [if_pos hc]
        exact step 0 (by rw [s_ok_of hx]; simp [hc]; rfl)
      · rw [if_neg hc]
        exact step 1 (by rw [s_ok_of hx]; simp [hc]; rfl)
theorem p_X1_plan_45 {g b p c : Nat → Int32} {N : Nat} {vh vl vk : cr_V} (hN : N ≤ 12) (hs : vl 4 0 = nI N) (hb : ∀ j, j < N → vl 1 j = b j) : ∀ (n k : Nat) (d : cr_V) (ok : Nat → Bool) (P : List (Nat × Int32)) (want : Int32), k ≤ 12 → 12 - k < n → P.length ≤ k → plOut g b p c P want d → plIn ok g p c N d →
    ∃ d', f_X1_plan_45 n d vh vl vk (nI k) = some d' ∧ plOut g b p c (P ++ s_plan g b N (12 - k) ok want) (s_left (s_plan g b N (12 - k) ok want) want) d' := by
  intro n
  induction n with
  | zero => intro k d ok P want a b; omega
  | succ n ih =>
    intro k d ok P want hk hn hPk hO hI
    rw [f_X1_plan_45]
    by_cases hk2 : k = 12
    · rw [if_pos (show (12 : Int32) ≤ nI k from c_le 12 k rfl rfl (by omega) (by omega))]
      subst hk2
      refine ⟨d, rfl, ?_⟩
      simpa [s_plan, s_left] using hO
    · rw [if_neg (show ¬ (12 : Int32) ≤ nI k from c_nle 12 k rfl rfl (by omega) (by omega)), hO.2.2.1]
      by_cases hw : want ≤ 0
      · rw [if_pos hw, s_plan_done hw]
        exact ⟨d, rfl, by simpa [s_left] using hO⟩
      · rw [if_neg hw, hs, p_X1_best hN hI, Option.bind_some]
        obtain ⟨f, hf⟩ : ∃ f, 12 - k = f + 1 := ⟨11 - k, by omega⟩
        cases hbest : s_best ok g N with
        | none =>
          rw [s_enc, if_pos (by decide), f_X1_plan_93, nI_1]
          have := ih (k + 1) d ok P want (by omega) (by omega) (by omega) hO hI
          rw [s_plan_none hbest] at this ⊢
          exact this
        | some r =>
          obtain ⟨h3, h4⟩ := s_best_lt hbest
          obtain ⟨d', e1, e2, e3⟩ := p_X1_take hN hO hI h3 (by omega)
          rw [s_enc, if_neg (nI_pos (by omega)), if_pos (cr_inn (by omega) (by omega)), cr_xn (by omega), hb r h3, e1, Option.bind_some, f_X1_plan_93, nI_1]
          obtain ⟨d2, e4, e5⟩ := ih (k + 1) d' _ _ _ (by omega) (by omega) (by rw [List.length_append]; simp; omega) e2 e3
          refine ⟨d2, e4, ?_⟩
          rw [show s_plan g b N (12 - k) ok want = (r, s_take want (b r)) :: s_plan g b N (12 - (k + 1)) (fun j => ok j && !decide (j = r)) (want - s_take want (b r)) from by
            rw [hf, show 12 - (k + 1) = f from by omega, s_plan, if_neg hw, hbest]]
          rw [List.append_assoc] at e5
          exact e5
theorem p_X1_plan {w st g : Nat → Int32} {L : List cr_Lot} {vh vl : cr_V} (vk vd : cr_V) (hH : crH w st g vh) (hL : crL L vl) (price m : Int32) :
    ∃ d, f_X1_plan vd vh vl vk price m = some d ∧ plOut (s_at L (fun x => s_gain w st x price m)) (s_at L (fun x => x.2.1)) (s_at L (fun x => s_pay st x price m)) (s_at L (fun x => s_cup x m)) (s_deliver w st L price m) (s_left (s_deliver w st L price m) (st 0)) d := by
  have hl := hL.1
  obtain ⟨d1, e1, hI⟩ := p_X1_rate_3 vk hH hL price m 10100 0 vd (by omega) (by omega) ⟨fun j hj => by omega, fun j hj => by omega⟩
  rw [f_X1_plan, f_X1_rate, show (0 : Int32) = nI 0 from rfl, e1, Option.bind_some, hH.2.1 0 (by omega)]
  refine p_X1_plan_45 hl hL.2.1 (fun j hj => ?_) 10100 0 _ (s_ok L m) [] (st 0) (by omega) (by omega) (by simp) ⟨by simp, ?_, ?_, fun i q hq => by simp at hq, ?_, ?_, ?_, ?_⟩ ⟨fun j hj => ?_, fun j hj => ?_⟩
  · have hx : L[j]? = some L[j] := List.getElem?_eq_getElem hj
    rw [s_at_of hx]; exact (hL.2.2 j _ hx).2.1
  · simp [cr_ce]
  · simp [cr_ce]
  · simp [cr_ce, s_tot]; rfl
  · simp [cr_ce, s_tot]; rfl
  · simp [cr_ce, s_tot]; rfl
  · simp [cr_ce, s_used]; rfl
  · simpa [cr_ce] using hI.1 j hj
  · simpa [cr_ce] using hI.2 j hj
