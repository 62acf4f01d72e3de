/-! the plan, on the model -/
def s_cnt (ok : Nat → Bool) : Nat → Nat
  | 0 => 0
  | n + 1 => s_cnt ok n + if ok n then 1 else 0
theorem s_cnt_le (ok : Nat → Bool) : ∀ n, s_cnt ok n ≤ n
  | 0 => Nat.le_refl _
  | n + 1 => by have := s_cnt_le ok n; unfold s_cnt; split <;> omega
theorem s_cnt_same {ok : Nat → Bool} {r : Nat} : ∀ {n : Nat}, n ≤ r → s_cnt (fun j => ok j && !decide (j = r)) n = s_cnt ok n
  | 0, _ => rfl
  | n + 1, h => by
    have := s_cnt_same (ok := ok) (r := r) (n := n) (by omega)
    unfold s_cnt
    rw [this]
    simp [show ¬ n = r by omega]
theorem s_cnt_rem {ok : Nat → Bool} {r : Nat} (ho : ok r = true) : ∀ {n : Nat}, r < n → s_cnt (fun j => ok j && !decide (j = r)) n + 1 = s_cnt ok n
  | 0, h => by omega
  | n + 1, h => by
    unfold s_cnt
    by_cases hn : n = r
    · subst hn
      rw [s_cnt_same (Nat.le_refl _)]
      simp [ho]
    · have := s_cnt_rem ho (n := n) (by omega)
      rw [← this]
      simp [hn]
      omega
theorem s_cnt_none {ok : Nat → Bool} {g : Nat → Int32} : ∀ {n : Nat}, s_cnt ok n = 0 → s_best ok g n = none
  | 0, _ => rfl
  | n + 1, h => by
    unfold s_cnt at h
    by_cases ho : ok n = true
    · simp [ho] at h
    · unfold s_best
      rw [if_neg ho]
      exact s_cnt_none (by omega)
theorem q_gives_40 {L : List cr_Lot} {w st g : Nat → Int32} {v : cr_V} (hL : mdL L (v 0)) (hG : mdG w st g (v 0)) (price m x3 : Int32) {ok : Nat → Bool} (hok : ∀ j, j < L.length → ok j = (s_ok L m j && !x3.toBitVec.getLsbD j)) (K : cr_V → Int32 → Int32 → Int32 → Int32 → Option (cr_V)) : ∀ (n k : Nat), k ≤ L.length → L.length - k < n →
    f_X7_gives_40 K n v price m x3 (s_enc (-2000000004) (s_best ok (s_at L (fun x => s_gain w st x price m)) k)) (nI k) = f_X7_gives_134 K v price m x3 (s_enc (-2000000004) (s_best ok (s_at L (fun x => s_gain w st x price m)) L.length)) (if (s_best ok (s_at L (fun x => s_gain w st x price m)) L.length).isSome then 1 else 0) := by
  have hl := hL.1
  intro n
  induction n with
  | zero => intro k a b; omega
  | succ n ih =>
    intro k hk hn
    rw [f_X7_gives_40, hL.2.1]
    by_cases hk2 : k = L.length
    · rw [if_pos (show nI L.length ≤ nI k from c_le L.length k rfl rfl (by omega) (by omega)), hk2]
      cases hb : s_best ok (s_at L (fun x => s_gain w st x price m)) L.length with
      | none => rw [if_pos (show s_enc (-2000000004) none < 0 by decide)]; rfl
      | some r =>
        obtain ⟨h3, h4⟩ := s_best_lt hb
        rw [if_neg (show ¬ s_enc (-2000000004) (some r) < 0 from nI_pos (by omega))]; rfl
    · have hx : L[k]? = some L[k] := List.getElem?_eq_getElem (by omega)
      have ih2 := ih (k + 1) (by omega) (by omega)
      rw [show s_best ok (s_at L (fun x => s_gain w st x price m)) (k + 1) = (if ok k then (match s_best ok (s_at L (fun x => s_gain w st x price m)) k with | none => some k | some b => if s_at L (fun x => s_gain w st x price m) k ≤ s_at L (fun x => s_gain w st x price m) b then some b else some k) else s_best ok (s_at L (fun x => s_gain w st x price m)) k) from rfl] at ih2
      rw [if_neg (show ¬ nI L.length ≤ nI k from c_nle L.length k rfl rfl (by omega) (by omega)), q_cupAt hL hx, Option.bind_some]
      have hk3 := hok k (by omega)
      rw [s_ok_of hx] at hk3
      have hno : ok k = false → f_X7_gives_77 K (f_X7_gives_40 K n) v price m x3 (s_enc (-2000000004) (s_best ok (s_at L (fun x => s_gain w st x price m)) k)) (nI k) = f_X7_gives_134 K v price m x3 (s_enc (-2000000004) (s_best ok (s_at L (fun x => s_gain w st x price m)) L.length)) (if (s_best ok (s_at L (fun x => s_gain w st x price m)) L.length).isSome then 1 else 0) := by
        intro ho
        rw [ho] at ih2
        rw [f_X7_gives_77, f_X7_gives_78, if_pos rfl, f_X7_gives_114, f_X7_gives_116, nI_1]
        exact ih2
      by_cases h1 : s_cup L[k] m < 70
      · rw [if_pos h1]
        exact hno (by rw [hk3]; simp [h1])
      · rw [if_neg h1]
        simp only [b_tst x3 (show k < 12 by omega)]
        cases h2 : x3.toBitVec.getLsbD k with
        | true => simp only [Bool.true_eq_false, if_false]; exact hno (by rw [hk3]; simp [h2])
        | false =>
          have ho : ok k = true := by rw [hk3]; simp [h1, h2]
          rw [ho] at ih2
          simp only [if_true]
          rw [f_X7_gives_78, if_neg (by decide)]
          cases hb : s_best ok (s_at L (fun x => s_gain w st x price m)) k with
          | none =>
            rw [hb] at ih2
            rw [s_enc, if_pos (by decide), f_X7_gives_109, f_X7_gives_116, nI_1]
            exact ih2
          | some r =>
            obtain ⟨h3, h4⟩ := s_best_lt hb
            have hy : L[r]? = some L[r] := List.getElem?_eq_getElem (by omega)
            rw [hb] at ih2
            dsimp only at ih2
            rw [s_at_of hx, s_at_of hy] at ih2
            rw [s_enc, if_neg (nI_pos (by omega)), q_gainAt hL hG hx, Option.bind_some, q_gainAt hL hG hy, Option.bind_some]
            by_cases hg : s_gain w st L[k] price m ≤ s_gain w st L[r] price m
            · rw [if_pos hg, if_pos rfl] at ih2
              rw [if_pos hg, f_X7_gives_114, f_X7_gives_116, nI_1]
              exact ih2
            · rw [if_neg hg, if_pos rfl] at ih2
              rw [if_neg hg, f_X7_gives_109, f_X7_gives_116, nI_1]
              exact ih2
def qOut (P : List (Nat × Int32)) (want : Int32) (v : cr_V) : Prop := P.length ≤ 12 ∧ v 9 0 = nI P.length ∧ v 10 0 = want ∧ ∀ i q, P[i]? = some q → v 7 i = nI q.1 ∧ v 8 i = q.2
theorem q_take_le (a b : Int32) : (if a ≤ b then a else b) = s_take a b := by
  unfold s_take
  by_cases h : a ≤ b
  · rw [if_pos h, if_neg (Int32.not_lt.mpr h)]
  · rw [if_neg h, if_pos (Int32.not_le.mp h)]
theorem q_gives_169 {P : List (Nat × Int32)} {want t : Int32} {v : cr_V} (hO : qOut P want v) (hP : P.length < 12) (K : cr_V → Int32 → Int32 → Int32 → Int32 → Option (cr_V)) (x1 x2 x3 x4 : Int32) (r : Nat) :
    ∃ v', f_X7_gives_169 K v x1 x2 x3 x4 (nI r) t = K v' x1 x2 (x3 ||| (1 <<< (nI r &&& 31))) x4 ∧ qOut (P ++ [(r, t)]) (want - t) v' ∧ sameC [7, 8, 9, 10] v v' := by
  obtain ⟨o1, o2, o3, o4⟩ := hO
  rw [f_X7_gives_169, o2, o3, if_pos (cr_inn (by omega) (by omega)), cr_xn (by omega), f_X7_gives_221]
  refine ⟨_, rfl, ⟨by rw [List.length_append]; simp; omega, ?_, ?_, fun i q hq => ?_⟩, fun c hc => ?_⟩
  · simp [cr_ce, nI_1]
  · simp [cr_ce]
  · by_cases hi : i < P.length
    · rw [List.getElem?_append_left hi] at hq
      have hne : ¬ i = P.length := by omega
      simpa [cr_ce, cr_up, hne] using o4 i q hq
    · have hl := p_lt hq
      rw [List.length_append] at hl
      simp at hl
      have hi2 : i = P.length := by omega
      subst hi2
      rw [List.getElem?_append_right (Nat.le_refl _)] at hq
      simp at hq
      subst hq
      simp [cr_ce, cr_up]
  · simp only [List.mem_cons, List.not_mem_nil, or_false, not_or] at hc
    simp [cr_ce, hc]
theorem q_gives_21 {L : List cr_Lot} {w st g : Nat → Int32} {s : Nat → Int32} (hL : mdL L s) (hG : mdG w st g s) (price m : Int32) : ∀ (f n : Nat) (P : List (Nat × Int32)) (ok : Nat → Bool) (x3 want : Int32) (v : cr_V), v 0 = s → qOut P want v → P.length + f = 12 → f + 1 < n → s_cnt ok L.length ≤ f → (∀ j, j < L.length → ok j = (s_ok L m j && !x3.toBitVec.getLsbD j)) →
    ∃ v', f_X7_gives_21 n v price m x3 1 = some v' ∧ qOut (P ++ s_plan (s_at L (fun x => s_gain w st x price m)) (s_at L (fun x => x.2.1)) L.length f ok want) (s_left (s_plan (s_at L (fun x => s_gain w st x price m)) (s_at L (fun x => x.2.1)) L.length f ok want) want) v' ∧ sameC [7, 8, 9, 10] v v' := by
  have hl := hL.1
  intro f
  induction f with
  | zero =>
    intro n P ok x3 want v hv hO hPf hn hc hok
    obtain ⟨n, rfl⟩ : ∃ k, n = k + 1 + 1 := ⟨n - 2, by omega⟩
    subst hv
    rw [f_X7_gives_21, if_neg (by decide), hO.2.2.1]
    have hs : s_plan (s_at L (fun x => s_gain w st x price m)) (s_at L (fun x => x.2.1)) L.length 0 ok want = [] := rfl
    rw [hs, List.append_nil]
    by_cases hw : want ≤ 0
    · rw [if_pos hw]; exact ⟨v, rfl, hO, sameC.rf⟩
    · rw [if_neg hw]
      have h40 := q_gives_40 hL hG price m x3 hok (f_X7_gives_21 (n + 1)) 10100 0 (by omega) (by omega)
      rw [s_cnt_none (n := L.length) (by omega)] at h40
      rw [show f_X7_gives_40 (f_X7_gives_21 (n + 1)) 10100 v price m x3 (-2000000004) 0 = _ from h40, f_X7_gives_134]
      simp only [Option.isSome_none, Bool.false_eq_true, if_false, if_true]
      rw [f_X7_gives_221, f_X7_gives_21, if_pos rfl]
      exact ⟨v, rfl, hO, sameC.rf⟩
  | succ f ih =>
    intro n P ok x3 want v hv hO hPf hn hc hok
    obtain ⟨n, rfl⟩ : ∃ k, n = k + 1 + 1 := ⟨n - 2, by omega⟩
    subst hv
    rw [f_X7_gives_21, if_neg (by decide), hO.2.2.1]
    by_cases hw : want ≤ 0
    · rw [if_pos hw, s_plan_done hw, List.append_nil]; exact ⟨v, rfl, hO, sameC.rf⟩
    · rw [if_neg hw]
      have h40 := q_gives_40 hL hG price m x3 hok (f_X7_gives_21 (n + 1)) 10100 0 (by omega) (by omega)
      rw [show f_X7_gives_40 (f_X7_gives_21 (n + 1)) 10100 v price m x3 (-2000000004) 0 = _ from h40, f_X7_gives_134]
      cases hb : s_best ok (s_at L (fun x => s_gain w st x price m)) L.length with
      | none =>
        simp only [Option.isSome_none, Bool.false_eq_true, if_false, if_true]
        rw [f_X7_gives_221, f_X7_gives_21, if_pos rfl, s_plan_none hb, List.append_nil]
        exact ⟨v, rfl, hO, sameC.rf⟩
      | some r =>
        obtain ⟨h3, h4⟩ := s_best_lt hb
        have hx : L[r]? = some L[r] := List.getElem?_eq_getElem h3
        have hbr : s_at L (fun x => x.2.1) r = L[r].2.1 := s_at_of hx
        simp only [Option.isSome_some, if_true, n10, if_false]
        rw [s_enc, q_of1 hL hx, Option.bind_some, hO.2.2.1]
        have hcase : (if want ≤ L[r].2.1 then f_X7_gives_169 (f_X7_gives_21 (n + 1)) v price m x3 1 (nI r) want else (some L[r].2.1).bind fun q10 => f_X7_gives_169 (f_X7_gives_21 (n + 1)) v price m x3 1 (nI r) q10) = f_X7_gives_169 (f_X7_gives_21 (n + 1)) v price m x3 1 (nI r) (s_take want L[r].2.1) := by
          rw [← q_take_le, Option.bind_some]
          by_cases h : want ≤ L[r].2.1
          · rw [if_pos h, if_pos h]
          · rw [if_neg h, if_neg h]
        rw [hcase]
        obtain ⟨v1, a1, a2, a3⟩ := q_gives_169 hO (by omega) (f_X7_gives_21 (n + 1)) price m x3 1 r (t := s_take want L[r].2.1)
        obtain ⟨v2, b1, b2, b3⟩ := ih (n + 1) _ (fun j => ok j && !decide (j = r)) (x3 ||| (1 <<< (nI r &&& 31))) _ v1 (a3 0 (by simp)) a2 (by rw [List.length_append]; simp; omega) (by omega) (by have := s_cnt_rem h4 h3; omega) (fun j hj => by
          rw [b_or x3 (by omega) (by omega), hok j hj]
          cases s_ok L m j <;> cases x3.toBitVec.getLsbD j <;> simp)
        refine ⟨v2, by rw [a1]; exact b1, ?_, a3.tr b3 (fun c h => h) (fun c h => h)⟩
        rw [show s_plan (s_at L (fun x => s_gain w st x price m)) (s_at L (fun x => x.2.1)) L.length (f + 1) ok want = (r, s_take want L[r].2.1) :: s_plan (s_at L (fun x => s_gain w st x price m)) (s_at L (fun x => x.2.1)) L.length f (fun j => ok j && !decide (j = r)) (want - s_take want L[r].2.1) from by
          rw [s_plan, if_neg hw, hb]; dsimp only; rw [hbr]]
        rw [List.append_assoc] at b2
        exact b2
theorem q_gives {S : cr_S} {v : cr_V} (hM : mdR S (v 0)) (price m : Int32) : ∃ v', f_X7_gives v price m = some v' ∧ qOut (s_deliver S.2.2.1 S.2.2.2.1 S.1 price m) (s_left (s_deliver S.2.2.1 S.2.2.2.1 S.1 price m) (S.2.2.2.1 0)) v' ∧ sameC [7, 8, 9, 10] v v' := by
  have h8 : v 0 8 = S.2.2.2.1 0 := hM.2.2.2.1 0 (by omega)
  have hs : sameC [7, 8, 9, 10] v (cr_i (cr_i v 9 0) 10 (v 0 8)) := fun c hc => by
    simp only [List.mem_cons, List.not_mem_nil, or_false, not_or] at hc
    simp [cr_ce, hc]
  obtain ⟨v', e1, e2, e3⟩ := q_gives_21 hM.1 hM.2.2 price m 12 10100 [] (s_ok S.1 m) 0 (S.2.2.2.1 0) (cr_i (cr_i v 9 0) 10 (v 0 8)) (hs 0 (by simp)) ⟨by simp, by simp [cr_ce]; rfl, by simp [cr_ce, h8], fun i q hq => by simp at hq⟩ (by simp) (by omega) (Nat.le_trans (s_cnt_le _ _) hM.1.1) (fun j hj => by
    rw [show (0 : Int32).toBitVec.getLsbD j = false from by rw [show (0 : Int32).toBitVec = 0#32 from rfl]; simp]; simp)
  exact ⟨v', by rw [f_X7_gives]; exact e1, e2, hs.tr e3 (fun c h => h) (fun c h => h)⟩
