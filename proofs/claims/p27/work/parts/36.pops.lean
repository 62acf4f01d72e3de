/-! the operations, on what a state stands for: an error, or an answer and the new state -/
abbrev cr_R : Type := Int32 ⊕ (Int32 × cr_S)
def s_get (L : List cr_Lot) (k : Nat) : cr_Lot := L.getD k (0, 0, 0, 0)
theorem s_get_of {L : List cr_Lot} {k : Nat} {x : cr_Lot} (h : L[k]? = some x) : s_get L k = x := by unfold s_get; rw [List.getD_eq_getElem?_getD, h]; rfl
def s_in (x a b : Int32) : Bool := !(decide (x < a) || decide (b < x))
def s_up5 (g : Nat → Int32) : Nat → Int32 := upd g 5 (g 5 + 1)
noncomputable def o_lot (S : cr_S) (b c : Int32) : cr_R :=
  if s_in b 1 999 && s_in c 60 100 then (if S.1.length = 12 then .inl (-2000000003) else .inr (S.2.2.2.2 5, S.1 ++ [(S.2.2.2.2 5, b, c, S.2.2.2.2 0)], S.2.1, S.2.2.1, S.2.2.2.1, s_up5 S.2.2.2.2)) else .inl (-2000000001)
def s_less (x : cr_Lot) (b : Int32) : cr_Lot := (x.1, x.2.1 - b, x.2.2.1, x.2.2.2)
noncomputable def o_part (S : cr_S) (n b : Int32) : cr_R := match cr_idx S.1 n with
  | none => .inl (-2000000001)
  | some k => if 1 ≤ b then (if b < (s_get S.1 k).2.1 then (if S.1.length = 12 then .inl (-2000000003) else
      .inr (S.2.2.2.2 5, S.1.set k (s_less (s_get S.1 k) b) ++ [(S.2.2.2.2 5, b, (s_get S.1 k).2.2.1, (s_get S.1 k).2.2.2)], S.2.1, S.2.2.1, S.2.2.2.1, s_up5 S.2.2.2.2)) else .inl (-2000000002)) else .inl (-2000000001)
noncomputable def o_blend (S : cr_S) (n1 b1 n2 b2 : Int32) : cr_R := match cr_idx S.1 n1, cr_idx S.1 n2 with
  | some i, some j => if i = j ∨ b1 < 1 ∨ b2 < 1 then .inl (-2000000001) else if (s_get S.1 i).2.1 < b1 ∨ (s_get S.1 j).2.1 < b2 then .inl (-2000000002)
      else if 9999 < b1 + b2 ∨ (S.1.length = 12 ∧ b1 ≠ (s_get S.1 i).2.1 ∧ b2 ≠ (s_get S.1 j).2.1) then .inl (-2000000003)
      else .inr (S.2.2.2.2 5, ((S.1.set i (s_less (s_get S.1 i) b1)).set j (s_less (s_get S.1 j) b2)).filter s_full ++ [(S.2.2.2.2 5, b1 + b2, (b1 * s_cup (s_get S.1 i) (S.2.2.2.2 0) + b2 * s_cup (s_get S.1 j) (S.2.2.2.2 0)) / (b1 + b2), S.2.2.2.2 0)], S.2.1, S.2.2.1, S.2.2.2.1, s_up5 S.2.2.2.2)
  | _, _ => .inl (-2000000001)
def s_cupped (x : cr_Lot) (m : Int32) : cr_Lot := (x.1, x.2.1 - 1, s_cup x m, m)
noncomputable def o_cup (S : cr_S) (n : Int32) : cr_R := match cr_idx S.1 n with
  | none => .inl (-2000000001)
  | some k => if 1 < (s_get S.1 k).2.1 then .inr (s_cup (s_get S.1 k) (S.2.2.2.2 0), S.1.set k (s_cupped (s_get S.1 k) (S.2.2.2.2 0)), S.2.1, S.2.2.1, S.2.2.2.1, S.2.2.2.2) else .inl (-2000000002)
noncomputable def o_worth (S : cr_S) (b v : Int32) : cr_R :=
  if s_in b 0 3 && s_in v 1 999 then .inr (S.2.2.1 (cr_x b), S.1, S.2.1, upd S.2.2.1 (cr_x b) v, S.2.2.2.1, S.2.2.2.2) else .inl (-2000000001)
def s_month (st : Nat → Int32) (m : Int32) : Bool := decide (((st 1 >>> ((m - m / 12 * 12) &&& 31)) &&& 1) = 1)
noncomputable def o_sell (S : cr_S) (m p : Int32) : cr_R :=
  if s_in m 0 999 && s_in p 1 999 then (if m < S.2.2.2.2 0 then .inl (-2000000002) else if s_month S.2.2.2.1 m then (if S.2.1.length = 6 then .inl (-2000000003) else .inr (nI S.2.1.length, S.1, S.2.1 ++ [(m, p)], S.2.2.1, S.2.2.2.1, S.2.2.2.2)) else .inl (-2000000002)) else .inl (-2000000001)
def s_con (K : List cr_Con) (k : Nat) : cr_Con := K.getD k (0, 0)
theorem s_con_of {K : List cr_Con} {k : Nat} {x : cr_Con} (h : K[k]? = some x) : s_con K k = x := by unfold s_con; rw [List.getD_eq_getElem?_getD, h]; rfl
noncomputable def o_buy (S : cr_S) (c p : Int32) : cr_R :=
  if s_open S.2.1.length c = 1 ∧ s_in p 1 999 = true then .inr (S.2.2.2.1 0 * ((s_con S.2.1 (cr_x c)).2 - p), S.1, S.2.1.eraseIdx (cr_x c), S.2.2.1, S.2.2.2.1, upd S.2.2.2.2 1 (S.2.2.2.2 1 + S.2.2.2.1 0 * ((s_con S.2.1 (cr_x c)).2 - p))) else .inl (-2000000001)
/-- the lots behind a delivery -/
def s_give : List (Nat × Int32) → List cr_Lot → List cr_Lot
  | [], L => L
  | q :: P, L => s_give P (L.set q.1 (s_less (s_get L q.1) q.2))
noncomputable def o_meet (S : cr_S) (c : Int32) : cr_R :=
  if s_open S.2.1.length c = 1 then (if (s_con S.2.1 (cr_x c)).1 = S.2.2.2.2 0 then
    (if s_left (s_deliver S.2.2.1 S.2.2.2.1 S.1 (s_con S.2.1 (cr_x c)).2 (S.2.2.2.2 0)) (S.2.2.2.1 0) ≤ 0 then
      .inr (s_tot (s_at S.1 (fun x => s_pay S.2.2.2.1 x (s_con S.2.1 (cr_x c)).2 (S.2.2.2.2 0))) (s_deliver S.2.2.1 S.2.2.2.1 S.1 (s_con S.2.1 (cr_x c)).2 (S.2.2.2.2 0)) 0,
        (s_give (s_deliver S.2.2.1 S.2.2.2.1 S.1 (s_con S.2.1 (cr_x c)).2 (S.2.2.2.2 0)) S.1).filter s_full, S.2.1.eraseIdx (cr_x c), S.2.2.1, S.2.2.2.1,
        upd (upd (upd S.2.2.2.2 1 (S.2.2.2.2 1 + s_tot (s_at S.1 (fun x => s_pay S.2.2.2.1 x (s_con S.2.1 (cr_x c)).2 (S.2.2.2.2 0))) (s_deliver S.2.2.1 S.2.2.2.1 S.1 (s_con S.2.1 (cr_x c)).2 (S.2.2.2.2 0)) 0)) 2 (S.2.2.2.2 2 + 1)) 4 (S.2.2.2.2 4 + S.2.2.2.1 0))
    else .inl (-2000000002)) else .inl (-2000000002)) else .inl (-2000000001)
noncomputable def o_pass (S : cr_S) (n : Int32) : cr_R :=
  if s_in n 1 24 then (if S.2.2.2.2 0 + n ≤ 999 then
    .inr (nI (S.2.1.length - (S.2.1.filter (s_keep (S.2.2.2.2 0 + n))).length), S.1, S.2.1.filter (s_keep (S.2.2.2.2 0 + n)), S.2.2.1, S.2.2.2.1,
      upd (upd (upd S.2.2.2.2 0 (S.2.2.2.2 0 + n)) 3 (S.2.2.2.2 3 + nI (S.2.1.length - (S.2.1.filter (s_keep (S.2.2.2.2 0 + n))).length))) 1 (S.2.2.2.2 1 - nI (S.2.1.length - (S.2.1.filter (s_keep (S.2.2.2.2 0 + n))).length) * S.2.2.2.1 0 * S.2.2.2.1 4))
    else .inl (-2000000003)) else .inl (-2000000001)
noncomputable def o_set (S : cr_S) (a v : Int32) : cr_R :=
  if s_in a 0 4 && s_in v (cr_least (cr_x a)) (cr_most (cr_x a)) then (if a = 0 ∧ 0 < S.2.1.length then .inl (-2000000002) else .inr (S.2.2.2.1 (cr_x a), S.1, S.2.1, S.2.2.1, upd S.2.2.2.1 (cr_x a) v, S.2.2.2.2)) else .inl (-2000000001)
-- the class's own house does them
theorem p_X6_isWithin (x a b : Int32) : f_X6_isWithin x a b = some (if s_in x a b then 1 else 0) := by
  unfold f_X6_isWithin s_in
  by_cases h1 : x < a
  · simp [h1]
  · by_cases h2 : b < x <;> simp [h1, h2]
theorem p_X3_bringLot {S : cr_S} {vh vl vk : cr_V} (hC : crC S vh vl vk) (x1 x2 : Int32) : match o_lot S x1 x2 with
    | .inl e => f_X3_bringLot vh vl vk x1 x2 = some (e, vl)
    | .inr q => ∃ v, f_X3_bringLot vh vl vk x1 x2 = some (q.1, v) ∧ crC q.2 vh v vk := by
  obtain ⟨hL, hK, hH, hm⟩ := hC
  have h0 : vh 4 0 = S.2.2.2.2 0 := hH.2.2.1
  unfold o_lot
  rw [f_X3_bringLot, p_X6_isWithin, Option.bind_some]
  cases h1 : s_in x1 1 999 with
  | false => simp
  | true =>
    rw [p_X6_isWithin, Option.bind_some]
    cases h2 : s_in x2 60 100 with
    | false => simp
    | true =>
      simp only [Bool.and_self, if_true]
      by_cases h3 : S.1.length = 12
      · rw [if_pos h3, p_X4_addFull hL _ _ _ h3]
        simp
      · have hl := hL.1
        obtain ⟨v, e1, e2, e3⟩ := p_X4_add hL x1 x2 (vh 4 0) (by omega)
        rw [if_neg h3, e1]
        rw [hm, h0] at e2
        refine ⟨v, by simp [hm], e2, hK, ⟨hH.1, hH.2.1, ?_⟩, ?_⟩
        · simpa [s_up5, cr_up] using hH.2.2
        · simp [s_up5, cr_up, e3, hm]
