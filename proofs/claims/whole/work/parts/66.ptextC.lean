/-! the text and its orders, on the class -/
def crT (T : List Int32) (vo : cr_V) : Prop := s_txt T ∧ vo 1 0 = nI T.length ∧ ∀ (j : Nat) (x : Int32), T[j]? = some x → vo 0 j = x
theorem crT.sm {T : List Int32} {v v' : cr_V} {cs : List Nat} (hT : crT T v) (h : sameC cs v v') (h0 : 0 ∉ cs) (h1 : 1 ∉ cs) : crT T v' := ⟨hT.1, by rw [h 1 h1]; exact hT.2.1, by rw [h 0 h0]; exact hT.2.2⟩
theorem cr_char_of {c : Int32} (h : s_in c 32 126 = true) : cr_char c = true := by
  obtain ⟨k, k1, k2, rfl⟩ := p_inN (a := 32) (b := 126) h (by omega) (by omega)
  exact decide_eq_true (pk_charN (show k < 65536 by omega)).1
theorem p_X5_signAt {T : List Int32} {vo : cr_V} (hT : crT T vo) {p : Nat} (hp : p < 2 ^ 31) : f_X5_signAt vo (nI p) = some (s_chr T p) := by
  obtain ⟨⟨t1, t2⟩, t3, t4⟩ := hT
  rw [f_X5_signAt, t3, if_neg (nI_pos hp)]
  by_cases hk : p < T.length
  · have hx : T[p]? = some T[p] := List.getElem?_eq_getElem hk
    rw [if_neg (nI_ge hk (by omega)), if_neg (show ¬ (60 : Int32) ≤ nI p from c_nle 60 p rfl rfl (by omega) (by omega)), if_pos (cr_inn (by omega) (by omega)), cr_xn (by omega), t4 p _ hx, s_chr_of hx, if_pos (cr_char_of (t2 _ (List.getElem_mem hk)))]
  · rw [if_pos (nI_le (by omega) hp), s_chr_end (by omega)]
theorem p_X5_isDigit (c : Int32) : f_X5_isDigit c = some (if s_in c 48 57 = true then 1 else 0) := by
  unfold f_X5_isDigit s_in
  by_cases h1 : c < 48
  · simp [h1]
  · by_cases h2 : 57 < c <;> simp [h1, h2]
theorem p_X5_numbersOf (c : Int32) : f_X5_numbersOf c = some (nI (s_want c)) := by
  unfold f_X5_numbersOf s_want
  by_cases h1 : c = 98
  · subst h1; rfl
  by_cases h2 : c = 99
  · subst h2; rfl
  by_cases h3 : c = 100
  · subst h3; rfl
  by_cases h4 : c = 108
  · subst h4; rfl
  by_cases h5 : c = 109
  · subst h5; rfl
  by_cases h6 : c = 115
  · subst h6; rfl
  simp [h1, h2, h3, h4, h5, h6]
  rfl
theorem p_X5_readNumber_4 {T : List Int32} {w : Nat} (hw : w < 4) : ∀ (n d p : Nat) (vo : cr_V) (a : Int32), d ≤ 4 → d < n → crT T vo → p ≤ T.length → vo 6 0 = nI p →
    ∃ v', f_X5_readNumber_4 n vo (nI w) a (nI (4 - d)) = some (if d = 4 ∧ (s_num T d p a).1 = p then 0 else 1, v') ∧ v' 6 0 = nI (s_num T d p a).1 ∧ (¬ (d = 4 ∧ (s_num T d p a).1 = p) → v' 7 w = (s_num T d p a).2) ∧ (∀ j, j ≠ w → v' 7 j = vo 7 j) ∧ sameC [6, 7] vo v' := by
  intro n
  induction n with
  | zero => intro d p vo a h1 h2; omega
  | succ n ih =>
    intro d p vo a hd hn hT hp h6
    have hl := hT.1.1
    have h56 : ∀ r : Nat × Int32, r = (p, a) → ∃ v', f_X5_readNumber_56 vo (nI w) a (nI (4 - d)) = some (if d = 4 ∧ r.1 = p then 0 else 1, v') ∧ v' 6 0 = nI r.1 ∧ (¬ (d = 4 ∧ r.1 = p) → v' 7 w = r.2) ∧ (∀ j, j ≠ w → v' 7 j = vo 7 j) ∧ sameC [6, 7] vo v' := by
      intro r hr
      subst hr
      rw [f_X5_readNumber_56]
      by_cases h : d = 4
      · rw [if_pos (by rw [h]; rfl), if_pos ⟨h, rfl⟩]; exact ⟨vo, rfl, h6, fun k => absurd ⟨h, rfl⟩ k, fun j hj => rfl, sameC.rf⟩
      · have hn : ¬ (d = 4 ∧ (p, a).1 = p) := fun k => h k.1
        rw [if_neg (nI_ne0 (by omega) (by omega)), if_neg hn, if_pos (show nI w < 4 from c_lt w 4 rfl rfl hw (by omega)), if_pos (cr_inn hw (by omega)), cr_xn (by omega)]
        exact ⟨_, rfl, by simpa [cr_ce] using h6, fun _ => by simp [cr_ce, cr_up], fun j hj => by simp [cr_ce, cr_up, hj], sameC.c (by simp)⟩
    rw [f_X5_readNumber_4]
    cases d with
    | zero => rw [if_pos (show (4 : Int32) ≤ nI (4 - 0) by decide)]; exact h56 _ rfl
    | succ d =>
      rw [if_neg (show ¬ (4 : Int32) ≤ nI (4 - (d + 1)) from c_nle 4 (4 - (d + 1)) rfl rfl (by omega) (by omega)), h6, p_X5_signAt hT (by omega), Option.bind_some, p_X5_isDigit, Option.bind_some]
      by_cases hc : s_in (s_chr T p) 48 57 = true
      · have hpl2 := s_chr_in (by decide) hc
        simp only [if_pos hc]
        rw [if_neg (by decide), Option.bind_some, nI_1, nI_1, show 4 - (d + 1) + 1 = 4 - d by omega]
        have hs : sameC [6, 7] vo (cr_i vo 6 (nI (p + 1))) := sameC.c (by simp)
        obtain ⟨v', e1, e2, e3, e4, e5⟩ := ih d (p + 1) (cr_i vo 6 (nI (p + 1))) (10 * a + s_chr T p - 48) (by omega) (by omega) (hT.sm hs (by simp) (by simp)) hpl2 (by simp [cr_ce])
        have hle := s_num_le T d (p + 1) (10 * a + s_chr T p - 48) hpl2
        rw [s_num, if_pos hc]
        rw [if_neg (by omega)] at e1
        exact ⟨v', by rw [if_neg (by omega)]; exact e1, e2, fun _ => e3 (by omega), fun j hj => by rw [e4 j hj]; simp [cr_ce], hs.tr e5 (fun c h => h) (fun c h => h)⟩
      · rw [if_pos (by simp [hc])]
        exact h56 _ (by rw [s_num, if_neg hc])
theorem p_X5_readNumber {T : List Int32} {w p : Nat} {vo : cr_V} (hw : w < 4) (hT : crT T vo) (hp : p ≤ T.length) (h6 : vo 6 0 = nI p) :
    ∃ v', f_X5_readNumber vo (nI w) = some (if (s_num T 4 p 0).1 = p then 0 else 1, v') ∧ v' 6 0 = nI (s_num T 4 p 0).1 ∧ (¬ (s_num T 4 p 0).1 = p → v' 7 w = (s_num T 4 p 0).2) ∧ (∀ j, j ≠ w → v' 7 j = vo 7 j) ∧ sameC [6, 7] vo v' := by
  obtain ⟨v', e1, e2, e3, e4, e5⟩ := p_X5_readNumber_4 hw 10100 4 p vo 0 (by omega) (by omega) hT hp h6
  rw [f_X5_readNumber]
  simp only [true_and] at e1 e3
  exact ⟨v', e1, e2, e3, e4, e5⟩
theorem p_X5_readOrder_38 {T : List Int32} : ∀ (n w k p : Nat) (vo : cr_V), w + 1 < n → k + w < 4 → crT T vo → p ≤ T.length → vo 6 0 = nI p →
    ∃ v', f_X5_readOrder_38 n vo (nI (k + w + 1)) (nI k) = some (if (s_nums T w p).2.isSome then 1 else 0, v') ∧ v' 6 0 = nI (s_nums T w p).1 ∧ (∀ j, j < k → v' 7 j = vo 7 j) ∧ (∀ a, (s_nums T w p).2 = some a → ∀ j, j < w + 1 → v' 7 (k + j) = a.getD j 0) ∧ sameC [6, 7] vo v' := by
  intro n
  induction n with
  | zero => intro w k p vo h1; omega
  | succ n ih =>
    intro w k p vo hn hk hT hp h6
    have hl := hT.1.1
    obtain ⟨v1, e1, e2, e3, e4, e5⟩ := p_X5_readNumber (w := k) (by omega) hT hp h6
    have hle := s_num_le T 4 p 0 hp
    have hT1 := hT.sm e5 (by simp) (by simp)
    rw [f_X5_readOrder_38, if_neg (nI_ge (by omega) (by omega)), e1, Option.bind_some, nI_pred]
    by_cases hz : (s_num T 4 p 0).1 = p
    · rw [if_pos (by rw [if_pos hz])]
      have hq : s_nums T w p = (p, none) := by rw [s_nums_eq, if_pos hz]
      rw [hq]
      exact ⟨v1, rfl, by rw [e2, hz], fun j hj => e4 j (by omega), fun a ha => (by cases ha), e5⟩
    · rw [if_neg (by rw [if_neg hz]; exact (show ¬ (1 : Int32) = 0 by decide))]
      dsimp only
      rw [e2, p_X5_signAt hT1 (by omega), Option.bind_some]
      cases w with
      | zero =>
        rw [if_pos (show nI k = nI (k + 0) from rfl), f_X5_readOrder_73, s_nums, if_neg hz, e2, nI_1]
        by_cases hc : s_chr T (s_num T 4 p 0).1 = 59
        · rw [if_pos hc, if_pos hc]
          cases n with
          | zero => omega
          | succ n =>
            rw [nI_1, f_X5_readOrder_38, if_pos (nI_le (by omega) (by omega))]
            have hs : sameC [6] v1 (cr_i v1 6 (nI ((s_num T 4 p 0).1 + 1))) := sameC.c (by simp)
            refine ⟨_, rfl, by simp [cr_ce], fun j hj => by rw [hs 7 (by simp)]; exact e4 j (by omega), fun a ha j hj => ?_, e5.tr hs (by simp) (by simp)⟩
            cases ha
            have hj0 : j = 0 := by omega
            subst hj0
            rw [hs 7 (by simp), Nat.add_zero, e3 hz]; rfl
        · rw [if_neg hc, if_neg hc]
          exact ⟨v1, rfl, e2, fun j hj => e4 j (by omega), fun a ha => (by cases ha), e5⟩
      | succ w =>
        have hne : ¬ nI k = nI (k + (w + 1)) := fun e => by have := nI_inj (by omega) (by omega) e; omega
        rw [if_neg hne, f_X5_readOrder_73, s_nums, if_neg hz, e2, nI_1]
        by_cases hc : s_chr T (s_num T 4 p 0).1 = 44
        · rw [if_pos hc, if_pos hc, nI_1]
          have hp2 := s_chr_eq (by decide) hc
          have hs : sameC [6] v1 (cr_i v1 6 (nI ((s_num T 4 p 0).1 + 1))) := sameC.c (by simp)
          obtain ⟨v2, g1, g2, g3, g4, g5⟩ := ih w (k + 1) ((s_num T 4 p 0).1 + 1) (cr_i v1 6 (nI ((s_num T 4 p 0).1 + 1))) (by omega) (by omega) (hT1.sm hs (by simp) (by simp)) hp2 (by simp [cr_ce])
          rw [show k + 1 + w + 1 = k + (w + 1) + 1 by omega] at g1
          rw [g1]
          dsimp only
          refine ⟨v2, ?_, g2, fun j hj => by rw [g3 j (by omega), hs 7 (by simp)]; exact e4 j (by omega), fun a ha j hj => ?_, (e5.tr hs (es := [6, 7]) (by simp) (by simp)).tr g5 (fun c h => h) (fun c h => h)⟩
          · cases (s_nums T w ((s_num T 4 p 0).1 + 1)).2 <;> rfl
          · cases hq : (s_nums T w ((s_num T 4 p 0).1 + 1)).2 with
            | none => rw [hq] at ha; cases ha
            | some b =>
              rw [hq] at ha
              cases ha
              cases j with
              | zero => rw [Nat.add_zero, g3 k (by omega), hs 7 (by simp), e3 hz]; rfl
              | succ j => rw [show k + (j + 1) = (k + 1) + j by omega, g4 b hq j (by omega)]; rfl
        · rw [if_neg hc, if_neg hc]
          exact ⟨v1, rfl, e2, fun j hj => e4 j (by omega), fun a ha => (by cases ha), e5⟩
theorem p_X5_readOrder {T : List Int32} {p : Nat} {vo : cr_V} (hT : crT T vo) (hp : p < T.length) (h2 : vo 2 0 = nI p) :
    ∃ v', f_X5_readOrder vo = some (if (s_read T p).2.isSome then 1 else 0, v') ∧ v' 6 0 = nI (s_read T p).1 ∧ (∀ a, (s_read T p).2 = some a → ∀ j, j < s_want (s_chr T p) → v' 7 j = a.getD j 0) ∧ sameC [6, 7] vo v' := by
  have hl := hT.1.1
  have hs0 : sameC [6, 7] vo (cr_i vo 6 (nI p)) := sameC.c (by simp)
  rw [f_X5_readOrder, h2, p_X5_signAt (hT.sm hs0 (by simp) (by simp)) (by omega), Option.bind_some, p_X5_numbersOf, Option.bind_some, s_read]
  have hw4 := s_want_le (s_chr T p)
  by_cases hw : s_want (s_chr T p) = 0
  · rw [if_pos (by rw [hw]; rfl), if_pos hw]
    exact ⟨_, rfl, by simp [cr_ce], fun a ha => (by cases ha), hs0⟩
  · rw [if_neg (nI_ne0 (by omega) (by omega)), if_neg hw]
    have hs : sameC [6, 7] vo (cr_i vo 6 (nI (p + 1))) := sameC.c (by simp)
    obtain ⟨v', e1, e2, e3, e4, e5⟩ := p_X5_readOrder_38 10100 (s_want (s_chr T p) - 1) 0 (p + 1) (cr_i vo 6 (nI (p + 1))) (by omega) (by omega) (hT.sm hs (by simp) (by simp)) hp (by simp [cr_ce])
    rw [show 0 + (s_want (s_chr T p) - 1) + 1 = s_want (s_chr T p) by omega] at e1
    refine ⟨v', ?_, e2, fun a ha j hj => ?_, hs.tr e5 (fun c h => h) (fun c h => h)⟩
    · rw [nI_1]
      exact e1
    · have := e4 a ha j (by omega)
      rw [Nat.zero_add] at this
      exact this
def p_Ok (o : cr_R) (out : Option (Int32 × cr_V × cr_V × cr_V × cr_V)) : Prop := match o with
  | .inl e => ∃ h l k d, out = some (e, h, l, k, d)
  | .inr q => ∃ h l k d, out = some (q.1, h, l, k, d) ∧ crC q.2 h l k
theorem p_X5_perform {b : Nat} {T : List Int32} {S : cr_S} {vo vh vl vk : cr_V} (hI : s_inv b S) (hT : crT T vo) (hC : crC S vh vl vk) {p : Nat} (hp : p < T.length) (h2 : vo 2 0 = nI p) {a : List Int32} (h7 : ∀ j, j < s_want (s_chr T p) → vo 7 j = a.getD j 0) (hw : s_want (s_chr T p) ≠ 0) (vd : cr_V) : p_Ok (s_call S (s_chr T p) a) (f_X5_perform vo vh vl vk vd) := by
  obtain ⟨a0, m, hm, ha, h0, h5, hd, hL, hK, hwo, hs⟩ := hI
  have hl := hT.1.1
  have hB : ∀ (j : Nat) (x : cr_Lot), S.1[j]? = some x → x.2.1.toInt ≤ 9999 := fun j x hx => by
    obtain ⟨g, g1, g2, g3⟩ := (hL x (List.mem_of_getElem? hx)).bags
    rw [g3, nI_toInt (by omega)]; omega
  rw [f_X5_perform, h2, p_X5_signAt hT (by omega), Option.bind_some]
  generalize s_chr T p = c at *
  unfold s_call p_Ok
  by_cases h1 : c = 98
  · subst h1
    have := p_X3_blendLots hC hB (vo 7 0) (vo 7 1) (vo 7 2) (vo 7 3)
    rw [if_pos rfl, if_pos rfl, ← h7 0 (by decide), ← h7 1 (by decide), ← h7 2 (by decide), ← h7 3 (by decide)]
    cases ho : o_blend S (vo 7 0) (vo 7 1) (vo 7 2) (vo 7 3) with
    | inl e => rw [ho] at this; dsimp only at this ⊢; rw [this]; exact ⟨_, _, _, _, rfl⟩
    | inr q => rw [ho] at this; dsimp only at this ⊢; obtain ⟨v, e1, e2⟩ := this; rw [e1]; exact ⟨_, _, _, _, rfl, e2⟩
  rw [if_neg h1, if_neg h1]
  by_cases h2 : c = 99
  · subst h2
    have := p_X3_cupAnew hC (vo 7 0)
    rw [if_pos rfl, if_pos rfl, ← h7 0 (by decide)]
    cases ho : o_cup S (vo 7 0) with
    | inl e => rw [ho] at this; dsimp only at this ⊢; rw [this]; exact ⟨_, _, _, _, rfl⟩
    | inr q => rw [ho] at this; dsimp only at this ⊢; obtain ⟨v, e1, e2⟩ := this; rw [e1]; exact ⟨_, _, _, _, rfl, e2⟩
  rw [if_neg h2, if_neg h2]
  by_cases h3 : c = 100
  · subst h3
    have := p_X3_meetContract hC vd (vo 7 0)
    rw [if_pos rfl, if_pos rfl, ← h7 0 (by decide)]
    cases ho : o_meet S (vo 7 0) with
    | inl e => rw [ho] at this; dsimp only at this ⊢; obtain ⟨d, e1⟩ := this; rw [e1]; exact ⟨_, _, _, _, rfl⟩
    | inr q => rw [ho] at this; dsimp only at this ⊢; obtain ⟨h, l, k, d, e1, e2⟩ := this; rw [e1]; exact ⟨_, _, _, _, rfl, e2⟩
  rw [if_neg h3, if_neg h3]
  by_cases h4 : c = 108
  · subst h4
    have := p_X3_bringLot hC (vo 7 0) (vo 7 1)
    rw [if_pos rfl, if_pos rfl, ← h7 0 (by decide), ← h7 1 (by decide)]
    cases ho : o_lot S (vo 7 0) (vo 7 1) with
    | inl e => rw [ho] at this; dsimp only at this ⊢; rw [this]; exact ⟨_, _, _, _, rfl⟩
    | inr q => rw [ho] at this; dsimp only at this ⊢; obtain ⟨v, e1, e2⟩ := this; rw [e1]; exact ⟨_, _, _, _, rfl, e2⟩
  rw [if_neg h4, if_neg h4]
  by_cases h5' : c = 115
  · subst h5'
    have := p_X3_sellContract hC (vo 7 0) (vo 7 1)
    rw [if_neg (show ¬ (115 : Int32) = 109 by decide), if_pos (show (115 : Int32) = 115 from rfl), if_pos (show (115 : Int32) = 115 from rfl), ← h7 0 (by decide), ← h7 1 (by decide)]
    cases ho : o_sell S (vo 7 0) (vo 7 1) with
    | inl e => rw [ho] at this; dsimp only at this ⊢; rw [this]; exact ⟨_, _, _, _, rfl⟩
    | inr q => rw [ho] at this; dsimp only at this ⊢; obtain ⟨v, e1, e2⟩ := this; rw [e1]; exact ⟨_, _, _, _, rfl, e2⟩
  rw [if_neg h5', if_neg h5']
  have h6 : c = 109 := by
    unfold s_want at hw
    by_cases h6 : c = 109
    · exact h6
    · simp [h1, h2, h3, h4, h5', h6] at hw
  have := p_X3_passMonths hC (vo 7 0)
  rw [if_pos h6, ← h7 0 (by omega)]
  cases ho : o_pass S (vo 7 0) with
  | inl e => rw [ho] at this; dsimp only at this ⊢; rw [this]; exact ⟨_, _, _, _, rfl⟩
  | inr q => rw [ho] at this; dsimp only at this ⊢; obtain ⟨v, v2, e1, e2⟩ := this; rw [e1]; exact ⟨_, _, _, _, rfl, e2⟩
theorem p_X6_isError (x : Int32) : f_X6_isError x = some (if s_in x (-2000000004) (-2000000001) = true then 1 else 0) := by
  rw [f_X6_isError, p_X6_isWithin, Option.bind_some]
  cases s_in x (-2000000004) (-2000000001) <;> rfl
def p_Run (T : List Int32) (B D : Nat) (o : (Nat × Int32 × Int32) ⊕ (Nat × cr_S)) (out : Option (cr_V × cr_V × cr_V × cr_V × cr_V)) : Prop := match o with
  | .inl r => ∃ vo h l k d, out = some (vo, h, l, k, d) ∧ vo 2 0 = nI r.1 ∧ vo 3 0 = r.2.1 ∧ vo 4 0 = r.2.2 ∧ ¬ vo 3 0 = 0 ∧ crT T vo
  | .inr r => ∃ vo h l k d, out = some (vo, h, l, k, d) ∧ vo 3 0 = 0 ∧ vo 5 0 = nI r.1 ∧ crC r.2 h l k ∧ crT T vo ∧ s_inv B r.2 ∧ r.1 ≤ D
theorem p_Run.mono {T : List Int32} {B D B' D' : Nat} {o : (Nat × Int32 × Int32) ⊕ (Nat × cr_S)} {out : Option (cr_V × cr_V × cr_V × cr_V × cr_V)} (h : p_Run T B D o out) (hB : B ≤ B') (hD : D ≤ D') : p_Run T B' D' o out := by
  unfold p_Run at *
  cases o with
  | inl r => exact h
  | inr r =>
    obtain ⟨vo, h', l, k, d, e1, e2, e3, e4, e5, e6, e7⟩ := h
    exact ⟨vo, h', l, k, d, e1, e2, e3, e4, e5, e6.mono hB, Nat.le_trans e7 hD⟩
theorem z_nerr {r : Int32} (h : (-2000000001) < r) : s_in r (-2000000004) (-2000000001) = false := by
  unfold s_in
  rw [decide_eq_true h]; simp
theorem p_X5_runOn_22 {T : List Int32} : ∀ (n p b d : Nat) (S : cr_S) (vo vh vl vk vd : cr_V), T.length - p + 1 < n → p ≤ T.length → d ≤ p → crT T vo → vo 2 0 = nI p → vo 3 0 = 0 → vo 5 0 = nI d → crC S vh vl vk → s_inv b S → b + (T.length - p) < 2 ^ 30 →
    ∀ k, T.length - p < k → p_Run T (b + (T.length - p)) (d + (T.length - p)) (s_run T k p S d) (f_X5_runOn_22 n vo vh vl vk vd (nI d)) := by
  intro n
  induction n with
  | zero => intro p b d S vo vh vl vk vd h; omega
  | succ n ih =>
    intro p b d S vo vh vl vk vd hn hp hd hT h2 h3 h5 hC hI hb k hk
    have hl := hT.1.1
    obtain ⟨k, rfl⟩ : ∃ j, k = j + 1 := ⟨k - 1, by omega⟩
    by_cases hpl : p < T.length
    · obtain ⟨v1, e1, e2, e3, e4⟩ := p_X5_readOrder hT hpl h2
      obtain ⟨l1, l2, l3⟩ := s_read_le hpl
      have hT1 := hT.sm e4 (by simp) (by simp)
      rw [f_X5_runOn_22, if_neg (show ¬ (60 : Int32) ≤ nI d from c_nle 60 d rfl rfl (by omega) (by omega)), hT.2.1, h2, if_neg (nI_ge hpl (by omega)), if_pos h3, e1, Option.bind_some, s_run, if_pos hpl]
      cases hr : (s_read T p).2 with
      | none =>
        dsimp only
        simp only [Option.isSome_none, Bool.false_eq_true, if_false, if_true]
        rw [f_X5_runOn_84]
        have hs2 : sameC [3, 4] v1 (cr_i (cr_i v1 3 1) 4 (v1 6 0 - v1 2 0)) := (sameC.c (cs := [3, 4]) (by simp)).tr (sameC.c (cs := [3, 4]) (by simp)) (fun c h => h) (fun c h => h)
        have hv2 : cr_i (cr_i v1 3 1) 4 (v1 6 0 - v1 2 0) 2 0 = nI p := by rw [hs2 2 (by simp), e4 2 (by simp)]; exact h2
        have hv3 : cr_i (cr_i v1 3 1) 4 (v1 6 0 - v1 2 0) 3 0 = 1 := by simp [cr_ce]
        have hv4 : cr_i (cr_i v1 3 1) 4 (v1 6 0 - v1 2 0) 4 0 = nI ((s_read T p).1 - p) := by
          simp [cr_ce, e2, e4 2 (by simp), h2]; exact pk_sub l1
        have hT2 := hT1.sm hs2 (by simp) (by simp)
        generalize cr_i (cr_i v1 3 1) 4 (v1 6 0 - v1 2 0) = v2 at *
        cases n with
        | zero => omega
        | succ n =>
          refine ⟨v2, vh, vl, vk, vd, ?_, hv2, hv3, hv4, by rw [hv3]; decide, hT2⟩
          rw [f_X5_runOn_22, hv3]
          split
          · rfl
          · split
            · rfl
            · rw [if_neg (by decide)]
      | some a =>
        obtain ⟨j1, j2, j3⟩ := l3 a hr
        have hv2 : v1 2 0 = nI p := by rw [e4 2 (by simp)]; exact h2
        have hk2 := p_X5_perform hI hT1 hC hpl hv2 (e3 a hr) j3 vd
        have ho := i_call hI (by omega) hC.1.1 hC.2.1.1 (s_chr T p) a
        dsimp only
        simp only [Option.isSome_some, if_true, n10, if_false]
        cases hc : s_call S (s_chr T p) a with
        | inl e =>
          rw [hc] at hk2 ho
          obtain ⟨h', l', k', d', k1⟩ := hk2
          rw [k1, Option.bind_some, f_X5_settle, p_X6_isError, show s_in e (-2000000004) (-2000000001) = true from ho, Option.bind_some]
          simp only [if_true, n10, if_false, Option.bind_some]
          rw [f_X5_runOn_84]
          have hs2 : sameC [3, 4] v1 (cr_i (cr_i v1 3 2) 4 e) := (sameC.c (cs := [3, 4]) (by simp)).tr (sameC.c (cs := [3, 4]) (by simp)) (fun c h => h) (fun c h => h)
          have hv2' : cr_i (cr_i v1 3 2) 4 e 2 0 = nI p := by rw [hs2 2 (by simp)]; exact hv2
          have hv3 : cr_i (cr_i v1 3 2) 4 e 3 0 = 2 := by simp [cr_ce]
          have hv4 : cr_i (cr_i v1 3 2) 4 e 4 0 = e := by simp [cr_ce]
          have hT2 := hT1.sm hs2 (by simp) (by simp)
          generalize cr_i (cr_i v1 3 2) 4 e = v2 at *
          cases n with
          | zero => omega
          | succ n =>
            refine ⟨v2, h', l', k', d', ?_, hv2', hv3, hv4, by rw [hv3]; decide, hT2⟩
            rw [f_X5_runOn_22, hv3]
            split
            · rfl
            · split
              · rfl
              · rw [if_neg (by decide)]
        | inr q =>
          rw [hc] at hk2 ho
          obtain ⟨h', l', k', d', k1, k2⟩ := hk2
          obtain ⟨o1, o2⟩ := ho
          rw [k1, Option.bind_some, f_X5_settle, p_X6_isError, z_nerr o1, Option.bind_some]
          simp only [Bool.false_eq_true, if_false, if_true, Option.bind_some]
          rw [f_X5_runOn_84, nI_1]
          have hs2 : sameC [2, 5] v1 (cr_i (cr_i v1 5 (v1 5 0 + 1)) 2 (v1 6 0)) := (sameC.c (cs := [2, 5]) (by simp)).tr (sameC.c (cs := [2, 5]) (by simp)) (fun c h => h) (fun c h => h)
          refine (ih (s_read T p).1 (b + 1) (d + 1) q.2 _ h' l' k' d' (by omega) l2 (by omega) (hT1.sm hs2 (by simp) (by simp)) (by simp [cr_ce, e2]) (by rw [hs2 3 (by simp), e4 3 (by simp)]; exact h3) (by simp [cr_ce, e4 5 (by simp), h5, nI_1]) k2 o2 (by omega) k (by omega)).mono (by omega) (by omega)
    · have he : f_X5_runOn_22 (n + 1) vo vh vl vk vd (nI d) = some (vo, vh, vl, vk, vd) := by
        rw [f_X5_runOn_22]
        split
        · rfl
        · rw [hT.2.1, h2, if_pos (nI_le (by omega) (by omega))]
      rw [he, s_run, if_neg hpl]
      exact ⟨_, _, _, _, _, rfl, h3, h5, hC, hT, hI.mono (by omega), by omega⟩
theorem p_X5_runOn {T : List Int32} {b : Nat} {S : cr_S} {vo vh vl vk : cr_V} (hT : crT T vo) (hC : crC S vh vl vk) (hI : s_inv b S) (hb : b + 60 < 2 ^ 30) (vd : cr_V) : p_Run T (b + 60) 60 (s_run T 61 0 S 0) (f_X5_runOn vo vh vl vk vd) := by
  have hl := hT.1.1
  have hs : sameC [2, 3, 4, 5] vo (cr_i (cr_i (cr_i (cr_i vo 2 0) 3 0) 4 0) 5 0) := fun c hc => by
    simp only [List.mem_cons, not_or, List.not_mem_nil, not_false_eq_true, and_true] at hc
    simp only [cr_ce]
    rw [if_neg hc.2.2.2, if_neg hc.2.2.1, if_neg hc.2.1, if_neg hc.1]
  rw [f_X5_runOn]
  exact p_Run.mono (B := b + (T.length - 0)) (D := 0 + (T.length - 0)) (p_X5_runOn_22 10100 0 b 0 S _ vh vl vk vd (by omega) (by omega) (by omega) (hT.sm hs (by simp) (by simp)) (by simp [cr_ce]; rfl) (by simp [cr_ce]) (by simp [cr_ce]; rfl) hC hI (by omega) 61 (by omega)) (by omega) (by omega)
