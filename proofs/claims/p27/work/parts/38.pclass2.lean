theorem n10 : ((1 : Int32) = 0) = False := by simp
theorem p_xor12 {k : Nat} (hk : k < 2 ^ 31) : (0 : Int32) ≤ nI k ^^^ 12 := by
  have e : nI k ^^^ (12 : Int32) = nI (k ^^^ 12) := by
    apply Int32.toBitVec_inj.1
    show BitVec.ofNat 32 k ^^^ BitVec.ofNat 32 12 = BitVec.ofNat 32 (k ^^^ 12)
    apply BitVec.eq_of_getLsbD_eq
    intro i hi
    simp [hi]
  rw [e]
  exact nI_pos' (Nat.xor_lt_two_pow hk (by omega))
theorem p_X3_isDelivery {w st g : Nat → Int32} {vh vl vk : cr_V} (hH : crH w st g vh) {k : Nat} (hk : k < 2 ^ 31) : f_X3_isDeliveryMonth vh vl vk (nI k) = some (if s_month st (nI k) then 1 else 0) := by
  rw [f_X3_isDeliveryMonth, f_J9_floorMod_7cf53, if_neg (by decide), if_pos (p_xor12 hk), Option.bind_some, hH.2.1 1 (by omega), p_if]
  unfold s_month
  by_cases h : ((st 1 >>> ((nI k - nI k / 12 * 12) &&& 31)) &&& 1) = 1 <;> simp [h]
theorem p_inN {x : Int32} {a b : Nat} (h : s_in x (nI a) (nI b) = true) (hb : b < 2 ^ 31) (ha : a ≤ b) : ∃ k, a ≤ k ∧ k ≤ b ∧ x = nI k := by
  unfold s_in at h
  simp at h
  obtain ⟨h1, h2⟩ := h
  rw [Int32.le_iff_toInt_le, nI_toInt (by omega)] at h1
  rw [Int32.le_iff_toInt_le, nI_toInt hb] at h2
  refine ⟨x.toInt.toNat, by omega, by omega, ?_⟩
  apply Int32.toInt_inj.mp
  rw [nI_toInt (by omega)]
  omega
theorem p_X3_cupAnew {S : cr_S} {vh vl vk : cr_V} (hC : crC S vh vl vk) (x1 : Int32) : match o_cup S x1 with
    | .inl e => f_X3_cupAnew vh vl vk x1 = some (e, vl)
    | .inr q => ∃ v, f_X3_cupAnew vh vl vk x1 = some (q.1, v) ∧ crC q.2 vh v vk := by
  obtain ⟨hL, hK, hH, hm⟩ := hC
  have hl := hL.1
  have h0 : vh 4 0 = S.2.2.2.2 0 := hH.2.2.1
  unfold o_cup
  rw [f_X3_cupAnew, p_X4_rowOf hL, Option.bind_some]
  cases hi : cr_idx S.1 x1 with
  | none => simp
  | some k =>
    obtain ⟨x, hx, hn⟩ := cr_idx_some hi
    have hk := p_lt hx
    obtain ⟨a1, a2, a3, a4⟩ := hL.2.2 k x hx
    dsimp only
    rw [if_pos (nI_pos' (by omega)), s_get_of hx, if_pos (cr_inn (by omega) (by omega)), cr_xn (by omega), a2]
    by_cases h1 : 1 < x.2.1
    · rw [if_pos h1, if_pos h1]
      have hL2 := p_less hL hx 1
      have hx2 : (S.1.set k (s_less x 1))[k]? = some (s_less x 1) := List.getElem?_set_self hk
      have hc : s_cup (s_less x 1) (S.2.2.2.2 0) = s_cup x (S.2.2.2.2 0) := rfl
      rw [a2] at hL2
      rw [h0, p_X4_cupAt hL2 hx2, Option.bind_some, hc]
      refine ⟨cr_a (cr_a (cr_a vl 1 k (x.2.1 - 1)) 2 k (s_cup x (S.2.2.2.2 0))) 3 k (S.2.2.2.2 0), by simp [cr_up, cr_ce], p_setL hL hx (by simp [cr_ce]) ⟨?_, ?_, ?_, ?_⟩ (fun j hj => ⟨?_, ?_, ?_, ?_⟩), hK, hH, by simpa [cr_ce] using hm⟩
      · simp [cr_ce, s_cupped, a1]
      · simp [cr_ce, cr_up, s_cupped]
      · simp [cr_ce, cr_up, s_cupped]
      · simp [cr_ce, cr_up, s_cupped]
      all_goals simp [cr_ce, cr_up, hj]
    · rw [if_neg h1, if_neg h1]
theorem p_X3_changeWorth {S : cr_S} {vh vl vk : cr_V} (hC : crC S vh vl vk) (x1 x2 : Int32) : match o_worth S x1 x2 with
    | .inl e => f_X3_changeWorth vh vl vk x1 x2 = some (e, vh)
    | .inr q => ∃ v, f_X3_changeWorth vh vl vk x1 x2 = some (q.1, v) ∧ crC q.2 v vl vk := by
  obtain ⟨hL, hK, hH, hm⟩ := hC
  unfold o_worth
  rw [f_X3_changeWorth, p_X6_isWithin, Option.bind_some]
  cases h1 : s_in x1 0 3 with
  | false => simp
  | true =>
    obtain ⟨k, -, hk, rfl⟩ := p_inN (a := 0) (b := 3) h1 (by omega) (by omega)
    rw [p_X6_isWithin, Option.bind_some]
    cases h2 : s_in x2 1 999 with
    | false => simp
    | true =>
      simp only [Bool.and_self, if_true]
      simp only [n10, if_false]
      rw [if_pos (cr_inn (by omega) (by omega)), cr_xn (by omega), hH.1 k (by omega)]
      refine ⟨_, rfl, hL, hK, ⟨fun j hj => ?_, ?_⟩, hm⟩
      · by_cases hjk : j = k
        · subst hjk; simp [cr_ce, cr_up]
        · simpa [cr_ce, cr_up, hjk] using hH.1 j hj
      · simpa [cr_ce] using hH.2
theorem p_X3_sellContract {S : cr_S} {vh vl vk : cr_V} (hC : crC S vh vl vk) (x1 x2 : Int32) : match o_sell S x1 x2 with
    | .inl e => f_X3_sellContract vh vl vk x1 x2 = some (e, vk)
    | .inr q => ∃ v, f_X3_sellContract vh vl vk x1 x2 = some (q.1, v) ∧ crC q.2 vh vl v := by
  obtain ⟨hL, hK, hH, hm⟩ := hC
  have h0 : vh 4 0 = S.2.2.2.2 0 := hH.2.2.1
  unfold o_sell
  rw [f_X3_sellContract, p_X6_isWithin, Option.bind_some]
  cases h1 : s_in x1 0 999 with
  | false => simp
  | true =>
    obtain ⟨k, -, hk, rfl⟩ := p_inN (a := 0) (b := 999) h1 (by omega) (by omega)
    rw [p_X6_isWithin, Option.bind_some]
    cases h2 : s_in x2 1 999 with
    | false => simp
    | true =>
      simp only [Bool.and_self, if_true]
      simp only [n10, if_false]
      rw [h0]
      by_cases h3 : nI k < S.2.2.2.2 0
      · rw [if_pos h3, if_pos h3]
      rw [if_neg h3, if_neg h3, p_X3_isDelivery hH (by omega), Option.bind_some]
      cases h4 : s_month S.2.2.2.1 (nI k) with
      | false => simp
      | true =>
        simp only [if_true, n10, if_false]
        by_cases h6 : S.2.1.length = 6
        · rw [if_pos h6, p_X0_addFull hK _ _ h6]
          simp
        · have := hK.1
          obtain ⟨v, e1, e2⟩ := p_X0_add hK (nI k) x2 (by omega)
          rw [if_neg h6, e1, Option.bind_some]
          exact ⟨v, rfl, hL, e2, hH, hm⟩
theorem p_X3_buyContractBack {S : cr_S} {vh vl vk : cr_V} (hC : crC S vh vl vk) (x1 x2 : Int32) : match o_buy S x1 x2 with
    | .inl e => f_X3_buyContractBack vh vl vk x1 x2 = some (e, vh, vk)
    | .inr q => ∃ v v2, f_X3_buyContractBack vh vl vk x1 x2 = some (q.1, v, v2) ∧ crC q.2 v vl v2 := by
  obtain ⟨hL, hK, hH, hm⟩ := hC
  have hl := hK.1
  unfold o_buy
  rw [f_X3_buyContractBack, p_X0_isOpen hK, Option.bind_some]
  rcases s_open_cases (show S.2.1.length < 2 ^ 31 by omega) x1 with ⟨h1, -⟩ | ⟨h1, j, hj, rfl⟩
  · simp [h1]
  · rw [h1, p_X6_isWithin, Option.bind_some]
    simp only [n10, if_false]
    cases h2 : s_in x2 1 999 with
    | false => simp
    | true =>
      obtain ⟨c, hc⟩ : ∃ c, S.2.1[j]? = some c := ⟨_, List.getElem?_eq_getElem hj⟩
      obtain ⟨b1, b2⟩ := hK.2.2 j c hc
      obtain ⟨v, e1, e2⟩ := p_X0_drop hK hj
      have hx : cr_x (nI j) = j := cr_xn (by omega)
      simp only [if_true, and_self, n10, if_false]
      rw [if_pos (cr_inn (by omega) (by omega)), e1, Option.bind_some, hx, s_con_of hc, b2, hH.2.1 0 (by omega)]
      refine ⟨_, v, rfl, hL, e2, ⟨?_, ?_, ?_, ?_, ?_, ?_, ?_⟩, by simpa [cr_up] using hm⟩
      · simpa [cr_ce] using hH.1
      · simpa [cr_ce] using hH.2.1
      · simpa [cr_ce, cr_up] using hH.2.2.1
      · simp [cr_ce, cr_up, hH.2.2.2.1]
      · simpa [cr_ce, cr_up] using hH.2.2.2.2.1
      · simpa [cr_ce, cr_up] using hH.2.2.2.2.2.1
      · simpa [cr_ce, cr_up] using hH.2.2.2.2.2.2
theorem p_X3_passMonths {S : cr_S} {vh vl vk : cr_V} (hC : crC S vh vl vk) (x1 : Int32) : match o_pass S x1 with
    | .inl e => f_X3_passMonths vh vl vk x1 = some (e, vh, vk)
    | .inr q => ∃ v v2, f_X3_passMonths vh vl vk x1 = some (q.1, v, v2) ∧ crC q.2 v vl v2 := by
  obtain ⟨hL, hK, hH, hm⟩ := hC
  have h0 : vh 4 0 = S.2.2.2.2 0 := hH.2.2.1
  unfold o_pass
  rw [f_X3_passMonths, p_X6_isWithin, Option.bind_some, h0]
  cases h1 : s_in x1 1 24 with
  | false => simp
  | true =>
    simp only [if_true, n10, if_false]
    by_cases h2 : S.2.2.2.2 0 + x1 ≤ 999
    · obtain ⟨v, e1, e2⟩ := p_X0_dropBefore hK (S.2.2.2.2 0 + x1)
      rw [if_pos h2, if_pos h2, e1, Option.bind_some, hH.2.1 0 (by omega), hH.2.1 4 (by omega)]
      refine ⟨_, v, rfl, hL, e2, ⟨?_, ?_, ?_, ?_, ?_, ?_, ?_⟩, by simpa [cr_up] using hm⟩
      · simpa [cr_ce] using hH.1
      · simpa [cr_ce] using hH.2.1
      · simp [cr_ce, cr_up]
      · simp [cr_ce, cr_up, hH.2.2.2.1]
      · simpa [cr_ce, cr_up] using hH.2.2.2.2.1
      · simp [cr_ce, cr_up, hH.2.2.2.2.2.1]
      · simpa [cr_ce, cr_up] using hH.2.2.2.2.2.2
    · rw [if_neg h2, if_neg h2]
theorem p_X3_changeSetting {S : cr_S} {vh vl vk : cr_V} (hC : crC S vh vl vk) (x1 x2 : Int32) : match o_set S x1 x2 with
    | .inl e => f_X3_changeSetting vh vl vk x1 x2 = some (e, vh)
    | .inr q => ∃ v, f_X3_changeSetting vh vl vk x1 x2 = some (q.1, v) ∧ crC q.2 v vl vk := by
  obtain ⟨hL, hK, hH, hm⟩ := hC
  have hkl := hK.1
  unfold o_set
  rw [f_X3_changeSetting, p_X6_isWithin, Option.bind_some]
  cases h1 : s_in x1 0 4 with
  | false => simp
  | true =>
    obtain ⟨k, -, hk, rfl⟩ := p_inN (a := 0) (b := 4) h1 (by omega) (by omega)
    have hx : cr_x (nI k) = k := cr_xn (by omega)
    have hin : cr_in (nI k) 5 = true := cr_inn (by omega) (by omega)
    simp only [hx, hin, if_true, p_X6_isWithin, Option.bind_some]
    cases h2 : s_in x2 (cr_least k) (cr_most k) with
    | false => simp
    | true =>
      simp only [Bool.and_self, if_true]
      have key : ∃ v, f_X3_changeSetting_46 vh vl vk (nI k) x2 = some (S.2.2.2.1 k, v) ∧ crC (S.1, S.2.1, S.2.2.1, upd S.2.2.2.1 k x2, S.2.2.2.2) v vl vk := by
        rw [f_X3_changeSetting_46, if_pos hin, hx, hH.2.1 k (by omega)]
        refine ⟨_, rfl, hL, hK, ⟨?_, fun j hj => ?_, ?_⟩, hm⟩
        · simpa [cr_ce] using hH.1
        · by_cases hjk : j = k
          · subst hjk; simp [cr_ce, cr_up]
          · simpa [cr_ce, cr_up, hjk] using hH.2.1 j hj
        · simpa [cr_ce] using hH.2.2
      by_cases h3 : nI k = 0
      · rw [hK.2.1]
        by_cases h4 : 0 < S.2.1.length
        · rw [if_pos (show nI k = 0 ∧ 0 < S.2.1.length from ⟨h3, h4⟩)]
          simp [h3, nI_nle h4 (by omega)]
        · rw [if_neg (show ¬ (nI k = 0 ∧ 0 < S.2.1.length) from fun h => h4 h.2)]
          have h5 : S.2.1.length = 0 := by omega
          simp only [n10, if_false]
          rw [if_pos h3, if_pos (show nI S.2.1.length ≤ 0 from by rw [h5]; decide)]
          exact key
      · rw [if_neg (show ¬ (nI k = 0 ∧ 0 < S.2.1.length) from fun h => h3 h.1)]
        simp only [n10, if_false]
        rw [if_neg h3]
        exact key
