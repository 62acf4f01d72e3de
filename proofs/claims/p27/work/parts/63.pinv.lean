/-! what every state keeps -/
theorem z_int {a : Int32} {n : Nat} (h1 : 0 ≤ a.toInt) (h2 : a.toInt = n) : a = nI n := by
  apply Int32.toInt_inj.mp
  rw [nI_toInt (by have := a.toInt_lt; omega)]
  exact h2
theorem z_add {a b : Int32} {x y : Int} (ha : a.toInt = x) (hb : b.toInt = y) (h1 : -2147483648 ≤ x + y) (h2 : x + y < 2147483648) : (a + b).toInt = x + y := by
  rw [Int32.toInt_add, ha, hb]
  exact Int.bmod_eq_of_le (by omega) (by omega)
theorem z_sb {a b : Int32} {x y : Int} (ha : a.toInt = x) (hb : b.toInt = y) (h1 : -2147483648 ≤ x - y) (h2 : x - y < 2147483648) : (a - b).toInt = x - y := by
  rw [Int32.toInt_sub, ha, hb]
  exact Int.bmod_eq_of_le (by omega) (by omega)
theorem z_mul {a b : Int32} {x y : Int} (ha : a.toInt = x) (hb : b.toInt = y) (h1 : -2147483648 ≤ x * y) (h2 : x * y < 2147483648) : (a * b).toInt = x * y := by
  rw [Int32.toInt_mul, ha, hb]
  exact Int.bmod_eq_of_le (by omega) (by omega)
def s_lotZ (a m : Nat) (x : cr_Lot) : Prop := (∃ n, n < m ∧ x.1 = nI n) ∧ (∃ g, g ≤ 9999 ∧ x.2.1 = nI g) ∧ (∃ c, 60 ≤ c ∧ c ≤ 100 ∧ x.2.2.1 = nI c) ∧ ∃ k, k ≤ a ∧ x.2.2.2 = nI k
def s_lotI (a m : Nat) (x : cr_Lot) : Prop := s_lotZ a m x ∧ s_full x = true
def s_conI (a : Nat) (c : cr_Con) : Prop := (∃ k, a ≤ k ∧ k ≤ 999 ∧ c.1 = nI k) ∧ s_in c.2 1 999 = true
def s_setI (st : Nat → Int32) : Prop := ∀ j, j < 5 → s_in (st j) (cr_least j) (cr_most j) = true
def s_invA (a m : Nat) (S : cr_S) : Prop := a ≤ 999 ∧ S.2.2.2.2 0 = nI a ∧ S.2.2.2.2 5 = nI m ∧ s_dist S.1 ∧ (∀ x ∈ S.1, s_lotI a m x) ∧ (∀ c ∈ S.2.1, s_conI a c) ∧ (∀ j, j < 4 → s_in (S.2.2.1 j) 1 999 = true) ∧ s_setI S.2.2.2.1
def s_inv (b : Nat) (S : cr_S) : Prop := ∃ a m, m ≤ b ∧ s_invA a m S
theorem s_inv.mono {b b' : Nat} {S : cr_S} (h : s_inv b S) (hb : b ≤ b') : s_inv b' S := by
  obtain ⟨a, m, h1, h2⟩ := h
  exact ⟨a, m, by omega, h2⟩
theorem s_lotI.bags {a m : Nat} {x : cr_Lot} (h : s_lotI a m x) : ∃ g, 1 ≤ g ∧ g ≤ 9999 ∧ x.2.1 = nI g := by
  obtain ⟨⟨-, ⟨g, g1, g2⟩, -⟩, hf⟩ := h
  refine ⟨g, ?_, g1, g2⟩
  rcases Nat.eq_zero_or_pos g with h0 | h0
  · subst h0
    unfold s_full at hf
    rw [g2] at hf
    exact absurd hf (by decide)
  · exact h0
theorem z_inN {n a b : Nat} (h1 : a ≤ n) (h2 : n ≤ b) (hb : b < 2 ^ 31) : s_in (nI n) (nI a) (nI b) = true := by
  unfold s_in
  rw [decide_eq_false (nI_nlt h1 (by omega)), decide_eq_false (nI_nlt h2 hb)]; rfl
theorem s_lotI.inb {a m : Nat} {x : cr_Lot} (h : s_lotI a m x) : s_in x.2.1 1 9999 = true := by
  obtain ⟨g, g1, g2, g3⟩ := h.bags
  rw [g3]; exact z_inN (a := 1) (b := 9999) g1 g2 (by omega)
theorem s_lotZ.full {a m : Nat} {x : cr_Lot} (h : s_lotZ a m x) {g : Nat} (hg : 1 ≤ g) (hg2 : g < 2 ^ 31) (he : x.2.1 = nI g) : s_lotI a m x := by
  refine ⟨h, ?_⟩
  unfold s_full
  rw [he, decide_eq_false (nI_nle hg hg2)]; rfl
theorem s_lotZ.mono {a a' m m' : Nat} {x : cr_Lot} (h : s_lotZ a m x) (h1 : a ≤ a') (h2 : m ≤ m') : s_lotZ a' m' x := by
  obtain ⟨⟨n, n1, n2⟩, hg, hc, k, k1, k2⟩ := h
  exact ⟨⟨n, by omega, n2⟩, hg, hc, k, by omega, k2⟩
theorem s_lotI.mono {a a' m m' : Nat} {x : cr_Lot} (h : s_lotI a m x) (h1 : a ≤ a') (h2 : m ≤ m') : s_lotI a' m' x := ⟨h.1.mono h1 h2, h.2⟩
theorem s_cup_n {a m a' : Nat} {x : cr_Lot} (h : s_lotZ a m x) (h1 : a ≤ a') (h2 : a' < 2 ^ 30) : ∃ c, 60 ≤ c ∧ c ≤ 100 ∧ s_cup x (nI a') = nI c := by
  obtain ⟨-, -, ⟨c, c1, c2, c3⟩, k, k1, k2⟩ := h
  unfold s_cup
  rw [c3, k2, pk_sub (show k ≤ a' by omega), show (4 : Int32) = nI 4 from rfl, pk_div (by omega) (by omega) (by omega)]
  generalize hd : (a' - k) / 4 = d
  have hd2 : d < 2 ^ 30 := by omega
  by_cases h3 : d + 60 ≤ c
  · rw [pk_sub (by omega), if_pos (show (60 : Int32) ≤ nI (c - d) from c_le 60 (c - d) rfl rfl (by omega) (by omega))]
    exact ⟨c - d, by omega, by omega, rfl⟩
  · have hn : ¬ (60 : Int32) ≤ nI c - nI d := by
      rw [Int32.le_iff_toInt_le, pk_sub_toInt (by omega) (by omega)]
      have : (60 : Int32).toInt = 60 := rfl
      omega
    rw [if_neg hn]
    exact ⟨60, by omega, by omega, rfl⟩
theorem s_late_n {a m a' : Nat} {x : cr_Lot} (h : s_lotZ a m x) (h1 : a ≤ a') (h2 : a' < 2 ^ 30) : ∃ l, l ≤ a' ∧ s_late x (nI a') = nI l := by
  obtain ⟨-, -, -, k, k1, k2⟩ := h
  unfold s_late
  rw [k2, pk_sub (show k ≤ a' by omega), show (3 : Int32) = nI 3 from rfl]
  by_cases h3 : 3 ≤ a' - k
  · rw [pk_sub h3, if_pos (nI_pos' (by omega))]
    exact ⟨a' - k - 3, by omega, rfl⟩
  · rw [if_neg (Int32.not_le.mpr (pk_sneg (by omega) (by omega)))]
    exact ⟨0, by omega, rfl⟩
theorem s_pay_n {a m a' p : Nat} {x : cr_Lot} {st : Nat → Int32} (h : s_lotZ a m x) (h1 : a ≤ a') (h2 : a' ≤ 2000) (hs : s_setI st) (hp : p ≤ 999) : ∃ k, 1 ≤ k ∧ k ≤ 2000 ∧ s_pay st x (nI p) (nI a') = nI k := by
  obtain ⟨c, c1, c2, c3⟩ := s_cup_n h h1 (by omega)
  obtain ⟨l, l1, l2⟩ := s_late_n h h1 (by omega)
  obtain ⟨s, s1, s2, s3⟩ := p_inN (a := 0) (b := 50) (hs 2 (by omega)) (by omega) (by omega)
  obtain ⟨t, t1, t2, t3⟩ := p_inN (a := 0) (b := 50) (hs 3 (by omega)) (by omega) (by omega)
  unfold s_pay
  rw [c3, l2, s3, t3]
  have e1 : (nI c - 80).toInt = (c : Int) - 80 := z_sb (nI_toInt (by omega)) rfl (by omega) (by omega)
  have b1 : ((c : Int) - 80) * s ≤ 20 * 50 := by
    refine Int.le_trans (Int.mul_le_mul_of_nonneg_right (show (c : Int) - 80 ≤ 20 by omega) (by omega)) ?_
    omega
  have b2 : -(20 * 50) ≤ ((c : Int) - 80) * s := by
    refine Int.le_trans ?_ (Int.mul_le_mul_of_nonneg_right (show (-20 : Int) ≤ (c : Int) - 80 by omega) (by omega))
    omega
  have e2 : ((nI c - 80) * nI s).toInt = ((c : Int) - 80) * s := z_mul e1 (nI_toInt (by omega)) (by omega) (by omega)
  have e3 : (nI p + (nI c - 80) * nI s).toInt = (p : Int) + ((c : Int) - 80) * s := z_add (nI_toInt (by omega)) e2 (by omega) (by omega)
  have b3 : t * l ≤ 50 * 2000 := Nat.mul_le_mul t2 (by omega)
  have e4 : (nI t * nI l).toInt = ((t * l : Nat) : Int) := by rw [pk_mul]; exact nI_toInt (by omega)
  have e5 : (nI p + (nI c - 80) * nI s - nI t * nI l).toInt = (p : Int) + ((c : Int) - 80) * s - (t * l : Nat) := z_sb e3 e4 (by omega) (by omega)
  generalize hv : nI p + (nI c - 80) * nI s - nI t * nI l = v at *
  by_cases h3 : 1 ≤ v
  · rw [if_pos h3]
    rw [Int32.le_iff_toInt_le] at h3
    have o1 : (1 : Int32).toInt = 1 := rfl
    refine ⟨v.toInt.toNat, by omega, by omega, z_int (by omega) (by omega)⟩
  · rw [if_neg h3]
    exact ⟨1, by omega, by omega, rfl⟩
theorem s_set_num {L : List cr_Lot} {k : Nat} {x y : cr_Lot} (hx : L[k]? = some x) (h : y.1 = x.1) : (L.set k y).map (·.1) = L.map (·.1) := by
  refine List.ext_getElem? fun j => ?_
  rw [List.getElem?_map, List.getElem?_map]
  by_cases hj : k = j
  · subst hj
    rw [List.getElem?_set_self (p_lt hx), hx]
    simp [h]
  · rw [List.getElem?_set_ne hj]
theorem s_dist_fl {L : List cr_Lot} (h : s_dist L) (p : cr_Lot → Bool) : s_dist (L.filter p) := List.Nodup.sublist ((List.filter_sublist).map _) h
theorem s_dist_new {L : List cr_Lot} (h : s_dist L) {a m : Nat} (hL : ∀ x ∈ L, s_lotZ a m x) (hm : m < 2 ^ 31) {y : cr_Lot} (hy : y.1 = nI m) : s_dist (L ++ [y]) := by
  unfold s_dist
  rw [List.map_append, List.nodup_append]
  refine ⟨h, by simp, fun u hu w hw => ?_⟩
  obtain ⟨x, hx, rfl⟩ := List.mem_map.mp hu
  simp only [List.map_cons, List.map_nil, List.mem_singleton] at hw
  subst hw
  obtain ⟨⟨n, n1, n2⟩, -⟩ := hL x hx
  intro e
  rw [n2, hy] at e
  have := nI_inj (by omega) hm e
  omega
def s_Op (b : Nat) (o : cr_R) : Prop := match o with
  | .inl e => s_in e (-2000000004) (-2000000001) = true
  | .inr q => (-2000000001) < q.1 ∧ s_inv (b + 1) q.2
theorem e_1 : s_in (-2000000001) (-2000000004) (-2000000001) = true := by decide
theorem e_2 : s_in (-2000000002) (-2000000004) (-2000000001) = true := by decide
theorem e_3 : s_in (-2000000003) (-2000000004) (-2000000001) = true := by decide
theorem z_ans {n : Nat} (h : n < 2 ^ 31) : (-2000000001) < nI n := by
  rw [Int32.lt_iff_toInt_lt, nI_toInt h]
  have : (-2000000001 : Int32).toInt = -2000000001 := rfl
  omega
theorem s_add {L : List cr_Lot} {a m : Nat} (ha : a ≤ 999) (hm : m < 2 ^ 30) (hd : s_dist L) (hL : ∀ x ∈ L, s_lotI a m x) {y : cr_Lot} (hy : y.1 = nI m) (h2 : s_in y.2.1 1 9999 = true) (h3 : ∃ c, 60 ≤ c ∧ c ≤ 100 ∧ y.2.2.1 = nI c) (h4 : ∃ k, k ≤ a ∧ y.2.2.2 = nI k) : s_dist (L ++ [y]) ∧ ∀ x ∈ L ++ [y], s_lotI a (m + 1) x := by
  refine ⟨s_dist_new hd (fun x hx => (hL x hx).1) (by omega) hy, fun x hx => ?_⟩
  rcases List.mem_append.mp hx with h | h
  · exact (hL x h).mono (Nat.le_refl _) (by omega)
  · rw [List.mem_singleton] at h
    subst h
    obtain ⟨g, g1, g2, g3⟩ := p_inN (a := 1) (b := 9999) h2 (by omega) (by omega)
    exact s_lotZ.full ⟨⟨m, by omega, hy⟩, ⟨g, g2, g3⟩, h3, h4⟩ g1 (by omega) g3
theorem i_lot {b : Nat} {S : cr_S} (hI : s_inv b S) (hb : b < 2 ^ 30) (x1 x2 : Int32) : s_Op b (o_lot S x1 x2) := by
  obtain ⟨a, m, hm, ha, h0, h5, hd, hL, hK, hw, hs⟩ := hI
  unfold o_lot s_Op
  cases h1 : s_in x1 1 999 with
  | false => simp; decide
  | true =>
    cases h2 : s_in x2 60 100 with
    | false => simp; decide
    | true =>
      simp only [Bool.and_self, if_true]
      by_cases h3 : S.1.length = 12
      · rw [if_pos h3]; first | exact e_1 | exact e_2 | exact e_3
      · rw [if_neg h3]
        obtain ⟨n, n1, n2, rfl⟩ := p_inN (a := 1) (b := 999) h1 (by omega) (by omega)
        obtain ⟨c, c1, c2, rfl⟩ := p_inN (a := 60) (b := 100) h2 (by omega) (by omega)
        obtain ⟨d1, d2⟩ := s_add ha (by omega) hd hL (y := (S.2.2.2.2 5, nI n, nI c, S.2.2.2.2 0)) h5 (z_inN (a := 1) (b := 9999) n1 (by omega) (by omega)) ⟨c, c1, c2, rfl⟩ ⟨a, Nat.le_refl _, h0⟩
        refine ⟨by rw [h5]; exact z_ans (by omega), a, m + 1, by omega, ha, h0, ?_, d1, d2, hK, hw, hs⟩
        simp [s_up5, cr_up, h5, nI_1]
theorem s_set_mem {L : List cr_Lot} {k : Nat} {y : cr_Lot} {P : cr_Lot → Prop} (hL : ∀ x ∈ L, P x) (hy : P y) : ∀ x ∈ L.set k y, P x := fun x hx => by
  rcases List.mem_or_eq_of_mem_set hx with h | h
  · exact hL x h
  · rw [h]; exact hy
theorem i_part {b : Nat} {S : cr_S} (hI : s_inv b S) (hb : b < 2 ^ 30) (x1 x2 : Int32) : s_Op b (o_part S x1 x2) := by
  obtain ⟨a, m, hm, ha, h0, h5, hd, hL, hK, hw, hs⟩ := hI
  unfold o_part s_Op
  cases hi : cr_idx S.1 x1 with
  | none => simp; decide
  | some k =>
    obtain ⟨x, hx, hn⟩ := cr_idx_some hi
    have hxi := hL x (List.mem_of_getElem? hx)
    obtain ⟨g, g1, g2, g3⟩ := hxi.bags
    obtain ⟨⟨hz1, -, hz3, hz4⟩, -⟩ := id hxi
    dsimp only
    rw [s_get_of hx]
    by_cases h1 : 1 ≤ x2
    · rw [if_pos h1]
      by_cases h2 : x2 < x.2.1
      · rw [if_pos h2]
        by_cases h3 : S.1.length = 12
        · rw [if_pos h3]; first | exact e_1 | exact e_2 | exact e_3
        · rw [if_neg h3]
          have hx2 : s_in x2 1 9999 = true := by
            have : ¬ (9999 : Int32) < x2 := fun h => Int32.lt_irrefl (Int32.lt_of_lt_of_le (Int32.lt_trans h h2) (by rw [g3]; exact c_le g 9999 rfl rfl g2 (by omega)))
            simp [s_in, Int32.not_lt.mpr h1, Int32.not_lt.mp this]
          obtain ⟨n, n1, n2, rfl⟩ := p_inN (a := 1) (b := 9999) hx2 (by omega) (by omega)
          have hng : n < g := by
            rw [g3] at h2
            exact Nat.lt_of_not_le fun h => nI_nlt h (by omega) h2
          have hl : s_lotI a m (s_less x (nI n)) := by
            refine s_lotZ.full (g := g - n) ⟨hz1, ⟨g - n, by omega, ?_⟩, hz3, hz4⟩ (by omega) (by omega) ?_
            · show x.2.1 - nI n = _
              rw [g3, pk_sub (by omega)]
            · show x.2.1 - nI n = _
              rw [g3, pk_sub (by omega)]
          obtain ⟨d1, d2⟩ := s_add ha (by omega) (by unfold s_dist; rw [s_set_num (y := s_less x (nI n)) hx rfl]; exact hd) (s_set_mem (k := k) hL hl) (y := (S.2.2.2.2 5, nI n, x.2.2.1, x.2.2.2)) h5 (z_inN (a := 1) (b := 9999) n1 (by omega) (by omega)) hz3 hz4
          refine ⟨by rw [h5]; exact z_ans (by omega), a, m + 1, by omega, ha, h0, ?_, d1, d2, hK, hw, hs⟩
          simp [s_up5, cr_up, h5, nI_1]
      · rw [if_neg h2]; first | exact e_1 | exact e_2 | exact e_3
    · rw [if_neg h1]; first | exact e_1 | exact e_2 | exact e_3
theorem i_cup {b : Nat} {S : cr_S} (hI : s_inv b S) (x1 : Int32) : s_Op b (o_cup S x1) := by
  obtain ⟨a, m, hm, ha, h0, h5, hd, hL, hK, hw, hs⟩ := hI
  unfold o_cup s_Op
  cases hi : cr_idx S.1 x1 with
  | none => simp; decide
  | some k =>
    obtain ⟨x, hx, hn⟩ := cr_idx_some hi
    have hxi := hL x (List.mem_of_getElem? hx)
    obtain ⟨g, g1, g2, g3⟩ := hxi.bags
    obtain ⟨⟨hz1, -, hz3, hz4⟩, -⟩ := id hxi
    dsimp only
    rw [s_get_of hx]
    by_cases h1 : 1 < x.2.1
    · rw [if_pos h1]
      obtain ⟨c, c1, c2, c3⟩ := s_cup_n hxi.1 (Nat.le_refl a) (by omega)
      rw [← h0] at c3
      have hg : 1 < g := by
        rw [g3] at h1
        exact Nat.lt_of_not_le fun h => nI_nlt (b := g) (a := 1) h (by omega) h1
      have hl : s_lotI a m (s_cupped x (S.2.2.2.2 0)) := by
        refine s_lotZ.full (g := g - 1) ⟨hz1, ⟨g - 1, by omega, ?_⟩, ⟨c, c1, c2, c3⟩, a, Nat.le_refl _, h0⟩ (by omega) (by omega) ?_
        · show x.2.1 - nI 1 = _
          rw [g3, pk_sub (by omega)]
        · show x.2.1 - nI 1 = _
          rw [g3, pk_sub (by omega)]
      exact ⟨by dsimp only; rw [c3]; exact z_ans (by omega), a, m, by omega, ha, h0, h5, by show s_dist (S.1.set k (s_cupped x (S.2.2.2.2 0))); unfold s_dist; rw [s_set_num (y := s_cupped x (S.2.2.2.2 0)) hx rfl]; exact hd, s_set_mem (k := k) hL hl, hK, hw, hs⟩
    · rw [if_neg h1]; first | exact e_1 | exact e_2 | exact e_3
