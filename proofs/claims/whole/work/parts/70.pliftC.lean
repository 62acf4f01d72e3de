/-! lift, on the class -/
theorem s_lf_find {bi ci cj t : Int32} {K : Nat} : ∀ (r k : Nat), (∀ j, k ≤ j → j < K → j < k + r → (bi * ci + nI j * cj) / (bi + nI j) < t) → k ≤ K → (K < k + r → ¬ (bi * ci + nI K * cj) / (bi + nI K) < t) → s_lf bi ci cj t r k = if K < k + r then nI K else (-2000000004)
  | 0, k, _, hk, _ => by rw [s_lf, if_neg (by omega)]
  | r + 1, k, hb, hk, hg => by
    rw [s_lf]
    by_cases h : k = K
    · subst h
      rw [if_neg (hg (by omega)), if_pos (by omega)]
    · rw [if_pos (hb k (Nat.le_refl _) (by omega) (by omega)), s_lf_find r (k + 1) (fun j h1 h2 h3 => hb j (by omega) h2 (by omega)) (by omega) (fun h1 => hg (by omega)), show k + 1 + r = k + (r + 1) by omega]
theorem s_lf_bad {B c e T j : Nat} (hB : 1 ≤ B) (hB2 : B ≤ 9999) (hc : c ≤ 100) (he : e ≤ 100) (hT : T ≤ 100) (hj : j ≤ 10000) : ((nI B * nI c + nI j * nI e) / (nI B + nI j) < nI T) ↔ (j : Int) * ((e : Int) - T) < ((T : Int) - c) * B := by
  have u1 : B * c ≤ 9999 * 100 := Nat.mul_le_mul hB2 hc
  have u2 : j * e ≤ 10000 * 100 := Nat.mul_le_mul hj he
  have hlt : (B * c + j * e) / (B + j) < 2 ^ 31 := Nat.lt_of_le_of_lt (Nat.div_le_self _ _) (by omega)
  rw [pk_mul, pk_mul, nI_add, nI_add, pk_div (by omega) (by omega) (by omega), nI_ltI hlt (by omega), Nat.div_lt_iff_lt_mul (by omega), Nat.mul_add]
  have z1 : (j : Int) * ((e : Int) - T) = ((j * e : Nat) : Int) - ((T * j : Nat) : Int) := by
    rw [Int.mul_sub, Int.natCast_mul, Int.natCast_mul, Int.mul_comm (T : Int) j]
  have z2 : ((T : Int) - c) * B = ((T * B : Nat) : Int) - ((B * c : Nat) : Int) := by
    rw [Int.sub_mul, Int.natCast_mul, Int.natCast_mul, Int.mul_comm (B : Int) c]
  rw [z1, z2]
  omega
theorem p_steps {B c e T b : Nat} (hB : 1 ≤ B) (hB2 : B ≤ 9999) (hc : c ≤ 100) (he : e ≤ 100) (hT : T ≤ 100) (hb1 : 1 ≤ b) (hb : b ≤ 9999) : ∃ q : Int32, f_X6_leastStepsTo ((nI T - nI c) * nI B) (nI e - nI T) = some q ∧ (if q < 1 then (-2000000004 : Int32) else if q ≤ nI b then q else (-2000000004)) = s_lf (nI B) (nI c) (nI e) (nI T) b 1 := by
  have t1 : (nI T - nI c).toInt = (T : Int) - c := pk_sub_toInt (by omega) (by omega)
  have t2 : (nI e - nI T).toInt = (e : Int) - T := pk_sub_toInt (by omega) (by omega)
  have w1 : ((T : Int) - c) * B ≤ 100 * 9999 := by
    refine Int.le_trans (Int.mul_le_mul_of_nonneg_right (show (T : Int) - c ≤ 100 by omega) (by omega)) ?_
    omega
  have w2 : -(100 * 9999) ≤ ((T : Int) - c) * B := by
    refine Int.le_trans ?_ (Int.mul_le_mul_of_nonneg_right (show (-100 : Int) ≤ (T : Int) - c by omega) (by omega))
    omega
  have t3 : ((nI T - nI c) * nI B).toInt = ((T : Int) - c) * B := z_mul t1 (nI_toInt (by omega)) (by omega) (by omega)
  have hbad := fun j (hj : j ≤ 10000) => s_lf_bad (e := e) hB hB2 hc he hT hj
  unfold f_X6_leastStepsTo
  by_cases h1 : nI e - nI T < (nI T - nI c) * nI B
  · rw [if_pos h1]
    rw [Int32.lt_iff_toInt_lt, t2, t3] at h1
    by_cases h2 : 0 < nI e - nI T
    · have hne : ¬ nI e - nI T = 0 := fun q => by rw [q] at h2; exact absurd h2 (by decide)
      rw [if_pos h2, if_neg hne]
      rw [Int32.lt_iff_toInt_lt, t2] at h2
      have h0 : (0 : Int32).toInt = 0 := rfl
      have hTe : T < e := by omega
      have hcT : c < T := by
        refine Nat.lt_of_not_le fun q => ?_
        have : ((T : Int) - c) * B ≤ 0 := Int.mul_nonpos_of_nonpos_of_nonneg (by omega) (by omega)
        omega
      have hlk : ((T : Int) - c) * B = (((T - c) * B : Nat) : Int) := by rw [Int.natCast_mul, Int.natCast_sub (by omega)]
      have hub : (T - c) * B ≤ 100 * 9999 := Nat.mul_le_mul (by omega) hB2
      rw [pk_sub (show c ≤ T by omega), pk_sub (show T ≤ e by omega), pk_mul]
      rw [hlk] at h1 hbad
      have hsp : (e : Int) - T = ((e - T : Nat) : Int) := by omega
      rw [hsp] at h1 hbad
      generalize (T - c) * B = lk at *
      have hspp : 1 ≤ e - T := by omega
      have hspu : e - T ≤ 100 := by omega
      generalize hse : e - T = sp at *
      rw [nI_add, show (1 : Int32) = nI 1 from rfl, pk_sub (by omega), pk_div (by omega) (by omega) (by omega)]
      have hK1 : 1 ≤ (lk + sp - 1) / sp := (Nat.le_div_iff_mul_le (by omega)).mpr (by omega)
      have hKu : (lk + sp - 1) / sp ≤ lk + sp - 1 := Nat.div_le_self _ _
      have hKg : lk ≤ (lk + sp - 1) / sp * sp := by
        have q1 := Nat.div_add_mod (lk + sp - 1) sp
        have q2 := Nat.mod_lt (lk + sp - 1) (show 0 < sp by omega)
        rw [Nat.mul_comm] at q1
        omega
      have hKb : ∀ j, j < (lk + sp - 1) / sp → j * sp < lk := fun j hj => by
        have q1 : (j + 1) * sp ≤ lk + sp - 1 := (Nat.le_div_iff_mul_le (by omega)).mp hj
        rw [Nat.add_mul, Nat.one_mul] at q1
        omega
      generalize (lk + sp - 1) / sp = K at *
      refine ⟨nI K, rfl, ?_⟩
      rw [if_neg (nI_nlt hK1 (by omega)), s_lf_find (K := K) b 1 (fun j j1 j2 j3 => ?_) hK1 (fun hlt => ?_)]
      · by_cases hk : K ≤ b
        · rw [if_pos (nI_le hk (by omega)), if_pos (by omega)]
        · rw [if_neg (nI_ge (by omega) (by omega)), if_neg (by omega)]
      · rw [hbad j (by omega), ← Int.natCast_mul]
        have := hKb j j2
        omega
      · rw [hbad K (by omega), ← Int.natCast_mul]
        omega
    · rw [if_neg h2]
      rw [Int32.lt_iff_toInt_lt, t2] at h2
      have h0 : (0 : Int32).toInt = 0 := rfl
      refine ⟨0, rfl, ?_⟩
      rw [if_pos (by decide), s_lf_find (K := 1 + b) b 1 (fun j j1 j2 j3 => ?_) (by omega) (fun hlt => by omega), if_neg (by omega)]
      rw [hbad j (by omega)]
      have hj : (j : Int) * ((e : Int) - T) ≤ 1 * ((e : Int) - T) := Int.mul_le_mul_of_nonpos_right (show (1 : Int) ≤ j by omega) (by omega)
      omega
  · rw [if_neg h1]
    rw [Int32.lt_iff_toInt_lt, t2, t3] at h1
    refine ⟨1, rfl, ?_⟩
    rw [if_neg (by decide), if_pos (show (1 : Int32) ≤ nI b from c_le 1 b rfl rfl hb1 (by omega)), s_lf_find (K := 1) b 1 (fun j j1 j2 j3 => by omega) (by omega) (fun hlt => ?_), if_pos (by omega)]
    · rfl
    · rw [hbad 1 (by omega)]
      omega
theorem p_X6_lift {b : Nat} {vh vl vk vt vtl vtk vs vd vo : cr_V} {vx : Nat → Nat → cr_V} {S : cr_S} (hI : s_inv b S) (hC : crC S vh vl vk) (n1 n2 t : Int32) : f_X6_lift vh vl vk vt vtl vtk vs vx vd vo n1 n2 t = some (r_lift S n1 n2 t) := by
  obtain ⟨a, m, hm', ha, g0, h5, hd, hLI, hKI, hwo, hs⟩ := hI
  obtain ⟨hL, hK, hH, hm⟩ := hC
  have hl := hL.1
  have h0 : vh 4 0 = S.2.2.2.2 0 := hH.2.2.1
  rw [f_X6_lift, p_X4_rowOf hL, Option.bind_some, p_X4_rowOf hL, Option.bind_some]
  unfold r_lift
  cases hi : cr_idx S.1 n1 with
  | none => rfl
  | some i =>
    obtain ⟨x, hx, hxn⟩ := cr_idx_some hi
    have hi2 := p_lt hx
    dsimp only
    rw [if_neg (nI_pos (by omega))]
    cases hj : cr_idx S.1 n2 with
    | none => rfl
    | some j =>
      obtain ⟨y, hy, hyn⟩ := cr_idx_some hj
      have hj2 := p_lt hy
      dsimp only
      rw [if_neg (nI_pos (by omega))]
      by_cases hij : i = j
      · rw [if_pos (by rw [hij]), if_neg (fun q => q.1 hij)]
      · rw [if_neg (fun q => hij (nI_inj (by omega) (by omega) q)), p_X6_isWithin, Option.bind_some]
        cases h2 : s_in t 60 100 with
        | false => rw [if_pos (by simp), if_neg (by simp)]
        | true =>
          obtain ⟨B, B1, B2, B3⟩ := (hLI x (List.mem_of_getElem? hx)).bags
          obtain ⟨g, g1, g2, g3⟩ := (hLI y (List.mem_of_getElem? hy)).bags
          obtain ⟨c, c1, c2, c3⟩ := s_cup_n (hLI x (List.mem_of_getElem? hx)).1 (Nat.le_refl a) (by omega)
          obtain ⟨e, e1, e2, e3⟩ := s_cup_n (hLI y (List.mem_of_getElem? hy)).1 (Nat.le_refl a) (by omega)
          obtain ⟨T, T1, T2, rfl⟩ := p_inN (a := 60) (b := 100) h2 (by omega) (by omega)
          rw [if_pos (show ¬ i = j ∧ true = true from ⟨hij, rfl⟩), if_neg (by simp), h0, p_X4_cupAt hL hx, Option.bind_some, if_pos (cr_inn (by omega) (by omega)), p_X4_cupAt hL hy, Option.bind_some, cr_xn (show i < 2 ^ 31 by omega), (hL.2.2 i x hx).2.1, s_get_of hx, s_get_of hy, B3, g3, cr_xn (show g < 2 ^ 31 by omega), g0, c3, e3]
          obtain ⟨q, k1, k2⟩ := p_steps (c := c) (e := e) (T := T) B1 B2 c2 e2 T2 g1 g2
          rw [k1, Option.bind_some, if_pos (cr_inn (by omega) (by omega)), cr_xn (show j < 2 ^ 31 by omega), (hL.2.2 j y hy).2.1, g3, ← k2, f_X6_lift_150]
          split
          · rfl
          · rw [p_if]
