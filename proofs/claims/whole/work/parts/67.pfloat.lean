/-! the mean cup's bits -/
theorem fl_p : FP.Core.b32.p = 24 := by decide +kernel
theorem fl_tails : FP.Core.b32.tails = 8388608 := by decide +kernel
theorem fl_exps : FP.Core.b32.exps = 256 := by decide +kernel
theorem fl_qmin : FP.Core.b32.qmin = -149 := by decide +kernel
theorem fl_qmax : FP.Core.b32.qmax = 104 := by decide +kernel
theorem fl_two : (2 : Nat) ^ 24 = 16777216 := by decide +kernel
theorem fl_two23 : (2 : Nat) ^ 23 = 8388608 := by decide +kernel
theorem fl_near_ge {A B M : Nat} (hB : 0 < B) (h : M * B ≤ A) : M ≤ FP.Core.nearest A B := by
  have h1 : M ≤ A / B := (Nat.le_div_iff_mul_le hB).mpr h
  unfold FP.Core.nearest
  split
  · exact h1
  · split <;> omega
theorem fl_near_le {A B M : Nat} (h : A ≤ M * B) : FP.Core.nearest A B ≤ M + 1 := by
  have h1 : A / B ≤ M := Nat.div_le_of_le_mul (by rw [Nat.mul_comm]; exact h)
  unfold FP.Core.nearest
  split
  · omega
  · split <;> omega
theorem fl_near_x {M B : Nat} (hB : 0 < B) : FP.Core.nearest (M * B) B = M := by
  unfold FP.Core.nearest
  rw [Nat.mul_mod_left, if_pos (by omega), Nat.mul_div_cancel _ hB]
theorem fl_round {A B N : Nat} {e L : Int} (hA : 0 < A) (hL : FP.Core.leading A B = L) (h1 : -149 ≤ L + e - 23) (h2 : L + e - 23 ≤ 104) (hN : FP.Core.nearest (A * 2 ^ (e - (L + e - 23)).toNat) (B * 2 ^ (L + e - 23 - e).toNat) = N) (hlt : N < 16777216) : FP.Core.roundRatio FP.Core.b32 false A B e = .fin false N (L + e - 23) := by
  have hq : FP.Core.quantum FP.Core.b32 A B e = L + e - 23 := by
    unfold FP.Core.quantum
    rw [hL, fl_qmin, fl_p]
    omega
  unfold FP.Core.roundRatio
  rw [if_neg (by omega), hq]
  unfold FP.Core.roundAt FP.Core.unitsNum FP.Core.unitsDen FP.Core.settle
  rw [hN, fl_p, fl_two, if_pos hlt]
  unfold FP.Core.bound
  rw [fl_qmax, if_pos h2]
theorem fl_lead {A B a b : Nat} (h1 : A.log2 = a) (h2 : B.log2 = b) : FP.Core.leading A B = if B * 2 ^ ((a : Int) - b).toNat ≤ A * 2 ^ (-((a : Int) - b)).toNat then (a : Int) - b else (a : Int) - b - 1 := by
  unfold FP.Core.leading
  rw [h1, h2]
theorem fl_enc {c e : Nat} {q : Int} (h1 : 8388608 ≤ c) (h2 : c < 16777216) (he : 1 ≤ e) (he2 : e ≤ 254) (hq : q = (e : Int) - 150) : FP.Core.encode FP.Core.b32 (.fin false c q) = e * 8388608 + (c - 8388608) := by
  unfold FP.Core.encode
  dsimp only
  rw [fl_tails, if_neg (by omega), fl_qmin]
  unfold FP.Core.assemble
  rw [fl_exps, fl_tails, show (q - -149).toNat + 1 = e by omega]
  simp
theorem fl_dec {c e : Nat} {q : Int} (h1 : 8388608 ≤ c) (h2 : c < 16777216) (he : 1 ≤ e) (he2 : e ≤ 254) (hq : q = (e : Int) - 150) : FP.Core.decode FP.Core.b32 (e * 8388608 + (c - 8388608)) = .fin false c q := by
  have f1 : (e * 8388608 + (c - 8388608)) / 8388608 % 256 = e := by omega
  have f2 : (e * 8388608 + (c - 8388608)) % 8388608 = c - 8388608 := by omega
  have f3 : (e * 8388608 + (c - 8388608)) / 8388608 / 256 % 2 = 0 := by omega
  unfold FP.Core.decode FP.Core.fieldE FP.Core.fieldT FP.Core.fieldS
  rw [fl_tails, fl_exps, f1, f2, f3, if_neg (by omega), if_neg (by omega), fl_qmin]
  rw [show 8388608 + (c - 8388608) = c by omega, show (-149 : Int) + ((e : Int) - 1) = q by omega]
  rfl
theorem fl_bits {c e : Nat} {q : Int} (h1 : 8388608 ≤ c) (h2 : c < 16777216) (he : 1 ≤ e) (he2 : e ≤ 254) (hq : q = (e : Int) - 150) : (UInt32.ofNat (FP.Core.encode FP.Core.b32 (.fin false c q))).toNat = e * 8388608 + (c - 8388608) ∧ FP.Core.decode FP.Core.b32 (UInt32.ofNat (FP.Core.encode FP.Core.b32 (.fin false c q))).toNat = .fin false c q := by
  have h : (UInt32.ofNat (FP.Core.encode FP.Core.b32 (.fin false c q))).toNat = e * 8388608 + (c - 8388608) := by
    rw [fl_enc h1 h2 he he2 hq]
    exact UInt32.toNat_ofNat_of_lt' (by show _ < 4294967296; omega)
  exact ⟨h, by rw [h]; exact fl_dec h1 h2 he he2 hq⟩
theorem fl_i2f {C : Nat} (h0 : 0 < C) (h1 : C < 8388608) : ∃ k P : Nat, k ≤ 22 ∧ C.log2 = k ∧ 2 ^ (23 - k) = P ∧ 8388608 ≤ C * P ∧ C * P < 16777216 ∧ FP.Core.decode FP.Core.b32 (FP.Core.i2f (nI C)).toNat = .fin false (C * P) ((k : Int) - 23) := by
  have l1 : 2 ^ C.log2 ≤ C := Nat.log2_self_le (by omega)
  have l2 : C < 2 ^ (C.log2 + 1) := Nat.lt_log2_self
  generalize hk : C.log2 = k at l1 l2
  have hk2 : k ≤ 22 := by
    refine Nat.le_of_not_lt fun h => ?_
    have : 2 ^ 23 ≤ 2 ^ k := Nat.pow_le_pow_right (by omega) h
    rw [fl_two23] at this
    omega
  have hp : 2 ^ k * 2 ^ (23 - k) = 8388608 := by rw [← Nat.pow_add, show k + (23 - k) = 23 by omega, fl_two23]
  have hp2 : 2 ^ (k + 1) * 2 ^ (23 - k) = 16777216 := by rw [← Nat.pow_add, show k + 1 + (23 - k) = 24 by omega, fl_two]
  have hpos : 0 < 2 ^ (23 - k) := Nat.two_pow_pos _
  generalize hP : 2 ^ (23 - k) = P at hp hp2 hpos
  have b1 : 8388608 ≤ C * P := by rw [← hp]; exact Nat.mul_le_mul l1 (Nat.le_refl _)
  have b2 : C * P < 16777216 := by rw [← hp2]; exact Nat.mul_lt_mul_of_pos_right l2 hpos
  refine ⟨k, P, hk2, rfl, hP, b1, b2, ?_⟩
  have hr : FP.Core.roundRatio FP.Core.b32 false C 1 0 = .fin false (C * P) ((k : Int) - 23) := by
    have hl : FP.Core.leading C 1 = (k : Int) := by
      rw [fl_lead hk (b := 0) (by decide +kernel)]
      rw [show (((k : Int) - (0 : Nat)).toNat) = k by omega, show ((-((k : Int) - (0 : Nat))).toNat) = 0 by omega, if_pos (by omega)]
      omega
    have := fl_round (A := C) (B := 1) (N := C * P) (e := 0) (L := (k : Int)) h0 hl (by omega) (by omega) (by
      rw [show ((0 : Int) - ((k : Int) + 0 - 23)).toNat = 23 - k by omega, show ((k : Int) + 0 - 23 - 0).toNat = 0 by omega, hP, Nat.pow_zero, Nat.mul_one]
      have := fl_near_x (M := C * P) (B := 1) (by omega)
      rw [Nat.mul_one] at this
      exact this) b2
    rw [this]
    congr 1 <;> omega
  have he : FP.Core.i2f (nI C) = UInt32.ofNat (FP.Core.encode FP.Core.b32 (.fin false (C * P) ((k : Int) - 23))) := by
    unfold FP.Core.i2f FP.Core.fromInt
    rw [nI_toInt (by omega)]
    unfold FP.Core.ofInt
    rw [show decide ((C : Int) < 0) = false from decide_eq_false (by omega), Int.natAbs_natCast]
    unfold FP.Core.round
    dsimp only
    rw [hr]
  rw [he]
  exact (fl_bits (e := k + 127) b1 b2 (by omega) (by omega) (by omega)).2
theorem fl_log {c : Nat} (h1 : 8388608 ≤ c) (h2 : c < 16777216) : c.log2 = 23 := by
  rw [Nat.log2_eq_iff (by omega), fl_two23, fl_two]
  exact ⟨h1, h2⟩
theorem fl_div {C n : Nat} (hn : 1 ≤ n) (hn2 : n ≤ 250) (h1 : 64 * n ≤ C) (h2 : C ≤ 100 * n) : ∃ M : Nat, 8388608 ≤ M ∧ M < 16777216 ∧ (FP.Core.fdiv (FP.Core.i2f (nI C)) (FP.Core.i2f (nI n))).toNat = 133 * 8388608 + (M - 8388608) ∧ FP.Core.decode FP.Core.b32 (FP.Core.fdiv (FP.Core.i2f (nI C)) (FP.Core.i2f (nI n))).toNat = .fin false M (-17) := by
  obtain ⟨k, P, k1, k2, k3, k4, k5, k6⟩ := fl_i2f (C := C) (by omega) (by omega)
  obtain ⟨j, R, j1, j2, j3, j4, j5, j6⟩ := fl_i2f (C := n) (by omega) (by omega)
  have l1 : 2 ^ k ≤ C := by rw [← k2]; exact Nat.log2_self_le (by omega)
  have l2 : C < 2 ^ (k + 1) := by rw [← k2]; exact Nat.lt_log2_self
  have m1 : 2 ^ j ≤ n := by rw [← j2]; exact Nat.log2_self_le (by omega)
  have m2 : n < 2 ^ (j + 1) := by rw [← j2]; exact Nat.lt_log2_self
  have g1 : j + 6 ≤ k := by
    refine Nat.le_of_not_lt fun h => ?_
    have : 2 ^ (k + 1) ≤ 2 ^ (j + 6) := Nat.pow_le_pow_right (by omega) (by omega)
    rw [Nat.pow_add 2 j 6] at this
    omega
  have g2 : k ≤ j + 7 := by
    refine Nat.le_of_not_lt fun h => ?_
    have : 2 ^ (j + 1 + 7) ≤ 2 ^ k := Nat.pow_le_pow_right (by omega) (by omega)
    rw [Nat.pow_add 2 (j + 1) 7] at this
    omega
  have hb1 : 64 * (n * P) ≤ C * P := by rw [← Nat.mul_assoc]; exact Nat.mul_le_mul h1 (Nat.le_refl _)
  have hb2 : C * P ≤ 100 * (n * P) := by rw [← Nat.mul_assoc]; exact Nat.mul_le_mul h2 (Nat.le_refl _)
  have hlc := fl_log k4 k5
  have hld := fl_log j4 j5
  have hr : ∃ M : Nat, 8388608 ≤ M ∧ M < 16777216 ∧ FP.Core.roundRatio FP.Core.b32 false (C * P) (n * R) ((k : Int) - 23 - ((j : Int) - 23)) = .fin false M (-17) := by
    rcases (show k = j + 6 ∨ k = j + 7 by omega) with hk | hk
    · have hR : n * R = 64 * (n * P) := by
        rw [← j3, ← k3, show 23 - j = (23 - k) + 6 by omega, Nat.pow_add, show (2 : Nat) ^ 6 = 64 by decide]
        ac_rfl
      have hl : FP.Core.leading (C * P) (n * R) = 0 := by
        rw [fl_lead hlc hld, if_pos (by show n * R * 2 ^ (0 : Nat) ≤ C * P * 2 ^ (0 : Nat); omega)]; rfl
      have hg : 8388608 ≤ FP.Core.nearest (C * P * 8388608) (n * R) := fl_near_ge (by omega) (by omega)
      have hlt : FP.Core.nearest (C * P * 8388608) (n * R) ≤ 13107200 + 1 := fl_near_le (by omega)
      refine ⟨FP.Core.nearest (C * P * 8388608) (n * R), hg, by omega, ?_⟩
      have := fl_round (A := C * P) (B := n * R) (N := FP.Core.nearest (C * P * 8388608) (n * R)) (e := (k : Int) - 23 - ((j : Int) - 23)) (L := 0) (by omega) hl (by omega) (by omega) (by
        rw [show ((k : Int) - 23 - ((j : Int) - 23) - (0 + ((k : Int) - 23 - ((j : Int) - 23)) - 23)).toNat = 23 by omega, show (0 + ((k : Int) - 23 - ((j : Int) - 23)) - 23 - ((k : Int) - 23 - ((j : Int) - 23))).toNat = 0 by omega, fl_two23, Nat.pow_zero, Nat.mul_one]) (by omega)
      rw [this]
      congr 1 <;> omega
    · have hR : n * R = 128 * (n * P) := by
        rw [← j3, ← k3, show 23 - j = (23 - k) + 7 by omega, Nat.pow_add, show (2 : Nat) ^ 7 = 128 by decide]
        ac_rfl
      have hl : FP.Core.leading (C * P) (n * R) = -1 := by
        rw [fl_lead hlc hld, if_neg (by show ¬ n * R * 2 ^ (0 : Nat) ≤ C * P * 2 ^ (0 : Nat); omega)]; rfl
      have hg : 8388608 ≤ FP.Core.nearest (C * P * 16777216) (n * R) := fl_near_ge (by omega) (by omega)
      have hlt : FP.Core.nearest (C * P * 16777216) (n * R) ≤ 13107200 + 1 := fl_near_le (by omega)
      refine ⟨FP.Core.nearest (C * P * 16777216) (n * R), hg, by omega, ?_⟩
      have := fl_round (A := C * P) (B := n * R) (N := FP.Core.nearest (C * P * 16777216) (n * R)) (e := (k : Int) - 23 - ((j : Int) - 23)) (L := -1) (by omega) hl (by omega) (by omega) (by
        rw [show ((k : Int) - 23 - ((j : Int) - 23) - (-1 + ((k : Int) - 23 - ((j : Int) - 23)) - 23)).toNat = 24 by omega, show (-1 + ((k : Int) - 23 - ((j : Int) - 23)) - 23 - ((k : Int) - 23 - ((j : Int) - 23))).toNat = 0 by omega, fl_two, Nat.pow_zero, Nat.mul_one]) (by omega)
      rw [this]
      congr 1 <;> omega
  obtain ⟨M, r1, r2, r3⟩ := hr
  have he : FP.Core.fdiv (FP.Core.i2f (nI C)) (FP.Core.i2f (nI n)) = UInt32.ofNat (FP.Core.encode FP.Core.b32 (.fin false M (-17))) := by
    unfold FP.Core.fdiv FP.Core.div
    rw [k6, j6]
    unfold FP.Core.quotient
    dsimp only
    rw [if_neg (by omega)]
    rw [show (false != false) = false from rfl, r3]
  rw [he]
  exact ⟨M, r1, r2, fl_bits (e := 133) r1 r2 (by omega) (by omega) (by omega)⟩
theorem fl_num {x : UInt32} (h : x.toNat ≤ 2139095040) : cr_num x = true := by
  unfold cr_num
  refine decide_eq_true ?_
  rw [UInt32.le_iff_toNat_le, UInt32.toNat_and]
  exact Nat.le_trans Nat.and_le_left h
theorem fl_mul {x : UInt32} {M : Nat} (h : FP.Core.decode FP.Core.b32 x.toNat = .fin false M (-17)) (h1 : 8388608 ≤ M) (h2 : M < 16777216) : (FP.Core.fmul x 1207959552).toNat = 150 * 8388608 + (M - 8388608) ∧ FP.Core.decode FP.Core.b32 (FP.Core.fmul x 1207959552).toNat = .fin false M 0 := by
  have hl : FP.Core.leading (M * 8388608) 1 = 46 := by
    have e46 : (2 : Nat) ^ 46 = 70368744177664 := by decide +kernel
    have e47 : (2 : Nat) ^ (46 + 1) = 140737488355328 := by decide +kernel
    have hlg : (M * 8388608).log2 = 46 := by
      rw [Nat.log2_eq_iff (by omega), e46, e47]
      omega
    rw [fl_lead hlg (b := 0) (by decide +kernel)]
    rw [show ((((46 : Nat) : Int) - (0 : Nat)).toNat) = 46 by decide, show ((-(((46 : Nat) : Int) - (0 : Nat))).toNat) = 0 by decide, e46, if_pos (by omega)]
    rfl
  have hr : FP.Core.roundRatio FP.Core.b32 false (M * 8388608) 1 (-23) = .fin false M 0 := by
    have := fl_round (A := M * 8388608) (B := 1) (N := M) (e := -23) (L := 46) (by omega) hl (by omega) (by omega) (by
      rw [show ((-23 : Int) - (46 + -23 - 23)).toNat = 0 by decide, show ((46 : Int) + -23 - 23 - -23).toNat = 23 by decide, fl_two23, Nat.pow_zero, Nat.mul_one, Nat.one_mul]
      exact fl_near_x (by omega)) h2
    rw [this]
    rfl
  have he : FP.Core.fmul x 1207959552 = UInt32.ofNat (FP.Core.encode FP.Core.b32 (.fin false M 0)) := by
    unfold FP.Core.fmul FP.Core.mul
    rw [h, show FP.Core.decode FP.Core.b32 (1207959552 : UInt32).toNat = .fin false 8388608 (-6) by decide +kernel]
    unfold FP.Core.exactProduct FP.Core.round
    dsimp only
    rw [show (false != false) = false from rfl, show ((-17 : Int) + -6) = -23 by decide, hr]
  rw [he]
  exact fl_bits (e := 150) h1 h2 (by omega) (by omega) (by omega)
theorem fl_all {C n : Nat} (hn : 1 ≤ n) (hn2 : n ≤ 250) (h1 : 64 * n ≤ C) (h2 : C ≤ 100 * n) : ∃ b : Int32, f_X6_bitsOfMeanCup (nI C) (nI n) = some b ∧ f_Jxf58ca_floatToIntBits_5c35a (FP.fdiv (FP.i2f (nI C)) (FP.i2f (nI n))) = some b ∧ cr_num (FP.fdiv (FP.i2f (nI C)) (FP.i2f (nI n))) = true := by
  obtain ⟨M, a1, a2, a3, a4⟩ := fl_div hn hn2 h1 h2
  have e1 : FP.fdiv (FP.i2f (nI C)) (FP.i2f (nI n)) = FP.Core.fdiv (FP.Core.i2f (nI C)) (FP.Core.i2f (nI n)) := rfl
  unfold f_X6_bitsOfMeanCup
  rw [e1, if_pos (show (1 : Int32) ≤ nI n from c_le 1 n rfl rfl hn (by omega))]
  generalize FP.Core.fdiv (FP.Core.i2f (nI C)) (FP.Core.i2f (nI n)) = x at a3 a4
  obtain ⟨c1, c2⟩ := fl_mul a4 a1 a2
  have n1 : cr_num x = true := fl_num (by omega)
  have n2 : cr_num (FP.fmul x 1207959552) = true := fl_num (show (FP.Core.fmul x 1207959552).toNat ≤ _ by omega)
  have hf : FP.f2i (FP.fmul x 1207959552) = nI M := by
    show FP.Core.toI (FP.Core.decode FP.Core.b32 (FP.Core.fmul x 1207959552).toNat) = _
    rw [c2]
    unfold FP.Core.toI FP.Core.toInt FP.Core.truncate FP.Core.signed
    dsimp only
    have hm : max (-2 ^ 31 : Int) (min (2 ^ 31 - 1) (if false = true then -((M * 2 ^ (0 : Int).toNat / 2 ^ (-(0 : Int)).toNat : Nat) : Int) else ((M * 2 ^ (0 : Int).toNat / 2 ^ (-(0 : Int)).toNat : Nat) : Int))) = (M : Int) := by
      rw [if_neg (by decide), show ((0 : Int).toNat) = 0 from rfl, show ((-(0 : Int)).toNat) = 0 from rfl, Nat.pow_zero, Nat.mul_one, Nat.div_one]
      omega
    rw [hm]
    apply Int32.toBitVec_inj.1
    exact BitVec.ofInt_natCast ..
  have hx : x.toInt32 = nI (1107296256 + M) := by
    apply Int32.toBitVec_inj.1
    apply BitVec.eq_of_toNat_eq
    rw [pk_tn (by omega)]
    show x.toNat = _
    omega
  refine ⟨nI (1107296256 + M), ?_, ?_, n1⟩
  · rw [if_pos n1, if_pos n2, hf, show (1115684864 : Int32) = nI 1115684864 from rfl, nI_add, show (8388608 : Int32) = nI 8388608 from rfl, pk_sub (by omega), show 1115684864 + M - 8388608 = 1107296256 + M by omega]
  · unfold f_Jxf58ca_floatToIntBits_5c35a f_Jxf58ca_isNaN_12338
    have hc : FP.fcmp x x = some .eq := by
      show FP.Core.order (FP.Core.decode FP.Core.b32 x.toNat) (FP.Core.decode FP.Core.b32 x.toNat) = _
      rw [a4]
      unfold FP.Core.order
      simp
    rw [hc, if_pos (by decide), Option.bind_some, if_pos rfl, hx]
