theorem lt_succ {c : Int32} {b : Nat} (hb : b + 1 < 2 ^ 31) : (c < nI (b + 1)) = (c < nI b ∨ c = nI b) := by
  refine propext ?_
  rw [Int32.lt_iff_toInt_lt, Int32.lt_iff_toInt_lt, nI_toInt hb, nI_toInt (by omega)]
  constructor
  · intro h
    by_cases h2 : c.toInt < (b : Int)
    · exact Or.inl h2
    · exact Or.inr (Int32.toInt_inj.mp (by rw [nI_toInt (by omega)]; omega))
  · rintro (h | h)
    · omega
    · rw [h, nI_toInt (by omega)]; omega
theorem keep_succ (K : List cr_Con) {b : Nat} (hb : b + 1 < 2 ^ 31) : (K.filter (s_keep (nI b))).filter (s_ne (nI b)) = K.filter (s_keep (nI (b + 1))) := by
  rw [List.filter_filter]
  refine congrFun (congrArg _ (funext fun c => ?_)) K
  simp only [s_ne, s_keep, lt_succ hb]
  by_cases h1 : c.1 < nI b <;> by_cases h2 : c.1 = nI b <;> simp [h1, h2]
def s_pg (st g : Nat → Int32) (m : Int32) (k : Nat) : Nat → Int32 := upd (upd (upd g 0 m) 3 (g 3 + nI k)) 1 (g 1 - nI k * st 0 * st 4)
theorem q_pass_38 {L : List cr_Lot} {K : List cr_Con} {w st g : Nat → Int32} {a p : Nat} (h9 : a + p ≤ 999) : ∀ (i n : Nat) (v : cr_V), i ≤ p → p - i < n →
    mdR (L, K.filter (s_keep (nI (a + i))), w, st, s_pg st g (nI (a + i)) (K.length - (K.filter (s_keep (nI (a + i)))).length)) (v 0) →
    ∃ v', f_X7_pass_38 n v (nI p) (nI (K.length - (K.filter (s_keep (nI (a + i)))).length)) (nI i) = some (nI (K.length - (K.filter (s_keep (nI (a + p)))).length), v') ∧
      mdR (L, K.filter (s_keep (nI (a + p))), w, st, s_pg st g (nI (a + p)) (K.length - (K.filter (s_keep (nI (a + p)))).length)) (v' 0) ∧ sameC [0] v v' := by
  intro i n
  induction n generalizing i with
  | zero => intro v h1 h2; omega
  | succ n ih =>
    intro v hi hn hM
    rw [f_X7_pass_38]
    by_cases hip : i = p
    · subst hip
      rw [if_pos (show nI i ≤ nI i from c_le i i rfl rfl (by omega) (by omega))]
      exact ⟨v, rfl, hM, sameC.rf⟩
    · rw [if_neg (show ¬ nI p ≤ nI i from c_nle p i rfl rfl (by omega) (by omega))]
      have hlen := hM.2.1.1
      have hlen : (K.filter (s_keep (nI (a + i)))).length ≤ 6 := hlen
      have h7 : v 0 7 = nI (K.filter (s_keep (nI (a + i)))).length := hM.2.1.2.1
      obtain ⟨v1, a1, a2, a3⟩ := q_fails_12 (m := nI (a + i)) (K.filter (s_keep (nI (a + i)))).length (K.filter (s_keep (nI (a + i)))) [] 10100 v _ 0 rfl (by omega) (by rw [List.append_nil]; exact hM) (by unfold s_pg; rw [pk_un (by omega), pk_un (by omega), pk_us])
      rw [f_X7_fails, h7, a1, Option.bind_some]
      rw [List.append_nil, keep_succ K (by omega)] at a2
      rw [keep_succ K (by omega)]
      have hf1 : (K.filter (s_keep (nI (a + i)))).length ≤ K.length := List.length_filter_le _ _
      have hf2 : (K.filter (s_keep (nI (a + i + 1)))).length ≤ (K.filter (s_keep (nI (a + i)))).length := by rw [← keep_succ K (by omega)]; exact List.length_filter_le _ _
      have hg0 : v1 0 0 = nI (a + i) := by
        have := a2.2.2.2.2 0 (by omega)
        rw [this]
        simp only [s_pm, s_pg]
        rw [pk_un (by omega), pk_un (by omega), pk_un (by omega), pk_un (by omega), pk_us]
      have hcnt : nI (K.length - (K.filter (s_keep (nI (a + i)))).length) + nI ((K.filter (s_keep (nI (a + i)))).length - (K.filter (s_keep (nI (a + i + 1)))).length) = nI (K.length - (K.filter (s_keep (nI (a + i + 1)))).length) := by rw [nI_add]; congr 1; omega
      rw [Int32.zero_add, hcnt]
      dsimp only
      rw [hg0, nI_1, nI_1]
      have hM2 : mdR (L, K.filter (s_keep (nI (a + (i + 1)))), w, st, s_pg st g (nI (a + (i + 1))) (K.length - (K.filter (s_keep (nI (a + (i + 1))))).length)) ((cr_a v1 0 0 (nI (a + i + 1))) 0) := by
        obtain ⟨w1, w2, w3⟩ := id a2.2.2
        refine md_g a2 (fun t ht => ?_) ⟨fun j hj => ?_, fun j hj => ?_, fun j hj => ?_⟩
        · rw [cr_as, pk_un (by omega)]
        · rw [cr_as, pk_un (by omega)]; exact w1 j hj
        · rw [cr_as, pk_un (by omega)]; exact w2 j hj
        · rw [cr_as]
          show _ = s_pg st g (nI (a + i + 1)) (K.length - (K.filter (s_keep (nI (a + i + 1)))).length) j
          have hw := w3 j hj
          simp only [s_pm, s_pg] at hw ⊢
          by_cases h0 : j = 0
          · subst h0; rw [pk_us, pk_un (by omega), pk_un (by omega), pk_us]
          · rw [pk_un h0, hw]
            by_cases h1 : j = 1
            · subst h1; rw [pk_un (by omega), pk_us, pk_us, pk_us, r_2, hcnt]
            · rw [pk_un h1 (x := g 1 - nI (K.length - (K.filter (s_keep (nI (a + i + 1)))).length) * st 0 * st 4)]
              by_cases h3 : j = 3
              · subst h3; rw [pk_us, pk_us, pk_un (by omega), pk_us, Int32.add_assoc, hcnt]
              · rw [pk_un h3, pk_un h1, pk_un h1, pk_un h3, pk_un h0, pk_un h3, pk_un h0]
      obtain ⟨v2, b1, b2, b3⟩ := ih (i + 1) _ (by omega) (by omega) hM2
      exact ⟨v2, b1, b2, a3.tr ((sameC.c (cs := [0]) (by simp)).tr (es := [0]) b3 (by simp) (by simp)) (by simp) (by simp)⟩
theorem q_pass {S : cr_S} {H : List cr_S} {v : cr_V} (hM : mdR S (v 0)) (hP : mdP H v) {a : Nat} (ha : a ≤ 999) (hg : S.2.2.2.2 0 = nI a) (hK : ∀ c ∈ S.2.1, ¬ c.1 < S.2.2.2.2 0) (x1 : Int32) : q_Ok (o_pass S x1) S H v (f_X7_pass v x1) := by
  have h0 : v 0 0 = S.2.2.2.2 0 := hM.2.2.2.2 0 (by omega)
  unfold o_pass q_Ok
  rw [f_X7_pass, q_in, Option.bind_some]
  cases h1 : s_in x1 1 24 with
  | false => exact ⟨v, by simp, hM, hP, sameC.rf⟩
  | true =>
    obtain ⟨p, p1, p2, rfl⟩ := p_inN (a := 1) (b := 24) h1 (by omega) (by omega)
    simp only [if_true, n10, if_false]
    rw [h0]
    by_cases h2 : S.2.2.2.2 0 + nI p ≤ 999
    · rw [if_pos h2, if_pos h2]
      rw [hg, nI_add] at h2 ⊢
      have h9 : a + p ≤ 999 := Nat.le_of_not_lt fun h => (c_nle (a + p) 999 rfl rfl h (by omega)) h2
      obtain ⟨v1, a1, a2, a3, a4⟩ := q_chg hP hM
      have hk0 : S.2.1.filter (s_keep (nI a)) = S.2.1 := List.filter_eq_self.mpr fun c hc => by
        have := hK c hc
        rw [hg] at this
        simp [s_keep, this]
      obtain ⟨v2, b1, b2, b3⟩ := q_pass_38 (L := S.1) (K := S.2.1) (w := S.2.2.1) (st := S.2.2.2.1) (g := S.2.2.2.2) h9 0 10100 v1 (by omega) (by omega) (by
        rw [Nat.add_zero, hk0, Nat.sub_self]
        refine md_gg (g := S.2.2.2.2) a2 fun j hj => ?_
        unfold s_pg
        rw [show nI 0 = 0 from rfl]
        by_cases h1 : j = 1
        · subst h1; rw [pk_us, Int32.zero_mul, Int32.zero_mul, Int32.sub_zero]
        · rw [pk_un h1]
          by_cases h3 : j = 3
          · subst h3; rw [pk_us, Int32.add_zero]
          · rw [pk_un h3]
            by_cases h4 : j = 0
            · subst h4; rw [pk_us, hg]
            · rw [pk_un h4])
      rw [Nat.add_zero, hk0, Nat.sub_self] at b1
      refine ⟨v2, ?_, b2, a3.sm b3 (by simp) (by simp), a4.tr b3 (by simp) (by simp)⟩
      rw [a1, Option.bind_some]
      exact b1
    · rw [if_neg h2, if_neg h2]
      exact ⟨v, rfl, hM, hP, sameC.rf⟩
