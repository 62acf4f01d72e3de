theorem lt_succ {c : Int32} {b : Nat} (hb : b + 1 < 2 ^ 31) : (c < nI (b + 1)) = (c < nI b ∨ c = nI b) := by
  refine propext ?_
  rw [Int32.lt_iff_toInt_lt, Int32.lt_iff_toInt_lt, nI_toInt hb, nI_toInt (by omega)]
  constructor
  · intro h
    by_cases h2 : c.toInt < (b : Int)
    · exact Or.inl h2
    · exact Or.inr (Int32.toInt_inj.mp (by rw [nI_toInt (by omega)]; omega))
  · rintro (h | h)
    · omega
    · rw [h, nI_toInt (by omega)]; omega
theorem keep_succ (K : List cr_Con) {b : Nat} (hb : b + 1 < 2 ^ 31) : (K.filter (s_keep (nI b))).filter (s_ne (nI b)) = K.filter (s_keep (nI (b + 1))) := by
  rw [List.filter_filter]
  refine congrFun (congrArg _ (funext fun c => ?_)) K
  simp only [s_ne, s_keep, lt_succ hb]
  by_cases h1 : c.1 < nI b <;> by_cases h2 : c.1 = nI b <;> simp [h1, h2]
def s_pg (st g : Nat → Int32) (m : Int32) (k : Nat) : Nat → Int32 := upd (upd (upd g 0 m) 3 (g 3 + nI k)) 1 (g 1 - nI k * st 0 * st 4)
