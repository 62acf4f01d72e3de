/-! months that pass, on the model -/
theorem r_1 (a c s : Int32) : a - s - c * s = a - (c + 1) * s := by rw [Int32.add_mul, Int32.one_mul, Int32.sub_eq_add_neg, Int32.sub_eq_add_neg, Int32.sub_eq_add_neg, Int32.neg_add, Int32.add_assoc, Int32.add_comm (-s), ← Int32.sub_eq_add_neg (-(c * s))]
theorem r_2 (a b c s t : Int32) : a - b * s * t - c * (s * t) = a - (b + c) * s * t := by rw [Int32.mul_assoc, Int32.mul_assoc, Int32.add_mul, Int32.sub_eq_add_neg, Int32.sub_eq_add_neg, Int32.sub_eq_add_neg, Int32.neg_add, Int32.add_assoc, ← Int32.sub_eq_add_neg (-(b * (s * t)))]
theorem r_3 (a c : Int32) : a + 1 + c = a + (c + 1) := by rw [Int32.add_assoc, Int32.add_comm 1]
def s_ne (m : Int32) (c : cr_Con) : Bool := !decide (c.1 = m)
def s_pm (st g : Nat → Int32) (k : Nat) : Nat → Int32 := upd (upd g 1 (g 1 - nI k * (st 0 * st 4))) 3 (g 3 + nI k)
theorem md_gg {L : List cr_Lot} {K : List cr_Con} {w st g g' s : Nat → Int32} (hM : mdR (L, K, w, st, g) s) (h : ∀ j, j < 6 → g j = g' j) : mdR (L, K, w, st, g') s := ⟨hM.1, hM.2.1, hM.2.2.1, hM.2.2.2.1, fun j hj => (hM.2.2.2.2 j hj).trans (h j hj)⟩
theorem er_mid {α : Type} (A B : List α) (c : α) : (A ++ [c] ++ B).eraseIdx A.length = A ++ B := by
  rw [List.append_assoc, List.eraseIdx_append_of_length_le (Nat.le_refl _)]; simp
