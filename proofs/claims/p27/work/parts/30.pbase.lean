/-! ===== pure: reading states, and what a state stands for ===== -/
theorem cr_xn {n : Nat} (h : n < 2 ^ 31) : cr_x (nI n) = n := by rw [← cr_xe, nI_clamp h]
theorem cr_inn {k n : Nat} (h : k < n) (hn : n < 2 ^ 31) : cr_in (nI k) n = true := decide_eq_true (nI_in h hn)
theorem cr_ce (v : cr_V) (c : Nat) (f : Nat → Int32) (k : Nat) : cr_c v c f k = if k = c then f else v k := by
  unfold cr_c
  by_cases h : k = c
  · rw [if_pos h, show Nat.beq k c = true from by subst h; exact Nat.beq_refl k]; rfl
  · rw [if_neg h, show Nat.beq k c = false from by cases e : Nat.beq k c with | false => rfl | true => exact absurd (Nat.eq_of_beq_eq_true e) h]; rfl
theorem cr_up (f : Nat → Int32) (k : Nat) (x : Int32) (j : Nat) : upd f k x j = if j = k then x else f j := rfl
theorem c_le {A B : Int32} (b a : Nat) (hb : B = nI b) (ha : A = nI a) (h : b ≤ a) (h2 : a < 2 ^ 31) : B ≤ A := by rw [ha, hb]; exact nI_le h h2
theorem c_nle {A B : Int32} (b a : Nat) (hb : B = nI b) (ha : A = nI a) (h : a < b) (h2 : b < 2 ^ 31) : ¬ B ≤ A := by rw [ha, hb]; exact nI_ge h h2
theorem c_lt {A B : Int32} (a b : Nat) (ha : A = nI a) (hb : B = nI b) (h : a < b) (h2 : b < 2 ^ 31) : A < B := by rw [ha, hb]; exact nI_lt h h2
theorem c_nlt {A B : Int32} (a b : Nat) (ha : A = nI a) (hb : B = nI b) (h : b ≤ a) (h2 : a < 2 ^ 31) : ¬ A < B := by rw [ha, hb]; exact nI_nlt h h2
abbrev cr_Lot : Type := Int32 × Int32 × Int32 × Int32
abbrev cr_Con : Type := Int32 × Int32
/-- lots, contracts, worths, settings, numbers (0 month, 1 account, 2 met, 3 failed, 4 given, 5 made) -/
abbrev cr_S : Type := List cr_Lot × List cr_Con × (Nat → Int32) × (Nat → Int32) × (Nat → Int32)
def crL (L : List cr_Lot) (v : cr_V) : Prop := L.length ≤ 12 ∧ v 4 0 = nI L.length ∧ ∀ j x, L[j]? = some x → v 0 j = x.1 ∧ v 1 j = x.2.1 ∧ v 2 j = x.2.2.1 ∧ v 3 j = x.2.2.2
def crK (K : List cr_Con) (v : cr_V) : Prop := K.length ≤ 6 ∧ v 2 0 = nI K.length ∧ ∀ j x, K[j]? = some x → v 0 j = x.1 ∧ v 1 j = x.2
def crH (w st g : Nat → Int32) (v : cr_V) : Prop := (∀ j, j < 4 → v 2 j = w j) ∧ (∀ j, j < 5 → v 3 j = st j) ∧ v 4 0 = g 0 ∧ v 5 0 = g 1 ∧ v 6 0 = g 2 ∧ v 7 0 = g 3 ∧ v 8 0 = g 4
def crC (S : cr_S) (h l k : cr_V) : Prop := crL S.1 l ∧ crK S.2.1 k ∧ crH S.2.2.1 S.2.2.2.1 S.2.2.2.2 h ∧ l 5 0 = S.2.2.2.2 5
/-- the same of the model's array -/
def mdL (L : List cr_Lot) (s : Nat → Int32) : Prop := L.length ≤ 12 ∧ s 6 = nI L.length ∧ ∀ j x, L[j]? = some x → s (17 + 4 * j) = x.1 ∧ s (18 + 4 * j) = x.2.1 ∧ s (19 + 4 * j) = x.2.2.1 ∧ s (20 + 4 * j) = x.2.2.2
def mdK (K : List cr_Con) (s : Nat → Int32) : Prop := K.length ≤ 6 ∧ s 7 = nI K.length ∧ ∀ j x, K[j]? = some x → s (69 + 2 * j) = x.1 ∧ s (70 + 2 * j) = x.2
def mdG (w st g : Nat → Int32) (s : Nat → Int32) : Prop := (∀ j, j < 4 → s (13 + j) = w j) ∧ (∀ j, j < 5 → s (8 + j) = st j) ∧ (∀ j, j < 6 → s j = g j)
def mdR (S : cr_S) (s : Nat → Int32) : Prop := mdL S.1 s ∧ mdK S.2.1 s ∧ mdG S.2.2.1 S.2.2.2.1 S.2.2.2.2 s
-- copies
theorem p_X4_copyFrom_2 (vl2 : cr_V) : ∀ (n k : Nat) (vl : cr_V), k ≤ 12 → 12 - k < n → (∀ j, j < k → vl 0 j = vl2 0 j ∧ vl 1 j = vl2 1 j ∧ vl 2 j = vl2 2 j ∧ vl 3 j = vl2 3 j) →
    ∃ v, f_X4_copyFrom_2 n vl vl2 (nI k) = some v ∧ (∀ j, j < 12 → v 0 j = vl2 0 j ∧ v 1 j = vl2 1 j ∧ v 2 j = vl2 2 j ∧ v 3 j = vl2 3 j) ∧ v 4 0 = vl2 4 0 ∧ v 5 0 = vl2 5 0 := by
  intro n
  induction n with
  | zero => intro k vl h1 h2; omega
  | succ n ih =>
    intro k vl hk hn h
    rw [f_X4_copyFrom_2]
    by_cases hk2 : k = 12
    · subst hk2
      rw [if_pos (show (12 : Int32) ≤ nI 12 from c_le 12 12 rfl rfl (by omega) (by omega))]
      refine ⟨_, rfl, fun j hj => ?_, ?_, ?_⟩
      · simpa [cr_ce] using h j hj
      · simp [cr_ce]
      · simp [cr_ce]
    · rw [if_neg (show ¬ (12 : Int32) ≤ nI k from c_nle 12 k rfl rfl (by omega) (by omega)), if_pos (cr_inn (by omega) (by omega)), nI_1 k]
      refine ih (k + 1) _ (by omega) (by omega) fun j hj => ?_
      by_cases hjk : j = k
      · subst hjk
        simp [cr_ce, cr_up, cr_xn (show j < 2 ^ 31 by omega)]
      · simpa [cr_ce, cr_up, cr_xn (show k < 2 ^ 31 by omega), hjk] using h j (by omega)
theorem p_X4_copyFrom (vl vl2 : cr_V) : ∃ v, f_X4_copyFrom vl vl2 = some v ∧ (∀ j, j < 12 → v 0 j = vl2 0 j ∧ v 1 j = vl2 1 j ∧ v 2 j = vl2 2 j ∧ v 3 j = vl2 3 j) ∧ v 4 0 = vl2 4 0 ∧ v 5 0 = vl2 5 0 :=
  p_X4_copyFrom_2 vl2 10100 0 vl (by omega) (by omega) (fun j hj => by omega)
