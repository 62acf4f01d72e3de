/-! the object and a state; what the law reads -/
def lwS (b : Nat) (S : cr_S) (X : cr_XT) : Prop := (∃ H, crC S X.1 X.2.1 X.2.2.1 ∧ crX H X.2.2.2.2.2.2.1 X.2.2.2.2.2.2.2.1) ∧ X.2.2.2.2.2.2.2.2.2 1 0 = 0 ∧ s_inv b S
def s_inc (L : List cr_Lot) : Prop := (L.map (·.1)).Pairwise (· < ·)
theorem s_inc.at {L : List cr_Lot} (h : s_inc L) {i j : Nat} {x y : cr_Lot} (hx : L[i]? = some x) (hy : L[j]? = some y) (hij : i < j) : x.1 < y.1 := by
  have h2 := List.pairwise_iff_getElem.mp h
  have hi := p_lt hx
  have hj := p_lt hy
  have ex : L[i] = x := (List.getElem?_eq_some_iff.mp hx).2
  have ey : L[j] = y := (List.getElem?_eq_some_iff.mp hy).2
  have := h2 i j (by simpa using hi) (by simpa using hj) hij
  rw [List.getElem_map, List.getElem_map, ex, ey] at this
  exact this
theorem s_inv.old {b : Nat} {S : cr_S} (h : s_inv b S) : n_old S.1 (S.2.2.2.2 0) := by
  obtain ⟨a, m, hm, ha, h0, h5, hd, hL, hr⟩ := h
  intro x hx
  obtain ⟨⟨-, -, -, k, k1, k2⟩, -⟩ := hL x hx
  rw [h0, k2, pk_sub (show k ≤ a by omega)]
  exact nI_pos' (by omega)
theorem n_isR {c m : Int32} (h : 0 ≤ m) (hc : 60 ≤ c) : (if 60 ≤ c - m / 4 then c - m / 4 else 60) ≤ c := by
  have e0 : (0 : Int32).toInt = 0 := rfl
  have e60 : (60 : Int32).toInt = 60 := rfl
  by_cases h1 : 60 ≤ c - m / 4
  · rw [if_pos h1]
    rw [Int32.le_iff_toInt_le] at h hc h1 ⊢
    have hm := m.toInt_lt
    have hc2 := c.toInt_lt
    have ed : (m / 4).toInt = m.toInt / 4 := by
      obtain ⟨k, hk, rfl⟩ : ∃ k : Nat, k < 2 ^ 31 ∧ m = nI k := ⟨m.toInt.toNat, by omega, z_int (by omega) (by omega)⟩
      rw [show (4 : Int32) = nI 4 from rfl, pk_div hk (by omega) (by omega), nI_toInt (by omega), nI_toInt hk]
      omega
    rw [z_sb rfl ed (by omega) (by omega)]
    omega
  · rw [if_neg h1]; exact hc
section ISSO
variable {b : Nat} {S : cr_S} {g l c : cr_V} {X : cr_XT}
theorem n_isSo_12 (hb30 : b < 2 ^ 30) (hM : lwG S g l c) (hS : lwS b S X) (hi : s_inc S.1) : ∀ (n k : Nat) (A B : Int32), k ≤ S.1.length → S.1.length - k < n → f_L_isSo_12 n g l c X 1 A B (nI k) = f_L_isSo_316 g l c X 1 (s_sum (fun x => x.2.1) (S.1.drop k) A) (s_sum (fun x => if s_cup x (S.2.2.2.2 0) < 70 then 0 else x.2.1) (S.1.drop k) B) := by
  obtain ⟨⟨H, hC, hX⟩, hT, hI⟩ := hS
  have hL := hM.L
  have h12 := hL.1
  have h0 : g 0 0 = S.2.2.2.2 0 := hM.g (j := 0) (by omega)
  intro n
  induction n with
  | zero => intro k A B h1 h2; omega
  | succ n ih =>
    intro k A B hk hn
    rw [f_L_isSo_12, hL.2.1]
    by_cases hk2 : k = S.1.length
    · rw [if_pos (show nI S.1.length ≤ nI k from c_le S.1.length k rfl rfl (by omega) (by omega)), hk2, List.drop_length]; rfl
    · have hx : S.1[k]? = some S.1[k] := List.getElem?_eq_getElem (by omega)
      rw [p_drop (show k < S.1.length by omega)]
      generalize S.1[k] = x at *
      obtain ⟨a1, a2, a3, a4⟩ := hL.2.2 k x hx
      have hold : 0 ≤ S.2.2.2.2 0 - x.2.2.2 := hI.old x (List.mem_of_getElem? hx)
      have hidx : cr_idx S.1 x.1 = some k := s_dist_idx hI.dist hx
      have hlo : ∀ w, r_lot S x.1 w = if s_in w 0 6 = true then (if w = 0 then x.2.1 else if w = 1 then x.2.2.1 else if w = 2 then x.2.2.2 else if w = 3 then s_cup x (S.2.2.2.2 0) else if w = 4 then S.2.2.1 (s_band (s_cup x (S.2.2.2.2 0))) else if w = 5 then s_late x (S.2.2.2.2 0) else nI (s_band (s_cup x (S.2.2.2.2 0)))) else (-2000000001) := fun w => by
        unfold r_lot; rw [hidx]; dsimp only; rw [s_get_of hx]
      have hnum : r_num S (nI k) = x.1 := by
        unfold r_num
        rw [if_pos (nI_pos' (by omega)), if_pos (nI_lt (by omega) (by omega)), cr_xn (by omega), s_get_of hx]
      obtain ⟨m0, mm, hmm, ha, e0, e5, hd, hLI, hr⟩ := id hI
      obtain ⟨⟨⟨nn, n1, n2⟩, -, ⟨cc, cc1, cc2, cc3⟩, -⟩, -⟩ := hLI x (List.mem_of_getElem? hx)
      have hb4 := s_band_lt (s_cup x (S.2.2.2.2 0))
      have hcup : ¬ x.2.2.1 < s_cup x (S.2.2.2.2 0) := Int32.not_lt.mpr (n_isR hold (by rw [cc3]; exact c_le 60 cc rfl rfl cc1 (by omega)))
      have hmade : ¬ S.2.2.2.2 5 ≤ x.1 := by rw [e5, n2]; exact nI_ge n1 (by omega)
      have hcnt9 : ∀ u v : Int32, r_count S u v 9 = S.2.2.2.2 5 := fun u v => by unfold r_count; simp
      have h286 : f_L_isSo_286 (f_L_isSo_12 n) g l c X (s_sum (fun x => x.2.1) [x] A) (s_sum (fun x => if s_cup x (S.2.2.2.2 0) < 70 then 0 else x.2.1) [x] B) (nI k) x.1 = f_L_isSo_12 n g l c X 1 (s_sum (fun x => x.2.1) [x] A) (s_sum (fun x => if s_cup x (S.2.2.2.2 0) < 70 then 0 else x.2.1) [x] B) (nI (k + 1)) := by
        rw [f_L_isSo_286, p_X6_lotOf hC, Option.bind_some, p_X6_lotOf hC, Option.bind_some, hlo, hlo]
        rw [show (if s_in 1 0 6 = true then (if (1 : Int32) = 0 then x.2.1 else if (1 : Int32) = 1 then x.2.2.1 else if (1 : Int32) = 2 then x.2.2.2 else if (1 : Int32) = 3 then s_cup x (S.2.2.2.2 0) else if (1 : Int32) = 4 then S.2.2.1 (s_band (s_cup x (S.2.2.2.2 0))) else if (1 : Int32) = 5 then s_late x (S.2.2.2.2 0) else nI (s_band (s_cup x (S.2.2.2.2 0)))) else (-2000000001)) = x.2.2.1 from rfl]
        rw [show (if s_in 3 0 6 = true then (if (3 : Int32) = 0 then x.2.1 else if (3 : Int32) = 1 then x.2.2.1 else if (3 : Int32) = 2 then x.2.2.2 else if (3 : Int32) = 3 then s_cup x (S.2.2.2.2 0) else if (3 : Int32) = 4 then S.2.2.1 (s_band (s_cup x (S.2.2.2.2 0))) else if (3 : Int32) = 5 then s_late x (S.2.2.2.2 0) else nI (s_band (s_cup x (S.2.2.2.2 0)))) else (-2000000001)) = s_cup x (S.2.2.2.2 0) from rfl]
        rw [if_neg hcup, f_L_isSo_308, nI_1]
      have hlate : (if s_late x (S.2.2.2.2 0) = (if S.2.2.2.2 0 - x.2.2.2 - 3 ≤ 0 then 0 else S.2.2.2.2 0 - x.2.2.2 - 3) then True else False) := by
        have : s_late x (S.2.2.2.2 0) = (if S.2.2.2.2 0 - x.2.2.2 - 3 ≤ 0 then 0 else S.2.2.2.2 0 - x.2.2.2 - 3) := by
          unfold s_late
          by_cases q : S.2.2.2.2 0 - x.2.2.2 - 3 ≤ 0
          · rw [if_pos q]
            by_cases q2 : 0 ≤ S.2.2.2.2 0 - x.2.2.2 - 3
            · rw [if_pos q2]; exact Int32.le_antisymm q q2
            · rw [if_neg q2]
          · rw [if_neg q, if_pos (Int32.le_of_lt (Int32.not_le.mp q))]
        rw [if_pos this]; trivial
      have h213 : ∀ t : Int32, t = s_late x (S.2.2.2.2 0) → f_L_isSo_213 (f_L_isSo_12 n) g l c X (s_sum (fun x => x.2.1) [x] A) (s_sum (fun x => if s_cup x (S.2.2.2.2 0) < 70 then 0 else x.2.1) [x] B) (nI k) x.1 (s_cup x (S.2.2.2.2 0)) t (s_late x (S.2.2.2.2 0)) = f_L_isSo_12 n g l c X 1 (s_sum (fun x => x.2.1) [x] A) (s_sum (fun x => if s_cup x (S.2.2.2.2 0) < 70 then 0 else x.2.1) [x] B) (nI (k + 1)) := by
        intro t ht
        subst ht
        rw [f_L_isSo_213, if_pos rfl, p_X6_lotOf hC, Option.bind_some, n_band, Option.bind_some, hlo]
        rw [show (if s_in 6 0 6 = true then (if (6 : Int32) = 0 then x.2.1 else if (6 : Int32) = 1 then x.2.2.1 else if (6 : Int32) = 2 then x.2.2.2 else if (6 : Int32) = 3 then s_cup x (S.2.2.2.2 0) else if (6 : Int32) = 4 then S.2.2.1 (s_band (s_cup x (S.2.2.2.2 0))) else if (6 : Int32) = 5 then s_late x (S.2.2.2.2 0) else nI (s_band (s_cup x (S.2.2.2.2 0)))) else (-2000000001)) = nI (s_band (s_cup x (S.2.2.2.2 0))) from rfl]
        rw [if_pos rfl, p_X6_lotOf hC, Option.bind_some, hlo]
        rw [show (if s_in 7 0 6 = true then (if (7 : Int32) = 0 then x.2.1 else if (7 : Int32) = 1 then x.2.2.1 else if (7 : Int32) = 2 then x.2.2.2 else if (7 : Int32) = 3 then s_cup x (S.2.2.2.2 0) else if (7 : Int32) = 4 then S.2.2.1 (s_band (s_cup x (S.2.2.2.2 0))) else if (7 : Int32) = 5 then s_late x (S.2.2.2.2 0) else nI (s_band (s_cup x (S.2.2.2.2 0)))) else (-2000000001)) = (-2000000001) from rfl]
        rw [if_pos rfl, f_L_isSo_250, if_neg (by decide), p_X6_count hC, Option.bind_some, hcnt9, if_neg hmade]
        by_cases hk0 : k = 0
        · rw [if_pos (show nI k = 0 by rw [hk0]; rfl)]
          exact h286
        · have hx' : S.1[k - 1]? = some S.1[k - 1] := List.getElem?_eq_getElem (by omega)
          have hlt := hi.at hx' hx (by omega)
          have hnum' : r_num S (nI k - 1) = S.1[k - 1].1 := by
            rw [q_pr (by omega)]
            unfold r_num
            rw [if_pos (nI_pos' (by omega)), if_pos (nI_lt (by omega) (by omega)), cr_xn (by omega), s_get_of hx']
          rw [if_neg (nI_ne0 (by omega) (by omega)), p_X6_numberOf hC, Option.bind_some, hnum', if_neg (Int32.not_le.mpr hlt)]
          exact h286
      have h95 : ∀ t : Int32, t = (if s_cup x (S.2.2.2.2 0) < 70 then 0 else x.2.1) → f_L_isSo_95 (f_L_isSo_12 n) g l c X (A + x.2.1) (nI k) x.1 (s_cup x (S.2.2.2.2 0)) (S.2.2.2.2 0 - x.2.2.2 - 3) t B = f_L_isSo_12 n g l c X 1 (s_sum (fun x => x.2.1) [x] A) (s_sum (fun x => if s_cup x (S.2.2.2.2 0) < 70 then 0 else x.2.1) [x] B) (nI (k + 1)) := by
        intro t ht
        rw [f_L_isSo_95, p_X6_numberOf hC, Option.bind_some, hnum, if_pos rfl, p_X6_lotOf hC, Option.bind_some, n_x1, if_pos (cr_inn (by omega) (by omega)), cr_xn (by omega), a2, hlo]
        rw [show (if s_in 0 0 6 = true then (if (0 : Int32) = 0 then x.2.1 else if (0 : Int32) = 1 then x.2.2.1 else if (0 : Int32) = 2 then x.2.2.2 else if (0 : Int32) = 3 then s_cup x (S.2.2.2.2 0) else if (0 : Int32) = 4 then S.2.2.1 (s_band (s_cup x (S.2.2.2.2 0))) else if (0 : Int32) = 5 then s_late x (S.2.2.2.2 0) else nI (s_band (s_cup x (S.2.2.2.2 0)))) else (-2000000001)) = x.2.1 from rfl]
        rw [if_pos rfl, p_X6_lotOf hC, Option.bind_some, n_x2, if_pos (cr_inn (by omega) (by omega)), cr_xn (by omega), a3, hlo]
        rw [show (if s_in 1 0 6 = true then (if (1 : Int32) = 0 then x.2.1 else if (1 : Int32) = 1 then x.2.2.1 else if (1 : Int32) = 2 then x.2.2.2 else if (1 : Int32) = 3 then s_cup x (S.2.2.2.2 0) else if (1 : Int32) = 4 then S.2.2.1 (s_band (s_cup x (S.2.2.2.2 0))) else if (1 : Int32) = 5 then s_late x (S.2.2.2.2 0) else nI (s_band (s_cup x (S.2.2.2.2 0)))) else (-2000000001)) = x.2.2.1 from rfl]
        rw [if_pos rfl, p_X6_lotOf hC, Option.bind_some, n_x3, if_pos (cr_inn (by omega) (by omega)), cr_xn (by omega), a4, hlo]
        rw [show (if s_in 2 0 6 = true then (if (2 : Int32) = 0 then x.2.1 else if (2 : Int32) = 1 then x.2.2.1 else if (2 : Int32) = 2 then x.2.2.2 else if (2 : Int32) = 3 then s_cup x (S.2.2.2.2 0) else if (2 : Int32) = 4 then S.2.2.1 (s_band (s_cup x (S.2.2.2.2 0))) else if (2 : Int32) = 5 then s_late x (S.2.2.2.2 0) else nI (s_band (s_cup x (S.2.2.2.2 0)))) else (-2000000001)) = x.2.2.2 from rfl]
        rw [if_pos rfl, p_X6_lotOf hC, Option.bind_some, hlo]
        rw [show (if s_in 3 0 6 = true then (if (3 : Int32) = 0 then x.2.1 else if (3 : Int32) = 1 then x.2.2.1 else if (3 : Int32) = 2 then x.2.2.2 else if (3 : Int32) = 3 then s_cup x (S.2.2.2.2 0) else if (3 : Int32) = 4 then S.2.2.1 (s_band (s_cup x (S.2.2.2.2 0))) else if (3 : Int32) = 5 then s_late x (S.2.2.2.2 0) else nI (s_band (s_cup x (S.2.2.2.2 0)))) else (-2000000001)) = s_cup x (S.2.2.2.2 0) from rfl]
        rw [if_pos rfl, p_X6_lotOf hC, Option.bind_some, n_band, Option.bind_some, show (13 : Int32) = nI 13 from rfl, nI_add, if_pos (cr_inn (by omega) (by omega)), cr_xn (by omega), hM.w hb4, hlo]
        rw [show (if s_in 4 0 6 = true then (if (4 : Int32) = 0 then x.2.1 else if (4 : Int32) = 1 then x.2.2.1 else if (4 : Int32) = 2 then x.2.2.2 else if (4 : Int32) = 3 then s_cup x (S.2.2.2.2 0) else if (4 : Int32) = 4 then S.2.2.1 (s_band (s_cup x (S.2.2.2.2 0))) else if (4 : Int32) = 5 then s_late x (S.2.2.2.2 0) else nI (s_band (s_cup x (S.2.2.2.2 0)))) else (-2000000001)) = S.2.2.1 (s_band (s_cup x (S.2.2.2.2 0))) from rfl]
        rw [if_pos rfl, p_X6_lotOf hC, Option.bind_some, hlo]
        rw [show (if s_in 5 0 6 = true then (if (5 : Int32) = 0 then x.2.1 else if (5 : Int32) = 1 then x.2.2.1 else if (5 : Int32) = 2 then x.2.2.2 else if (5 : Int32) = 3 then s_cup x (S.2.2.2.2 0) else if (5 : Int32) = 4 then S.2.2.1 (s_band (s_cup x (S.2.2.2.2 0))) else if (5 : Int32) = 5 then s_late x (S.2.2.2.2 0) else nI (s_band (s_cup x (S.2.2.2.2 0)))) else (-2000000001)) = s_late x (S.2.2.2.2 0) from rfl]
        rw [ht]
        by_cases q : S.2.2.2.2 0 - x.2.2.2 - 3 ≤ 0
        · rw [if_pos q]
          refine h213 0 ?_
          by_cases q2 : s_late x (S.2.2.2.2 0) = 0
          · exact q2.symm
          · rw [if_pos q, if_neg q2] at hlate; exact hlate.elim
        · rw [if_neg q]
          refine h213 _ ?_
          by_cases q2 : s_late x (S.2.2.2.2 0) = S.2.2.2.2 0 - x.2.2.2 - 3
          · exact q2.symm
          · rw [if_neg q, if_neg q2] at hlate; exact hlate.elim
      rw [if_neg (show ¬ nI S.1.length ≤ nI k from c_nle S.1.length k rfl rfl (by omega) (by omega)), if_neg (by decide), h0, n_x1, n_x3, n_x0, if_pos (cr_inn (by omega) (by omega)), n_cup hL hx, Option.bind_some, if_pos (cr_inn (by omega) (by omega)), if_pos (cr_inn (by omega) (by omega)), cr_xn (by omega), cr_xn (by omega), cr_xn (by omega), a1, a2, a4]
      have hgo := ih (k + 1) (s_sum (fun x => x.2.1) [x] A) (s_sum (fun x => if s_cup x (S.2.2.2.2 0) < 70 then 0 else x.2.1) [x] B) (by omega) (by omega)
      by_cases hc : s_cup x (S.2.2.2.2 0) < 70
      · rw [if_pos (show s_cup x (S.2.2.2.2 0) ≤ 69 by rw [n_69]; exact hc), h95 0 (by rw [if_pos hc]), hgo]; rfl
      · rw [if_neg (show ¬ s_cup x (S.2.2.2.2 0) ≤ 69 by rw [n_69]; exact hc), h95 x.2.1 (by rw [if_neg hc]), hgo]; rfl
theorem n_isSo_319 (hM : lwG S g l c) (hS : lwS b S X) (A B : Int32) : ∀ (n k : Nat), k ≤ S.2.1.length → S.2.1.length - k < n → f_L_isSo_319 n g l c X 1 A B (nI k) = f_L_isSo_426 g l c X 1 A B := by
  obtain ⟨⟨H, hC, hX⟩, hT, hI⟩ := hS
  have hK := hM.K
  have h6 := hK.1
  have h0 : g 0 0 = S.2.2.2.2 0 := hM.g (j := 0) (by omega)
  intro n
  induction n with
  | zero => intro k h1 h2; omega
  | succ n ih =>
    intro k hk hn
    rw [f_L_isSo_319, hK.2.1]
    by_cases hk2 : k = S.2.1.length
    · rw [if_pos (show nI S.2.1.length ≤ nI k from c_le S.2.1.length k rfl rfl (by omega) (by omega))]
    · have hx : S.2.1[k]? = some S.2.1[k] := List.getElem?_eq_getElem (by omega)
      have hxm := List.getElem_mem (show k < S.2.1.length by omega)
      generalize S.2.1[k] = x at *
      obtain ⟨a1, a2⟩ := hK.2.2 k x hx
      have hop : s_open S.2.1.length (nI k) = 1 := by
        unfold s_open
        rw [if_neg (nI_pos (by omega)), if_neg (nI_ge (by omega) (by omega))]
      have hco : ∀ w, r_con S (nI k) w = if s_in w 0 2 = true then (if w = 0 then x.1 else if w = 1 then x.2 else x.1 - S.2.2.2.2 0) else (-2000000001) := fun w => by
        unfold r_con
        rw [hop, cr_xn (by omega), s_con_of hx]
        simp
      obtain ⟨a, -, e0, hnp⟩ := hI.pas
      have hcnt2 : ∀ u v : Int32, r_count S u v 2 = S.2.2.2.2 0 := fun u v => by unfold r_count; simp
      rw [if_neg (show ¬ nI S.2.1.length ≤ nI k from c_nle S.2.1.length k rfl rfl (by omega) (by omega)), if_neg (by decide), p_X6_contractOf hC, Option.bind_some, n_y0, if_pos (cr_inn (by omega) (by omega)), cr_xn (by omega), a1, hco]
      rw [show (if s_in 0 0 2 = true then (if (0 : Int32) = 0 then x.1 else if (0 : Int32) = 1 then x.2 else x.1 - S.2.2.2.2 0) else (-2000000001)) = x.1 from rfl, if_pos rfl]
      rw [p_X6_contractOf hC, Option.bind_some, nI_1, if_pos (cr_inn (by omega) (by omega)), cr_xn (by omega), a2, hco]
      rw [show (if s_in 1 0 2 = true then (if (1 : Int32) = 0 then x.1 else if (1 : Int32) = 1 then x.2 else x.1 - S.2.2.2.2 0) else (-2000000001)) = x.2 from rfl, if_pos rfl]
      rw [p_X6_contractOf hC, Option.bind_some, hco, h0]
      rw [show (if s_in 2 0 2 = true then (if (2 : Int32) = 0 then x.1 else if (2 : Int32) = 1 then x.2 else x.1 - S.2.2.2.2 0) else (-2000000001)) = x.1 - S.2.2.2.2 0 from rfl, if_pos rfl]
      rw [p_X6_contractOf hC, Option.bind_some, hco]
      rw [show (if s_in 3 0 2 = true then (if (3 : Int32) = 0 then x.1 else if (3 : Int32) = 1 then x.2 else x.1 - S.2.2.2.2 0) else (-2000000001)) = (-2000000001) from rfl, if_pos rfl]
      rw [p_X6_count hC, Option.bind_some, hcnt2, if_neg (hnp x hxm), f_L_isSo_418, nI_1]
      exact ih (k + 1) (by omega) (by omega)
theorem n_isSo_429 (hM : lwG S g l c) (hS : lwS b S X) (A B : Int32) : ∀ (n k : Nat), k ≤ 5 → 5 - k < n → f_L_isSo_429 n g l c X 1 A B (nI k) = f_L_isSo_472 g l c X 1 A B := by
  obtain ⟨⟨H, hC, hX⟩, hT, hI⟩ := hS
  intro n
  induction n with
  | zero => intro k h1 h2; omega
  | succ n ih =>
    intro k hk hn
    rw [f_L_isSo_429]
    by_cases hk2 : k = 5
    · rw [if_pos (show (5 : Int32) ≤ nI k from c_le 5 k rfl rfl (by omega) (by omega))]
    · have hst : ∀ u v : Int32, r_count S u v (20 + nI k) = S.2.2.2.1 k := fun u v => by
        rcases (show k = 0 ∨ k = 1 ∨ k = 2 ∨ k = 3 ∨ k = 4 by omega) with rfl | rfl | rfl | rfl | rfl <;> (unfold r_count; simp [nI]; first | exact (if_pos (by decide)).trans (congrArg S.2.2.2.1 (cr_xn (n := 0) (by omega))) | exact (if_pos (by decide)).trans (congrArg S.2.2.2.1 (cr_xn (n := 1) (by omega))) | exact (if_pos (by decide)).trans (congrArg S.2.2.2.1 (cr_xn (n := 2) (by omega))) | exact (if_pos (by decide)).trans (congrArg S.2.2.2.1 (cr_xn (n := 3) (by omega))) | exact (if_pos (by decide)).trans (congrArg S.2.2.2.1 (cr_xn (n := 4) (by omega))))
      rw [if_neg (show ¬ (5 : Int32) ≤ nI k from c_nle 5 k rfl rfl (by omega) (by omega)), if_neg (by decide), p_X6_count hC, Option.bind_some, show (8 : Int32) = nI 8 from rfl, nI_add, if_pos (cr_inn (by omega) (by omega)), cr_xn (by omega), hM.s (show k < 5 by omega), hst, if_pos rfl, f_L_isSo_464, nI_1]
      exact ih (k + 1) (by omega) (by omega)
theorem n_isSo (hb30 : b < 2 ^ 30) (hM : lwG S g l c) (hS : lwS b S X) (hi : s_inc S.1) : f_L_isSo g l c X = some 1 := by
  have hl := hM.L.1
  have hk := hM.K.1
  have n_f1 : f_L_isSo_12 10100 g l c X 1 0 0 0 = f_L_isSo_316 g l c X 1 (s_sum (fun x => x.2.1) S.1 0) (s_sum (fun x => if s_cup x (S.2.2.2.2 0) < 70 then 0 else x.2.1) S.1 0) := n_isSo_12 hb30 hM hS hi 10100 0 0 0 (by omega) (by omega)
  have n_f2 : ∀ A B, f_L_isSo_319 10100 g l c X 1 A B 0 = f_L_isSo_426 g l c X 1 A B := fun A B => n_isSo_319 hM hS A B 10100 0 (by omega) (by omega)
  have n_f3 : ∀ A B, f_L_isSo_429 10100 g l c X 1 A B 0 = f_L_isSo_472 g l c X 1 A B := fun A B => n_isSo_429 hM hS A B 10100 0 (by omega) (by omega)
  obtain ⟨⟨H, hC, hX⟩, hT, hI⟩ := hS
  rw [f_L_isSo, n_f1, f_L_isSo_316, n_f2, f_L_isSo_426, n_f3]
  rw [f_L_isSo_472, if_neg (by decide), p_X6_numberOf hC, Option.bind_some, hM.L.2.1]
  rw [show r_num S (nI S.1.length) = (-2000000004) from by unfold r_num; rw [if_pos (nI_pos' (by omega)), if_neg (nI_nlt (Nat.le_refl _) (by omega))], if_pos rfl]
  rw [p_X6_numberOf hC, Option.bind_some, show r_num S (-1) = (-2000000001) from by unfold r_num; rw [if_neg (by decide)], if_pos rfl]
  have h5 : g 0 5 = S.2.2.2.2 5 := hM.g (j := 5) (by omega)
  rw [p_X6_lotOf hC, Option.bind_some, h5]
  have hno : cr_idx S.1 (S.2.2.2.2 5) = none := cr_idx_none fun j y hy => by
    obtain ⟨m0, mm, hmm, ha, e0, e5, hd, hLI, hr⟩ := id hI
    obtain ⟨⟨⟨nn, n1, n2⟩, -⟩, -⟩ := hLI y (List.mem_of_getElem? hy)
    rw [e5, n2]
    intro e
    have := nI_inj (by omega) (by omega) e
    omega
  rw [show r_lot S (S.2.2.2.2 5) 0 = (-2000000001) from by unfold r_lot; rw [hno], if_pos rfl]
  rw [p_X6_contractOf hC, Option.bind_some, hM.K.2.1, show r_con S (nI S.2.1.length) 0 = (-2000000001) from by
    unfold r_con
    rw [if_neg]
    rintro ⟨h, -⟩
    unfold s_open at h
    rw [if_neg (nI_pos (by omega)), if_pos (Int32.le_refl _)] at h
    exact absurd h (by decide), if_pos rfl]
  rw [f_L_isSo_532, if_neg (by decide)]
  have hc : ∀ w, f_X6_count X.1 X.2.1 X.2.2.1 X.2.2.2.1 X.2.2.2.2.1 X.2.2.2.2.2.1 X.2.2.2.2.2.2.1 X.2.2.2.2.2.2.2.1 X.2.2.2.2.2.2.2.2.1 X.2.2.2.2.2.2.2.2.2 w = some (r_count S (X.2.2.2.2.2.2.1 1 0) 0 w) := fun w => by rw [p_X6_count hC, hT]
  simp only [hc, Option.bind_some]
  rw [show r_count S (X.2.2.2.2.2.2.1 1 0) 0 0 = nI S.1.length from by unfold r_count; simp, if_pos hM.L.2.1.symm]
  rw [show r_count S (X.2.2.2.2.2.2.1 1 0) 0 1 = s_sum (fun x => x.2.1) S.1 0 from by unfold r_count; simp [s_bags_0], if_pos rfl]
  rw [show r_count S (X.2.2.2.2.2.2.1 1 0) 0 2 = g 0 0 from by rw [hM.g (j := 0) (by omega)]; unfold r_count; simp, if_pos rfl]
  rw [show r_count S (X.2.2.2.2.2.2.1 1 0) 0 3 = g 0 7 from by rw [hM.K.2.1]; unfold r_count; simp, if_pos rfl]
  rw [show r_count S (X.2.2.2.2.2.2.1 1 0) 0 4 = g 0 1 from by rw [hM.g (j := 1) (by omega)]; unfold r_count; simp, if_pos rfl]
  rw [show r_count S (X.2.2.2.2.2.2.1 1 0) 0 5 = g 0 2 from by rw [hM.g (j := 2) (by omega)]; unfold r_count; simp, if_pos rfl]
  rw [show r_count S (X.2.2.2.2.2.2.1 1 0) 0 6 = g 0 3 from by rw [hM.g (j := 3) (by omega)]; unfold r_count; simp, if_pos rfl]
  rw [show r_count S (X.2.2.2.2.2.2.1 1 0) 0 7 = g 0 4 from by rw [hM.g (j := 4) (by omega)]; unfold r_count; simp, if_pos rfl]
  rw [show r_count S (X.2.2.2.2.2.2.1 1 0) 0 8 = s_sum (fun x => if s_cup x (S.2.2.2.2 0) < 70 then 0 else x.2.1) S.1 0 from by unfold r_count; simp [s_bags_70], if_pos rfl]
  rw [show r_count S (X.2.2.2.2.2.2.1 1 0) 0 9 = S.2.2.2.2 5 from by unfold r_count; simp, if_pos h5.symm]
  rw [show r_count S (X.2.2.2.2.2.2.1 1 0) 0 11 = 0 from by unfold r_count; simp, if_pos rfl]
end ISSO
