/-! the law's payments and takings; the object's operations -/
theorem s_pay_lt {S : cr_S} {b : Nat} (hI : s_inv b S) {p : Int32} (hp : s_in p 1 999 = true) {j : Nat} (hj : j < S.1.length) : s_at S.1 (fun x => s_gain S.2.2.1 S.2.2.2.1 x p (S.2.2.2.2 0)) j < 2000000 := by
  obtain ⟨a, m, hm, ha, h0, h5, hd, hL, hK, hw, hs⟩ := hI
  have hx : S.1[j]? = some S.1[j] := List.getElem?_eq_getElem hj
  have hl := hL S.1[j] (List.getElem_mem hj)
  rw [s_at_of hx]
  obtain ⟨q, q1, q2, rfl⟩ := p_inN (a := 1) (b := 999) hp (by omega) (by omega)
  obtain ⟨k, k1, k2, k3⟩ := s_pay_n (a' := a) (p := q) (st := S.2.2.2.1) hl.1 (Nat.le_refl _) (by omega) hs q2
  obtain ⟨u, u1, u2, u3⟩ := p_inN (a := 1) (b := 999) (hw _ (s_band_lt (s_cup S.1[j] (nI a)))) (by omega) (by omega)
  unfold s_gain
  rw [h0, k3, u3, Int32.lt_iff_toInt_lt, pk_sub_toInt (by omega) (by omega)]
  have : (2000000 : Int32).toInt = 2000000 := rfl
  omega
theorem n_gives {S : cr_S} {g l c : cr_V} (hM : lwG S g l c) {b : Nat} (hI : s_inv b S) (v : cr_V) {p : Int32} (hp : s_in p 1 999 = true) : ∃ v', f_L_gives g l v p (S.2.2.2.2 0) = some (nI (s_deliver S.2.2.1 S.2.2.2.1 S.1 p (S.2.2.2.2 0)).length, v') ∧ vOut (s_deliver S.2.2.1 S.2.2.2.1 S.1 p (S.2.2.2.2 0)) S.1 v' ∧ (v' 0 24 ≤ 0) = (s_left (s_deliver S.2.2.1 S.2.2.2.1 S.1 p (S.2.2.2.2 0)) (S.2.2.2.1 0) ≤ 0) := by
  have h8 : g 0 8 = S.2.2.2.1 0 := hM.s (j := 0) (by omega)
  have h := n_gives_16 (w := S.2.2.1) (st := S.2.2.2.1) hM.L (hM.s (j := 2) (by omega)) (hM.s (j := 3) (by omega)) (fun j hj => hM.w hj) hI.old p 12 10100 [] (s_ok S.1 (S.2.2.2.2 0)) (S.2.2.2.1 0) 2000000 (-1) v ⟨by simp, fun i q x hq => by simp at hq⟩ (by simp) (by omega) (Nat.le_trans (s_cnt_le _ _) hM.L.1) (fun j hj => by
    unfold n_ok
    simp [s_pay_lt hI hp hj])
  rw [f_L_gives, h8]
  exact h
theorem n_paidAll_6 {L : List cr_Lot} {st : Nat → Int32} {g l v : cr_V} (hL : ldL L g l) (h2 : g 0 10 = st 2) (h3 : g 0 11 = st 3) {m : Int32} (ho : n_old L m) (hd : s_dist L) {P : List (Nat × Int32)} (hO : vOut P L v) (hp : ∀ q ∈ P, q.1 < L.length) (p : Int32) : ∀ (n i : Nat), i ≤ P.length → P.length - i < n → f_L_paidAll_6 n g l v p m (nI P.length) 0 (s_tot (s_at L (fun x => s_pay st x p m)) (P.take i) 0) (nI i) = some (s_tot (s_at L (fun x => s_pay st x p m)) P 0) := by
  have hl12 := hO.1
  intro n
  induction n with
  | zero => intro i a b; omega
  | succ n ih =>
    intro i hi hn
    rw [f_L_paidAll_6]
    by_cases hk : i = P.length
    · rw [if_pos (show nI P.length ≤ nI i from c_le P.length i rfl rfl (by omega) (by omega)), hk, List.take_length]
    · have hq : P[i]? = some P[i] := List.getElem?_eq_getElem (by omega)
      have hr : P[i].1 < L.length := hp _ (List.getElem_mem _)
      have hx : L[P[i].1]? = some L[P[i].1] := List.getElem?_eq_getElem hr
      obtain ⟨a1, a2⟩ := hO.2 i _ _ hq hx
      rw [if_neg (show ¬ nI P.length ≤ nI i from c_nle P.length i rfl rfl (by omega) (by omega)), n_y1, n_y0, if_pos (cr_inn (by omega) (by omega)), cr_xn (by omega), a1, n_find hL _ (s_dist_idx hd hx), Option.bind_some, if_pos (cr_inn (by omega) (by omega)), if_pos rfl, cr_xn (by omega), a2, n_paid hL h2 h3 ho hx, Option.bind_some, f_L_paidAll_64, nI_1]
      have := ih (i + 1) (by omega) (by omega)
      rw [p_take (by omega), s_tot_app, s_at_of hx] at this
      exact this
theorem n_meet_529 {S : cr_S} (hd : s_dist S.1) (hB : ∀ x ∈ S.1, s_in x.2.1 1 9999 = true) {P : List (Nat × Int32)} (hp : ∀ q ∈ P, q.1 < S.1.length ∧ ∃ u : Int32, 0 < u ∧ q.2 = s_take u (s_at S.1 (fun x => x.2.1) q.1)) (hnd : (P.map (·.1)).Nodup) {v c : cr_V} (hO : vOut P S.1 v) (X : cr_XT) (x7 pay : Int32) : ∀ (n i : Nat) (g l : cr_V), i ≤ P.length → P.length - i < n → lwG ((s_give (P.take i) S.1).filter s_full, S.2) g l c →
    ∃ n' g' l', f_L_actsM_529 n v g l c X x7 (nI P.length) pay (nI i) = f_L_actsM_529 (n' + 1) v g' l' c X x7 (nI P.length) pay (nI P.length) ∧ lwG ((s_give P S.1).filter s_full, S.2) g' l' c := by
  have hl12 := hO.1
  intro n
  induction n with
  | zero => intro i g l a b; omega
  | succ n ih =>
    intro i g l hi hn hM
    by_cases hkk : i = P.length
    · subst hkk
      rw [List.take_length] at hM
      exact ⟨n, g, l, rfl, hM⟩
    · have hq : P[i]? = some P[i] := List.getElem?_eq_getElem (by omega)
      obtain ⟨hr, u, hu, hqu⟩ := hp _ (List.getElem_mem (show i < P.length by omega))
      have hx : S.1[P[i].1]? = some S.1[P[i].1] := List.getElem?_eq_getElem hr
      rw [s_at_of hx] at hqu
      obtain ⟨a1, a2⟩ := hO.2 i _ _ hq hx
      have hbx := hB _ (List.getElem_mem hr)
      have hdG : s_dist (s_give (P.take i) S.1) := by unfold s_dist; rw [s_give_num]; exact hd
      have hnot : P[i].1 ∉ (P.take i).map (·.1) := fun h => by
        have hpw := List.pairwise_iff_getElem.mp hnd
        obtain ⟨q, hq1, hq2⟩ := List.mem_map.mp h
        obtain ⟨j, hj⟩ := List.getElem?_of_mem hq1
        have hjl := p_lt hj
        rw [List.length_take] at hjl
        rw [List.getElem?_take_of_lt (by omega)] at hj
        have hj2 : P[j] = q := (List.getElem?_eq_some_iff.mp hj).2
        refine hpw j i (by rw [List.length_map]; omega) (by rw [List.length_map]; omega) (by omega) ?_
        rw [List.getElem_map, List.getElem_map, hj2]; exact hq2
      have hxG : (s_give (P.take i) S.1)[P[i].1]? = some S.1[P[i].1] := by rw [s_give_other _ _ hnot]; exact hx
      have hzz : S.1[P[i].1].2.1 - P[i].2 = 0 ∨ 0 < S.1[P[i].1].2.1 - P[i].2 := by rw [hqu]; exact z_take hbx hu
      obtain ⟨k', c1, c2⟩ := s_takes_fl hdG hxG (z_full hbx) (b := P[i].2) hzz
      obtain ⟨y, hy1, hy2⟩ := cr_idx_some c1
      have hyx : y = S.1[P[i].1] := by
        have hm := List.mem_filter.mp (List.mem_of_getElem? hy1)
        obtain ⟨j, hj⟩ := List.getElem?_of_mem hm.1
        have := s_dist_ne hdG hj hxG hy2
        subst this
        rw [hj] at hxG; exact Option.some.inj hxG
      obtain ⟨g1, l1, d1, d2⟩ := n_takes hM (b := P[i].2) c1 (by
        show (s_get ((s_give (P.take i) S.1).filter s_full) k').2.1 - P[i].2 = 0 ∨ _
        rw [s_get_of hy1, hyx]; exact hzz)
      have d2 : lwG ((s_give (P.take (i + 1)) S.1).filter s_full, S.2) g1 l1 c := by
        rw [p_take (by omega), s_give_app, s_get_of hxG, ← c2]
        exact d2
      obtain ⟨n', g2, l2, e1, e2⟩ := ih (i + 1) g1 l1 (by omega) (by omega) d2
      refine ⟨n', g2, l2, ?_, e2⟩
      rw [f_L_actsM_529, if_neg (show ¬ nI P.length ≤ nI i from c_nle P.length i rfl rfl (by omega) (by omega)), n_y1, n_y0, if_pos (cr_inn (by omega) (by omega)), if_pos (cr_inn (by omega) (by omega)), cr_xn (by omega), cr_xn (by omega), a1, a2, d1, Option.bind_some, nI_1]
      exact e1
def s_ans (o : cr_R) : Int32 := match o with
  | .inl e => e
  | .inr q => q.1
def s_nxt (o : cr_R) (S : cr_S) : cr_S := match o with
  | .inl _ => S
  | .inr q => q.2
section UOPS
variable {b : Nat} {S : cr_S} {X : cr_XT}
theorem u_op {o : cr_R} {H : List cr_S} {out : Option (Int32 × cr_V × cr_V × cr_V × cr_V × cr_V × cr_V × cr_V × (Nat → Nat → cr_V))} (hO : p_OpX o S H out) (hT : X.2.2.2.2.2.2.2.2.2 1 0 = 0) (hi : s_Op b o) (hI : s_inv b S) : ∃ q, out = some q ∧ q.1 = s_ans o ∧ lwS (b + 1) (s_nxt o S) (cl_uX q.2 X) := by
  unfold p_OpX at hO
  cases o with
  | inl e =>
    obtain ⟨h, l, k, t, tl, tk, s, x, e1, e2, e3⟩ := hO
    exact ⟨_, e1, rfl, ⟨H, e2, e3⟩, hT, hI.mono (by omega)⟩
  | inr q =>
    obtain ⟨h, l, k, t, tl, tk, s, x, e1, e2, e3⟩ := hO
    exact ⟨_, e1, rfl, ⟨_, e2, e3⟩, hT, hi.2⟩
theorem u_lot (hS : lwS b S X) (hb : b < 2 ^ 30) (x1 x2 : Int32) : ∃ q, f_X6_lot X.1 X.2.1 X.2.2.1 X.2.2.2.1 X.2.2.2.2.1 X.2.2.2.2.2.1 X.2.2.2.2.2.2.1 X.2.2.2.2.2.2.2.1 X.2.2.2.2.2.2.2.2.1 X.2.2.2.2.2.2.2.2.2 x1 x2 = some q ∧ q.1 = s_ans (o_lot S x1 x2) ∧ lwS (b + 1) (s_nxt (o_lot S x1 x2) S) (cl_uX q.2 X) := by
  obtain ⟨⟨H, hC, hX⟩, hT, hI⟩ := hS
  exact u_op (p_X6_lot hI hb hC hX x1 x2) hT (i_lot hI hb x1 x2) hI
theorem u_part (hS : lwS b S X) (hb : b < 2 ^ 30) (x1 x2 : Int32) : ∃ q, f_X6_part X.1 X.2.1 X.2.2.1 X.2.2.2.1 X.2.2.2.2.1 X.2.2.2.2.2.1 X.2.2.2.2.2.2.1 X.2.2.2.2.2.2.2.1 X.2.2.2.2.2.2.2.2.1 X.2.2.2.2.2.2.2.2.2 x1 x2 = some q ∧ q.1 = s_ans (o_part S x1 x2) ∧ lwS (b + 1) (s_nxt (o_part S x1 x2) S) (cl_uX q.2 X) := by
  obtain ⟨⟨H, hC, hX⟩, hT, hI⟩ := hS
  exact u_op (p_X6_part hI hb hC hX x1 x2) hT (i_part hI hb x1 x2) hI
theorem u_blend (hS : lwS b S X) (hb : b < 2 ^ 30) (x1 x2 x3 x4 : Int32) : ∃ q, f_X6_blend X.1 X.2.1 X.2.2.1 X.2.2.2.1 X.2.2.2.2.1 X.2.2.2.2.2.1 X.2.2.2.2.2.2.1 X.2.2.2.2.2.2.2.1 X.2.2.2.2.2.2.2.2.1 X.2.2.2.2.2.2.2.2.2 x1 x2 x3 x4 = some q ∧ q.1 = s_ans (o_blend S x1 x2 x3 x4) ∧ lwS (b + 1) (s_nxt (o_blend S x1 x2 x3 x4) S) (cl_uX q.2 X) := by
  obtain ⟨⟨H, hC, hX⟩, hT, hI⟩ := hS
  exact u_op (p_X6_blend hI hb hC hX x1 x2 x3 x4) hT (i_blend hI hb x1 x2 x3 x4) hI
theorem u_cup (hS : lwS b S X) (x1 : Int32) : ∃ q, f_X6_cup X.1 X.2.1 X.2.2.1 X.2.2.2.1 X.2.2.2.2.1 X.2.2.2.2.2.1 X.2.2.2.2.2.2.1 X.2.2.2.2.2.2.2.1 X.2.2.2.2.2.2.2.2.1 X.2.2.2.2.2.2.2.2.2 x1 = some q ∧ q.1 = s_ans (o_cup S x1) ∧ lwS (b + 1) (s_nxt (o_cup S x1) S) (cl_uX q.2 X) := by
  obtain ⟨⟨H, hC, hX⟩, hT, hI⟩ := hS
  exact u_op (p_X6_cup hI hC hX x1) hT (i_cup hI x1) hI
theorem u_worth (hS : lwS b S X) (x1 x2 : Int32) : ∃ q, f_X6_worth X.1 X.2.1 X.2.2.1 X.2.2.2.1 X.2.2.2.2.1 X.2.2.2.2.2.1 X.2.2.2.2.2.2.1 X.2.2.2.2.2.2.2.1 X.2.2.2.2.2.2.2.2.1 X.2.2.2.2.2.2.2.2.2 x1 x2 = some q ∧ q.1 = s_ans (o_worth S x1 x2) ∧ lwS (b + 1) (s_nxt (o_worth S x1 x2) S) (cl_uX q.2 X) := by
  obtain ⟨⟨H, hC, hX⟩, hT, hI⟩ := hS
  exact u_op (p_X6_worth hI hC hX x1 x2) hT (i_worth hI x1 x2) hI
theorem u_sell (hS : lwS b S X) (x1 x2 : Int32) : ∃ q, f_X6_sell X.1 X.2.1 X.2.2.1 X.2.2.2.1 X.2.2.2.2.1 X.2.2.2.2.2.1 X.2.2.2.2.2.2.1 X.2.2.2.2.2.2.2.1 X.2.2.2.2.2.2.2.2.1 X.2.2.2.2.2.2.2.2.2 x1 x2 = some q ∧ q.1 = s_ans (o_sell S x1 x2) ∧ lwS (b + 1) (s_nxt (o_sell S x1 x2) S) (cl_uX q.2 X) := by
  obtain ⟨⟨H, hC, hX⟩, hT, hI⟩ := hS
  exact u_op (p_X6_sell hI hC hX x1 x2) hT (i_sell hI hC.2.1.1 x1 x2) hI
theorem u_set (hS : lwS b S X) (x1 x2 : Int32) : ∃ q, f_X6_set X.1 X.2.1 X.2.2.1 X.2.2.2.1 X.2.2.2.2.1 X.2.2.2.2.2.1 X.2.2.2.2.2.2.1 X.2.2.2.2.2.2.2.1 X.2.2.2.2.2.2.2.2.1 X.2.2.2.2.2.2.2.2.2 x1 x2 = some q ∧ q.1 = s_ans (o_set S x1 x2) ∧ lwS (b + 1) (s_nxt (o_set S x1 x2) S) (cl_uX q.2 X) := by
  obtain ⟨⟨H, hC, hX⟩, hT, hI⟩ := hS
  exact u_op (p_X6_set hI hC hX x1 x2) hT (i_set hI x1 x2) hI
theorem u_buyBack (hS : lwS b S X) (x1 x2 : Int32) : ∃ q, f_X6_buyBack X.1 X.2.1 X.2.2.1 X.2.2.2.1 X.2.2.2.2.1 X.2.2.2.2.2.1 X.2.2.2.2.2.2.1 X.2.2.2.2.2.2.2.1 X.2.2.2.2.2.2.2.2.1 X.2.2.2.2.2.2.2.2.2 x1 x2 = some q ∧ q.1 = s_ans (o_buy S x1 x2) ∧ lwS (b + 1) (s_nxt (o_buy S x1 x2) S) (cl_uX q.2 X) := by
  obtain ⟨⟨H, hC, hX⟩, hT, hI⟩ := hS
  exact u_op (p_X6_buyBack hI hC hX x1 x2) hT (i_buy hI hC.2.1.1 x1 x2) hI
theorem u_pass (hS : lwS b S X) (x1 : Int32) : ∃ q, f_X6_pass X.1 X.2.1 X.2.2.1 X.2.2.2.1 X.2.2.2.2.1 X.2.2.2.2.2.1 X.2.2.2.2.2.2.1 X.2.2.2.2.2.2.2.1 X.2.2.2.2.2.2.2.2.1 X.2.2.2.2.2.2.2.2.2 x1 = some q ∧ q.1 = s_ans (o_pass S x1) ∧ lwS (b + 1) (s_nxt (o_pass S x1) S) (cl_uX q.2 X) := by
  obtain ⟨⟨H, hC, hX⟩, hT, hI⟩ := hS
  exact u_op (p_X6_pass hI hC hX x1) hT (i_pass hI hC.2.1.1 x1) hI
theorem u_meet (hS : lwS b S X) (x1 : Int32) : ∃ q, f_X6_meet X.1 X.2.1 X.2.2.1 X.2.2.2.1 X.2.2.2.2.1 X.2.2.2.2.2.1 X.2.2.2.2.2.2.1 X.2.2.2.2.2.2.2.1 X.2.2.2.2.2.2.2.2.1 X.2.2.2.2.2.2.2.2.2 x1 = some q ∧ q.1 = s_ans (o_meet S x1) ∧ lwS (b + 1) (s_nxt (o_meet S x1) S) (cl_uM q.2 X) := by
  obtain ⟨⟨H, hC, hX⟩, hT, hI⟩ := hS
  have hO := p_X6_meet (vt := X.2.2.2.1) (vtl := X.2.2.2.2.1) (vtk := X.2.2.2.2.2.1) (vd := X.2.2.2.2.2.2.2.2.1) (vo := X.2.2.2.2.2.2.2.2.2) hI hC hX x1
  have hi := i_meet hI hC.1.1 hC.2.1.1 x1
  unfold p_OpM at hO
  cases ho : o_meet S x1 with
  | inl e =>
    rw [ho] at hO
    obtain ⟨h, l, k, t, tl, tk, s, x, d, e1, e2, e3⟩ := hO
    exact ⟨_, e1, rfl, ⟨H, e2, e3⟩, hT, hI.mono (by omega)⟩
  | inr q =>
    rw [ho] at hO hi
    obtain ⟨h, l, k, t, tl, tk, s, x, d, e1, e2, e3⟩ := hO
    exact ⟨_, e1, rfl, ⟨_, e2, e3⟩, hT, hi.2⟩
end UOPS
