/-! the law's acts on contracts; any act -/
theorem s_openK {n k : Nat} (hk : k < n) (hn : n < 2 ^ 31) : s_open n (nI k) = 1 := by
  unfold s_open
  rw [if_neg (nI_pos (by omega)), if_neg (nI_ge hk hn)]
section ACTT
variable {b : Nat} {S : cr_S} {g l c : cr_V} {X : cr_XT}
theorem n_actsM (h : LWS b S g l c X) {k : Nat} (hk : k < S.2.1.length) (v : cr_V) : ActOK b (f_L_actsM v g l c X (nI k)) := by
  obtain ⟨hS, hM, hi⟩ := h
  have hI := hS.2.2
  have hK := hM.K
  have h6 := hK.1
  have g0 : g 0 0 = S.2.2.2.2 0 := hM.g (j := 0) (by omega)
  have hc : S.2.1[k]? = some S.2.1[k] := List.getElem?_eq_getElem hk
  have hcm := List.getElem_mem hk
  generalize hy : S.2.1[k] = y at *
  obtain ⟨a1, a2⟩ := hK.2.2 k y hc
  have hp : s_in y.2 1 999 = true := by
    obtain ⟨a, m, hm, ha, h0, h5, hd, hL, hKI, hr⟩ := id hI
    exact (hKI y hcm).2
  have hop := s_openK hk (by omega)
  obtain ⟨q, q1, q2, q3⟩ := u_meet hS (nI k)
  have ho : o_meet S (nI k) = (if y.1 = S.2.2.2.2 0 then
      (if s_left (s_deliver S.2.2.1 S.2.2.2.1 S.1 y.2 (S.2.2.2.2 0)) (S.2.2.2.1 0) ≤ 0 then
        .inr (s_tot (s_at S.1 (fun x => s_pay S.2.2.2.1 x y.2 (S.2.2.2.2 0))) (s_deliver S.2.2.1 S.2.2.2.1 S.1 y.2 (S.2.2.2.2 0)) 0,
          (s_give (s_deliver S.2.2.1 S.2.2.2.1 S.1 y.2 (S.2.2.2.2 0)) S.1).filter s_full, S.2.1.eraseIdx k, S.2.2.1, S.2.2.2.1,
          upd (upd (upd S.2.2.2.2 1 (S.2.2.2.2 1 + s_tot (s_at S.1 (fun x => s_pay S.2.2.2.1 x y.2 (S.2.2.2.2 0))) (s_deliver S.2.2.1 S.2.2.2.1 S.1 y.2 (S.2.2.2.2 0)) 0)) 2 (S.2.2.2.2 2 + 1)) 4 (S.2.2.2.2 4 + S.2.2.2.1 0))
      else .inl (-2000000002)) else .inl (-2000000002)) := by
    unfold o_meet
    rw [hop, if_pos rfl, cr_xn (show k < 2 ^ 31 by omega), s_con_of hc]
  rw [ho] at q2 q3
  obtain ⟨v', e1, e2, e3⟩ := n_gives hM hI v hp
  have h486 : q.1 = (-2000000002) → lwS (b + 1) S (cl_uM q.2 X) → ActOK b (f_L_actsM_486 v' g l c X (nI k)) := fun u1 u2 => by
    rw [f_L_actsM_486, q1, Option.bind_some, if_pos u1]
    exact ⟨S, _, _, _, _, rfl, LWS.mono (b := b + 1) ⟨u2, hM, hi⟩ (by omega)⟩
  rw [f_L_actsM, n_y1, n_y0, if_pos (cr_inn (by omega) (by omega)), cr_xn (by omega), a2, g0, e1, Option.bind_some, if_pos (cr_inn (by omega) (by omega)), cr_xn (by omega), a1]
  by_cases c1n : ¬ y.1 = S.2.2.2.2 0
  · rw [if_neg c1n] at q2 q3
    rw [if_neg c1n]
    exact h486 q2 q3
  have c1 : y.1 = S.2.2.2.2 0 := Classical.byContradiction c1n
  rw [if_pos c1] at q2 q3
  rw [if_pos c1]
  by_cases c2n : ¬ s_left (s_deliver S.2.2.1 S.2.2.2.1 S.1 y.2 (S.2.2.2.2 0)) (S.2.2.2.1 0) ≤ 0
  · rw [if_neg c2n] at q2 q3
    rw [if_neg (show ¬ v' 0 24 ≤ 0 by rw [e3]; exact c2n)]
    exact h486 q2 q3
  have c2 := Classical.byContradiction c2n
  rw [if_pos c2] at q2 q3
  rw [if_pos (show v' 0 24 ≤ 0 by rw [e3]; exact c2)]
  dsimp only
  have hd := hI.dist
  have hB := hI.bag
  have hfl : S.1.filter s_full = S.1 := List.filter_eq_self.mpr fun z hz => z_full (hB z hz)
  have hpm : ∀ t ∈ s_deliver S.2.2.1 S.2.2.2.1 S.1 y.2 (S.2.2.2.2 0), t.1 < S.1.length ∧ ∃ u : Int32, 0 < u ∧ t.2 = s_take u (s_at S.1 (fun x => x.2.1) t.1) := fun t ht => by
    obtain ⟨d1, d2, d3⟩ := s_plan_mem ht
    exact ⟨d1, d3⟩
  have hnd : ((s_deliver S.2.2.1 S.2.2.2.1 S.1 y.2 (S.2.2.2.2 0)).map (·.1)).Nodup := s_plan_nd
  generalize s_deliver S.2.2.1 S.2.2.2.1 S.1 y.2 (S.2.2.2.2 0) = P at *
  have hl12 := e2.1
  have hpa := n_paidAll_6 (st := S.2.2.2.1) hM.L (hM.s (j := 2) (by omega)) (hM.s (j := 3) (by omega)) hI.old hd e2 (fun t ht => (hpm t ht).1) y.2 10100 0 (by omega) (by omega)
  have hpa : f_L_paidAll g l v' y.2 (S.2.2.2.2 0) (nI P.length) 0 = some (s_tot (s_at S.1 (fun x => s_pay S.2.2.2.1 x y.2 (S.2.2.2.2 0))) P 0) := hpa
  rw [hpa, Option.bind_some]
  generalize s_tot (s_at S.1 (fun x => s_pay S.2.2.2.1 x y.2 (S.2.2.2.2 0))) P 0 = pay at *
  obtain ⟨n', g1, l1, d1, d2⟩ := n_meet_529 (S := S) hd hB hpm hnd (v := v') (c := c) e2 X (nI k) pay 10100 0 g l (by omega) (by omega) (by
    rw [List.take_zero, s_give, hfl]; exact hM)
  have d1 : f_L_actsM_529 10100 v' g l c X (nI k) (nI P.length) pay 0 = f_L_actsM_529 (n' + 1) v' g1 l1 c X (nI k) (nI P.length) pay (nI P.length) := d1
  rw [d1, f_L_actsM_529, if_pos (Int32.le_refl _)]
  have h1 : g1 0 1 = S.2.2.2.2 1 := d2.g (j := 1) (by omega)
  have h2 : (cr_a g1 0 1 (S.2.2.2.2 1 + pay)) 0 2 = S.2.2.2.2 2 := by rw [cr_as, pk_un (by omega)]; exact d2.g (j := 2) (by omega)
  have h4 : (cr_a (cr_a g1 0 1 (S.2.2.2.2 1 + pay)) 0 2 (S.2.2.2.2 2 + 1)) 0 4 = S.2.2.2.2 4 := by rw [cr_as, pk_un (by omega), cr_as, pk_un (by omega)]; exact d2.g (j := 4) (by omega)
  have h8 : (cr_a (cr_a g1 0 1 (S.2.2.2.2 1 + pay)) 0 2 (S.2.2.2.2 2 + 1)) 0 8 = S.2.2.2.1 0 := by rw [cr_as, pk_un (by omega), cr_as, pk_un (by omega)]; exact d2.s (j := 0) (by omega)
  rw [h1, h2, h4, h8]
  have m1 := n_num d2 (k := 1) (by omega) (S.2.2.2.2 1 + pay)
  have m2 := n_num m1 (k := 2) (by omega) (S.2.2.2.2 2 + 1)
  have m3 := n_num m2 (k := 4) (by omega) (S.2.2.2.2 4 + S.2.2.2.1 0)
  obtain ⟨g2, c2', f1, f2⟩ := n_close m3 (k := k) hk
  rw [f1, Option.bind_some, q1, Option.bind_some, if_pos (show q.1 = pay from q2)]
  refine ⟨_, _, _, _, _, rfl, LWS.mono (b := b + 1) ⟨q3, f2, ?_⟩ (by omega)⟩
  exact (hi.eq (s_give_num P S.1)).fl s_full
theorem n_acts_327 (h : LWS b S g l c X) {W Y k : Nat} (hY : Y < 10000000) (hk : S.2.1.length = 0 ∨ k < S.2.1.length) : ActOK b (f_L_acts_327 g l c X (nI Y) (nI W) (nI k)) := by
  have hK := h.2.1.K
  have h6 := hK.1
  rw [f_L_acts_327, hK.2.1]
  by_cases h0 : S.2.1.length = 0
  · obtain ⟨hS, hM, hi⟩ := h
    rw [if_pos (show nI S.2.1.length = 0 by rw [h0]; rfl)]
    have hop : s_open S.2.1.length 0 = 0 := by rw [h0]; decide
    obtain ⟨q, q1, q2, q3⟩ := u_meet hS 0
    have o1 : o_meet S 0 = .inl (-2000000001) := by
      unfold o_meet; rw [hop, if_neg (by decide)]
    rw [o1] at q2 q3
    rw [q1, Option.bind_some, if_pos (show q.1 = (-2000000001) from q2)]
    obtain ⟨r, r1, r2, r3⟩ := u_buyBack (S := S) q3 0 1
    have o2 : o_buy S 0 1 = .inl (-2000000001) := by
      unfold o_buy; rw [hop, if_neg (by decide)]
    rw [o2] at r2 r3
    rw [r1, Option.bind_some, if_pos (show r.1 = (-2000000001) from r2)]
    exact ⟨S, _, _, _, _, rfl, LWS.mono (b := b + 1 + 1) ⟨r3, hM, hi⟩ (by omega)⟩
  · have hk : k < S.2.1.length := hk.resolve_left h0
    rw [if_neg (nI_ne0 (by omega) (by omega))]
    by_cases hW : nI W = 15
    · rw [if_pos hW, n_y1, if_pos (cr_inn (by omega) (by omega)), cr_xn (by omega)]
      have ep : (1 : Int32) + (nI Y / 6 - nI Y / 6 / 999 * 999) = nI (1 + Y / 6 % 999) := by
        rw [show (6 : Int32) = nI 6 from rfl, pk_div (by omega) (by omega) (by omega), show (999 : Int32) = nI 999 from rfl, pk_rem (by omega) (by omega) (by omega), show (1 : Int32) = nI 1 from rfl, nI_add]
      have kp : s_in (nI (1 + Y / 6 % 999)) 1 999 = true := z_inI (a := 1) (b := 999) rfl rfl (by omega) (by omega) (by omega)
      rw [ep]
      generalize nI (1 + Y / 6 % 999) = p at *
      obtain ⟨hS, hM, hi⟩ := h
      have hc : S.2.1[k]? = some S.2.1[k] := List.getElem?_eq_getElem hk
      generalize S.2.1[k] = y at *
      obtain ⟨a1, a2⟩ := hK.2.2 k y hc
      have g8 : g 0 8 = S.2.2.2.1 0 := hM.s (j := 0) (by omega)
      have g1 : g 0 1 = S.2.2.2.2 1 := hM.g (j := 1) (by omega)
      rw [a2, g8, n_by, g1]
      obtain ⟨q, q1, q2, q3⟩ := u_buyBack hS (nI k) p
      have ho : o_buy S (nI k) p = .inr (S.2.2.2.1 0 * (y.2 - p), S.1, S.2.1.eraseIdx k, S.2.2.1, S.2.2.2.1, upd S.2.2.2.2 1 (S.2.2.2.2 1 + S.2.2.2.1 0 * (y.2 - p))) := by
        unfold o_buy
        rw [if_pos ⟨s_openK hk (by omega), kp⟩, cr_xn (show k < 2 ^ 31 by omega), s_con_of hc]
      rw [ho] at q2 q3
      have m1 := n_num hM (k := 1) (by omega) (S.2.2.2.2 1 + S.2.2.2.1 0 * (y.2 - p))
      obtain ⟨g2, c2, f1, f2⟩ := n_close m1 (k := k) hk
      rw [f1, Option.bind_some, q1, Option.bind_some, if_pos (show q.1 = S.2.2.2.1 0 * (y.2 - p) from q2)]
      exact ⟨_, _, _, _, _, rfl, LWS.mono (b := b + 1) ⟨q3, f2, hi⟩ (by omega)⟩
    · rw [if_neg hW]
      exact n_actsM h hk _
theorem n_low (x : Int32) {n : Nat} {N : Int32} (hN : N = nI n) (h0 : 0 < n) (hn : n < 2 ^ 31) : ∃ j, j < n ∧ f_L_low x N = some (nI j) := by
  obtain ⟨a, ha, e⟩ := pk_andE x (m := 2147483647) 31 (by decide)
  subst hN
  refine ⟨a % n, Nat.mod_lt a h0, ?_⟩
  rw [f_L_low, if_neg (nI_ne0 h0 hn), e, pk_rem (by omega) h0 hn]
theorem n_acts (h : LWS b S g l c X) (hb : b + 4 < 2 ^ 30) (x4 : Int32) : ActOK b (f_L_acts g l c X x4) := by
  obtain ⟨Y, hY, eY⟩ := n_low (x4 >>> (5 &&& 31)) (n := 10000000) (N := 10000000) rfl (by omega) (by omega)
  obtain ⟨W, hW, eW⟩ := n_low x4 (n := 26) (N := 26) rfl (by omega) (by omega)
  have hL := h.2.1
  have hK := hL.K
  have h6 := hK.1
  have rem : ∀ d : Nat, 0 < d → d < 2 ^ 31 → nI Y - nI Y / nI d * nI d = nI (Y % d) := fun d h1 h2 => pk_rem (by omega) h1 h2
  have e5 : nI Y / 5 = nI (Y / 5) := by rw [show (5 : Int32) = nI 5 from rfl, pk_div (by omega) (by omega) (by omega)]
  have rem5 : ∀ d : Nat, 0 < d → d < 2 ^ 31 → nI (Y / 5) - nI (Y / 5) / nI d * nI d = nI (Y / 5 % d) := fun d h1 h2 => pk_rem (by omega) h1 h2
  rw [f_L_acts, eY, Option.bind_some, eW, Option.bind_some, hK.2.1]
  by_cases w11n : ¬ 11 ≤ W
  · rw [if_neg (show ¬ (11 : Int32) ≤ nI W from c_nle 11 W rfl rfl (by omega) (by omega))]
    by_cases w5 : 5 ≤ W
    · rw [if_pos (show (5 : Int32) ≤ nI W from c_le 5 W rfl rfl w5 (by omega))]
      by_cases w7 : 7 ≤ W
      · rw [if_pos (show (7 : Int32) ≤ nI W from c_le 7 W rfl rfl w7 (by omega))]
        by_cases e7 : W = 7
        · rw [if_pos (show nI W = 7 by rw [e7]; rfl)]
          exact n_acts_63 h hb (W := 2) (by omega) hY
        · rw [if_neg (show ¬ nI W = 7 from fun e => e7 (nI_inj (by omega) (by omega) e))]
          exact n_acts_63 h hb (W := 3) (by omega) hY
      · rw [if_neg (show ¬ (7 : Int32) ≤ nI W from c_nle 7 W rfl rfl (by omega) (by omega))]
        exact n_acts_63 h hb (W := 1) (by omega) hY
    · rw [if_neg (show ¬ (5 : Int32) ≤ nI W from c_nle 5 W rfl rfl (by omega) (by omega))]
      exact n_acts_63 h hb (W := 0) (by omega) hY
  have w11 : 11 ≤ W := by omega
  rw [if_pos (show (11 : Int32) ≤ nI W from c_le 11 W rfl rfl w11 (by omega))]
  by_cases w15n : ¬ 15 ≤ W
  · rw [if_neg (show ¬ (15 : Int32) ≤ nI W from c_nle 15 W rfl rfl (by omega) (by omega))]
    by_cases h3 : nI Y - nI Y / 3 * 3 = 0
    · rw [if_pos h3]; exact n_acts_94 h (d := 40) (by omega) (by omega) hY _
    · rw [if_neg h3]; exact n_acts_94 h (d := 5) (by omega) (by omega) hY _
  have w15 : 15 ≤ W := by omega
  rw [if_pos (show (15 : Int32) ≤ nI W from c_le 15 W rfl rfl w15 (by omega))]
  by_cases w20n : ¬ 20 ≤ W
  · rw [if_neg (show ¬ (20 : Int32) ≤ nI W from c_nle 20 W rfl rfl (by omega) (by omega))]
    by_cases l0 : S.2.1.length = 0
    · rw [if_pos (show nI S.2.1.length = 0 by rw [l0]; rfl)]
      exact n_acts_327 h (k := 0) hY (Or.inl l0)
    · have hne : ¬ nI S.2.1.length = 0 := nI_ne0 (by omega) (by omega)
      rw [if_neg hne, if_neg hne, rem S.2.1.length (by omega) (by omega)]
      exact n_acts_327 h hY (Or.inr (Nat.mod_lt Y (by omega)))
  have w20 : 20 ≤ W := by omega
  rw [if_pos (show (20 : Int32) ≤ nI W from c_le 20 W rfl rfl w20 (by omega))]
  by_cases w23n : ¬ 23 ≤ W
  · rw [if_neg (show ¬ (23 : Int32) ≤ nI W from c_nle 23 W rfl rfl (by omega) (by omega))]
    by_cases h3 : nI Y - nI Y / 4 * 4 = 0
    · rw [if_pos h3]; exact n_acts_635 h (d := 24) (by omega) (by omega) hY
    · rw [if_neg h3]; exact n_acts_635 h (d := 3) (by omega) (by omega) hY
  have w23 : 23 ≤ W := by omega
  rw [if_pos (show (23 : Int32) ≤ nI W from c_le 23 W rfl rfl w23 (by omega))]
  by_cases e23 : W = 23
  · rw [if_pos (show nI W = 23 by rw [e23]; rfl)]
    obtain ⟨hS, hM, hi⟩ := h
    have r4 : nI Y - nI Y / 4 * 4 = nI (Y % 4) := rem 4 (by omega) (by omega)
    have r400 : (1 : Int32) + (nI Y / 4 - nI Y / 4 / 400 * 400) = nI (1 + Y / 4 % 400) := by
      rw [show (4 : Int32) = nI 4 from rfl, pk_div (by omega) (by omega) (by omega), show (400 : Int32) = nI 400 from rfl, pk_rem (by omega) (by omega) (by omega), show (1 : Int32) = nI 1 from rfl, nI_add]
    rw [r4, r400, show (13 : Int32) = nI 13 from rfl, nI_add, if_pos (cr_inn (by omega) (by omega)), cr_xn (by omega), cr_as, pk_us]
    have hmod := Nat.mod_lt Y (show 0 < 4 by omega)
    generalize Y % 4 = k at *
    have kv : s_in (nI (1 + Y / 4 % 400)) 1 999 = true := z_inI (a := 1) (b := 999) rfl rfl (by omega) (by omega) (by omega)
    generalize nI (1 + Y / 4 % 400) = u at *
    obtain ⟨q, q1, q2, q3⟩ := u_worth hS (nI k) u
    have ho : o_worth S (nI k) u = .inr (S.2.2.1 k, S.1, S.2.1, upd S.2.2.1 k u, S.2.2.2.1, S.2.2.2.2) := by
      unfold o_worth
      rw [z_inI (n := k) (a := 0) (b := 3) (A := 0) (B := 3) rfl rfl (by omega) (by omega) (by omega), kv, cr_xn (show k < 2 ^ 31 by omega)]
      rfl
    rw [ho] at q2 q3
    rw [q1, Option.bind_some, if_pos (show q.1 = g 0 (13 + k) by rw [hM.w hmod]; exact q2)]
    exact ⟨_, _, _, _, _, rfl, LWS.mono (b := b + 1) ⟨q3, n_setW hM hmod _, hi⟩ (by omega)⟩
  · rw [if_neg (show ¬ nI W = 23 from fun e => e23 (nI_inj (by omega) (by omega) e))]
    have r5 : nI Y - nI Y / 5 * 5 = nI (Y % 5) := rem 5 (by omega) (by omega)
    have hmod := Nat.mod_lt Y (show 0 < 5 by omega)
    rw [r5, e5]
    generalize Y % 5 = k at *
    by_cases k0 : k = 0
    · rw [if_pos (show nI k = 0 by rw [k0]; rfl), show (1 : Int32) + (nI (Y / 5) - nI (Y / 5) / 250 * 250) = nI (1 + Y / 5 % 250) from by rw [show (250 : Int32) = nI 250 from rfl, rem5 250 (by omega) (by omega), show (1 : Int32) = nI 1 from rfl, nI_add]]
      exact n_acts_896 h hmod (by rw [k0]; exact z_inI (a := 1) (b := 250) rfl rfl (by omega) (by omega) (by omega))
    rw [if_neg (nI_ne0 (by omega) (by omega))]
    by_cases k1 : k = 1
    · rw [if_pos (show nI k = 1 by rw [k1]; rfl), show (1 : Int32) + (nI (Y / 5) - nI (Y / 5) / 4095 * 4095) = nI (1 + Y / 5 % 4095) from by rw [show (4095 : Int32) = nI 4095 from rfl, rem5 4095 (by omega) (by omega), show (1 : Int32) = nI 1 from rfl, nI_add]]
      exact n_acts_896 h hmod (by rw [k1]; exact z_inI (a := 1) (b := 4095) rfl rfl (by omega) (by omega) (by omega))
    rw [if_neg (show ¬ nI k = 1 from fun e => k1 (nI_inj (by omega) (by omega) e))]
    by_cases k4 : k = 4
    · rw [if_pos (show nI k = 4 by rw [k4]; rfl), show nI (Y / 5) - nI (Y / 5) / 1000 * 1000 = nI (Y / 5 % 1000) from rem5 1000 (by omega) (by omega)]
      exact n_acts_896 h hmod (by rw [k4]; exact z_inI (a := 0) (b := 999) rfl rfl (by omega) (by omega) (by omega))
    rw [if_neg (show ¬ nI k = 4 from fun e => k4 (nI_inj (by omega) (by omega) e)), show nI (Y / 5) - nI (Y / 5) / 51 * 51 = nI (Y / 5 % 51) from rem5 51 (by omega) (by omega)]
    refine n_acts_896 h hmod ?_
    rcases (show k = 2 ∨ k = 3 by omega) with rfl | rfl
    · exact z_inI (a := 0) (b := 50) rfl rfl (by omega) (by omega) (by omega)
    · exact z_inI (a := 0) (b := 50) rfl rfl (by omega) (by omega) (by omega)
end ACTT
