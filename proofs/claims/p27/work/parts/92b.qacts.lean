/-! the law's other acts -/
def ActOK (b : Nat) (out : Option (Int32 × cr_V × cr_V × cr_V × cr_XT)) : Prop := ∃ S' g' l' c' X', out = some (1, g', l', c', X') ∧ LWS (b + 3) S' g' l' c' X'
theorem n_and1 (v : Int32) : (v &&& 1 = 0) = ¬ (v &&& 1 = 1) := by
  obtain ⟨j, hj, e⟩ := pk_andE v (m := 1) 1 (by decide)
  rw [e]
  rcases (show j = 0 ∨ j = 1 by omega) with rfl | rfl
  · exact propext ⟨fun _ => by decide, fun _ => rfl⟩
  · exact propext ⟨fun h => absurd h (by decide), fun h => absurd rfl h⟩
theorem n_by (a b c : Int32) : a * b - a * c = a * (b - c) := by grind
section ACTS
variable {b : Nat} {S : cr_S} {g l c : cr_V} {X : cr_XT}
theorem n_acts_63 (h : LWS b S g l c X) (hb : b + 4 < 2 ^ 30) {W Y : Nat} (hW3 : W ≤ 3) (hY : Y < 10000000) : ActOK b (f_L_acts_63 g l c X (nI Y) (nI W)) := by
  obtain ⟨S', g', l', X', e1, e2⟩ := n_lots h hb hW3 hY
  refine ⟨S', g', l', c, X', ?_, e2⟩
  rw [f_L_acts_63, e1, Option.bind_some, if_pos (show cr_bool ((1 : Int32), g', l', X').1 = true from (by decide : cr_bool 1 = true))]
theorem n_acts_151 (h : LWS b S g l c X) {x7 x8 : Int32} (ho : o_sell S x7 x8 = .inl (-2000000001)) : ActOK b (f_L_acts_151 g l c X x7 x8) := by
  obtain ⟨hS, hM, hi⟩ := h
  obtain ⟨q, q1, q2, q3⟩ := u_sell hS x7 x8
  rw [ho] at q2 q3
  refine ⟨S, g, l, c, _, ?_, LWS.mono (b := b + 1) ⟨q3, hM, hi⟩ (by omega)⟩
  rw [f_L_acts_151, q1, Option.bind_some, if_pos (show q.1 = (-2000000001) from q2)]
theorem n_con (hM : lwG S g l c) {m p : Int32} (h6 : S.2.1.length < 6) : lwG (S.1, S.2.1 ++ [(m, p)], S.2.2) (cr_a g 0 7 (nI (S.2.1.length + 1))) l (cr_a (cr_a c 0 (2 * S.2.1.length) m) 0 (2 * S.2.1.length + 1) p) := by
  unfold lwG
  rw [mg_ug (by omega), mg_uc, mg_uc]
  obtain ⟨⟨l1, l2, l3⟩, ⟨k1, k2, k3⟩, w1, w2, w3⟩ := hM
  generalize mg g l c = s at *
  refine ⟨⟨l1, ?_, fun j x hx => ?_⟩, ⟨?_, ?_, fun j x hx => ?_⟩, fun j hj => ?_, fun j hj => ?_, fun j hj => ?_⟩
  · rw [pk_un (by omega), pk_un (by omega), pk_un (by omega)]; exact l2
  · have := p_lt hx
    obtain ⟨a1, a2, a3, a4⟩ := l3 j x hx
    have hj : j < 12 := by have : j < S.1.length := p_lt hx; omega
    refine ⟨?_, ?_, ?_, ?_⟩
    · rw [pk_un (by omega), pk_un (by omega), pk_un (by omega)]; exact a1
    · rw [pk_un (by omega), pk_un (by omega), pk_un (by omega)]; exact a2
    · rw [pk_un (by omega), pk_un (by omega), pk_un (by omega)]; exact a3
    · rw [pk_un (by omega), pk_un (by omega), pk_un (by omega)]; exact a4
  · show (S.2.1 ++ [(m, p)]).length ≤ 6
    rw [List.length_append]; simp; omega
  · rw [pk_us]
    show _ = nI (S.2.1 ++ [(m, p)]).length
    rw [List.length_append]; rfl
  · by_cases hj : j < S.2.1.length
    · have hx : (S.2.1 ++ [(m, p)])[j]? = some x := hx
      rw [List.getElem?_append_left hj] at hx
      obtain ⟨a1, a2⟩ := k3 j x hx
      refine ⟨?_, ?_⟩
      · rw [pk_un (by omega), pk_un (by omega), pk_un (by omega)]; exact a1
      · rw [pk_un (by omega), pk_un (by omega), pk_un (by omega)]; exact a2
    · have hl := p_lt hx
      have hl : j < (S.2.1 ++ [(m, p)]).length := hl
      rw [List.length_append] at hl
      simp at hl
      have hj2 : j = S.2.1.length := by omega
      subst hj2
      have hx : (S.2.1 ++ [(m, p)])[S.2.1.length]? = some x := hx
      rw [List.getElem?_append_right (Nat.le_refl _)] at hx
      simp at hx
      subst hx
      refine ⟨?_, ?_⟩
      · rw [pk_un (by omega), pk_un (by omega), pk_us]
      · rw [pk_un (by omega), show 70 + 2 * S.2.1.length = 69 + (2 * S.2.1.length + 1) by omega, pk_us]
  · rw [pk_un (by omega), pk_un (by omega), pk_un (by omega)]; exact w1 j hj
  · rw [pk_un (by omega), pk_un (by omega), pk_un (by omega)]; exact w2 j hj
  · rw [pk_un (by omega), pk_un (by omega), pk_un (by omega)]; exact w3 j hj
theorem n_acts_134 (h : LWS b S g l c X) (x7 : Int32) {d Z : Nat} (h0 : 0 < d) (hd : d ≤ 999) (hZ : Z < 10000000) : ActOK b (f_L_acts_134 g l c X x7 (nI d) (nI Z) 1) := by
  have hmod := Nat.mod_lt Z h0
  have ep : (1 : Int32) + (nI Z - nI Z / nI d * nI d) = nI (1 + Z % d) := by rw [pk_rem (by omega) h0 (by omega), show (1 : Int32) = nI 1 from rfl, nI_add]
  have kp : s_in (nI (1 + Z % d)) 1 999 = true := z_inI (a := 1) (b := 999) rfl rfl (by omega) (by omega) (by omega)
  rw [f_L_acts_134, if_neg (nI_ne0 h0 (by omega)), ep]
  generalize nI (1 + Z % d) = p at *
  by_cases c1 : x7 < 0
  · rw [if_pos c1]
    exact n_acts_151 h (by unfold o_sell; simp [s_in, c1])
  rw [if_neg c1]
  by_cases c2' : ¬ x7 ≤ 999
  · have c2 := c2'
    rw [if_neg c2]
    exact n_acts_151 h (by unfold o_sell; simp [s_in, Int32.not_le.mp c2])
  have c2 : x7 ≤ 999 := Classical.byContradiction c2'
  rw [if_pos c2]
  have km : s_in x7 0 999 = true := by simp [s_in, c1, Int32.not_lt.mpr c2]
  obtain ⟨hS, hM, hi⟩ := h
  have g0 : g 0 0 = S.2.2.2.2 0 := hM.g (j := 0) (by omega)
  have g9 : g 0 9 = S.2.2.2.1 1 := hM.s (j := 1) (by omega)
  have hK := hM.K
  obtain ⟨q, q1, q2, q3⟩ := u_sell hS x7 p
  have ho : o_sell S x7 p = (if x7 < S.2.2.2.2 0 then .inl (-2000000002) else if s_month S.2.2.2.1 x7 then (if S.2.1.length = 6 then .inl (-2000000003) else .inr (nI S.2.1.length, S.1, S.2.1 ++ [(x7, p)], S.2.2.1, S.2.2.2.1, S.2.2.2.2)) else .inl (-2000000002)) := by
    unfold o_sell; rw [km, kp]; rfl
  rw [ho] at q2 q3
  have e233 : ∀ e : Int32, q.1 = e → f_L_acts_240 g l c (cl_uX q.2 X) e q.1 = some (1, g, l, c, cl_uX q.2 X) := fun e he => by rw [f_L_acts_240, if_pos he]
  rw [g0, g9]
  by_cases c3 : x7 < S.2.2.2.2 0
  · rw [if_pos c3] at q2 q3
    rw [if_pos c3]
    refine ⟨S, g, l, c, _, ?_, LWS.mono (b := b + 1) ⟨q3, hM, hi⟩ (by omega)⟩
    rw [f_L_acts_202, q1, Option.bind_some, g0, if_pos c3, f_L_acts_233]
    exact e233 _ q2
  rw [if_neg c3] at q2 q3
  rw [if_neg c3]
  have hmo : s_month S.2.2.2.1 x7 = decide (((S.2.2.2.1 1 >>> ((x7 - x7 / 12 * 12) &&& 31)) &&& 1) = 1) := rfl
  by_cases c4n : ¬ ((S.2.2.2.1 1 >>> ((x7 - x7 / 12 * 12) &&& 31)) &&& 1) = 1
  · have c4 := c4n
    have c4' : ((S.2.2.2.1 1 >>> ((x7 - x7 / 12 * 12) &&& 31)) &&& 1) = 0 := by rw [n_and1]; exact c4
    rw [hmo, decide_eq_false c4] at q2 q3
    rw [if_pos c4']
    refine ⟨S, g, l, c, _, ?_, LWS.mono (b := b + 1) ⟨q3, hM, hi⟩ (by omega)⟩
    rw [f_L_acts_202, q1, Option.bind_some, g0, g9, if_neg c3, if_pos c4', f_L_acts_233]
    exact e233 _ q2
  have c4 : ((S.2.2.2.1 1 >>> ((x7 - x7 / 12 * 12) &&& 31)) &&& 1) = 1 := Classical.byContradiction c4n
  have c4' : ¬ ((S.2.2.2.1 1 >>> ((x7 - x7 / 12 * 12) &&& 31)) &&& 1) = 0 := by rw [n_and1]; exact fun k => k c4
  rw [hmo, decide_eq_true c4, if_pos rfl] at q2 q3
  rw [if_neg c4']
  by_cases c5 : S.2.1.length = 6
  · rw [if_pos c5] at q2 q3
    rw [if_pos (show g 0 7 = 6 by rw [hK.2.1, c5]; rfl)]
    refine ⟨S, g, l, c, _, ?_, LWS.mono (b := b + 1) ⟨q3, hM, hi⟩ (by omega)⟩
    rw [f_L_acts_202, q1, Option.bind_some, g0, g9, if_neg c3, if_neg c4']
    exact e233 _ q2
  · have h6 := hK.1
    rw [if_neg c5] at q2 q3
    rw [if_neg (show ¬ g 0 7 = 6 by rw [hK.2.1]; exact fun e => c5 (nI_inj (by omega) (by omega) e)), hK.2.1, n_y1, n_y0, if_pos (cr_inn (by omega) (by omega)), if_pos (cr_inn (by omega) (by omega)), cr_xn (by omega), cr_xn (by omega), nI_1, q1, Option.bind_some]
    rw [if_pos (show q.1 = (cr_a g 0 7 (nI (S.2.1.length + 1))) 0 7 - 1 by rw [cr_as, pk_us, nI_pred]; exact q2)]
    exact ⟨_, _, _, _, _, rfl, LWS.mono (b := b + 1) ⟨q3, n_con hM (by omega), hi⟩ (by omega)⟩
theorem n_acts_94 (h : LWS b S g l c X) {d Y : Nat} (h0 : 0 < d) (hd : d ≤ 999) (hY : Y < 10000000) (s2 : Int32) : ActOK b (f_L_acts_94 g l c X (nI Y) (nI d) (nI Y) s2) := by
  have e40 : nI Y / 40 = nI (Y / 40) := by rw [show (40 : Int32) = nI 40 from rfl, pk_div (by omega) (by omega) (by omega)]
  have key : ∀ s0 s1 : Int32, ActOK b (f_L_acts_109 g l c X (nI Y) s0 s1) := fun s0 s1 => by
    rw [f_L_acts_109, e40]
    by_cases h4 : nI Y - nI Y / 4 * 4 = 0
    · rw [if_pos h4]; exact n_acts_134 h _ (d := 999) (by omega) (by omega) (by omega)
    · rw [if_neg h4]; exact n_acts_134 h _ (d := 300) (by omega) (by omega) (by omega)
  rw [f_L_acts_94, if_neg (nI_ne0 h0 (by omega))]
  by_cases h11 : nI Y - nI Y / 11 * 11 = 0
  · rw [if_pos h11]; exact key _ _
  · rw [if_neg h11]; exact key _ _
/-- one number of the law's changes -/
theorem n_num (hM : lwG S g l c) {k : Nat} (hk : k < 6) (x : Int32) : lwG (S.1, S.2.1, S.2.2.1, S.2.2.2.1, upd S.2.2.2.2 k x) (cr_a g 0 k x) l c := by
  unfold lwG
  rw [mg_ug (by omega)]
  obtain ⟨-, -, w1, w2, w3⟩ := id hM
  refine md_g hM (fun t ht => ?_) ⟨fun j hj => ?_, fun j hj => ?_, fun j hj => ?_⟩
  · rw [pk_un (by omega)]
  · rw [pk_un (by omega)]; exact w1 j hj
  · rw [pk_un (by omega)]; exact w2 j hj
  · by_cases hjk : j = k
    · subst hjk; rw [pk_us, pk_us]
    · rw [pk_un hjk, pk_un hjk]; exact w3 j hj
theorem n_setS (hM : lwG S g l c) {k : Nat} (hk : k < 5) (x : Int32) : lwG (S.1, S.2.1, S.2.2.1, upd S.2.2.2.1 k x, S.2.2.2.2) (cr_a g 0 (8 + k) x) l c := by
  unfold lwG
  rw [mg_ug (by omega)]
  obtain ⟨-, -, w1, w2, w3⟩ := id hM
  refine md_g hM (fun t ht => ?_) ⟨fun j hj => ?_, fun j hj => ?_, fun j hj => ?_⟩
  · rw [pk_un (by omega)]
  · rw [pk_un (by omega)]; exact w1 j hj
  · by_cases hjk : j = k
    · subst hjk; rw [pk_us, pk_us]
    · rw [pk_un (by omega), pk_un hjk]; exact w2 j hj
  · rw [pk_un (by omega)]; exact w3 j hj
theorem n_setW (hM : lwG S g l c) {k : Nat} (hk : k < 4) (x : Int32) : lwG (S.1, S.2.1, upd S.2.2.1 k x, S.2.2.2.1, S.2.2.2.2) (cr_a g 0 (13 + k) x) l c := by
  unfold lwG
  rw [mg_ug (by omega)]
  obtain ⟨-, -, w1, w2, w3⟩ := id hM
  refine md_g hM (fun t ht => ?_) ⟨fun j hj => ?_, fun j hj => ?_, fun j hj => ?_⟩
  · rw [pk_un (by omega)]
  · by_cases hjk : j = k
    · subst hjk; rw [pk_us, pk_us]
    · rw [pk_un (by omega), pk_un hjk]; exact w1 j hj
  · rw [pk_un (by omega)]; exact w2 j hj
  · rw [pk_un (by omega)]; exact w3 j hj
theorem n_acts_928 (h : LWS b S g l c X) {k n : Nat} (hk : k < 5) (hv : s_in (nI n) (cr_least k) (cr_most k) = true) (h0 : ¬ (k = 0 ∧ 0 < S.2.1.length)) : ActOK b (f_L_acts_928 g l c X (nI k) (nI n)) := by
  obtain ⟨hS, hM, hi⟩ := h
  obtain ⟨q, q1, q2, q3⟩ := u_set hS (nI k) (nI n)
  have ka : s_in (nI k) 0 4 = true := z_inI (a := 0) (b := 4) rfl rfl (by omega) (by omega) (by omega)
  have ho : o_set S (nI k) (nI n) = .inr (S.2.2.2.1 k, S.1, S.2.1, S.2.2.1, upd S.2.2.2.1 k (nI n), S.2.2.2.2) := by
    unfold o_set
    rw [ka, cr_xn (show k < 2 ^ 31 by omega), hv, if_neg (show ¬ (nI k = 0 ∧ 0 < S.2.1.length) from fun e => h0 ⟨nI_inj (by omega) (by omega) e.1, e.2⟩)]
    rfl
  rw [ho] at q2 q3
  rw [f_L_acts_928, show (8 : Int32) = nI 8 from rfl, nI_add, if_pos (cr_inn (by omega) (by omega)), cr_xn (by omega), q1, Option.bind_some, if_pos (show q.1 = g 0 (8 + k) by rw [hM.s hk]; exact q2)]
  exact ⟨_, _, _, _, _, rfl, LWS.mono (b := b + 1) ⟨q3, n_setS hM hk _, hi⟩ (by omega)⟩
theorem n_acts_896 (h : LWS b S g l c X) {k n : Nat} (hk : k < 5) (hv : s_in (nI n) (cr_least k) (cr_most k) = true) : ActOK b (f_L_acts_896 g l c X (nI k) (nI n)) := by
  have hK := h.2.1.K
  have h6 := hK.1
  rw [f_L_acts_896]
  by_cases hk0 : k = 0
  · rw [if_pos (show nI k = 0 by rw [hk0]; rfl), hK.2.1]
    by_cases hl0 : S.2.1.length = 0
    · rw [if_pos (show nI S.2.1.length ≤ 0 by rw [hl0]; exact Int32.le_refl _)]
      exact n_acts_928 h hk hv (by omega)
    · rw [if_neg (show ¬ nI S.2.1.length ≤ 0 from nI_nle (by omega) (by omega))]
      subst hk0
      obtain ⟨hS, hM, hi⟩ := h
      obtain ⟨q, q1, q2, q3⟩ := u_set hS 0 (nI n)
      have ho : o_set S 0 (nI n) = .inl (-2000000002) := by
        unfold o_set
        rw [show s_in 0 0 4 = true from by decide, show cr_x 0 = 0 from cr_xn (n := 0) (by omega), hv, if_pos (show (0 : Int32) = 0 ∧ 0 < S.2.1.length from ⟨rfl, by omega⟩)]
        rfl
      rw [ho] at q2 q3
      rw [q1, Option.bind_some, if_pos (show q.1 = (-2000000002) from q2)]
      exact ⟨S, _, _, _, _, rfl, LWS.mono (b := b + 1) ⟨q3, hM, hi⟩ (by omega)⟩
  · rw [if_neg (nI_ne0 (by omega) (by omega))]
    exact n_acts_928 h hk hv (by omega)
/-- months that pass: the contracts behind place i are kept or failed -/
theorem n_acts_679 (hS : lwS b S X) (hi : s_inc S.1) {M : Nat} (hM1 : 1 ≤ M) (hM24 : M ≤ 24) (hMo : S.2.2.2.2 0 + nI M ≤ 999) : ∀ (n i : Nat) (g c : cr_V) (F : Nat), i ≤ S.2.1.length → i < n → F = (S.2.1.drop i).length - ((S.2.1.drop i).filter (s_keep (S.2.2.2.2 0 + nI M))).length → lwG (S.1, S.2.1.take i ++ (S.2.1.drop i).filter (s_keep (S.2.2.2.2 0 + nI M)), S.2.2) g l c →
    ActOK b (f_L_acts_679 n g l c X (nI M) (nI F) (nI i - 1)) := by
  intro n
  induction n with
  | zero => intro i g c F h1 h2; omega
  | succ n ih =>
    intro i g c F hil hn hF hM
    have hk6 := hS.1
    have hlen : S.2.1.length ≤ 6 := by
      obtain ⟨⟨H, hC, -⟩, -⟩ := hS
      exact hC.2.1.1
    have g0 : g 0 0 = S.2.2.2.2 0 := hM.g (j := 0) (by omega)
    rw [f_L_acts_679]
    by_cases hi0 : i = 0
    · subst hi0
      rw [if_pos (show nI 0 - 1 < 0 by decide)]
      rw [List.take_zero, List.nil_append] at hM
      have hM : lwG (S.1, S.2.1.filter (s_keep (S.2.2.2.2 0 + nI M)), S.2.2) g l c := hM
      have hF : F = S.2.1.length - (S.2.1.filter (s_keep (S.2.2.2.2 0 + nI M))).length := hF
      obtain ⟨q, q1, q2, q3⟩ := u_pass hS (nI M)
      have ho : o_pass S (nI M) = .inr (nI F, S.1, S.2.1.filter (s_keep (S.2.2.2.2 0 + nI M)), S.2.2.1, S.2.2.2.1, upd (upd (upd S.2.2.2.2 0 (S.2.2.2.2 0 + nI M)) 3 (S.2.2.2.2 3 + nI F)) 1 (S.2.2.2.2 1 - nI F * S.2.2.2.1 0 * S.2.2.2.1 4)) := by
        unfold o_pass
        rw [z_inI (n := M) (a := 1) (b := 24) (A := 1) (B := 24) rfl rfl hM1 hM24 (by omega), if_pos rfl, if_pos hMo, ← hF]
      rw [ho] at q2 q3
      have e1 : (cr_a g 0 0 (g 0 0 + nI M)) 0 1 = S.2.2.2.2 1 := by rw [cr_as, pk_un (by omega)]; exact hM.g (j := 1) (by omega)
      have e8 : (cr_a g 0 0 (g 0 0 + nI M)) 0 8 = S.2.2.2.1 0 := by rw [cr_as, pk_un (by omega)]; exact hM.s (j := 0) (by omega)
      have e12 : (cr_a g 0 0 (g 0 0 + nI M)) 0 12 = S.2.2.2.1 4 := by rw [cr_as, pk_un (by omega)]; exact hM.s (j := 4) (by omega)
      rw [q1, Option.bind_some, if_pos (show q.1 = nI F from q2), e1, e8, e12]
      have e3 : ∀ t, (cr_a (cr_a g 0 0 (g 0 0 + nI M)) 0 1 t) 0 3 = S.2.2.2.2 3 := fun t => by rw [cr_as, pk_un (by omega), cr_as, pk_un (by omega)]; exact hM.g (j := 3) (by omega)
      rw [e3, g0]
      refine ⟨_, _, _, _, _, rfl, LWS.mono (b := b + 1) ⟨q3, ?_, hi⟩ (by omega)⟩
      have h1 := n_num hM (k := 0) (by omega) (S.2.2.2.2 0 + nI M)
      have h2 := n_num h1 (k := 1) (by omega) (S.2.2.2.2 1 - nI F * S.2.2.2.1 0 * S.2.2.2.1 4)
      have h3 := n_num h2 (k := 3) (by omega) (S.2.2.2.2 3 + nI F)
      refine md_gg h3 fun j hj => ?_
      show upd (upd (upd S.2.2.2.2 0 (S.2.2.2.2 0 + nI M)) 1 (S.2.2.2.2 1 - nI F * S.2.2.2.1 0 * S.2.2.2.1 4)) 3 (S.2.2.2.2 3 + nI F) j = _
      by_cases j3 : j = 3
      · subst j3; rw [pk_us, pk_un (by omega), pk_us]
      · rw [pk_un j3]
        by_cases j1 : j = 1
        · subst j1; rw [pk_us, pk_us]
        · rw [pk_un j1, pk_un j1, pk_un j3]
    · obtain ⟨k, rfl⟩ : ∃ k, i = k + 1 := ⟨i - 1, by omega⟩
      have hx : S.2.1[k]? = some S.2.1[k] := List.getElem?_eq_getElem (by omega)
      have hdr : S.2.1.drop k = S.2.1[k] :: S.2.1.drop (k + 1) := p_drop (by omega)
      have htk : S.2.1.take (k + 1) = S.2.1.take k ++ [S.2.1[k]] := p_take (by omega)
      have hfl := List.length_filter_le (s_keep (S.2.2.2.2 0 + nI M)) (S.2.1.drop (k + 1))
      have hfl0 : (S.2.1.drop (k + 1)).length = S.2.1.length - (k + 1) := List.length_drop ..
      generalize S.2.1[k] = x at *
      have hkx : (S.2.1.take (k + 1) ++ (S.2.1.drop (k + 1)).filter (s_keep (S.2.2.2.2 0 + nI M)))[k]? = some x := by
        rw [htk, List.append_assoc, List.getElem?_append_right (by rw [List.length_take]; omega), List.length_take, show k - min k S.2.1.length = 0 by omega]
        rfl
      obtain ⟨a1, a2⟩ := hM.K.2.2 k x hkx
      rw [show nI (k + 1) - 1 = nI k from nI_pred k, if_neg (nI_pos (by omega)), n_y0, if_pos (cr_inn (by omega) (by omega)), cr_xn (by omega), a1, g0]
      have em : nI k + (-1) = nI k - 1 := by rw [Int32.sub_eq_add_neg]
      by_cases hkeep : S.2.2.2.2 0 + nI M ≤ x.1
      · have hs : s_keep (S.2.2.2.2 0 + nI M) x = true := by unfold s_keep; rw [decide_eq_false (Int32.not_lt.mpr hkeep)]; rfl
        rw [if_pos hkeep, f_L_acts_709, em]
        refine ih k g c F (by omega) (by omega) ?_ ?_
        · rw [hdr, List.filter_cons, if_pos hs, List.length_cons, List.length_cons, hF]; omega
        · rw [hdr, List.filter_cons, if_pos hs]
          rw [htk, List.append_assoc] at hM
          exact hM
      · have hs : s_keep (S.2.2.2.2 0 + nI M) x = false := by unfold s_keep; rw [decide_eq_true (Int32.not_le.mp hkeep)]; rfl
        have hkl : k < (S.2.1.take (k + 1) ++ (S.2.1.drop (k + 1)).filter (s_keep (S.2.2.2.2 0 + nI M))).length := p_lt hkx
        obtain ⟨g', c', d1, d2⟩ := n_close hM (k := k) hkl
        rw [if_neg hkeep, d1, Option.bind_some, f_L_acts_709, em, nI_1]
        refine ih k g' c' (F + 1) (by omega) (by omega) ?_ ?_
        · rw [hdr, List.filter_cons, if_neg (by rw [hs]; decide), List.length_cons, hF]; omega
        · rw [hdr, List.filter_cons, if_neg (by rw [hs]; decide)]
          have he : (S.2.1.take (k + 1) ++ (S.2.1.drop (k + 1)).filter (s_keep (S.2.2.2.2 0 + nI M))).eraseIdx k = S.2.1.take k ++ (S.2.1.drop (k + 1)).filter (s_keep (S.2.2.2.2 0 + nI M)) := by
            rw [htk, List.append_assoc, List.eraseIdx_append_of_length_le (by rw [List.length_take]; omega), List.length_take, show k - min k S.2.1.length = 0 by omega]
            rfl
          have d2 : lwG (S.1, (S.2.1.take (k + 1) ++ (S.2.1.drop (k + 1)).filter (s_keep (S.2.2.2.2 0 + nI M))).eraseIdx k, S.2.2) g' l c' := d2
          rw [he] at d2
          exact d2
theorem n_acts_635 (h : LWS b S g l c X) {d Y : Nat} (h0 : 0 < d) (hd : d ≤ 24) (hY : Y < 10000000) : ActOK b (f_L_acts_635 g l c X (nI d) (nI Y) 1) := by
  have hmod := Nat.mod_lt Y h0
  have en : (1 : Int32) + (nI Y - nI Y / nI d * nI d) = nI (1 + Y % d) := by rw [pk_rem (by omega) h0 (by omega), show (1 : Int32) = nI 1 from rfl, nI_add]
  obtain ⟨hS, hM, hi⟩ := h
  have g0 : g 0 0 = S.2.2.2.2 0 := hM.g (j := 0) (by omega)
  have hK := hM.K
  have h6 := hK.1
  rw [f_L_acts_635, if_neg (nI_ne0 h0 (by omega)), en, g0, hK.2.1]
  generalize hm : 1 + Y % d = M at *
  by_cases hMo : S.2.2.2.2 0 + nI M ≤ 999
  · rw [if_pos hMo]
    refine n_acts_679 hS hi (by omega) (by omega) hMo 10100 S.2.1.length g c 0 (Nat.le_refl _) (by omega) ?_ ?_
    · rw [List.drop_length]; rfl
    · rw [List.drop_length, List.take_length]
      show lwG (S.1, S.2.1 ++ [], S.2.2) g l c
      rw [List.append_nil]; exact hM
  · rw [if_neg hMo]
    obtain ⟨q, q1, q2, q3⟩ := u_pass hS (nI M)
    have ho : o_pass S (nI M) = .inl (-2000000003) := by
      unfold o_pass
      rw [z_inI (n := M) (a := 1) (b := 24) (A := 1) (B := 24) rfl rfl (by omega) (by omega) (by omega), if_pos rfl, if_neg hMo]
    rw [ho] at q2 q3
    rw [q1, Option.bind_some, if_pos (show q.1 = (-2000000003) from q2)]
    exact ⟨S, _, _, _, _, rfl, LWS.mono (b := b + 1) ⟨q3, hM, hi⟩ (by omega)⟩
end ACTS
