/-! the class: its past, its operations -/
def crX (H : List cr_S) (vs : cr_V) (vx : Nat → Nat → cr_V) : Prop := H.length ≤ 4 ∧ vs 1 0 = nI H.length ∧ ∀ (i : Nat) (T : cr_S), H[i]? = some T → crC T (vx i 0) (vx i 1) (vx i 2)
theorem cr_setR_at {x : Nat → Nat → cr_V} {k : Nat} {h l c : cr_V} : cr_setR x k h l c k 0 = h ∧ cr_setR x k h l c k 1 = l ∧ cr_setR x k h l c k 2 = c := by
  unfold cr_setR
  rw [show Nat.beq k k = true from Nat.beq_refl k]
  exact ⟨rfl, rfl, rfl⟩
theorem cr_setR_ne {x : Nat → Nat → cr_V} {k j : Nat} {h l c : cr_V} (hj : j ≠ k) : cr_setR x k h l c j = x j := by
  unfold cr_setR
  rw [show Nat.beq j k = false from by cases e : Nat.beq j k with | false => rfl | true => exact absurd (Nat.eq_of_beq_eq_true e) hj]
  rfl
theorem p_X2_record_12 {H : List cr_S} {S : cr_S} {vs vh vl vk : cr_V} {vx : Nat → Nat → cr_V} (hX : crX H vs vx) (hl : H.length < 4) (hC : crC S vh vl vk) : ∃ s x, f_X2_record_12 vs vx vh vl vk = some (s, x) ∧ crX (H ++ [S]) s x := by
  obtain ⟨x1, x2, x3⟩ := hX
  rw [f_X2_record_12, x2, if_pos (cr_inn hl (by omega)), cr_xn (by omega)]
  obtain ⟨h, l, k, e1, e2⟩ := p_X3_copyFrom hC (vx H.length 0) (vx H.length 1) (vx H.length 2)
  rw [e1, Option.bind_some, nI_1]
  refine ⟨_, _, rfl, by rw [List.length_append, List.length_singleton]; omega, by rw [List.length_append, List.length_singleton]; simp [cr_ce], fun i T hT => ?_⟩
  by_cases hi : i = H.length
  · subst hi
    rw [List.getElem?_append_right (Nat.le_refl _), Nat.sub_self] at hT
    cases hT
    rw [cr_setR_at.1, cr_setR_at.2.1, cr_setR_at.2.2]
    exact e2
  · have hlt := p_lt hT
    rw [List.length_append, List.length_singleton] at hlt
    rw [List.getElem?_append_left (by omega)] at hT
    rw [cr_setR_ne hi]
    exact x3 i T hT
theorem p_X2_record {H : List cr_S} {S : cr_S} {vs vh vl vk : cr_V} {vx : Nat → Nat → cr_V} (hX : crX H vs vx) (hC : crC S vh vl vk) : ∃ s x, f_X2_record vs vx vh vl vk = some (s, x) ∧ crX (s_push H S) s x := by
  have hl := hX.1
  rw [f_X2_record, hX.2.1]
  unfold s_push
  by_cases h4 : H.length = 4
  · rw [if_pos h4, if_neg (show ¬ nI H.length < 4 from c_nlt H.length 4 rfl rfl (by omega) (by omega)), f_X2_dropOldest, Option.bind_some]
    refine p_X2_record_12 ⟨by rw [List.length_tail]; omega, by rw [List.length_tail, h4]; simp [cr_ce]; rfl, fun i T hT => ?_⟩ (by rw [List.length_tail]; omega) hC
    have hlt := p_lt hT
    rw [List.length_tail] at hlt
    rw [List.getElem?_tail] at hT
    have := hX.2.2 (i + 1) T hT
    rcases (show i = 0 ∨ i = 1 ∨ i = 2 by omega) with rfl | rfl | rfl <;> exact this
  · rw [if_neg h4, if_pos (show nI H.length < 4 from c_lt H.length 4 rfl rfl (by omega) (by omega))]
    exact p_X2_record_12 hX (by omega) hC
section CRO
variable {vh vl vk vt vtl vtk vs vd vo : cr_V} {vx : Nat → Nat → cr_V} {S : cr_S} {H : List cr_S}
theorem p_X6_acceptE {r : Int32} (h : s_in r (-2000000004) (-2000000001) = true) : f_X6_accept vh vl vk vt vtl vtk vs vx vd vo r = some (r, vh, vl, vk, vs, vx) := by
  rw [f_X6_accept, p_X6_isError, h, Option.bind_some, if_pos rfl, if_neg (by decide)]
theorem p_X6_accept {S' : cr_S} {r : Int32} (hC : crC S vh vl vk) (hC' : crC S' vt vtl vtk) (hX : crX H vs vx) (h : (-2000000001) < r) : ∃ h' l' k' s' x', f_X6_accept vh vl vk vt vtl vtk vs vx vd vo r = some (r, h', l', k', s', x') ∧ crC S' h' l' k' ∧ crX (s_push H S) s' x' := by
  obtain ⟨s', x', a1, a2⟩ := p_X2_record hX hC
  obtain ⟨h', l', k', b1, b2⟩ := p_X3_copyFrom hC' vh vl vk
  rw [f_X6_accept, p_X6_isError, z_nerr h, Option.bind_some, if_pos (show (if false = true then (1 : Int32) else 0) = 0 from rfl), a1, Option.bind_some, b1, Option.bind_some]
  exact ⟨_, _, _, _, _, rfl, b2, a2⟩
def p_OpX (o : cr_R) (S : cr_S) (H : List cr_S) (out : Option (Int32 × cr_V × cr_V × cr_V × cr_V × cr_V × cr_V × cr_V × (Nat → Nat → cr_V))) : Prop := match o with
  | .inl e => ∃ h l k t tl tk s x, out = some (e, h, l, k, t, tl, tk, s, x) ∧ crC S h l k ∧ crX H s x
  | .inr q => ∃ h l k t tl tk s x, out = some (q.1, h, l, k, t, tl, tk, s, x) ∧ crC q.2 h l k ∧ crX (s_push H S) s x
theorem p_X6_lot {b : Nat} (hI : s_inv b S) (hb : b < 2 ^ 30) (hC : crC S vh vl vk) (hX : crX H vs vx) (x1 x2 : Int32) : p_OpX (o_lot S x1 x2) S H (f_X6_lot vh vl vk vt vtl vtk vs vx vd vo x1 x2) := by
  obtain ⟨t, tl, tk, e1, c1⟩ := p_X3_copyFrom hC vt vtl vtk
  have hp := p_X3_bringLot c1 x1 x2
  have hi := i_lot hI hb x1 x2
  rw [f_X6_lot, e1, Option.bind_some]
  unfold p_OpX
  cases ho : o_lot S x1 x2 with
  | inl e =>
    rw [ho] at hp hi
    dsimp only at hp ⊢
    rw [hp, Option.bind_some, p_X6_acceptE hi, Option.bind_some]
    exact ⟨_, _, _, _, _, _, _, _, rfl, hC, hX⟩
  | inr q =>
    rw [ho] at hp hi
    obtain ⟨v, a1, a2⟩ := hp
    dsimp only
    rw [a1, Option.bind_some]
    obtain ⟨h', l', k', s', x', k1, k2, k3⟩ := p_X6_accept (vd := vd) (vo := vo) hC a2 hX hi.1
    rw [k1, Option.bind_some]
    exact ⟨_, _, _, _, _, _, _, _, rfl, k2, k3⟩
theorem p_X6_part {b : Nat} (hI : s_inv b S) (hb : b < 2 ^ 30) (hC : crC S vh vl vk) (hX : crX H vs vx) (x1 x2 : Int32) : p_OpX (o_part S x1 x2) S H (f_X6_part vh vl vk vt vtl vtk vs vx vd vo x1 x2) := by
  obtain ⟨t, tl, tk, e1, c1⟩ := p_X3_copyFrom hC vt vtl vtk
  have hp := p_X3_partLot c1 x1 x2
  have hi := i_part hI hb x1 x2
  rw [f_X6_part, e1, Option.bind_some]
  unfold p_OpX
  cases ho : o_part S x1 x2 with
  | inl e =>
    rw [ho] at hp hi
    dsimp only at hp ⊢
    rw [hp, Option.bind_some, p_X6_acceptE hi, Option.bind_some]
    exact ⟨_, _, _, _, _, _, _, _, rfl, hC, hX⟩
  | inr q =>
    rw [ho] at hp hi
    obtain ⟨v, a1, a2⟩ := hp
    dsimp only
    rw [a1, Option.bind_some]
    obtain ⟨h', l', k', s', x', k1, k2, k3⟩ := p_X6_accept (vd := vd) (vo := vo) hC a2 hX hi.1
    rw [k1, Option.bind_some]
    exact ⟨_, _, _, _, _, _, _, _, rfl, k2, k3⟩
theorem p_X6_blend {b : Nat} (hI : s_inv b S) (hb : b < 2 ^ 30) (hC : crC S vh vl vk) (hX : crX H vs vx) (x1 x2 x3 x4 : Int32) : p_OpX (o_blend S x1 x2 x3 x4) S H (f_X6_blend vh vl vk vt vtl vtk vs vx vd vo x1 x2 x3 x4) := by
  obtain ⟨t, tl, tk, e1, c1⟩ := p_X3_copyFrom hC vt vtl vtk
  have hp := p_X3_blendLots c1 (fun j x hx => by obtain ⟨a0, m, hm, ha, h0, h5, hd, hL, hrest⟩ := hI; obtain ⟨g, g1, g2, g3⟩ := (hL x (List.mem_of_getElem? hx)).bags; rw [g3, nI_toInt (by omega)]; omega) x1 x2 x3 x4
  have hi := i_blend hI hb x1 x2 x3 x4
  rw [f_X6_blend, e1, Option.bind_some]
  unfold p_OpX
  cases ho : o_blend S x1 x2 x3 x4 with
  | inl e =>
    rw [ho] at hp hi
    dsimp only at hp ⊢
    rw [hp, Option.bind_some, p_X6_acceptE hi, Option.bind_some]
    exact ⟨_, _, _, _, _, _, _, _, rfl, hC, hX⟩
  | inr q =>
    rw [ho] at hp hi
    obtain ⟨v, a1, a2⟩ := hp
    dsimp only
    rw [a1, Option.bind_some]
    obtain ⟨h', l', k', s', x', k1, k2, k3⟩ := p_X6_accept (vd := vd) (vo := vo) hC a2 hX hi.1
    rw [k1, Option.bind_some]
    exact ⟨_, _, _, _, _, _, _, _, rfl, k2, k3⟩
theorem p_X6_cup {b : Nat} (hI : s_inv b S) (hC : crC S vh vl vk) (hX : crX H vs vx) (x1 : Int32) : p_OpX (o_cup S x1) S H (f_X6_cup vh vl vk vt vtl vtk vs vx vd vo x1) := by
  obtain ⟨t, tl, tk, e1, c1⟩ := p_X3_copyFrom hC vt vtl vtk
  have hp := p_X3_cupAnew c1 x1
  have hi := i_cup hI x1
  rw [f_X6_cup, e1, Option.bind_some]
  unfold p_OpX
  cases ho : o_cup S x1 with
  | inl e =>
    rw [ho] at hp hi
    dsimp only at hp ⊢
    rw [hp, Option.bind_some, p_X6_acceptE hi, Option.bind_some]
    exact ⟨_, _, _, _, _, _, _, _, rfl, hC, hX⟩
  | inr q =>
    rw [ho] at hp hi
    obtain ⟨v, a1, a2⟩ := hp
    dsimp only
    rw [a1, Option.bind_some]
    obtain ⟨h', l', k', s', x', k1, k2, k3⟩ := p_X6_accept (vd := vd) (vo := vo) hC a2 hX hi.1
    rw [k1, Option.bind_some]
    exact ⟨_, _, _, _, _, _, _, _, rfl, k2, k3⟩
theorem p_X6_worth {b : Nat} (hI : s_inv b S) (hC : crC S vh vl vk) (hX : crX H vs vx) (x1 x2 : Int32) : p_OpX (o_worth S x1 x2) S H (f_X6_worth vh vl vk vt vtl vtk vs vx vd vo x1 x2) := by
  obtain ⟨t, tl, tk, e1, c1⟩ := p_X3_copyFrom hC vt vtl vtk
  have hp := p_X3_changeWorth c1 x1 x2
  have hi := i_worth hI x1 x2
  rw [f_X6_worth, e1, Option.bind_some]
  unfold p_OpX
  cases ho : o_worth S x1 x2 with
  | inl e =>
    rw [ho] at hp hi
    dsimp only at hp ⊢
    rw [hp, Option.bind_some, p_X6_acceptE hi, Option.bind_some]
    exact ⟨_, _, _, _, _, _, _, _, rfl, hC, hX⟩
  | inr q =>
    rw [ho] at hp hi
    obtain ⟨v, a1, a2⟩ := hp
    dsimp only
    rw [a1, Option.bind_some]
    obtain ⟨h', l', k', s', x', k1, k2, k3⟩ := p_X6_accept (vd := vd) (vo := vo) hC a2 hX hi.1
    rw [k1, Option.bind_some]
    exact ⟨_, _, _, _, _, _, _, _, rfl, k2, k3⟩
theorem p_X6_sell {b : Nat} (hI : s_inv b S) (hC : crC S vh vl vk) (hX : crX H vs vx) (x1 x2 : Int32) : p_OpX (o_sell S x1 x2) S H (f_X6_sell vh vl vk vt vtl vtk vs vx vd vo x1 x2) := by
  obtain ⟨t, tl, tk, e1, c1⟩ := p_X3_copyFrom hC vt vtl vtk
  have hp := p_X3_sellContract c1 x1 x2
  have hi := i_sell hI hC.2.1.1 x1 x2
  rw [f_X6_sell, e1, Option.bind_some]
  unfold p_OpX
  cases ho : o_sell S x1 x2 with
  | inl e =>
    rw [ho] at hp hi
    dsimp only at hp ⊢
    rw [hp, Option.bind_some, p_X6_acceptE hi, Option.bind_some]
    exact ⟨_, _, _, _, _, _, _, _, rfl, hC, hX⟩
  | inr q =>
    rw [ho] at hp hi
    obtain ⟨v, a1, a2⟩ := hp
    dsimp only
    rw [a1, Option.bind_some]
    obtain ⟨h', l', k', s', x', k1, k2, k3⟩ := p_X6_accept (vd := vd) (vo := vo) hC a2 hX hi.1
    rw [k1, Option.bind_some]
    exact ⟨_, _, _, _, _, _, _, _, rfl, k2, k3⟩
theorem p_X6_set {b : Nat} (hI : s_inv b S) (hC : crC S vh vl vk) (hX : crX H vs vx) (x1 x2 : Int32) : p_OpX (o_set S x1 x2) S H (f_X6_set vh vl vk vt vtl vtk vs vx vd vo x1 x2) := by
  obtain ⟨t, tl, tk, e1, c1⟩ := p_X3_copyFrom hC vt vtl vtk
  have hp := p_X3_changeSetting c1 x1 x2
  have hi := i_set hI x1 x2
  rw [f_X6_set, e1, Option.bind_some]
  unfold p_OpX
  cases ho : o_set S x1 x2 with
  | inl e =>
    rw [ho] at hp hi
    dsimp only at hp ⊢
    rw [hp, Option.bind_some, p_X6_acceptE hi, Option.bind_some]
    exact ⟨_, _, _, _, _, _, _, _, rfl, hC, hX⟩
  | inr q =>
    rw [ho] at hp hi
    obtain ⟨v, a1, a2⟩ := hp
    dsimp only
    rw [a1, Option.bind_some]
    obtain ⟨h', l', k', s', x', k1, k2, k3⟩ := p_X6_accept (vd := vd) (vo := vo) hC a2 hX hi.1
    rw [k1, Option.bind_some]
    exact ⟨_, _, _, _, _, _, _, _, rfl, k2, k3⟩
theorem p_X6_buyBack {b : Nat} (hI : s_inv b S) (hC : crC S vh vl vk) (hX : crX H vs vx) (x1 x2 : Int32) : p_OpX (o_buy S x1 x2) S H (f_X6_buyBack vh vl vk vt vtl vtk vs vx vd vo x1 x2) := by
  obtain ⟨t, tl, tk, e1, c1⟩ := p_X3_copyFrom hC vt vtl vtk
  have hp := p_X3_buyContractBack c1 x1 x2
  have hi := i_buy hI hC.2.1.1 x1 x2
  rw [f_X6_buyBack, e1, Option.bind_some]
  unfold p_OpX
  cases ho : o_buy S x1 x2 with
  | inl e =>
    rw [ho] at hp hi
    dsimp only at hp ⊢
    rw [hp, Option.bind_some, p_X6_acceptE hi, Option.bind_some]
    exact ⟨_, _, _, _, _, _, _, _, rfl, hC, hX⟩
  | inr q =>
    rw [ho] at hp hi
    obtain ⟨v, v2, a1, a2⟩ := hp
    dsimp only
    rw [a1, Option.bind_some]
    obtain ⟨h', l', k', s', x', k1, k2, k3⟩ := p_X6_accept (vd := vd) (vo := vo) hC a2 hX hi.1
    rw [k1, Option.bind_some]
    exact ⟨_, _, _, _, _, _, _, _, rfl, k2, k3⟩
theorem p_X6_pass {b : Nat} (hI : s_inv b S) (hC : crC S vh vl vk) (hX : crX H vs vx) (x1 : Int32) : p_OpX (o_pass S x1) S H (f_X6_pass vh vl vk vt vtl vtk vs vx vd vo x1) := by
  obtain ⟨t, tl, tk, e1, c1⟩ := p_X3_copyFrom hC vt vtl vtk
  have hp := p_X3_passMonths c1 x1
  have hi := i_pass hI hC.2.1.1 x1
  rw [f_X6_pass, e1, Option.bind_some]
  unfold p_OpX
  cases ho : o_pass S x1 with
  | inl e =>
    rw [ho] at hp hi
    dsimp only at hp ⊢
    rw [hp, Option.bind_some, p_X6_acceptE hi, Option.bind_some]
    exact ⟨_, _, _, _, _, _, _, _, rfl, hC, hX⟩
  | inr q =>
    rw [ho] at hp hi
    obtain ⟨v, v2, a1, a2⟩ := hp
    dsimp only
    rw [a1, Option.bind_some]
    obtain ⟨h', l', k', s', x', k1, k2, k3⟩ := p_X6_accept (vd := vd) (vo := vo) hC a2 hX hi.1
    rw [k1, Option.bind_some]
    exact ⟨_, _, _, _, _, _, _, _, rfl, k2, k3⟩
def p_OpM (o : cr_R) (S : cr_S) (H : List cr_S) (out : Option (Int32 × cr_V × cr_V × cr_V × cr_V × cr_V × cr_V × cr_V × (Nat → Nat → cr_V) × cr_V)) : Prop := match o with
  | .inl e => ∃ h l k t tl tk s x d, out = some (e, h, l, k, t, tl, tk, s, x, d) ∧ crC S h l k ∧ crX H s x
  | .inr q => ∃ h l k t tl tk s x d, out = some (q.1, h, l, k, t, tl, tk, s, x, d) ∧ crC q.2 h l k ∧ crX (s_push H S) s x
theorem p_X6_meet {b : Nat} (hI : s_inv b S) (hC : crC S vh vl vk) (hX : crX H vs vx) (x1 : Int32) : p_OpM (o_meet S x1) S H (f_X6_meet vh vl vk vt vtl vtk vs vx vd vo x1) := by
  obtain ⟨t, tl, tk, e1, c1⟩ := p_X3_copyFrom hC vt vtl vtk
  have hp := p_X3_meetContract c1 vd x1
  have hi := i_meet hI hC.1.1 hC.2.1.1 x1
  rw [f_X6_meet, e1, Option.bind_some]
  unfold p_OpM
  cases ho : o_meet S x1 with
  | inl e =>
    rw [ho] at hp hi
    obtain ⟨d, a1⟩ := hp
    dsimp only
    rw [a1, Option.bind_some, p_X6_acceptE hi, Option.bind_some]
    exact ⟨_, _, _, _, _, _, _, _, _, rfl, hC, hX⟩
  | inr q =>
    rw [ho] at hp hi
    obtain ⟨u1, u2, u3, d, a1, a2⟩ := hp
    dsimp only
    rw [a1, Option.bind_some]
    obtain ⟨h', l', k', s', x', k1, k2, k3⟩ := p_X6_accept (vd := d) (vo := vo) hC a2 hX hi.1
    rw [k1, Option.bind_some]
    exact ⟨_, _, _, _, _, _, _, _, _, rfl, k2, k3⟩
theorem p_X6_undo0 (hC : crC S vh vl vk) (hX : crX [] vs vx) : f_X6_undo vh vl vk vt vtl vtk vs vx vd vo = some ((-2000000002), vh, vl, vk, vs) := by
  rw [f_X6_undo, if_pos (show vs 1 0 = 0 from hX.2.1)]
theorem p_X6_undo1 {T : cr_S} (hX : crX (H ++ [T]) vs vx) : ∃ h l k s, f_X6_undo vh vl vk vt vtl vtk vs vx vd vo = some (nI H.length, h, l, k, s) ∧ crC T h l k ∧ crX H s vx := by
  obtain ⟨x1, x2, x3⟩ := hX
  rw [List.length_append, List.length_singleton] at x1 x2
  have hT := x3 H.length T (by rw [List.getElem?_append_right (Nat.le_refl _), Nat.sub_self]; rfl)
  obtain ⟨h, l, k, e1, e2⟩ := p_X3_copyFrom hT vh vl vk
  rw [f_X6_undo, x2, if_neg (nI_ne0 (by omega) (by omega)), f_X2_restoreLatest, x2, if_neg (nI_nle (by omega) (by omega)), nI_pred, if_pos (cr_inn (by omega) (by omega)), cr_xn (by omega), e1, Option.bind_some, Option.bind_some]
  refine ⟨h, l, k, cr_i vs 1 (nI H.length), by simp [cr_ce], e2, by omega, by simp [cr_ce], fun i U hU => x3 i U ?_⟩
  rw [List.getElem?_append_left (p_lt hU)]; exact hU
theorem p_X6_type {T : List Int32} (hT : crT T vo) (x1 : Int32) : match s_typed T x1 with
    | .inl e => f_X6_type vh vl vk vt vtl vtk vs vx vd vo x1 = some (e, vo)
    | .inr T' => ∃ v', f_X6_type vh vl vk vt vtl vtk vs vx vd vo x1 = some (nI T'.length, v') ∧ crT T' v' := by
  obtain ⟨⟨t1, t2⟩, t3, t4⟩ := id hT
  rw [f_X6_type, p_X6_isWithin, Option.bind_some]
  unfold s_typed
  cases h1 : s_in x1 32 126 with
  | false => rfl
  | true =>
    obtain ⟨k, k1, k2, hk⟩ := p_inN (a := 32) (b := 126) h1 (by omega) (by omega)
    have hc : (x1.toUInt32 % 65536).toInt32 = x1 := by
      rw [pk_char, hk, pk_tn (by omega), Nat.mod_eq_of_lt (by omega)]
    have hv : vp_nar .char x1 = x1 := by rw [← hc]; exact pk_vc x1
    simp only [if_true, n10, if_false]
    rw [hc, f_X5_append, t3]
    by_cases h2 : T.length = 60
    · rw [if_pos h2, if_neg (show ¬ nI T.length < 60 from c_nlt T.length 60 rfl rfl (by omega) (by omega))]; rfl
    · rw [if_neg h2, if_pos (show nI T.length < 60 from c_lt T.length 60 rfl rfl (by omega) (by omega)), if_pos (cr_inn (by omega) (by omega)), cr_xn (by omega), nI_1, hv]
      dsimp only
      rw [List.length_append, List.length_singleton]
      refine ⟨_, rfl, s_txt.add ⟨t1, t2⟩ h2 h1, by rw [List.length_append, List.length_singleton]; simp [cr_ce], fun j x hx => ?_⟩
      by_cases hj : j < T.length
      · rw [List.getElem?_append_left hj] at hx
        have hne2 : ¬ j = T.length := by omega
        simp [cr_ce, cr_up, hne2]; exact t4 j x hx
      · have hl := p_lt hx
        rw [List.length_append, List.length_singleton] at hl
        have hj2 : j = T.length := by omega
        subst hj2
        rw [List.getElem?_append_right (Nat.le_refl _)] at hx
        simp at hx
        subst hx
        simp [cr_ce, cr_up]
theorem p_X6_clearText {T : List Int32} (hT : crT T vo) : ∃ v', f_X6_clearText vh vl vk vt vtl vtk vs vx vd vo = some (nI T.length, v') ∧ crT [] v' := by
  rw [f_X6_clearText, hT.2.1]
  exact ⟨_, rfl, ⟨by simp, fun c hc => by simp at hc⟩, by simp [cr_ce]; rfl, fun j x hx => by simp at hx⟩
theorem p_X6_fault {T : List Int32} {b : Nat} (hT : crT T vo) (hI : s_inv b S) (hb : b + 60 < 2 ^ 30) (hC : crC S vh vl vk) (x1 : Int32) : ∃ t tl tk d o, f_X6_fault vh vl vk vt vtl vtk vs vx vd vo x1 = some (r_fault T S x1, t, tl, tk, d, o) ∧ crT T o := by
  rw [f_X6_fault, p_X6_isWithin, Option.bind_some]
  unfold r_fault
  cases h1 : s_in x1 0 2 with
  | false => rw [if_pos (by simp), if_neg (by simp)]; exact ⟨_, _, _, _, _, rfl, hT⟩
  | true =>
    obtain ⟨t, tl, tk, e1, c1⟩ := p_X3_copyFrom hC vt vtl vtk
    have hr := p_X5_runOn hT c1 hI hb vd
    rw [if_neg (by simp), if_pos rfl, e1, Option.bind_some]
    cases hs : s_run T 61 0 S 0 with
    | inl r =>
      rw [hs] at hr
      obtain ⟨o, h', l', k', d', f1, f2, f3, f4, f5, f6⟩ := hr
      rw [f1, Option.bind_some, if_neg f5]
      dsimp only
      rw [f2, f3, f4]
      by_cases a : x1 = 0
      · rw [if_pos a, if_pos a]; exact ⟨_, _, _, _, _, rfl, f6⟩
      · rw [if_neg a, if_neg a]
        by_cases c : x1 = 1
        · rw [if_pos c, if_pos c]; exact ⟨_, _, _, _, _, rfl, f6⟩
        · rw [if_neg c, if_neg c]; exact ⟨_, _, _, _, _, rfl, f6⟩
    | inr r =>
      rw [hs] at hr
      obtain ⟨o, h', l', k', d', f1, f2, f3, f4, f5, f6⟩ := hr
      rw [f1, Option.bind_some, if_pos f2]
      exact ⟨_, _, _, _, _, rfl, f5⟩
def p_OpP (T : List Int32) (b : Nat) (o : cr_R) (S : cr_S) (H : List cr_S) (out : Option (Int32 × cr_V × cr_V × cr_V × cr_V × cr_V × cr_V × cr_V × (Nat → Nat → cr_V) × cr_V × cr_V)) : Prop := match o with
  | .inl e => ∃ h l k t tl tk s x d o, out = some (e, h, l, k, t, tl, tk, s, x, d, o) ∧ crC S h l k ∧ crX H s x ∧ crT T o
  | .inr q => ∃ h l k t tl tk s x d o, out = some (q.1, h, l, k, t, tl, tk, s, x, d, o) ∧ crC q.2 h l k ∧ crX (s_push H S) s x ∧ crT T o ∧ s_inv (b + 60) q.2
theorem p_X6_play {T : List Int32} {b : Nat} (hT : crT T vo) (hI : s_inv b S) (hb : b + 60 < 2 ^ 30) (hC : crC S vh vl vk) (hX : crX H vs vx) : p_OpP T b (o_play T S) S H (f_X6_play vh vl vk vt vtl vtk vs vx vd vo) := by
  obtain ⟨t, tl, tk, e1, c1⟩ := p_X3_copyFrom hC vt vtl vtk
  have hr := p_X5_runOn hT c1 hI hb vd
  rw [f_X6_play, e1, Option.bind_some]
  unfold p_OpP o_play
  cases hs : s_run T 61 0 S 0 with
  | inl r =>
    rw [hs] at hr
    obtain ⟨o, h', l', k', d', f1, f2, f3, f4, f5, f6⟩ := hr
    dsimp only
    rw [f1, Option.bind_some, if_neg f5, f_X6_play_49, p_X6_acceptE e_2, Option.bind_some]
    exact ⟨_, _, _, _, _, _, _, _, _, _, rfl, hC, hX, f6⟩
  | inr r =>
    rw [hs] at hr
    obtain ⟨o, h', l', k', d', f1, f2, f3, f4, f5, f6, f7⟩ := hr
    dsimp only
    rw [f1, Option.bind_some, if_pos f2, f_X6_play_49]
    dsimp only
    rw [f3]
    obtain ⟨h1, l1, k1, s1, x1, g1, g2, g3⟩ := p_X6_accept (vd := d') (vo := o) hC f4 hX (z_ans (show r.1 < 2 ^ 31 by omega))
    rw [g1, Option.bind_some]
    exact ⟨_, _, _, _, _, _, _, _, _, _, rfl, g2, g3, f5, f6⟩
end CRO
