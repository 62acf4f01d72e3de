/-! the class: its past, its operations -/
def crX (H : List cr_S) (vs : cr_V) (vx : Nat → Nat → cr_V) : Prop := H.length ≤ 4 ∧ vs 1 0 = nI H.length ∧ ∀ (i : Nat) (T : cr_S), H[i]? = some T → crC T (vx i 0) (vx i 1) (vx i 2)
theorem cr_setR_at {x : Nat → Nat → cr_V} {k : Nat} {h l c : cr_V} : cr_setR x k h l c k 0 = h ∧ cr_setR x k h l c k 1 = l ∧ cr_setR x k h l c k 2 = c := by
  unfold cr_setR
  rw [show Nat.beq k k = true from Nat.beq_refl k]
  exact ⟨rfl, rfl, rfl⟩
theorem cr_setR_ne {x : Nat → Nat → cr_V} {k j : Nat} {h l c : cr_V} (hj : j ≠ k) : cr_setR x k h l c j = x j := by
  unfold cr_setR
  rw [show Nat.beq j k = false from by cases e : Nat.beq j k with | false => rfl | true => exact absurd (Nat.eq_of_beq_eq_true e) hj]
  rfl
theorem p_X2_record_12 {H : List cr_S} {S : cr_S} {vs vh vl vk : cr_V} {vx : Nat → Nat → cr_V} (hX : crX H vs vx) (hl : H.length < 4) (hC : crC S vh vl vk) : ∃ s x, f_X2_record_12 vs vx vh vl vk = some (s, x) ∧ crX (H ++ [S]) s x := by
  obtain ⟨x1, x2, x3⟩ := hX
  rw [f_X2_record_12, x2, if_pos (cr_inn hl (by omega)), cr_xn (by omega)]
  obtain ⟨h, l, k, e1, e2⟩ := p_X3_copyFrom hC (vx H.length 0) (vx H.length 1) (vx H.length 2)
  rw [e1, Option.bind_some, nI_1]
  refine ⟨_, _, rfl, by rw [List.length_append, List.length_singleton]; omega, by rw [List.length_append, List.length_singleton]; simp [cr_ce], fun i T hT => ?_⟩
  by_cases hi : i = H.length
  · subst hi
    rw [List.getElem?_append_right (Nat.le_refl _), Nat.sub_self] at hT
    cases hT
    rw [cr_setR_at.1, cr_setR_at.2.1, cr_setR_at.2.2]
    exact e2
  · have hlt := p_lt hT
    rw [List.length_append, List.length_singleton] at hlt
    rw [List.getElem?_append_left (by omega)] at hT
    rw [cr_setR_ne hi]
    exact x3 i T hT
theorem p_X2_record {H : List cr_S} {S : cr_S} {vs vh vl vk : cr_V} {vx : Nat → Nat → cr_V} (hX : crX H vs vx) (hC : crC S vh vl vk) : ∃ s x, f_X2_record vs vx vh vl vk = some (s, x) ∧ crX (s_push H S) s x := by
  have hl := hX.1
  rw [f_X2_record, hX.2.1]
  unfold s_push
  by_cases h4 : H.length = 4
  · rw [if_pos h4, if_neg (show ¬ nI H.length < 4 from c_nlt H.length 4 rfl rfl (by omega) (by omega)), f_X2_dropOldest, Option.bind_some]
    refine p_X2_record_12 ⟨by rw [List.length_tail]; omega, by rw [List.length_tail, h4]; simp [cr_ce]; rfl, fun i T hT => ?_⟩ (by rw [List.length_tail]; omega) hC
    have hlt := p_lt hT
    rw [List.length_tail] at hlt
    rw [List.getElem?_tail] at hT
    have := hX.2.2 (i + 1) T hT
    rcases (show i = 0 ∨ i = 1 ∨ i = 2 by omega) with rfl | rfl | rfl <;> exact this
  · rw [if_neg h4, if_pos (show nI H.length < 4 from c_lt H.length 4 rfl rfl (by omega) (by omega))]
    exact p_X2_record_12 hX (by omega) hC
section CRO
variable {vh vl vk vt vtl vtk vs vd vo : cr_V} {vx : Nat → Nat → cr_V} {S : cr_S} {H : List cr_S}
theorem p_X6_acceptE {r : Int32} (h : s_in r (-2000000004) (-2000000001) = true) : f_X6_accept vh vl vk vt vtl vtk vs vx vd vo r = some (r, vh, vl, vk, vs, vx) := by
  rw [f_X6_accept, p_X6_isError, h, Option.bind_some, if_pos rfl, if_neg (by decide)]
theorem p_X6_accept {S' : cr_S} {r : Int32} (hC : crC S vh vl vk) (hC' : crC S' vt vtl vtk) (hX : crX H vs vx) (h : (-2000000001) < r) : ∃ h' l' k' s' x', f_X6_accept vh vl vk vt vtl vtk vs vx vd vo r = some (r, h', l', k', s', x') ∧ crC S' h' l' k' ∧ crX (s_push H S) s' x' := by
  obtain ⟨s', x', a1, a2⟩ := p_X2_record hX hC
  obtain ⟨h', l', k', b1, b2⟩ := p_X3_copyFrom hC' vh vl vk
  rw [f_X6_accept, p_X6_isError, z_nerr h, Option.bind_some, if_pos (show (if false = true then (1 : Int32) else 0) = 0 from rfl), a1, Option.bind_some, b1, Option.bind_some]
  exact ⟨_, _, _, _, _, rfl, b2, a2⟩
def p_OpX (o : cr_R) (S : cr_S) (H : List cr_S) (out : Option (Int32 × cr_V × cr_V × cr_V × cr_V × cr_V × cr_V × cr_V × (Nat → Nat → cr_V))) : Prop := match o with
  | .inl e => ∃ h l k t tl tk s x, out = some (e, h, l, k, t, tl, tk, s, x) ∧ crC S h l k ∧ crX H s x
  | .inr q => ∃ h l k t tl tk s x, out = some (q.1, h, l, k, t, tl, tk, s, x) ∧ crC q.2 h l k ∧ crX (s_push H S) s x
theorem p_X6_lot {b : Nat} (hI : s_inv b S) (hb : b < 2 ^ 30) (hC : crC S vh vl vk) (hX : crX H vs vx) (x1 x2 : Int32) : p_OpX (o_lot S x1 x2) S H (f_X6_lot vh vl vk vt vtl vtk vs vx vd vo x1 x2) := by
  obtain ⟨t, tl, tk, e1, c1⟩ := p_X3_copyFrom hC vt vtl vtk
  have hp := p_X3_bringLot c1 x1 x2
  have hi := i_lot hI hb x1 x2
  rw [f_X6_lot, e1, Option.bind_some]
  unfold p_OpX
  cases ho : o_lot S x1 x2 with
  | inl e =>
    rw [ho] at hp hi
    dsimp only at hp ⊢
    rw [hp, Option.bind_some, p_X6_acceptE hi, Option.bind_some]
    exact ⟨_, _, _, _, _, _, _, _, rfl, hC, hX⟩
  | inr q =>
    rw [ho] at hp hi
    obtain ⟨v, a1, a2⟩ := hp
    dsimp only
    rw [a1, Option.bind_some]
    obtain ⟨h', l', k', s', x', k1, k2, k3⟩ := p_X6_accept (vd := vd) (vo := vo) hC a2 hX hi.1
    rw [k1, Option.bind_some]
    exact ⟨_, _, _, _, _, _, _, _, rfl, k2, k3⟩
theorem p_X6_part {b : Nat} (hI : s_inv b S) (hb : b < 2 ^ 30) (hC : crC S vh vl vk) (hX : crX H vs vx) (x1 x2 : Int32) : p_OpX (o_part S x1 x2) S H (f_X6_part vh vl vk vt vtl vtk vs vx vd vo x1 x2) := by
  obtain ⟨t, tl, tk, e1, c1⟩ := p_X3_copyFrom hC vt vtl vtk
  have hp := p_X3_partLot c1 x1 x2
  have hi := i_part hI hb x1 x2
  rw [f_X6_part, e1, Option.bind_some]
  unfold p_OpX
  cases ho : o_part S x1 x2 with
  | inl e =>
    rw [ho] at hp hi
    dsimp only at hp ⊢
    rw [hp, Option.bind_some, p_X6_acceptE hi, Option.bind_some]
    exact ⟨_, _, _, _, _, _, _, _, rfl, hC, hX⟩
  | inr q =>
    rw [ho] at hp hi
    obtain ⟨v, a1, a2⟩ := hp
    dsimp only
    rw [a1, Option.bind_some]
    obtain ⟨h', l', k', s', x', k1, k2, k3⟩ := p_X6_accept (vd := vd) (vo := vo) hC a2 hX hi.1
    rw [k1, Option.bind_some]
    exact ⟨_, _, _, _, _, _, _, _, rfl, k2, k3⟩
theorem p_X6_blend {b : Nat} (hI : s_inv b S) (hb : b < 2 ^ 30) (hC : crC S vh vl vk) (hX : crX H vs vx) (x1 x2 x3 x4 : Int32) : p_OpX (o_blend S x1 x2 x3 x4) S H (f_X6_blend vh vl vk vt vtl vtk vs vx vd vo x1 x2 x3 x4) := by
  obtain ⟨t, tl, tk, e1, c1⟩ := p_X3_copyFrom hC vt vtl vtk
  have hp := p_X3_blendLots c1 (fun j x hx => by obtain ⟨a0, m, hm, ha, h0, h5, hd, hL, hrest⟩ := hI; obtain ⟨g, g1, g2, g3⟩ := (hL x (List.mem_of_getElem? hx)).bags; rw [g3, nI_toInt (by omega)]; omega) x1 x2 x3 x4
  have hi := i_blend hI hb x1 x2 x3 x4
  rw [f_X6_blend, e1, Option.bind_some]
  unfold p_OpX
  cases ho : o_blend S x1 x2 x3 x4 with
  | inl e =>
    rw [ho] at hp hi
    dsimp only at hp ⊢
    rw [hp, Option.bind_some, p_X6_acceptE hi, Option.bind_some]
    exact ⟨_, _, _, _, _, _, _, _, rfl, hC, hX⟩
  | inr q =>
    rw [ho] at hp hi
    obtain ⟨v, a1, a2⟩ := hp
    dsimp only
    rw [a1, Option.bind_some]
    obtain ⟨h', l', k', s', x', k1, k2, k3⟩ := p_X6_accept (vd := vd) (vo := vo) hC a2 hX hi.1
    rw [k1, Option.bind_some]
    exact ⟨_, _, _, _, _, _, _, _, rfl, k2, k3⟩
theorem p_X6_cup {b : Nat} (hI : s_inv b S) (hC : crC S vh vl vk) (hX : crX H vs vx) (x1 : Int32) : p_OpX (o_cup S x1) S H (f_X6_cup vh vl vk vt vtl vtk vs vx vd vo x1) := by
  obtain ⟨t, tl, tk, e1, c1⟩ := p_X3_copyFrom hC vt vtl vtk
  have hp := p_X3_cupAnew c1 x1
  have hi := i_cup hI x1
  rw [f_X6_cup, e1, Option.bind_some]
  unfold p_OpX
  cases ho : o_cup S x1 with
  | inl e =>
    rw [ho] at hp hi
    dsimp only at hp ⊢
    rw [hp, Option.bind_some, p_X6_acceptE hi, Option.bind_some]
    exact ⟨_, _, _, _, _, _, _, _, rfl, hC, hX⟩
  | inr q =>
    rw [ho] at hp hi
    obtain ⟨v, a1, a2⟩ := hp
    dsimp only
    rw [a1, Option.bind_some]
    obtain ⟨h', l', k', s', x', k1, k2, k3⟩ := p_X6_accept (vd := vd) (vo := vo) hC a2 hX hi.1
    rw [k1, Option.bind_some]
    exact ⟨_, _, _, _, _, _, _, _, rfl, k2, k3⟩
theorem p_X6_worth {b : Nat} (hI : s_inv b S) (hC : crC S vh vl vk) (hX : crX H vs vx) (x1 x2 : Int32) : p_OpX (o_worth S x1 x2) S H (f_X6_worth vh vl vk vt vtl vtk vs vx vd vo x1 x2) := by
  obtain ⟨t, tl, tk, e1, c1⟩ := p_X3_copyFrom hC vt vtl vtk
  have hp := p_X3_changeWorth c1 x1 x2
  have hi := i_worth hI x1 x2
  rw [f_X6_worth, e1, Option.bind_some]
  unfold p_OpX
  cases ho : o_worth S x1 x2 with
  | inl e =>
    rw [ho] at hp hi
    dsimp only at hp ⊢
    rw [hp, Option.bind_some, p_X6_acceptE hi, Option.bind_some]
    exact ⟨_, _, _, _, _, _, _, _, rfl, hC, hX⟩
  | inr q =>
    rw [ho] at hp hi
    obtain ⟨v, a1, a2⟩ := hp
    dsimp only
    rw [a1, Option.bind_some]
    obtain ⟨h', l', k', s', x', k1, k2, k3⟩ := p_X6_accept (vd := vd) (vo := vo) hC a2 hX hi.1
    rw [k1, Option.bind_some]
    exact ⟨_, _, _, _, _, _, _, _, rfl, k2, k3⟩
theorem p_X6_sell {b : Nat} (hI : s_inv b S) (hC : crC S vh vl vk) (hX : crX H vs vx) (x1 x2 : Int32) : p_OpX (o_sell S x1 x2) S H (f_X6_sell vh vl vk vt vtl vtk vs vx vd vo x1 x2) := by
  obtain ⟨t, tl, tk, e1, c1⟩ := p_X3_copyFrom hC vt vtl vtk
  have hp := p_X3_sellContract c1 x1 x2
  have hi := i_sell hI hC.2.1.1 x1 x2
  rw [f_X6_sell, e1, Option.bind_some]
  unfold p_OpX
  cases ho : o_sell S x1 x2 with
  | inl e =>
    rw [ho] at hp hi
    dsimp only at hp ⊢
    rw [hp, Option.bind_some, p_X6_acceptE hi, Option.bind_some]
    exact ⟨_, _, _, _, _, _, _, _, rfl, hC, hX⟩
  | inr q =>
    rw [ho] at hp hi
    obtain ⟨v, a1, a2⟩ := hp
    dsimp only
    rw [a1, Option.bind_some]
    obtain ⟨h', l', k', s', x', k1, k2, k3⟩ := p_X6_accept (vd := vd) (vo := vo) hC a2 hX hi.1
    rw [k1, Option.bind_some]
    exact ⟨_, _, _, _, _, _, _, _, rfl, k2, k3⟩
theorem p_X6_set {b : Nat} (hI : s_inv b S) (hC : crC S vh vl vk) (hX : crX H vs vx) (x1 x2 : Int32) : p_OpX (o_set S x1 x2) S H (f_X6_set vh vl vk vt vtl vtk vs vx vd vo x1 x2) := by
  obtain ⟨t, tl, tk, e1, c1⟩ := p_X3_copyFrom hC vt vtl vtk
  have hp := p_X3_changeSetting c1 x1 x2
  have hi := i_set hI x1 x2
  rw [f_X6_set, e1, Option.bind_some]
  unfold p_OpX
  cases ho : o_set S x1 x2 with
  | inl e =>
    rw [ho] at hp hi
    dsimp only at hp ⊢
    rw [hp, Option.bind_some, p_X6_acceptE hi, Option.bind_some]
    exact ⟨_, _, _, _, _, _, _, _, rfl, hC, hX⟩
  | inr q =>
    rw [ho] at hp hi
    obtain ⟨v, a1, a2⟩ := hp
    dsimp only
    rw [a1, Option.bind_some]
    obtain ⟨h', l', k', s', x', k1, k2, k3⟩ := p_X6_accept (vd := vd) (vo := vo) hC a2 hX hi.1
    rw [k1, Option.bind_some]
    exact ⟨_, _, _, _, _, _, _, _, rfl, k2, k3⟩
theorem p_X6_buyBack {b : Nat} (hI : s_inv b S) (hC : crC S vh vl vk) (hX : crX H vs vx) (x1 x2 : Int32) : p_OpX (o_buy S x1 x2) S H (f_X6_buyBack vh vl vk vt vtl vtk vs vx vd vo x1 x2) := by
  obtain ⟨t, tl, tk, e1, c1⟩ := p_X3_copyFrom hC vt vtl vtk
  have hp := p_X3_buyContractBack c1 x1 x2
  have hi := i_buy hI hC.2.1.1 x1 x2
  rw [f_X6_buyBack, e1, Option.bind_some]
  unfold p_OpX
  cases ho : o_buy S x1 x2 with
  | inl e =>
    rw [ho] at hp hi
    dsimp only at hp ⊢
    rw [hp, Option.bind_some, p_X6_acceptE hi, Option.bind_some]
    exact ⟨_, _, _, _, _, _, _, _, rfl, hC, hX⟩
  | inr q =>
    rw [ho] at hp hi
    obtain ⟨v, v2, a1, a2⟩ := hp
    dsimp only
    rw [a1, Option.bind_some]
    obtain ⟨h', l', k', s', x', k1, k2, k3⟩ := p_X6_accept (vd := vd) (vo := vo) hC a2 hX hi.1
    rw [k1, Option.bind_some]
    exact ⟨_, _, _, _, _, _, _, _, rfl, k2, k3⟩
theorem p_X6_pass {b : Nat} (hI : s_inv b S) (hC : crC S vh vl vk) (hX : crX H vs vx) (x1 : Int32) : p_OpX (o_pass S x1) S H (f_X6_pass vh vl vk vt vtl vtk vs vx vd vo x1) := by
  obtain ⟨t, tl, tk, e1, c1⟩ := p_X3_copyFrom hC vt vtl vtk
  have hp := p_X3_passMonths c1 x1
  have hi := i_pass hI hC.2.1.1 x1
  rw [f_X6_pass, e1, Option.bind_some]
  unfold p_OpX
  cases ho : o_pass S x1 with
  | inl e =>
    rw [ho] at hp hi
    dsimp only at hp ⊢
    rw [hp, Option.bind_some, p_X6_acceptE hi, Option.bind_some]
    exact ⟨_, _, _, _, _, _, _, _, rfl, hC, hX⟩
  | inr q =>
    rw [ho] at hp hi
    obtain ⟨v, v2, a1, a2⟩ := hp
    dsimp only
    rw [a1, Option.bind_some]
    obtain ⟨h', l', k', s', x', k1, k2, k3⟩ := p_X6_accept (vd := vd) (vo := vo) hC a2 hX hi.1
    rw [k1, Option.bind_some]
    exact ⟨_, _, _, _, _, _, _, _, rfl, k2, k3⟩
def p_OpM (o : cr_R) (S : cr_S) (H : List cr_S) (out : Option (Int32 × cr_V × cr_V × cr_V × cr_V × cr_V × cr_V × cr_V × (Nat → Nat → cr_V) × cr_V)) : Prop := match o with
  | .inl e => ∃ h l k t tl tk s x d, out = some (e, h, l, k, t, tl, tk, s, x, d) ∧ crC S h l k ∧ crX H s x
  | .inr q => ∃ h l k t tl tk s x d, out = some (q.1, h, l, k, t, tl, tk, s, x, d) ∧ crC q.2 h l k ∧ crX (s_push H S) s x
theorem p_X6_meet {b : Nat} (hI : s_inv b S) (hC : crC S vh vl vk) (hX : crX H vs vx) (x1 : Int32) : p_OpM (o_meet S x1) S H (f_X6_meet vh vl vk vt vtl vtk vs vx vd vo x1) := by
  obtain ⟨t, tl, tk, e1, c1⟩ := p_X3_copyFrom hC vt vtl vtk
  have hp := p_X3_meetContract c1 vd x1
  have hi := i_meet hI hC.1.1 hC.2.1.1 x1
  rw [f_X6_meet, e1, Option.bind_some]
  unfold p_OpM
  cases ho : o_meet S x1 with
  | inl e =>
    rw [ho] at hp hi
    obtain ⟨d, a1⟩ := hp
    dsimp only
    rw [a1, Option.bind_some, p_X6_acceptE hi, Option.bind_some]
    exact ⟨_, _, _, _, _, _, _, _, _, rfl, hC, hX⟩
  | inr q =>
    rw [ho] at hp hi
    obtain ⟨u1, u2, u3, d, a1, a2⟩ := hp
    dsimp only
    rw [a1, Option.bind_some]
    obtain ⟨h', l', k', s', x', k1, k2, k3⟩ := p_X6_accept (vd := d) (vo := vo) hC a2 hX hi.1
    rw [k1, Option.bind_some]
    exact ⟨_, _, _, _, _, _, _, _, _, rfl, k2, k3⟩
def p_OpP (T : List Int32) (b : Nat) (o : cr_R) (S : cr_S) (H : List cr_S) (out : Option (Int32 × cr_V × cr_V × cr_V × cr_V × cr_V × cr_V × cr_V × (Nat → Nat → cr_V) × cr_V × cr_V)) : Prop := match o with
  | .inl e => ∃ h l k t tl tk s x d o, out = some (e, h, l, k, t, tl, tk, s, x, d, o) ∧ crC S h l k ∧ crX H s x ∧ crT T o
  | .inr q => ∃ h l k t tl tk s x d o, out = some (q.1, h, l, k, t, tl, tk, s, x, d, o) ∧ crC q.2 h l k ∧ crX (s_push H S) s x ∧ crT T o ∧ s_inv (b + 60) q.2
end CRO
