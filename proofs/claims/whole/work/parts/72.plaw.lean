/-! class and model, side by side: every call answers alike -/
def lwR (b : Nat) (vh vl vk vs vo vz : cr_V) (vx : Nat → Nat → cr_V) : Prop := ∃ (S : cr_S) (H : List cr_S) (T : List Int32), crC S vh vl vk ∧ crX H vs vx ∧ crT T vo ∧ mdA S H T vz ∧ s_inv b S ∧ ∀ U ∈ H, s_inv b U
theorem mdA.sm {S : cr_S} {H : List cr_S} {T : List Int32} {v v' : cr_V} (hA : mdA S H T v) (h : sameC [7, 8, 9, 10] v v') : mdA S H T v' :=
  ⟨by rw [h 0 (by simp)]; exact hA.1, hA.2.1.sm h (by simp) (by simp), hA.2.2.1.sm h (by simp) (by simp), by rw [h 4 (by simp)]; exact hA.2.2.2⟩
theorem s_push_mem {H : List cr_S} {S U : cr_S} (h : U ∈ s_push H S) : U ∈ H ∨ U = S := by
  unfold s_push at h
  split at h
  · rcases List.mem_append.mp h with k | k
    · exact Or.inl (List.mem_of_mem_tail k)
    · exact Or.inr (List.mem_singleton.mp k)
  · rcases List.mem_append.mp h with k | k
    · exact Or.inl k
    · exact Or.inr (List.mem_singleton.mp k)
def q_Md (o : cr_R) (S : cr_S) (H : List cr_S) (T : List Int32) (out : Option (Int32 × cr_V)) : Prop := match o with
  | .inl e => ∃ v', out = some (e, v') ∧ mdA S H T v'
  | .inr q => ∃ v', out = some (q.1, v') ∧ mdA q.2 (s_push H S) T v'
theorem q_Ok.md {o : cr_R} {S : cr_S} {H : List cr_S} {T : List Int32} {v : cr_V} {out : Option (Int32 × cr_V)} (h : q_Ok o S H v out) (hA : mdA S H T v) : q_Md o S H T out := by
  unfold q_Ok at h
  unfold q_Md
  cases o with
  | inl e =>
    obtain ⟨v', e1, e2, e3, e4⟩ := h
    exact ⟨v', e1, e2, e3, hA.2.2.1.sm e4 (by simp) (by simp), by rw [e4 4 (by simp)]; exact hA.2.2.2⟩
  | inr q =>
    obtain ⟨v', e1, e2, e3, e4⟩ := h
    have hc : s_chg (v 4 0) H S = s_push H S := by unfold s_chg; rw [if_pos hA.2.2.2]
    rw [hc] at e3
    exact ⟨v', e1, e2, e3, hA.2.2.1.sm e4 (by simp) (by simp), by rw [e4 4 (by simp)]; exact hA.2.2.2⟩
section LWR
variable {b : Nat} {vh vl vk vt vtl vtk vs vd vo vz : cr_V} {vx : Nat → Nat → cr_V}
theorem lw_op {o : cr_R} {S : cr_S} {H : List cr_S} {T : List Int32} {outC : Option (Int32 × cr_V × cr_V × cr_V × cr_V × cr_V × cr_V × cr_V × (Nat → Nat → cr_V))} {outM : Option (Int32 × cr_V)} (hO : p_OpX o S H outC) (hT : crT T vo) (hQ : q_Ok o S H vz outM) (hA : mdA S H T vz) (hi : s_Op b o) (hI : s_inv b S) (hH : ∀ U ∈ H, s_inv b U) :
    ∃ r h l k t tl tk s x vz', outC = some (r, h, l, k, t, tl, tk, s, x) ∧ outM = some (r, vz') ∧ lwR (b + 60) h l k s vo vz' x := by
  have hq := hQ.md hA
  unfold p_OpX at hO
  cases o with
  | inl e =>
    obtain ⟨h, l, k, t, tl, tk, s, x, e1, e2, e3⟩ := hO
    obtain ⟨v', f1, f2⟩ := hq
    exact ⟨e, h, l, k, t, tl, tk, s, x, v', e1, f1, S, H, T, e2, e3, hT, f2, hI.mono (by omega), fun U hU => (hH U hU).mono (by omega)⟩
  | inr q =>
    obtain ⟨h, l, k, t, tl, tk, s, x, e1, e2, e3⟩ := hO
    obtain ⟨v', f1, f2⟩ := hq
    refine ⟨q.1, h, l, k, t, tl, tk, s, x, v', e1, f1, q.2, s_push H S, T, e2, e3, hT, f2, hi.2.mono (by omega), fun U hU => ?_⟩
    rcases s_push_mem hU with k | k
    · exact (hH U k).mono (by omega)
    · rw [k]; exact hI.mono (by omega)
theorem s_inv.dist {S : cr_S} (h : s_inv b S) : s_dist S.1 := by
  obtain ⟨a, m, hm, ha, h0, h5, hd, hr⟩ := h
  exact hd
theorem s_inv.bag {S : cr_S} (h : s_inv b S) : ∀ x ∈ S.1, s_in x.2.1 1 9999 = true := by
  obtain ⟨a, m, hm, ha, h0, h5, hd, hL, hr⟩ := h
  exact fun x hx => (hL x hx).inb
theorem s_inv.bag1 {S : cr_S} (h : s_inv b S) : ∀ (j : Nat) (x : cr_Lot), S.1[j]? = some x → 1 ≤ x.2.1 := by
  obtain ⟨a, m, hm, ha, h0, h5, hd, hL, hr⟩ := h
  intro j x hx
  obtain ⟨g, g1, g2, g3⟩ := (hL x (List.mem_of_getElem? hx)).bags
  rw [g3]; exact c_le 1 g rfl rfl g1 (by omega)
theorem s_inv.pas {S : cr_S} (h : s_inv b S) : ∃ a, a ≤ 999 ∧ S.2.2.2.2 0 = nI a ∧ ∀ c ∈ S.2.1, ¬ c.1 < S.2.2.2.2 0 := by
  obtain ⟨a, m, hm, ha, h0, h5, hd, hL, hK, hr⟩ := h
  refine ⟨a, ha, h0, fun d hd => ?_⟩
  obtain ⟨⟨k, k1, k2, k3⟩, -⟩ := hK d hd
  rw [k3, h0]; exact nI_nlt k1 (by omega)
theorem lw_lot (hR : lwR b vh vl vk vs vo vz vx) (hb : b < 2 ^ 30) (x1 x2 : Int32) : ∃ r h l k t tl tk s x vz', f_X6_lot vh vl vk vt vtl vtk vs vx vd vo x1 x2 = some (r, h, l, k, t, tl, tk, s, x) ∧ f_X7_lot vz x1 x2 = some (r, vz') ∧ lwR (b + 60) h l k s vo vz' x := by
  obtain ⟨S, H, T, hC, hX, hT, hA, hI, hH⟩ := hR
  exact lw_op (p_X6_lot (vt := vt) (vtl := vtl) (vtk := vtk) (vd := vd) (vo := vo) hI hb hC hX x1 x2) hT (q_lot hA.1 hA.2.1 x1 x2) hA (i_lot hI hb x1 x2) hI hH
theorem lw_part (hR : lwR b vh vl vk vs vo vz vx) (hb : b < 2 ^ 30) (x1 x2 : Int32) : ∃ r h l k t tl tk s x vz', f_X6_part vh vl vk vt vtl vtk vs vx vd vo x1 x2 = some (r, h, l, k, t, tl, tk, s, x) ∧ f_X7_part vz x1 x2 = some (r, vz') ∧ lwR (b + 60) h l k s vo vz' x := by
  obtain ⟨S, H, T, hC, hX, hT, hA, hI, hH⟩ := hR
  exact lw_op (p_X6_part (vt := vt) (vtl := vtl) (vtk := vtk) (vd := vd) (vo := vo) hI hb hC hX x1 x2) hT (q_part hA.1 hA.2.1 x1 x2) hA (i_part hI hb x1 x2) hI hH
theorem lw_blend (hR : lwR b vh vl vk vs vo vz vx) (hb : b < 2 ^ 30) (x1 x2 x3 x4 : Int32) : ∃ r h l k t tl tk s x vz', f_X6_blend vh vl vk vt vtl vtk vs vx vd vo x1 x2 x3 x4 = some (r, h, l, k, t, tl, tk, s, x) ∧ f_X7_blend vz x1 x2 x3 x4 = some (r, vz') ∧ lwR (b + 60) h l k s vo vz' x := by
  obtain ⟨S, H, T, hC, hX, hT, hA, hI, hH⟩ := hR
  exact lw_op (p_X6_blend (vt := vt) (vtl := vtl) (vtk := vtk) (vd := vd) (vo := vo) hI hb hC hX x1 x2 x3 x4) hT (q_blend hA.1 hA.2.1 hI.dist hI.bag x1 x2 x3 x4) hA (i_blend hI hb x1 x2 x3 x4) hI hH
theorem lw_cup (hR : lwR b vh vl vk vs vo vz vx) (x1 : Int32) : ∃ r h l k t tl tk s x vz', f_X6_cup vh vl vk vt vtl vtk vs vx vd vo x1 = some (r, h, l, k, t, tl, tk, s, x) ∧ f_X7_cup vz x1 = some (r, vz') ∧ lwR (b + 60) h l k s vo vz' x := by
  obtain ⟨S, H, T, hC, hX, hT, hA, hI, hH⟩ := hR
  exact lw_op (p_X6_cup (vt := vt) (vtl := vtl) (vtk := vtk) (vd := vd) (vo := vo) hI hC hX x1) hT (q_cup hA.1 hA.2.1 hI.bag1 x1) hA (i_cup hI x1) hI hH
theorem lw_worth (hR : lwR b vh vl vk vs vo vz vx) (x1 x2 : Int32) : ∃ r h l k t tl tk s x vz', f_X6_worth vh vl vk vt vtl vtk vs vx vd vo x1 x2 = some (r, h, l, k, t, tl, tk, s, x) ∧ f_X7_worth vz x1 x2 = some (r, vz') ∧ lwR (b + 60) h l k s vo vz' x := by
  obtain ⟨S, H, T, hC, hX, hT, hA, hI, hH⟩ := hR
  exact lw_op (p_X6_worth (vt := vt) (vtl := vtl) (vtk := vtk) (vd := vd) (vo := vo) hI hC hX x1 x2) hT (q_worth hA.1 hA.2.1 x1 x2) hA (i_worth hI x1 x2) hI hH
theorem lw_sell (hR : lwR b vh vl vk vs vo vz vx) (x1 x2 : Int32) : ∃ r h l k t tl tk s x vz', f_X6_sell vh vl vk vt vtl vtk vs vx vd vo x1 x2 = some (r, h, l, k, t, tl, tk, s, x) ∧ f_X7_sell vz x1 x2 = some (r, vz') ∧ lwR (b + 60) h l k s vo vz' x := by
  obtain ⟨S, H, T, hC, hX, hT, hA, hI, hH⟩ := hR
  exact lw_op (p_X6_sell (vt := vt) (vtl := vtl) (vtk := vtk) (vd := vd) (vo := vo) hI hC hX x1 x2) hT (q_sell hA.1 hA.2.1 x1 x2) hA (i_sell hI hC.2.1.1 x1 x2) hI hH
theorem lw_buyBack (hR : lwR b vh vl vk vs vo vz vx) (x1 x2 : Int32) : ∃ r h l k t tl tk s x vz', f_X6_buyBack vh vl vk vt vtl vtk vs vx vd vo x1 x2 = some (r, h, l, k, t, tl, tk, s, x) ∧ f_X7_buyBack vz x1 x2 = some (r, vz') ∧ lwR (b + 60) h l k s vo vz' x := by
  obtain ⟨S, H, T, hC, hX, hT, hA, hI, hH⟩ := hR
  exact lw_op (p_X6_buyBack (vt := vt) (vtl := vtl) (vtk := vtk) (vd := vd) (vo := vo) hI hC hX x1 x2) hT (q_buyBack hA.1 hA.2.1 x1 x2) hA (i_buy hI hC.2.1.1 x1 x2) hI hH
theorem lw_set (hR : lwR b vh vl vk vs vo vz vx) (x1 x2 : Int32) : ∃ r h l k t tl tk s x vz', f_X6_set vh vl vk vt vtl vtk vs vx vd vo x1 x2 = some (r, h, l, k, t, tl, tk, s, x) ∧ f_X7_set vz x1 x2 = some (r, vz') ∧ lwR (b + 60) h l k s vo vz' x := by
  obtain ⟨S, H, T, hC, hX, hT, hA, hI, hH⟩ := hR
  exact lw_op (p_X6_set (vt := vt) (vtl := vtl) (vtk := vtk) (vd := vd) (vo := vo) hI hC hX x1 x2) hT (q_set hA.1 hA.2.1 x1 x2) hA (i_set hI x1 x2) hI hH
theorem lw_pass (hR : lwR b vh vl vk vs vo vz vx) (x1 : Int32) : ∃ r h l k t tl tk s x vz', f_X6_pass vh vl vk vt vtl vtk vs vx vd vo x1 = some (r, h, l, k, t, tl, tk, s, x) ∧ f_X7_pass vz x1 = some (r, vz') ∧ lwR (b + 60) h l k s vo vz' x := by
  obtain ⟨S, H, T, hC, hX, hT, hA, hI, hH⟩ := hR
  obtain ⟨a, a1, a2, a3⟩ := hI.pas
  exact lw_op (p_X6_pass (vt := vt) (vtl := vtl) (vtk := vtk) (vd := vd) (vo := vo) hI hC hX x1) hT (q_pass hA.1 hA.2.1 a1 a2 a3 x1) hA (i_pass hI hC.2.1.1 x1) hI hH
theorem lw_meet (hR : lwR b vh vl vk vs vo vz vx) (x1 : Int32) : ∃ r h l k t tl tk s x d vz', f_X6_meet vh vl vk vt vtl vtk vs vx vd vo x1 = some (r, h, l, k, t, tl, tk, s, x, d) ∧ f_X7_meet vz x1 = some (r, vz') ∧ lwR (b + 60) h l k s vo vz' x := by
  obtain ⟨S, H, T, hC, hX, hT, hA, hI, hH⟩ := hR
  have hO := p_X6_meet (vt := vt) (vtl := vtl) (vtk := vtk) (vd := vd) (vo := vo) hI hC hX x1
  have hq := (q_meet hA.1 hA.2.1 hI.dist hI.bag x1).md hA
  have hi := i_meet hI hC.1.1 hC.2.1.1 x1
  unfold p_OpM at hO
  cases ho : o_meet S x1 with
  | inl e =>
    rw [ho] at hO hq hi
    obtain ⟨h, l, k, t, tl, tk, s, x, d, e1, e2, e3⟩ := hO
    obtain ⟨v', f1, f2⟩ := hq
    exact ⟨e, h, l, k, t, tl, tk, s, x, d, v', e1, f1, S, H, T, e2, e3, hT, f2, hI.mono (by omega), fun U hU => (hH U hU).mono (by omega)⟩
  | inr q =>
    rw [ho] at hO hq hi
    obtain ⟨h, l, k, t, tl, tk, s, x, d, e1, e2, e3⟩ := hO
    obtain ⟨v', f1, f2⟩ := hq
    refine ⟨q.1, h, l, k, t, tl, tk, s, x, d, v', e1, f1, q.2, s_push H S, T, e2, e3, hT, f2, hi.2.mono (by omega), fun U hU => ?_⟩
    rcases s_push_mem hU with k | k
    · exact (hH U k).mono (by omega)
    · rw [k]; exact hI.mono (by omega)
theorem lw_lotOf (hR : lwR b vh vl vk vs vo vz vx) (x1 x2 : Int32) : ∃ r, f_X6_lotOf vh vl vk vt vtl vtk vs vx vd vo x1 x2 = some r ∧ f_X7_lotOf vz x1 x2 = some r := by
  obtain ⟨S, H, T, hC, hX, hT, hA, hI, hH⟩ := hR
  exact ⟨_, p_X6_lotOf hC x1 x2, q_lotOf hA.1 x1 x2⟩
theorem lw_numberOf (hR : lwR b vh vl vk vs vo vz vx) (x1 : Int32) : ∃ r, f_X6_numberOf vh vl vk vt vtl vtk vs vx vd vo x1 = some r ∧ f_X7_numberOf vz x1 = some r := by
  obtain ⟨S, H, T, hC, hX, hT, hA, hI, hH⟩ := hR
  exact ⟨_, p_X6_numberOf hC x1, q_numberOf hA.1 x1⟩
theorem lw_contractOf (hR : lwR b vh vl vk vs vo vz vx) (x1 x2 : Int32) : ∃ r, f_X6_contractOf vh vl vk vt vtl vtk vs vx vd vo x1 x2 = some r ∧ f_X7_contractOf vz x1 x2 = some r := by
  obtain ⟨S, H, T, hC, hX, hT, hA, hI, hH⟩ := hR
  exact ⟨_, p_X6_contractOf hC x1 x2, q_contractOf hA.1 x1 x2⟩
theorem lw_paid (hR : lwR b vh vl vk vs vo vz vx) (x1 x2 x3 : Int32) : ∃ r, f_X6_paid vh vl vk vt vtl vtk vs vx vd vo x1 x2 x3 = some r ∧ f_X7_paid vz x1 x2 x3 = some r := by
  obtain ⟨S, H, T, hC, hX, hT, hA, hI, hH⟩ := hR
  exact ⟨_, p_X6_paid hC x1 x2 x3, q_paid hA.1 x1 x2 x3⟩
theorem lw_given (hR : lwR b vh vl vk vs vo vz vx) (x1 x2 x3 : Int32) : ∃ r d vz', f_X6_given vh vl vk vt vtl vtk vs vx vd vo x1 x2 x3 = some (r, d) ∧ f_X7_given vz x1 x2 x3 = some (r, vz') ∧ lwR b vh vl vk vs vo vz' vx := by
  obtain ⟨S, H, T, hC, hX, hT, hA, hI, hH⟩ := hR
  obtain ⟨d, e1⟩ := p_X6_given (vt := vt) (vtl := vtl) (vtk := vtk) (vs := vs) (vd := vd) (vo := vo) (vx := vx) hC x1 x2 x3
  obtain ⟨v', f1, f2⟩ := q_given hA.1 x1 x2 x3
  exact ⟨_, d, v', e1, f1, S, H, T, hC, hX, hT, hA.sm f2, hI, hH⟩
theorem lw_would (hR : lwR b vh vl vk vs vo vz vx) (x1 x2 : Int32) : ∃ r d vz', f_X6_would vh vl vk vt vtl vtk vs vx vd vo x1 x2 = some (r, d) ∧ f_X7_would vz x1 x2 = some (r, vz') ∧ lwR b vh vl vk vs vo vz' vx := by
  obtain ⟨S, H, T, hC, hX, hT, hA, hI, hH⟩ := hR
  obtain ⟨d, e1⟩ := p_X6_would (vt := vt) (vtl := vtl) (vtk := vtk) (vs := vs) (vd := vd) (vo := vo) (vx := vx) hI hC x1 x2
  obtain ⟨v', f1, f2⟩ := q_would hI hA.1 x1 x2
  exact ⟨_, d, v', e1, f1, S, H, T, hC, hX, hT, hA.sm f2, hI, hH⟩
theorem lw_lift (hR : lwR b vh vl vk vs vo vz vx) (x1 x2 x3 : Int32) : ∃ r, f_X6_lift vh vl vk vt vtl vtk vs vx vd vo x1 x2 x3 = some r ∧ f_X7_lift vz x1 x2 x3 = some r := by
  obtain ⟨S, H, T, hC, hX, hT, hA, hI, hH⟩ := hR
  exact ⟨_, p_X6_lift hI hC x1 x2 x3, q_lift hI hA.1 x1 x2 x3⟩
theorem lw_bestMonth (hR : lwR b vh vl vk vs vo vz vx) (x1 x2 : Int32) : ∃ r d vz', f_X6_bestMonth vh vl vk vt vtl vtk vs vx vd vo x1 x2 = some (r, d) ∧ f_X7_bestMonth vz x1 x2 = some (r, vz') ∧ lwR b vh vl vk vs vo vz' vx := by
  obtain ⟨S, H, T, hC, hX, hT, hA, hI, hH⟩ := hR
  obtain ⟨d, e1⟩ := p_X6_best (vt := vt) (vtl := vtl) (vtk := vtk) (vs := vs) (vd := vd) (vo := vo) (vx := vx) hI hC x1 x2
  obtain ⟨v', f1, f2⟩ := q_best hA.1 x1 x2
  exact ⟨_, d, v', e1, f1, S, H, T, hC, hX, hT, hA.sm f2, hI, hH⟩
theorem lw_count (hR : lwR b vh vl vk vs vo vz vx) (x1 : Int32) : ∃ r, f_X6_count vh vl vk vt vtl vtk vs vx vd vo x1 = some r ∧ f_X7_count vz x1 = some r := by
  obtain ⟨S, H, T, hC, hX, hT, hA, hI, hH⟩ := hR
  refine ⟨_, p_X6_count hC x1, ?_⟩
  rw [q_count hA.1 x1, hX.2.1, hT.2.1, hA.2.1.2.1, hA.2.2.1.2.1]
theorem lw_undo (hR : lwR b vh vl vk vs vo vz vx) : ∃ r h l k s vz', f_X6_undo vh vl vk vt vtl vtk vs vx vd vo = some (r, h, l, k, s) ∧ f_X7_undo vz = some (r, vz') ∧ lwR b h l k s vo vz' vx := by
  obtain ⟨S, H, T, hC, hX, hT, hA, hI, hH⟩ := hR
  rcases List.eq_nil_or_concat H with rfl | ⟨G, U, rfl⟩
  · exact ⟨_, _, _, _, _, _, p_X6_undo0 hC hX, q_undo0 hA.2.1, S, [], T, hC, hX, hT, hA, hI, hH⟩
  · rw [List.concat_eq_append] at hX hA hH
    obtain ⟨h, l, k, s, e1, e2, e3⟩ := p_X6_undo1 (vh := vh) (vl := vl) (vk := vk) (vt := vt) (vtl := vtl) (vtk := vtk) (vd := vd) (vo := vo) hX
    obtain ⟨v', f1, f2, f3, f4⟩ := q_undo1 hA.2.1
    exact ⟨_, h, l, k, s, v', e1, f1, U, G, T, e2, e3, hT, ⟨f2, f3, hA.2.2.1.sm f4 (by simp) (by simp), by rw [f4 4 (by simp)]; exact hA.2.2.2⟩, hH U (by simp), fun V hV => hH V (by simp [hV])⟩
theorem lw_type (hR : lwR b vh vl vk vs vo vz vx) (x1 : Int32) : ∃ r o vz', f_X6_type vh vl vk vt vtl vtk vs vx vd vo x1 = some (r, o) ∧ f_X7_type vz x1 = some (r, vz') ∧ lwR b vh vl vk vs o vz' vx := by
  obtain ⟨S, H, T, hC, hX, hT, hA, hI, hH⟩ := hR
  have h1 := p_X6_type (vh := vh) (vl := vl) (vk := vk) (vt := vt) (vtl := vtl) (vtk := vtk) (vs := vs) (vd := vd) (vx := vx) hT x1
  have h2 := q_type hA x1
  cases ht : s_typed T x1 with
  | inl e =>
    rw [ht] at h1 h2
    exact ⟨_, _, _, h1, h2, S, H, T, hC, hX, hT, hA, hI, hH⟩
  | inr T' =>
    rw [ht] at h1 h2
    obtain ⟨o, e1, e2⟩ := h1
    obtain ⟨v', f1, f2⟩ := h2
    exact ⟨_, o, v', e1, f1, S, H, T', hC, hX, e2, f2, hI, hH⟩
theorem lw_clearText (hR : lwR b vh vl vk vs vo vz vx) : ∃ r o vz', f_X6_clearText vh vl vk vt vtl vtk vs vx vd vo = some (r, o) ∧ f_X7_clearText vz = some (r, vz') ∧ lwR b vh vl vk vs o vz' vx := by
  obtain ⟨S, H, T, hC, hX, hT, hA, hI, hH⟩ := hR
  obtain ⟨o, e1, e2⟩ := p_X6_clearText (vh := vh) (vl := vl) (vk := vk) (vt := vt) (vtl := vtl) (vtk := vtk) (vs := vs) (vd := vd) (vx := vx) hT
  obtain ⟨v', f1, f2⟩ := q_clearText hA
  exact ⟨_, o, v', e1, f1, S, H, [], hC, hX, e2, f2, hI, hH⟩
theorem lw_fault (hR : lwR b vh vl vk vs vo vz vx) (hb : b + 60 < 2 ^ 30) (x1 : Int32) : ∃ r t tl tk d o vz', f_X6_fault vh vl vk vt vtl vtk vs vx vd vo x1 = some (r, t, tl, tk, d, o) ∧ f_X7_fault vz x1 = some (r, vz') ∧ lwR b vh vl vk vs o vz' vx := by
  obtain ⟨S, H, T, hC, hX, hT, hA, hI, hH⟩ := hR
  obtain ⟨t, tl, tk, d, o, e1, e2⟩ := p_X6_fault (vt := vt) (vtl := vtl) (vtk := vtk) (vs := vs) (vd := vd) (vx := vx) hT hI hb hC x1
  obtain ⟨v', f1, f2⟩ := q_fault hA hI hb x1
  exact ⟨_, t, tl, tk, d, o, v', e1, f1, S, H, T, hC, hX, e2, f2, hI, hH⟩
theorem lw_play (hR : lwR b vh vl vk vs vo vz vx) (hb : b + 60 < 2 ^ 30) : ∃ r h l k t tl tk s x d o vz', f_X6_play vh vl vk vt vtl vtk vs vx vd vo = some (r, h, l, k, t, tl, tk, s, x, d, o) ∧ f_X7_play vz = some (r, vz') ∧ lwR (b + 60) h l k s o vz' x := by
  obtain ⟨S, H, T, hC, hX, hT, hA, hI, hH⟩ := hR
  have h1 := p_X6_play (vt := vt) (vtl := vtl) (vtk := vtk) (vd := vd) hT hI hb hC hX
  have h2 := q_play hA hI hb
  unfold p_OpP at h1
  cases ho : o_play T S with
  | inl e =>
    rw [ho] at h1 h2
    obtain ⟨h, l, k, t, tl, tk, s, x, d, o, e1, e2, e3, e4⟩ := h1
    obtain ⟨v', f1, f2⟩ := h2
    exact ⟨e, h, l, k, t, tl, tk, s, x, d, o, v', e1, f1, S, H, T, e2, e3, e4, f2, hI.mono (by omega), fun U hU => (hH U hU).mono (by omega)⟩
  | inr q =>
    rw [ho] at h1 h2
    obtain ⟨h, l, k, t, tl, tk, s, x, d, o, e1, e2, e3, e4, e5⟩ := h1
    obtain ⟨v', f1, f2⟩ := h2
    refine ⟨q.1, h, l, k, t, tl, tk, s, x, d, o, v', e1, f1, q.2, s_push H S, T, e2, e3, e4, f2, e5, fun U hU => ?_⟩
    rcases s_push_mem hU with k | k
    · exact (hH U k).mono (by omega)
    · rw [k]; exact hI.mono (by omega)
end LWR
