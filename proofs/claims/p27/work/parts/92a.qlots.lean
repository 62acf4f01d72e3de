/-! the law's acts on lots -/
def LWS (b : Nat) (S : cr_S) (g l c : cr_V) (X : cr_XT) : Prop := lwS b S X ∧ lwG S g l c ∧ s_inc S.1
theorem LWS.mono {b b' : Nat} {S : cr_S} {g l c : cr_V} {X : cr_XT} (h : LWS b S g l c X) (hb : b ≤ b') : LWS b' S g l c X := ⟨⟨h.1.1, h.1.2.1, h.1.2.2.mono hb⟩, h.2⟩
theorem s_incA {L : List cr_Lot} {y : cr_Lot} (hi : s_inc L) (h : ∀ n ∈ L.map (·.1), n < y.1) : s_inc (L ++ [y]) := by
  unfold s_inc
  rw [List.map_append, List.pairwise_append]
  refine ⟨hi, by simp, fun u hu w hw => ?_⟩
  simp only [List.map_cons, List.map_nil, List.mem_singleton] at hw
  subst hw
  exact h u hu
theorem s_inc.eq {L L' : List cr_Lot} (hi : s_inc L) (h : L'.map (·.1) = L.map (·.1)) : s_inc L' := by
  unfold s_inc at hi ⊢
  rw [h]; exact hi
theorem s_inc.fl {L : List cr_Lot} (hi : s_inc L) (p : cr_Lot → Bool) : s_inc (L.filter p) := List.Pairwise.sublist (List.filter_sublist.map _) hi
theorem s_inv.num {b : Nat} {S : cr_S} (h : s_inv b S) (hb : b < 2 ^ 30) : ∀ n ∈ S.1.map (·.1), n < S.2.2.2.2 5 := by
  obtain ⟨a, m, hm, ha, h0, h5, hd, hL, hr⟩ := h
  intro n hn
  obtain ⟨x, hx, rfl⟩ := List.mem_map.mp hn
  obtain ⟨⟨⟨k, k1, k2⟩, -⟩, -⟩ := hL x hx
  rw [h5, k2]
  exact nI_lt k1 (by omega)
theorem s_inv.no5 {b : Nat} {S : cr_S} (h : s_inv b S) (hb : b < 2 ^ 30) : cr_idx S.1 (S.2.2.2.2 5) = none := cr_idx_none fun j y hy e => by
  have := h.num hb y.1 (List.mem_map.mpr ⟨y, List.mem_of_getElem? hy, rfl⟩)
  rw [e] at this
  exact Int32.lt_irrefl this
theorem s_inv.lotN {b : Nat} {S : cr_S} (h : s_inv b S) {j : Nat} {x : cr_Lot} (hx : S.1[j]? = some x) : ∃ g, 1 ≤ g ∧ g ≤ 9999 ∧ x.2.1 = nI g := by
  obtain ⟨a, m, hm, ha, h0, h5, hd, hL, hr⟩ := h
  exact (hL x (List.mem_of_getElem? hx)).bags
theorem z_inI {n a b : Nat} {A B : Int32} (hA : A = nI a) (hB : B = nI b) (h1 : a ≤ n) (h2 : n ≤ b) (hb : b < 2 ^ 31) : s_in (nI n) A B = true := by
  rw [hA, hB]; exact z_inN h1 h2 hb
section LOTS
variable {b : Nat} {S : cr_S} {g l c : cr_V} {X : cr_XT}
theorem n_lots_22 (h : LWS b S g l c X) (hb : b < 2 ^ 30) {Y d : Nat} (hY : Y < 10000000) (h0 : 0 < d) (h9 : d ≤ 999) : ∃ S' g' l' X', f_L_lots_22 g l X (nI Y) (nI d) (nI Y) 1 = some (1, g', l', X') ∧ LWS (b + 1) S' g' l' c X' := by
  obtain ⟨hS, hM, hi⟩ := h
  have hI := hS.2.2
  have e1 : (1 : Int32) + (nI Y - nI Y / nI d * nI d) = nI (1 + Y % d) := by rw [pk_rem (by omega) h0 (by omega), show (1 : Int32) = nI 1 from rfl, nI_add]
  have e2 : (60 : Int32) + ((nI Y / 999) - (nI Y / 999) / 41 * 41) = nI (60 + Y / 999 % 41) := by
    rw [show (999 : Int32) = nI 999 from rfl, pk_div (by omega) (by omega) (by omega), show (41 : Int32) = nI 41 from rfl, pk_rem (by omega) (by omega) (by omega), show (60 : Int32) = nI 60 from rfl, nI_add]
  have hmod := Nat.mod_lt Y h0
  rw [f_L_lots_22, if_neg (nI_ne0 h0 (by omega)), e1, e2]
  have k1 : s_in (nI (1 + Y % d)) 1 999 = true := z_inI (a := 1) (b := 999) rfl rfl (by omega) (by omega) (by omega)
  have k2 : s_in (nI (60 + Y / 999 % 41)) 60 100 = true := z_inI (a := 60) (b := 100) rfl rfl (by omega) (by omega) (by omega)
  obtain ⟨q, q1, q2, q3⟩ := u_lot hS hb (nI (1 + Y % d)) (nI (60 + Y / 999 % 41))
  have ho : o_lot S (nI (1 + Y % d)) (nI (60 + Y / 999 % 41)) = if S.1.length = 12 then .inl (-2000000003) else .inr (S.2.2.2.2 5, S.1 ++ [(S.2.2.2.2 5, nI (1 + Y % d), nI (60 + Y / 999 % 41), S.2.2.2.2 0)], S.2.1, S.2.2.1, S.2.2.2.1, s_up5 S.2.2.2.2) := by
    unfold o_lot; rw [k1, k2]; rfl
  rw [ho] at q2 q3
  have h12 := hM.L.1
  have h6 := hM.L.2.1
  by_cases hf : S.1.length = 12
  · rw [if_pos hf] at q2 q3
    rw [if_pos (show g 0 6 = 12 by rw [h6, hf]; rfl), q1, Option.bind_some, if_pos (show q.1 = (-2000000003) from q2)]
    exact ⟨S, g, l, _, rfl, q3, hM, hi⟩
  · rw [if_neg hf] at q2 q3
    obtain ⟨g', l', m1, m2⟩ := n_makes hM (nI (1 + Y % d)) (nI (60 + Y / 999 % 41)) (g 0 0) (by omega)
    rw [if_neg (show ¬ g 0 6 = 12 by rw [h6]; exact fun e => hf (nI_inj (by omega) (by omega) e)), q1, Option.bind_some, m1, Option.bind_some, if_pos (show q.1 = S.2.2.2.2 5 from q2)]
    rw [hM.g (j := 0) (by omega)] at m2
    exact ⟨_, g', l', _, rfl, q3, m2, s_incA hi (hI.num hb)⟩
theorem n_lots_623 (h : LWS b S g l c X) (hb : b < 2 ^ 30) {x6 x8 x9 x10 : Int32} (ho : o_blend S x6 x9 x8 x10 = .inl (-2000000003)) : ∃ S' g' l' X', f_L_lots_623 g l X x6 x8 x9 x10 = some (1, g', l', X') ∧ LWS (b + 1) S' g' l' c X' := by
  obtain ⟨hS, hM, hi⟩ := h
  obtain ⟨q, q1, q2, q3⟩ := u_blend hS hb x6 x9 x8 x10
  rw [ho] at q2 q3
  rw [f_L_lots_623, q1, Option.bind_some, if_pos (show q.1 = (-2000000003) from q2)]
  exact ⟨S, g, l, _, rfl, q3, hM, hi⟩
theorem n_lots_538 (h : LWS b S g l c X) (hb : b < 2 ^ 30) {x6 x8 x9 x10 : Int32} (ho : o_blend S x6 x9 x8 x10 = .inl (-2000000002)) : ∃ S' g' l' X', f_L_lots_538 g l X x6 x8 x9 x10 = some (1, g', l', X') ∧ LWS (b + 1) S' g' l' c X' := by
  obtain ⟨hS, hM, hi⟩ := h
  obtain ⟨q, q1, q2, q3⟩ := u_blend hS hb x6 x9 x8 x10
  rw [ho] at q2 q3
  rw [f_L_lots_538, q1, Option.bind_some, if_pos (show q.1 = (-2000000002) from q2)]
  exact ⟨S, g, l, _, rfl, q3, hM, hi⟩
/-- a blend that is done -/
theorem n_blend (h : LWS b S g l c X) (hb : b < 2 ^ 30) {i j : Nat} {x y : cr_Lot} (hx : S.1[i]? = some x) (hy : S.1[j]? = some y) (hij : ¬ i = j) {n1 n2 : Int32} (h1 : 1 ≤ n1) (h2 : 1 ≤ n2) (h3 : n1 ≤ x.2.1) (h4 : n2 ≤ y.2.1) (h9 : n1 + n2 ≤ 9999) (h12 : ¬ (S.1.length = 12 ∧ n1 ≠ x.2.1 ∧ n2 ≠ y.2.1)) :
    ∃ S' g' l' X', ((f_L_cup l (nI i) (g 0 0)).bind fun q12 => (f_L_cup l (nI j) (g 0 0)).bind fun q13 => (f_L_takes g l x.1 n1).bind fun q14 => (f_L_takes q14.1 q14.2 y.1 n2).bind fun q15 => (f_X6_blend X.1 X.2.1 X.2.2.1 X.2.2.2.1 X.2.2.2.2.1 X.2.2.2.2.2.1 X.2.2.2.2.2.2.1 X.2.2.2.2.2.2.2.1 X.2.2.2.2.2.2.2.2.1 X.2.2.2.2.2.2.2.2.2 x.1 n1 y.1 n2).bind fun q16 => if n1 + n2 = 0 then none else (f_L_makes q15.1 q15.2 (n1 + n2) (((n1 * q12) + (n2 * q13)) / (n1 + n2)) (q15.1 0 0)).bind fun q18 => if q16.1 = q18.1 then (some (1, q18.2.1, q18.2.2, (cl_uX q16.2 X))) else (some (0, q18.2.1, q18.2.2, (cl_uX q16.2 X)))) = some ((1 : Int32), g', l', X') ∧ LWS (b + 1) S' g' l' c X' := by
  obtain ⟨hS, hM, hi⟩ := h
  have hI := hS.2.2
  have hd := hI.dist
  have hB := hI.bag
  have hl := hM.L.1
  have hil := p_lt hx
  have hjl := p_lt hy
  have h0 : g 0 0 = S.2.2.2.2 0 := hM.g (j := 0) (by omega)
  have hfl : S.1.filter s_full = S.1 := List.filter_eq_self.mpr fun z hz => z_full (hB z hz)
  have hbx := hB x (List.mem_of_getElem? hx)
  have hby := hB y (List.mem_of_getElem? hy)
  have hnz : ¬ n1 + n2 = 0 := z_sum h1 (Int32.le_trans h3 (z_le hbx)) h2 (Int32.le_trans h4 (z_le hby))
  have hzx := z_sub hbx h1 h3
  have hzy := z_sub hby h2 h4
  obtain ⟨k1, b1, b2⟩ := s_takes_fl hd hx (z_full hbx) hzx
  rw [hfl] at b1 b2
  have hk1 : k1 = i := by
    have := s_dist_idx hd hx
    rw [b1] at this
    exact Option.some.inj this
  obtain ⟨g1, l1, c1, c2⟩ := n_takes hM (b := n1) b1 (by rw [hk1, s_get_of hx]; exact hzx)
  rw [b2] at c2
  have hd2 : s_dist (S.1.set i (s_less x n1)) := by
    unfold s_dist
    rw [s_set_num (y := s_less x n1) hx rfl]; exact hd
  have hy2 : (S.1.set i (s_less x n1))[j]? = some y := by rw [List.getElem?_set_ne hij]; exact hy
  obtain ⟨k2, d1, d2⟩ := s_takes_fl hd2 hy2 (z_full hby) hzy
  obtain ⟨z, hz1, hz2⟩ := cr_idx_some d1
  have hzy' : z = y := by
    have hm := List.mem_filter.mp (List.mem_of_getElem? hz1)
    obtain ⟨j', hj'⟩ := List.getElem?_of_mem hm.1
    have := s_dist_ne hd2 hj' hy2 hz2
    subst this
    rw [hj'] at hy2; exact Option.some.inj hy2
  obtain ⟨g2, l2, e1, e2⟩ := n_takes c2 (b := n2) d1 (by
    show (s_get ((S.1.set i (s_less x n1)).filter s_full) k2).2.1 - n2 = 0 ∨ _
    rw [s_get_of hz1, hzy']; exact hzy)
  rw [d2] at e2
  have hlen : (((S.1.set i (s_less x n1)).set j (s_less y n2)).filter s_full).length < 12 := by
    have hle : (((S.1.set i (s_less x n1)).set j (s_less y n2)).filter s_full).length ≤ S.1.length := Nat.le_trans (List.length_filter_le _ _) (by rw [List.length_set, List.length_set]; exact Nat.le_refl _)
    by_cases hn : S.1.length = 12
    · have hex : ∃ z, z ∈ (S.1.set i (s_less x n1)).set j (s_less y n2) ∧ ¬ s_full z = true := by
        by_cases hq : n2 = y.2.1
        · refine ⟨s_less y n2, List.mem_of_getElem? (i := j) (List.getElem?_set_self (by rw [List.length_set]; exact hjl)), ?_⟩
          simp [s_full, s_less, hq]
        · by_cases hq2 : n1 = x.2.1
          · refine ⟨s_less x n1, List.mem_of_getElem? (i := i) (by rw [List.getElem?_set_ne (Ne.symm hij)]; exact List.getElem?_set_self hil), ?_⟩
            simp [s_full, s_less, hq2]
          · exact absurd ⟨hn, hq2, hq⟩ h12
      have := List.length_filter_lt_length_iff_exists.mpr hex
      rw [List.length_set, List.length_set] at this
      omega
    · omega
  have h02 : g2 0 0 = S.2.2.2.2 0 := e2.g (j := 0) (by omega)
  obtain ⟨g3, l3, m1, m2⟩ := n_makes e2 (n1 + n2) ((n1 * s_cup x (S.2.2.2.2 0) + n2 * s_cup y (S.2.2.2.2 0)) / (n1 + n2)) (g2 0 0) hlen
  obtain ⟨q, q1, q2, q3⟩ := u_blend hS hb x.1 n1 y.1 n2
  have ho : o_blend S x.1 n1 y.1 n2 = .inr (S.2.2.2.2 5, ((S.1.set i (s_less x n1)).set j (s_less y n2)).filter s_full ++ [(S.2.2.2.2 5, n1 + n2, (n1 * s_cup x (S.2.2.2.2 0) + n2 * s_cup y (S.2.2.2.2 0)) / (n1 + n2), S.2.2.2.2 0)], S.2.1, S.2.2.1, S.2.2.2.1, s_up5 S.2.2.2.2) := by
    unfold o_blend
    rw [s_dist_idx hd hx, s_dist_idx hd hy]
    dsimp only
    rw [s_get_of hx, s_get_of hy, if_neg (show ¬ (i = j ∨ n1 < 1 ∨ n2 < 1) from fun h => h.elim hij (fun h => h.elim (fun h => Int32.not_lt.mpr h1 h) (fun h => Int32.not_lt.mpr h2 h))), if_neg (show ¬ (x.2.1 < n1 ∨ y.2.1 < n2) from fun h => h.elim (fun h => Int32.not_lt.mpr h3 h) (fun h => Int32.not_lt.mpr h4 h)), if_neg (show ¬ (9999 < n1 + n2 ∨ (S.1.length = 12 ∧ n1 ≠ x.2.1 ∧ n2 ≠ y.2.1)) from fun h => h.elim (fun h => Int32.not_lt.mpr h9 h) h12)]
  rw [ho] at q2 q3
  rw [n_cup hM.L hx, Option.bind_some, n_cup hM.L hy, Option.bind_some, c1, Option.bind_some, e1, Option.bind_some, q1, Option.bind_some, if_neg hnz, h0, m1, Option.bind_some, if_pos (show q.1 = S.2.2.2.2 5 from q2)]
  rw [h02] at m2
  refine ⟨_, g3, l3, _, rfl, q3, m2, ?_⟩
  have hmap : ((S.1.set i (s_less x n1)).set j (s_less y n2)).map (·.1) = S.1.map (·.1) := by
    rw [s_set_num (y := s_less y n2) hy2 rfl, s_set_num (y := s_less x n1) hx rfl]
  refine s_incA ((hi.eq hmap).fl s_full) fun n hn => hI.num hb n ?_
  rw [← hmap]
  exact (List.filter_sublist.map _).subset hn
theorem ob_1 {i j : Nat} {x y : cr_Lot} (hd : s_dist S.1) (hx : S.1[i]? = some x) (hy : S.1[j]? = some y) {n1 n2 : Int32} (h : i = j) : o_blend S x.1 n1 y.1 n2 = .inl (-2000000001) := by
  unfold o_blend
  rw [s_dist_idx hd hx, s_dist_idx hd hy]
  dsimp only
  rw [if_pos (show i = j ∨ n1 < 1 ∨ n2 < 1 from Or.inl h)]
theorem ob_2 {i j : Nat} {x y : cr_Lot} (hd : s_dist S.1) (hx : S.1[i]? = some x) (hy : S.1[j]? = some y) (hij : ¬ i = j) {n1 n2 : Int32} (h1 : 1 ≤ n1) (h2 : 1 ≤ n2) (h : x.2.1 < n1 ∨ y.2.1 < n2) : o_blend S x.1 n1 y.1 n2 = .inl (-2000000002) := by
  unfold o_blend
  rw [s_dist_idx hd hx, s_dist_idx hd hy]
  dsimp only
  rw [s_get_of hx, s_get_of hy, if_neg (show ¬ (i = j ∨ n1 < 1 ∨ n2 < 1) from fun h => h.elim hij (fun h => h.elim (fun h => Int32.not_lt.mpr h1 h) (fun h => Int32.not_lt.mpr h2 h))), if_pos h]
theorem ob_3 {i j : Nat} {x y : cr_Lot} (hd : s_dist S.1) (hx : S.1[i]? = some x) (hy : S.1[j]? = some y) (hij : ¬ i = j) {n1 n2 : Int32} (h1 : 1 ≤ n1) (h2 : 1 ≤ n2) (h3 : n1 ≤ x.2.1) (h4 : n2 ≤ y.2.1) (h : 9999 < n1 + n2 ∨ (S.1.length = 12 ∧ n1 ≠ x.2.1 ∧ n2 ≠ y.2.1)) : o_blend S x.1 n1 y.1 n2 = .inl (-2000000003) := by
  unfold o_blend
  rw [s_dist_idx hd hx, s_dist_idx hd hy]
  dsimp only
  rw [s_get_of hx, s_get_of hy, if_neg (show ¬ (i = j ∨ n1 < 1 ∨ n2 < 1) from fun h => h.elim hij (fun h => h.elim (fun h => Int32.not_lt.mpr h1 h) (fun h => Int32.not_lt.mpr h2 h))), if_neg (show ¬ (x.2.1 < n1 ∨ y.2.1 < n2) from fun h => h.elim (fun h => Int32.not_lt.mpr h3 h) (fun h => Int32.not_lt.mpr h4 h)), if_pos h]
theorem n_lots_602 (h : LWS b S g l c X) (hb : b < 2 ^ 30) {i j : Nat} {x y : cr_Lot} (hx : S.1[i]? = some x) (hy : S.1[j]? = some y) (hij : ¬ i = j) {n1 n2 : Int32} (h1 : 1 ≤ n1) (h2 : 1 ≤ n2) (h3 : n1 ≤ x.2.1) (h4 : n2 ≤ y.2.1) {s0 s1 : Int32} (hs : (12 < s1 - s0) = (S.1.length = 12 ∧ n1 ≠ x.2.1 ∧ n2 ≠ y.2.1)) : ∃ S' g' l' X', f_L_lots_602 g l X (nI i) x.1 (nI j) y.1 n1 n2 s0 s1 = some (1, g', l', X') ∧ LWS (b + 1) S' g' l' c X' := by
  have hd := h.1.2.2.dist
  rw [f_L_lots_602]
  by_cases h12 : S.1.length = 12 ∧ n1 ≠ x.2.1 ∧ n2 ≠ y.2.1
  · rw [if_pos (show 12 < s1 - s0 by rw [hs]; exact h12)]
    exact n_lots_623 h hb (ob_3 hd hx hy hij h1 h2 h3 h4 (Or.inr h12))
  · rw [if_neg (show ¬ 12 < s1 - s0 by rw [hs]; exact h12)]
    by_cases h9 : n1 + n2 ≤ 9999
    · rw [if_pos h9]
      exact n_blend h hb hx hy hij h1 h2 h3 h4 h9 h12
    · rw [if_neg h9]
      exact n_lots_623 h hb (ob_3 hd hx hy hij h1 h2 h3 h4 (Or.inl (Int32.not_le.mp h9)))
theorem n_cmp {n e f : Nat} (hn : n ≤ 12) (he : e ≤ 1) (hf : f ≤ n + e) : (12 < nI n + nI e - nI f) = (12 < n + e - f) := by
  rw [nI_add, pk_sub hf]
  exact propext ⟨fun h => Nat.lt_of_not_le fun q => (c_nlt 12 _ rfl rfl q (by omega)) h, fun h => c_lt 12 _ rfl rfl h (by omega)⟩
theorem n_lots_583 (h : LWS b S g l c X) (hb : b < 2 ^ 30) {i j : Nat} {x y : cr_Lot} (hx : S.1[i]? = some x) (hy : S.1[j]? = some y) (hij : ¬ i = j) {n1 n2 : Int32} (h1 : 1 ≤ n1) (h2 : 1 ≤ n2) (h3 : n1 ≤ x.2.1) (h4 : n2 ≤ y.2.1) {e : Nat} (he : e ≤ 1) (hs : (e = 1) = (n1 ≠ x.2.1)) : ∃ S' g' l' X', f_L_lots_583 g l X (nI i) x.1 (nI j) y.1 n1 n2 (nI e) (g 0 6) = some (1, g', l', X') ∧ LWS (b + 1) S' g' l' c X' := by
  have hL := h.2.1.L
  have h12 := hL.1
  have hjl := p_lt hy
  obtain ⟨a1, a2, a3, a4⟩ := hL.2.2 j y hy
  rw [f_L_lots_583, n_x1, if_pos (cr_inn (by omega) (by omega)), cr_xn (by omega), a2, hL.2.1]
  by_cases hq : n2 = y.2.1
  · rw [if_pos hq]
    refine n_lots_602 h hb hx hy hij h1 h2 h3 h4 ?_
    rw [show (1 : Int32) = nI 1 from rfl, n_cmp (by omega) he (by omega)]
    exact propext ⟨fun k => by omega, fun k => absurd hq k.2.2⟩
  · rw [if_neg hq]
    refine n_lots_602 h hb hx hy hij h1 h2 h3 h4 ?_
    rw [show (0 : Int32) = nI 0 from rfl, n_cmp (by omega) he (by omega)]
    exact propext ⟨fun k => ⟨by omega, by rw [← hs]; omega, hq⟩, fun k => by have := k.2.1; rw [← hs] at this; omega⟩
theorem n_lots_477 (h : LWS b S g l c X) (hb : b < 2 ^ 30) {i j : Nat} {x y : cr_Lot} (hx : S.1[i]? = some x) (hy : S.1[j]? = some y) {n1 : Int32} (h1 : 1 ≤ n1) {e Z : Nat} (he : e ≤ 1) (hZ : Z < 10000000) : ∃ S' g' l' X', f_L_lots_477 g l X (nI i) x.1 (nI j) y.1 n1 (nI e) y.2.1 (nI Z) 1 = some (1, g', l', X') ∧ LWS (b + 1) S' g' l' c X' := by
  have hL := h.2.1.L
  have hI := h.1.2.2
  have hd := hI.dist
  have h12 := hL.1
  have hil := p_lt hx
  have hjl := p_lt hy
  obtain ⟨a1, a2, a3, a4⟩ := hL.2.2 i x hx
  obtain ⟨b1, b2, b3, b4⟩ := hL.2.2 j y hy
  obtain ⟨gy, y1, y2, y3⟩ := hI.lotN hy
  have hmod := Nat.mod_lt Z (show 0 < gy + e by omega)
  have hmle := Nat.mod_le Z (gy + e)
  have en : (1 : Int32) + (nI Z - nI Z / (y.2.1 + nI e) * (y.2.1 + nI e)) = nI (1 + Z % (gy + e)) := by
    rw [y3, nI_add, pk_rem (by omega) (by omega) (by omega), show (1 : Int32) = nI 1 from rfl, nI_add]
  have h2 : 1 ≤ nI (1 + Z % (gy + e)) := c_le 1 _ rfl rfl (by omega) (by omega)
  rw [f_L_lots_477, if_neg (show ¬ y.2.1 + nI e = 0 by rw [y3, nI_add]; exact nI_ne0 (by omega) (by omega)), en]
  by_cases hij : i = j
  · rw [if_pos (show nI i = nI j by rw [hij])]
    obtain ⟨hS, hM, hi⟩ := h
    obtain ⟨q, q1, q2, q3⟩ := u_blend hS hb x.1 n1 y.1 (nI (1 + Z % (gy + e)))
    rw [ob_1 hd hx hy hij] at q2 q3
    rw [q1, Option.bind_some, if_pos (show q.1 = (-2000000001) from q2)]
    exact ⟨S, g, l, _, rfl, q3, hM, hi⟩
  · rw [if_neg (fun q => hij (nI_inj (by omega) (by omega) q)), n_x1, n_x1, if_pos (cr_inn (by omega) (by omega)), if_pos (cr_inn (by omega) (by omega)), cr_xn (by omega), cr_xn (by omega), a2, b2]
    by_cases h3 : x.2.1 < n1
    · rw [if_pos h3]
      exact n_lots_538 h hb (ob_2 hd hx hy hij h1 h2 (Or.inl h3))
    · rw [if_neg h3]
      by_cases h4 : nI (1 + Z % (gy + e)) ≤ y.2.1
      · rw [if_pos h4]
        by_cases h5 : n1 = x.2.1
        · rw [if_pos h5]
          exact n_lots_583 h hb hx hy hij h1 h2 (Int32.not_lt.mp h3) h4 (e := 0) (by omega) (propext ⟨fun k => by omega, fun k => absurd h5 k⟩)
        · rw [if_neg h5]
          exact n_lots_583 h hb hx hy hij h1 h2 (Int32.not_lt.mp h3) h4 (e := 1) (by omega) (propext ⟨fun k => h5, fun k => rfl⟩)
      · rw [if_neg h4]
        exact n_lots_538 h hb (ob_2 hd hx hy hij h1 h2 (Or.inr (Int32.not_le.mp h4)))
theorem n_lots_445 (h : LWS b S g l c X) (hb : b < 2 ^ 30) {i j : Nat} {x y : cr_Lot} (hx : S.1[i]? = some x) (hy : S.1[j]? = some y) {e Y : Nat} (he : e ≤ 1) (hY : Y < 10000000) : ∃ S' g' l' X', f_L_lots_445 g l X (nI Y) (nI i) x.1 (nI j) y.1 (nI e) x.2.1 (nI (Y / 144)) 1 = some (1, g', l', X') ∧ LWS (b + 1) S' g' l' c X' := by
  have hL := h.2.1.L
  have hI := h.1.2.2
  have h12 := hL.1
  have hjl := p_lt hy
  obtain ⟨b1, b2, b3, b4⟩ := hL.2.2 j y hy
  obtain ⟨gx, x1, x2, x3⟩ := hI.lotN hx
  have hmod := Nat.mod_lt (Y / 144) (show 0 < gx + e by omega)
  have en : (1 : Int32) + (nI (Y / 144) - nI (Y / 144) / (x.2.1 + nI e) * (x.2.1 + nI e)) = nI (1 + Y / 144 % (gx + e)) := by
    rw [x3, nI_add, pk_rem (by omega) (by omega) (by omega), show (1 : Int32) = nI 1 from rfl, nI_add]
  have h1 : 1 ≤ nI (1 + Y / 144 % (gx + e)) := c_le 1 _ rfl rfl (by omega) (by omega)
  rw [f_L_lots_445, if_neg (show ¬ x.2.1 + nI e = 0 by rw [x3, nI_add]; exact nI_ne0 (by omega) (by omega)), en, n_x1, if_pos (cr_inn (by omega) (by omega)), cr_xn (by omega), b2, show (31 : Int32) = nI 31 from rfl, pk_div (by omega) (by omega) (by omega)]
  by_cases h7 : nI Y - nI Y / 7 * 7 = 0
  · rw [if_pos h7]
    exact n_lots_477 h hb hx hy h1 (e := 1) (by omega) (by omega)
  · rw [if_neg h7]
    exact n_lots_477 h hb hx hy h1 (e := 0) (by omega) (by omega)
theorem n_noLot (h : LWS b S g l c X) (hb : b < 2 ^ 30) : cr_idx S.1 (g 0 5) = none := by
  rw [h.2.1.g (j := 5) (by omega)]; exact h.1.2.2.no5 hb
theorem n_lots0 (h : LWS b S g l c X) (hb : b + 4 < 2 ^ 30) {W Y : Nat} (hW : 0 < W) (hW3 : W ≤ 3) (h0 : S.1.length = 0) : ∃ S' g' l' X', f_L_lots g l X (nI W) (nI Y) = some (1, g', l', X') ∧ LWS (b + 3) S' g' l' c X' := by
  obtain ⟨hS, hM, hi⟩ := h
  have hno : ∀ n, cr_idx S.1 n = none := fun n => cr_idx_none fun j y hy => by have := p_lt hy; omega
  have o1 : ∀ n m, o_part S n m = .inl (-2000000001) := fun n m => by unfold o_part; rw [hno]
  have o2 : ∀ n, o_cup S n = .inl (-2000000001) := fun n => by unfold o_cup; rw [hno]
  have o3 : ∀ a b c d, o_blend S a b c d = .inl (-2000000001) := fun a b c d => by unfold o_blend; rw [hno, hno]
  rw [f_L_lots, if_neg (nI_ne0 hW (by omega)), if_pos (show g 0 6 = 0 by rw [hM.L.2.1, h0]; rfl)]
  obtain ⟨q, q1, q2, q3⟩ := u_part hS (by omega) (g 0 5) 1
  rw [o1] at q2 q3
  rw [q1, Option.bind_some, if_pos (show q.1 = (-2000000001) from q2)]
  obtain ⟨r, r1, r2, r3⟩ := u_cup (S := S) q3 (g 0 5)
  rw [o2] at r2 r3
  rw [r1, Option.bind_some, if_pos (show r.1 = (-2000000001) from r2)]
  obtain ⟨t, t1, t2, t3⟩ := u_blend (S := S) r3 (by omega) (g 0 5) 1 0 1
  rw [o3] at t2 t3
  rw [t1, Option.bind_some, if_pos (show t.1 = (-2000000001) from t2)]
  exact ⟨S, g, l, _, rfl, t3, hM, hi⟩
theorem n_lots (h : LWS b S g l c X) (hb : b + 4 < 2 ^ 30) {W Y : Nat} (hW3 : W ≤ 3) (hY : Y < 10000000) : ∃ S' g' l' X', f_L_lots g l X (nI W) (nI Y) = some (1, g', l', X') ∧ LWS (b + 3) S' g' l' c X' := by
  have fin : (∃ S' g' l' X', f_L_lots g l X (nI W) (nI Y) = some (1, g', l', X') ∧ LWS (b + 1) S' g' l' c X') → ∃ S' g' l' X', f_L_lots g l X (nI W) (nI Y) = some (1, g', l', X') ∧ LWS (b + 3) S' g' l' c X' := fun ⟨S', g', l', X', e1, e2⟩ => ⟨S', g', l', X', e1, e2.mono (by omega)⟩
  by_cases hW0 : W = 0
  · subst hW0
    refine fin ?_
    rw [f_L_lots, if_pos (show nI 0 = 0 from rfl)]
    by_cases h3 : nI Y - nI Y / 3 * 3 = 0
    · rw [if_pos h3]
      exact n_lots_22 h (by omega) (d := 999) hY (by omega) (by omega)
    · rw [if_neg h3]
      exact n_lots_22 h (by omega) (d := 120) hY (by omega) (by omega)
  by_cases h0 : S.1.length = 0
  · exact n_lots0 h hb (by omega) hW3 h0
  refine fin ?_
  have hL := h.2.1.L
  have hI := h.1.2.2
  have hd := hI.dist
  have h12 := hL.1
  have hmod := Nat.mod_lt Y (show 0 < S.1.length by omega)
  have hx : S.1[Y % S.1.length]? = some S.1[Y % S.1.length] := List.getElem?_eq_getElem hmod
  have ea : nI Y - nI Y / nI S.1.length * nI S.1.length = nI (Y % S.1.length) := pk_rem (by omega) (by omega) (by omega)
  generalize Y % S.1.length = i at *
  generalize S.1[i] = x at *
  obtain ⟨a1, a2, a3, a4⟩ := hL.2.2 i x hx
  obtain ⟨gx, x1, x2, x3⟩ := hI.lotN hx
  have hne : ¬ nI S.1.length = 0 := nI_ne0 (by omega) (by omega)
  rw [f_L_lots, if_neg (nI_ne0 (by omega) (by omega)), hL.2.1, if_neg hne, if_neg hne, ea, n_x1, n_x2, n_x3, n_x0, if_pos (cr_inn (by omega) (by omega)), if_pos (cr_inn (by omega) (by omega)), cr_xn (by omega), cr_xn (by omega), a1, a2]
  by_cases hW1 : W = 1
  · subst hW1
    have hm2 := Nat.mod_lt (Y / 12) (show 0 < gx + 1 by omega)
    have en : (1 : Int32) + (nI Y / 12 - nI Y / 12 / (x.2.1 + 1) * (x.2.1 + 1)) = nI (1 + Y / 12 % (gx + 1)) := by
      rw [x3, nI_1, show (12 : Int32) = nI 12 from rfl, pk_div (by omega) (by omega) (by omega), pk_rem (by omega) (by omega) (by omega), show (1 : Int32) = nI 1 from rfl, nI_add]
    rw [if_pos (show nI 1 = 1 from rfl), en, if_neg (show ¬ x.2.1 + 1 = 0 by rw [x3, nI_1]; exact nI_ne0 (by omega) (by omega))]
    generalize hn : 1 + Y / 12 % (gx + 1) = n at *
    obtain ⟨hS, hM, hi⟩ := h
    have h1 : 1 ≤ nI n := c_le 1 n rfl rfl (by omega) (by omega)
    obtain ⟨q, q1, q2, q3⟩ := u_part hS (by omega) x.1 (nI n)
    have ho : o_part S x.1 (nI n) = if nI n < x.2.1 then (if S.1.length = 12 then .inl (-2000000003) else .inr (S.2.2.2.2 5, S.1.set i (s_less x (nI n)) ++ [(S.2.2.2.2 5, nI n, x.2.2.1, x.2.2.2)], S.2.1, S.2.2.1, S.2.2.2.1, s_up5 S.2.2.2.2)) else .inl (-2000000002) := by
      unfold o_part
      rw [s_dist_idx hd hx]
      dsimp only
      rw [s_get_of hx, if_pos h1]
    rw [ho] at q2 q3
    by_cases hlt : nI n < x.2.1
    · rw [if_pos hlt] at q2 q3
      rw [if_pos hlt]
      by_cases hf : S.1.length = 12
      · rw [if_pos hf] at q2 q3
        rw [if_pos (show nI S.1.length = 12 by rw [hf]; rfl), q1, Option.bind_some, if_pos (show q.1 = (-2000000003) from q2)]
        exact ⟨S, g, l, _, rfl, q3, hM, hi⟩
      · rw [if_neg hf] at q2 q3
        have hbx := hI.bag x (List.mem_of_getElem? hx)
        have hz : x.2.1 - nI n = 0 ∨ 0 < x.2.1 - nI n := z_sub hbx h1 (Int32.le_of_lt hlt)
        have hz2 : ¬ x.2.1 - nI n = 0 := fun e => by
          have : x.2.1 = nI n := by
            have := congrArg (· + nI n) e
            simpa using this
          rw [this] at hlt
          exact Int32.lt_irrefl hlt
        obtain ⟨g1, l1, c1, c2⟩ := n_takes hM (b := nI n) (s_dist_idx hd hx) (by rw [s_get_of hx]; exact hz)
        have ht : s_takes S.1 i (nI n) = S.1.set i (s_less x (nI n)) := by unfold s_takes; rw [s_get_of hx, if_neg hz2]
        rw [ht] at c2
        have hx1 : (S.1.set i (s_less x (nI n)))[i]? = some (s_less x (nI n)) := List.getElem?_set_self (p_lt hx)
        obtain ⟨d1, d2, d3, d4⟩ := c2.L.2.2 i _ hx1
        obtain ⟨g2, l2, m1, m2⟩ := n_makes c2 (nI n) x.2.2.1 x.2.2.2 (by show (S.1.set i (s_less x (nI n))).length < 12; rw [List.length_set]; omega)
        rw [if_neg (show ¬ nI S.1.length = 12 from fun e => hf (nI_inj (by omega) (by omega) e)), c1, Option.bind_some, q1, Option.bind_some, if_pos (cr_inn (by omega) (by omega)), if_pos (cr_inn (by omega) (by omega)), cr_xn (by omega), cr_xn (by omega)]
        dsimp only
        rw [show l1 0 (4 * i + 2) = x.2.2.1 from d3, show l1 0 (4 * i + 3) = x.2.2.2 from d4, m1, Option.bind_some, if_pos (show q.1 = S.2.2.2.2 5 from q2)]
        refine ⟨_, g2, l2, _, rfl, q3, m2, ?_⟩
        have hmap : (S.1.set i (s_less x (nI n))).map (·.1) = S.1.map (·.1) := s_set_num (y := s_less x (nI n)) hx rfl
        exact s_incA (hi.eq hmap) fun m hm => hI.num (by omega) m (by rw [← hmap]; exact hm)
    · rw [if_neg hlt] at q2 q3
      rw [if_neg hlt, q1, Option.bind_some, if_pos (show q.1 = (-2000000002) from q2)]
      exact ⟨S, g, l, _, rfl, q3, hM, hi⟩
  rw [if_neg (show ¬ nI W = 1 from fun e => hW1 (nI_inj (by omega) (by omega) e))]
  by_cases hW2 : W = 2
  · subst hW2
    rw [if_pos (show nI 2 = 2 from rfl)]
    obtain ⟨hS, hM, hi⟩ := h
    obtain ⟨q, q1, q2, q3⟩ := u_cup hS x.1
    have ho : o_cup S x.1 = if 1 < x.2.1 then .inr (s_cup x (S.2.2.2.2 0), S.1.set i (s_cupped x (S.2.2.2.2 0)), S.2.1, S.2.2.1, S.2.2.2.1, S.2.2.2.2) else .inl (-2000000002) := by
      unfold o_cup
      rw [s_dist_idx hd hx]
      dsimp only
      rw [s_get_of hx]
    rw [ho] at q2 q3
    by_cases h1 : x.2.1 = 1
    · rw [if_neg (show ¬ 1 < x.2.1 by rw [h1]; decide)] at q2 q3
      rw [if_pos h1, q1, Option.bind_some, if_pos (show q.1 = (-2000000002) from q2), if_pos (cr_inn (by omega) (by omega))]
      exact ⟨S, g, l, _, rfl, q3, hM, hi⟩
    · have hg1 : gx ≠ 1 := fun e => h1 (by rw [x3, e]; rfl)
      rw [if_pos (show 1 < x.2.1 by rw [x3]; exact c_lt 1 gx rfl rfl (by omega) (by omega))] at q2 q3
      rw [if_neg h1]
      have hil := p_lt hx
      have h00 : g 0 0 = S.2.2.2.2 0 := hM.g (j := 0) (by omega)
      have hM1 : lwG (S.1.set i (s_less x 1), S.2) g (cr_a l 0 (4 * i + 1) (x.2.1 - 1)) c := by
        unfold lwG
        rw [mg_ul (by omega)]
        obtain ⟨b1, b2, b3, b4⟩ := hM.1.2.2 i x hx
        refine q_setM hM hx ⟨?_, ?_, ?_, ?_⟩ (fun t ht => ?_)
        · rw [pk_un (by omega)]; exact b1
        · rw [show 18 + 4 * i = 17 + (4 * i + 1) by omega, pk_us]; rfl
        · rw [pk_un (by omega)]; exact b3
        · rw [pk_un (by omega)]; exact b4
        · rw [pk_un (by omega)]
      have hx1 : (S.1.set i (s_less x 1))[i]? = some (s_less x 1) := List.getElem?_set_self hil
      have hcu : s_cup (s_less x 1) (g 0 0) = s_cup x (S.2.2.2.2 0) := by rw [h00]; rfl
      rw [n_cup hM1.L hx1, Option.bind_some, if_pos (cr_inn (by omega) (by omega)), if_pos (cr_inn (by omega) (by omega)), q1, Option.bind_some, cr_xn (by omega), cr_xn (by omega), hcu, h00]
      rw [if_pos (show q.1 = _ from by
        rw [cr_as, pk_un (by omega), cr_as, pk_us]; exact q2), if_pos (cr_inn (by omega) (by omega))]
      refine ⟨_, _, _, _, rfl, q3, ?_, hi.eq (s_set_num (y := s_cupped x (S.2.2.2.2 0)) hx rfl)⟩
      unfold lwG
      rw [mg_ul (by omega), mg_ul (by omega), mg_ul (by omega)]
      obtain ⟨b1, b2, b3, b4⟩ := hM.1.2.2 i x hx
      refine q_setM hM hx ⟨?_, ?_, ?_, ?_⟩ (fun t ht => ?_)
      · rw [pk_un (by omega), pk_un (by omega), pk_un (by omega)]; exact b1
      · rw [show 18 + 4 * i = 17 + (4 * i + 1) by omega, pk_un (by omega), pk_un (by omega), pk_us]; rfl
      · rw [show 19 + 4 * i = 17 + (4 * i + 2) by omega, pk_un (by omega), pk_us]; rfl
      · rw [show 20 + 4 * i = 17 + (4 * i + 3) by omega, pk_us]; rfl
      · rw [pk_un (by omega), pk_un (by omega), pk_un (by omega)]
  have hW33 : W = 3 := by omega
  subst hW33
  have hm2 := Nat.mod_lt (Y / 12) (show 0 < S.1.length by omega)
  have hy : S.1[Y / 12 % S.1.length]? = some S.1[Y / 12 % S.1.length] := List.getElem?_eq_getElem hm2
  have eb : nI Y / 12 - nI Y / 12 / nI S.1.length * nI S.1.length = nI (Y / 12 % S.1.length) := by
    rw [show (12 : Int32) = nI 12 from rfl, pk_div (by omega) (by omega) (by omega), pk_rem (by omega) (by omega) (by omega)]
  generalize Y / 12 % S.1.length = j at *
  generalize S.1[j] = y at *
  obtain ⟨b1, b2, b3, b4⟩ := hL.2.2 j y hy
  rw [if_neg (show ¬ nI 3 = 2 by decide), if_neg hne, eb, n_x0, if_pos (cr_inn (by omega) (by omega)), cr_xn (by omega), b1, show (144 : Int32) = nI 144 from rfl, pk_div (by omega) (by omega) (by omega), if_pos (cr_inn (by omega) (by omega))]
  by_cases h5 : nI Y - nI Y / 5 * 5 = 0
  · rw [if_pos h5]
    exact n_lots_445 h (by omega) hx hy (e := 1) (by omega) hY
  · rw [if_neg h5]
    exact n_lots_445 h (by omega) hx hy (e := 0) (by omega) hY
end LOTS
