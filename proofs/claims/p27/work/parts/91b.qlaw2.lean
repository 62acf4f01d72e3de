/-! the law's deliveries -/
theorem n_best_some {ok : Nat → Bool} {g : Nat → Int32} {j : Nat} (hj : ok j = true) : ∀ {n : Nat}, j < n → s_best ok g n ≠ none
  | 0, h => by omega
  | n + 1, h => by
    unfold s_best
    by_cases ho : ok n = true
    · rw [if_pos ho]
      cases s_best ok g n with
      | none => simp
      | some c => dsimp only; split <;> simp
    · rw [if_neg ho]
      have : j ≠ n := fun e => ho (by rw [← e]; exact hj)
      exact n_best_some hj (by omega)
theorem n_best_congr {ok ok' : Nat → Bool} {g : Nat → Int32} : ∀ {n : Nat}, (∀ j, j < n → ok j = ok' j) → s_best ok g n = s_best ok' g n
  | 0, _ => rfl
  | n + 1, h => by
    unfold s_best
    rw [h n (by omega), n_best_congr (n := n) (fun j hj => h j (by omega))]
theorem z_ltn {a b : Int32} (h : a ≤ b) (he : ¬ a = b) : a < b := by
  rw [Int32.le_iff_toInt_le] at h
  rw [Int32.lt_iff_toInt_lt]
  have : a.toInt ≠ b.toInt := fun e => he (Int32.toInt_inj.mp e)
  omega
theorem z_ltt {a b c : Int32} (h : a < b) (k : b < c) : a < c := by
  rw [Int32.lt_iff_toInt_lt] at h k ⊢
  omega
theorem s_best_max {ok : Nat → Bool} {g : Nat → Int32} : ∀ {n b : Nat}, s_best ok g n = some b → ∀ j, j < n → ok j = true → g j < g b ∨ (g j = g b ∧ b ≤ j)
  | 0, b, h => by cases h
  | n + 1, b, h => by
    unfold s_best at h
    intro j hj hoj
    by_cases ho : ok n = true
    · rw [if_pos ho] at h
      cases hb : s_best ok g n with
      | none =>
        rw [hb] at h
        have e9 : n = b := Option.some.inj h
        subst e9
        by_cases hjn : j = n
        · subst hjn; exact Or.inr ⟨rfl, Nat.le_refl _⟩
        · exact absurd hb (n_best_some hoj (by omega))
      | some c =>
        rw [hb] at h
        dsimp only at h
        by_cases hc : g n ≤ g c
        · rw [if_pos hc] at h
          have e9 : c = b := Option.some.inj h
          subst e9
          by_cases hjn : j = n
          · subst hjn
            by_cases he : g j = g c
            · exact Or.inr ⟨he, Nat.le_of_lt (s_best_lt hb).1⟩
            · exact Or.inl (z_ltn hc he)
          · exact s_best_max hb j (by omega) hoj
        · rw [if_neg hc] at h
          have e9 : n = b := Option.some.inj h
          subst e9
          by_cases hjn : j = n
          · subst hjn; exact Or.inr ⟨rfl, Nat.le_refl _⟩
          · have hc2 : g c < g n := Int32.not_le.mp hc
            rcases s_best_max hb j (by omega) hoj with k | ⟨k, -⟩
            · exact Or.inl (z_ltt k hc2)
            · exact Or.inl (by rw [k]; exact hc2)
    · rw [if_neg ho] at h
      by_cases hjn : j = n
      · subst hjn; exact absurd hoj ho
      · exact s_best_max h j (by omega) hoj
/-- what the law's search still takes -/
def n_ok (L : List cr_Lot) (m : Int32) (gn : Nat → Int32) (last lastAt : Int32) (j : Nat) : Bool := s_ok L m j && (decide (gn j < last) || (decide (gn j = last) && decide (lastAt < nI j)))
theorem n_69 (c : Int32) : (c ≤ 69) = (c < 70) := by
  have e3 : (69 : Int32).toInt = 69 := rfl
  have e6 : (70 : Int32).toInt = 70 := rfl
  rw [Int32.le_iff_toInt_le, Int32.lt_iff_toInt_lt, e3, e6]
  exact propext ⟨fun h => by omega, fun h => by omega⟩
theorem s_enc_some (e : Int32) (b : Nat) : s_enc e (some b) = nI b := rfl
theorem n_gives_27 {L : List cr_Lot} {w st : Nat → Int32} {g l : cr_V} (hL : ldL L g l) (h2 : g 0 10 = st 2) (h3 : g 0 11 = st 3) (hw : ∀ j, j < 4 → g 0 (13 + j) = w j) {m : Int32} (ho : n_old L m) (p : Int32) (k16 : cr_V → cr_V → cr_V → Int32 → Int32 → Int32 → Int32 → Int32 → Int32 → Option (Int32 × cr_V)) (v : cr_V) (x5 x6 last lastAt : Int32) : ∀ (n k : Nat), k ≤ L.length → L.length - k < n →
    ∃ n', f_L_gives_27 k16 n g l v p m x5 x6 last lastAt (s_enc (-1) (s_best (n_ok L m (s_at L (fun x => s_gain w st x p m)) last lastAt) (s_at L (fun x => s_gain w st x p m)) k)) (nI k) = f_L_gives_27 k16 (n' + 1) g l v p m x5 x6 last lastAt (s_enc (-1) (s_best (n_ok L m (s_at L (fun x => s_gain w st x p m)) last lastAt) (s_at L (fun x => s_gain w st x p m)) L.length)) (nI L.length) := by
  intro n
  induction n with
  | zero => intro k a b; omega
  | succ n ih =>
    intro k hk hn
    by_cases hkk : k = L.length
    · subst hkk; exact ⟨n, rfl⟩
    · have h12 := hL.1
      have hx : L[k]? = some L[k] := List.getElem?_eq_getElem (by omega)
      obtain ⟨n', e⟩ := ih (k + 1) (by omega) (by omega)
      refine ⟨n', ?_⟩
      rw [← e, f_L_gives_27, hL.2.1, if_neg (show ¬ nI L.length ≤ nI k from c_nle L.length k rfl rfl (by omega) (by omega)), n_gain hL h2 h3 hw ho hx, Option.bind_some]
      have hgk : s_at L (fun x => s_gain w st x p m) k = s_gain w st L[k] p m := s_at_of hx
      have hok : s_ok L m k = !decide (s_cup L[k] m < 70) := s_ok_of hx
      generalize hgn : s_at L (fun x => s_gain w st x p m) = gn at *
      rw [← hgk]
      have hb12 : ∀ b, s_best (n_ok L m gn last lastAt) gn k = some b → b < 12 := fun b hb => by have := (s_best_lt hb).1; omega
      have key : ∀ t : Int32, (t = 0 ∨ t = 1) → n_ok L m gn last lastAt k = (s_ok L m k && decide (t = 1)) → f_L_gives_73 k16 (f_L_gives_27 k16 n) g l v p m x5 x6 last lastAt (s_enc (-1) (s_best (n_ok L m gn last lastAt) gn k)) (nI k) (gn k) t = f_L_gives_27 k16 n g l v p m x5 x6 last lastAt (s_enc (-1) (s_best (n_ok L m gn last lastAt) gn (k + 1))) (nI (k + 1)) := by
        intro t ht hnk
        have hs1 : s_best (n_ok L m gn last lastAt) gn (k + 1) = if n_ok L m gn last lastAt k then (match s_best (n_ok L m gn last lastAt) gn k with | none => some k | some b => if gn k ≤ gn b then some b else some k) else s_best (n_ok L m gn last lastAt) gn k := rfl
        rw [hs1, hnk, f_L_gives_73, ← nI_1]
        rcases ht with rfl | rfl
        · rw [if_pos rfl, f_L_gives_116, f_L_gives_118, if_neg (show ¬ (s_ok L m k && decide ((0 : Int32) = 1)) = true by simp)]
        · rw [if_neg (by decide), n_cup hL hx, Option.bind_some, hok]
          by_cases hc : s_cup L[k] m < 70
          · rw [if_pos (show s_cup L[k] m ≤ 69 by rw [n_69]; exact hc), f_L_gives_116, f_L_gives_118, if_neg (show ¬ (!decide (s_cup L[k] m < 70) && decide ((1 : Int32) = 1)) = true by simp [hc])]
          · rw [if_neg (show ¬ s_cup L[k] m ≤ 69 by rw [n_69]; exact hc), if_pos (show (!decide (s_cup L[k] m < 70) && decide ((1 : Int32) = 1)) = true by simp [hc])]
            cases hb : s_best (n_ok L m gn last lastAt) gn k with
            | none =>
              rw [if_pos (show s_enc (-1) none < 0 by decide), f_L_gives_111, f_L_gives_118]
              rfl
            | some b =>
              have hbl := (s_best_lt hb).1
              have hxb : L[b]? = some L[b] := List.getElem?_eq_getElem (by omega)
              have hgb : gn b = s_gain w st L[b] p m := by rw [← hgn]; exact s_at_of hxb
              show _ = f_L_gives_27 k16 n g l v p m x5 x6 last lastAt (s_enc (-1) (if gn k ≤ gn b then some b else some k)) (nI k + 1)
              rw [s_enc_some, if_neg (show ¬ nI b < 0 from nI_pos (by omega))]
              rw [n_gain hL h2 h3 hw ho hxb, Option.bind_some, ← hgb]
              by_cases hle : gn k ≤ gn b
              · rw [if_pos hle, if_pos hle, f_L_gives_116, f_L_gives_118, s_enc_some]
              · rw [if_neg hle, if_neg hle, f_L_gives_111, f_L_gives_118, s_enc_some]
      have hnk : n_ok L m gn last lastAt k = (s_ok L m k && (decide (gn k < last) || (decide (gn k = last) && decide (lastAt < nI k)))) := rfl
      by_cases q1 : gn k < last
      · rw [if_pos q1, f_L_gives_68]
        exact key 1 (Or.inr rfl) (by rw [hnk]; simp [q1])
      · rw [if_neg q1]
        by_cases q2 : gn k = last
        · rw [if_pos q2]
          by_cases q3 : nI k ≤ lastAt
          · rw [if_pos q3, f_L_gives_72]
            exact key 0 (Or.inl rfl) (by rw [hnk]; simp [q1, Int32.not_lt.mpr q3])
          · rw [if_neg q3, f_L_gives_68]
            exact key 1 (Or.inr rfl) (by rw [hnk]; simp [q2, Int32.not_le.mp q3])
        · rw [if_neg q2, f_L_gives_72]
          exact key 0 (Or.inl rfl) (by rw [hnk]; simp [q1, q2])
def vOut (P : List (Nat × Int32)) (L : List cr_Lot) (v : cr_V) : Prop := P.length ≤ 12 ∧ ∀ i q x, P[i]? = some q → L[q.1]? = some x → v 0 (2 * i) = x.1 ∧ v 0 (2 * i + 1) = q.2
theorem n_gives_16 {L : List cr_Lot} {w st : Nat → Int32} {g l : cr_V} (hL : ldL L g l) (h2 : g 0 10 = st 2) (h3 : g 0 11 = st 3) (hw : ∀ j, j < 4 → g 0 (13 + j) = w j) {m : Int32} (ho : n_old L m) (p : Int32) : ∀ (f n : Nat) (P : List (Nat × Int32)) (ok : Nat → Bool) (want last lastAt : Int32) (v : cr_V), vOut P L v → P.length + f = 12 → f + 1 < n → s_cnt ok L.length ≤ f → (∀ j, j < L.length → ok j = n_ok L m (s_at L (fun x => s_gain w st x p m)) last lastAt j) →
    ∃ v', f_L_gives_16 n g l v p m (nI P.length) want last lastAt = some (nI (P ++ s_plan (s_at L (fun x => s_gain w st x p m)) (s_at L (fun x => x.2.1)) L.length f ok want).length, v') ∧ vOut (P ++ s_plan (s_at L (fun x => s_gain w st x p m)) (s_at L (fun x => x.2.1)) L.length f ok want) L v' ∧ (v' 0 24 ≤ 0) = (s_left (s_plan (s_at L (fun x => s_gain w st x p m)) (s_at L (fun x => x.2.1)) L.length f ok want) want ≤ 0) := by
  have hl := hL.1
  have hdone : ∀ (P : List (Nat × Int32)) (want t : Int32) (v : cr_V), vOut P L v → vOut P L (cr_a v 0 24 t) := fun P want t v h => ⟨h.1, fun i q x hq hx => by
    have := p_lt hq
    have := h.1
    rw [cr_as, pk_un (by omega), pk_un (by omega)]; exact h.2 i q x hq hx⟩
  intro f
  induction f with
  | zero =>
    intro n P ok want last lastAt v hO hPf hn hc hok
    obtain ⟨n, rfl⟩ : ∃ k, n = k + 1 := ⟨n - 1, by omega⟩
    have hs : s_plan (s_at L (fun x => s_gain w st x p m)) (s_at L (fun x => x.2.1)) L.length 0 ok want = [] := rfl
    rw [hs, List.append_nil, f_L_gives_16]
    by_cases hw0 : want ≤ 0
    · rw [if_pos hw0]
      refine ⟨_, rfl, hdone P want 0 v hO, ?_⟩
      rw [cr_as, pk_us]
      show _ = (want ≤ 0)
      simp [hw0]
    · rw [if_neg hw0]
      obtain ⟨n', e⟩ := n_gives_27 hL h2 h3 hw ho p (f_L_gives_16 n) v (nI P.length) want last lastAt 10100 0 (by omega) (by omega)
      have hb : s_best (n_ok L m (s_at L (fun x => s_gain w st x p m)) last lastAt) (s_at L (fun x => s_gain w st x p m)) L.length = none := by
        rw [← n_best_congr hok]; exact s_cnt_none (by omega)
      rw [hb] at e
      rw [show f_L_gives_27 (f_L_gives_16 n) 10100 g l v p m (nI P.length) want last lastAt (-1) 0 = _ from e, f_L_gives_27, hL.2.1, if_pos (Int32.le_refl _)]
      rw [if_neg (show ¬ (0 : Int32) ≤ s_enc (-1) none from by decide)]
      refine ⟨_, rfl, hdone P want want v hO, ?_⟩
      rw [cr_as, pk_us]; rfl
  | succ f ih =>
    intro n P ok want last lastAt v hO hPf hn hc hok
    obtain ⟨n, rfl⟩ : ∃ k, n = k + 1 := ⟨n - 1, by omega⟩
    rw [f_L_gives_16]
    by_cases hw0 : want ≤ 0
    · rw [if_pos hw0, s_plan_done hw0, List.append_nil]
      refine ⟨_, rfl, hdone P want 0 v hO, ?_⟩
      rw [cr_as, pk_us]
      show _ = (want ≤ 0)
      simp [hw0]
    · rw [if_neg hw0]
      obtain ⟨n', e⟩ := n_gives_27 hL h2 h3 hw ho p (f_L_gives_16 n) v (nI P.length) want last lastAt 10100 0 (by omega) (by omega)
      rw [show f_L_gives_27 (f_L_gives_16 n) 10100 g l v p m (nI P.length) want last lastAt (-1) 0 = _ from e, f_L_gives_27, hL.2.1, if_pos (Int32.le_refl _)]
      have hbe := n_best_congr (g := s_at L (fun x => s_gain w st x p m)) hok
      rw [← hbe]
      cases hb : s_best ok (s_at L (fun x => s_gain w st x p m)) L.length with
      | none =>
        rw [s_plan_none hb, List.append_nil, if_neg (show ¬ (0 : Int32) ≤ s_enc (-1) none from by decide)]
        refine ⟨_, rfl, hdone P want want v hO, ?_⟩
        rw [cr_as, pk_us]; rfl
      | some r =>
        obtain ⟨h5, h6⟩ := s_best_lt hb
        have hx : L[r]? = some L[r] := List.getElem?_eq_getElem h5
        obtain ⟨a1, a2, a3, a4⟩ := hL.2.2 r _ hx
        have hbr : s_at L (fun x => x.2.1) r = L[r].2.1 := s_at_of hx
        have hgr : s_at L (fun x => s_gain w st x p m) r = s_gain w st L[r] p m := s_at_of hx
        have hP12 : P.length < 12 := by omega
        rw [s_enc_some, if_pos (show (0 : Int32) ≤ nI r from c_le 0 r rfl rfl (by omega) (by omega)), n_gain hL h2 h3 hw ho hx, Option.bind_some, n_x1, n_x0, n_y1, n_y0, if_pos (cr_inn (by omega) (by omega)), if_pos (cr_inn (by omega) (by omega)), if_pos (cr_inn (by omega) (by omega)), cr_xn (by omega), cr_xn (by omega), cr_xn (by omega), a1, a2]
        have step : ∀ t : Int32, t = s_take want L[r].2.1 → ∃ v', f_L_gives_203 (f_L_gives_16 n) g l (cr_a v 0 (2 * P.length) L[r].1) p m (nI P.length) want (s_gain w st L[r] p m) (nI r) t (nI (2 * P.length + 1)) = some (nI (P ++ s_plan (s_at L (fun x => s_gain w st x p m)) (s_at L (fun x => x.2.1)) L.length (f + 1) ok want).length, v') ∧ vOut (P ++ s_plan (s_at L (fun x => s_gain w st x p m)) (s_at L (fun x => x.2.1)) L.length (f + 1) ok want) L v' ∧ (v' 0 24 ≤ 0) = (s_left (s_plan (s_at L (fun x => s_gain w st x p m)) (s_at L (fun x => x.2.1)) L.length (f + 1) ok want) want ≤ 0) := by
          intro t ht
          subst ht
          rw [f_L_gives_203, n_y1, if_pos (cr_inn (by omega) (by omega)), if_pos (cr_inn (by omega) (by omega)), cr_xn (by omega)]
          have e24 : (cr_a (cr_a v 0 (2 * P.length) L[r].1) 0 (2 * P.length + 1) (s_take want L[r].2.1)) 0 (2 * P.length + 1) = s_take want L[r].2.1 := by rw [cr_as, pk_us]
          rw [e24, nI_1]
          have hpl : s_plan (s_at L (fun x => s_gain w st x p m)) (s_at L (fun x => x.2.1)) L.length (f + 1) ok want = (r, s_take want L[r].2.1) :: s_plan (s_at L (fun x => s_gain w st x p m)) (s_at L (fun x => x.2.1)) L.length f (fun j => ok j && !decide (j = r)) (want - s_take want L[r].2.1) := by
            rw [s_plan, if_neg hw0, hb]; dsimp only; rw [hbr]
          obtain ⟨v', c1, c2, c3⟩ := ih n (P ++ [(r, s_take want L[r].2.1)]) (fun j => ok j && !decide (j = r)) (want - s_take want L[r].2.1) (s_gain w st L[r] p m) (nI r) (cr_a (cr_a v 0 (2 * P.length) L[r].1) 0 (2 * P.length + 1) (s_take want L[r].2.1)) ⟨by rw [List.length_append]; simp; omega, fun i q x hq hxq => by
              by_cases hi : i < P.length
              · rw [List.getElem?_append_left hi] at hq
                rw [cr_as, pk_un (by omega), pk_un (by omega), cr_as, pk_un (by omega), pk_un (by omega)]
                exact hO.2 i q x hq hxq
              · have hli := p_lt hq
                rw [List.length_append] at hli
                simp at hli
                have hi2 : i = P.length := by omega
                subst hi2
                rw [List.getElem?_append_right (Nat.le_refl _)] at hq
                simp at hq
                subst hq
                rw [hx] at hxq; cases hxq
                rw [cr_as, pk_un (by omega), pk_us, cr_as, pk_us]
                exact ⟨rfl, rfl⟩⟩ (by rw [List.length_append]; simp; omega) (by omega) (by have := s_cnt_rem h6 h5; omega) (fun j hj => by
              have hmax := s_best_max hb j hj
              have hokr := hok r h5
              rw [h6] at hokr
              have hrr : s_ok L m r = true ∧ (s_at L (fun x => s_gain w st x p m) r < last ∨ (s_at L (fun x => s_gain w st x p m) r = last ∧ lastAt < nI r)) := by
                unfold n_ok at hokr
                simpa using hokr.symm
              rw [← hgr]
              generalize s_at L (fun x => s_gain w st x p m) = gn at *
              have hoj := hok j hj
              unfold n_ok at hoj ⊢
              have hjr : decide (nI r < nI j) = decide (r < j) := by
                by_cases h : r < j
                · rw [decide_eq_true h, decide_eq_true (nI_lt h (by omega))]
                · rw [decide_eq_false h, decide_eq_false (nI_nlt (Nat.le_of_not_lt h) (by omega))]
              rw [hjr]
              by_cases hjr2 : j = r
              · subst hjr2; simp
              · cases hoo : ok j with
                | true =>
                  have hs : s_ok L m j = true := by
                    rw [hoo] at hoj
                    simp at hoj
                    exact hoj.1
                  rcases hmax hoo with k | ⟨k1, k2⟩
                  · simp [hs, k, hjr2]
                  · simp [hs, k1, hjr2]; omega
                | false =>
                  rw [hoo] at hoj
                  cases hs : s_ok L m j with
                  | false => simp
                  | true =>
                    rw [hs] at hoj
                    have hno : ¬ (gn j < last ∨ (gn j = last ∧ lastAt < nI j)) := by simpa using hoj
                    have : ¬ (gn j < gn r ∨ (gn j = gn r ∧ r < j)) := by
                      intro h
                      apply hno
                      rcases h with h | ⟨h, h'⟩
                      · rcases hrr.2 with q | ⟨q, -⟩
                        · exact Or.inl (z_ltt h q)
                        · exact Or.inl (by rw [← q]; exact h)
                      · rcases hrr.2 with q | ⟨q, q2⟩
                        · exact Or.inl (by rw [h]; exact q)
                        · exact Or.inr ⟨h.trans q, z_ltt q2 (nI_lt h' (by omega))⟩
                    simp at this
                    simp [this]
                    exact this.2)
          rw [List.append_assoc, List.cons_append, List.nil_append, ← hpl] at c1 c2
          refine ⟨v', ?_, c2, ?_⟩
          · rw [List.length_append, List.length_singleton] at c1; exact c1
          · rw [c3, hpl]; rfl
        by_cases ht : want ≤ L[r].2.1
        · rw [if_pos ht]
          exact step want (by rw [← q_take_le, if_pos ht])
        · rw [if_neg ht]
          exact step L[r].2.1 (by rw [← q_take_le, if_neg ht])
