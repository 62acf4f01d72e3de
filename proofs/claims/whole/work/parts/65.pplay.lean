/-! the orders, on the model -/
theorem i_call {b : Nat} {S : cr_S} (hI : s_inv b S) (hb : b < 2 ^ 30) (h12 : S.1.length ≤ 12) (h6 : S.2.1.length ≤ 6) (c : Int32) (a : List Int32) : s_Op b (s_call S c a) := by
  unfold s_call
  split
  · exact i_blend hI hb _ _ _ _
  · split
    · exact i_cup hI _
    · split
      · exact i_meet hI h12 h6 _
      · split
        · exact i_lot hI hb _ _
        · split
          · exact i_sell hI h6 _ _
          · exact i_pass hI h6 _
theorem q_eta {α β : Type} (x : Option (α × β)) : (x.bind fun q => some (q.1, q.2)) = x := by cases x <;> rfl
theorem q_calls {b : Nat} {S : cr_S} {H : List cr_S} {v : cr_V} (hI : s_inv b S) (hM : mdR S (v 0)) (hP : mdP H v) {c : Int32} {a : List Int32} (h16 : v 16 0 = c) (h17 : ∀ j, j < s_want c → v 17 j = a.getD j 0) (hw : s_want c ≠ 0) : q_Ok (s_call S c a) S H v (f_X7_calls v) := by
  obtain ⟨a0, m, hm, ha, h0, h5, hd, hL, hK, hwo, hs⟩ := hI
  have hB : ∀ x ∈ S.1, s_in x.2.1 1 9999 = true := fun x hx => (hL x hx).inb
  have hB1 : ∀ (j : Nat) (x : cr_Lot), S.1[j]? = some x → 1 ≤ x.2.1 := fun j x hx => by
    obtain ⟨g, g1, g2, g3⟩ := (hL x (List.mem_of_getElem? hx)).bags
    rw [g3]; exact c_le 1 g rfl rfl g1 (by omega)
  have hKp : ∀ d ∈ S.2.1, ¬ d.1 < S.2.2.2.2 0 := fun d hd => by
    obtain ⟨⟨k, k1, k2, k3⟩, -⟩ := hK d hd
    rw [k3, h0]; exact nI_nlt k1 (by omega)
  rw [f_X7_calls, h16]
  simp only [q_eta]
  unfold s_call
  by_cases h1 : c = 98
  · subst h1
    rw [if_pos rfl, if_pos rfl, h17 0 (by decide), h17 1 (by decide), h17 2 (by decide), h17 3 (by decide)]
    exact q_blend hM hP hd hB _ _ _ _
  rw [if_neg h1, if_neg h1]
  by_cases h2 : c = 99
  · subst h2
    rw [if_pos rfl, if_pos rfl, h17 0 (by decide)]
    exact q_cup hM hP hB1 _
  rw [if_neg h2, if_neg h2]
  by_cases h3 : c = 100
  · subst h3
    rw [if_pos rfl, if_pos rfl, h17 0 (by decide)]
    exact q_meet hM hP hd hB _
  rw [if_neg h3, if_neg h3]
  by_cases h4 : c = 108
  · subst h4
    rw [if_pos rfl, if_pos rfl, h17 0 (by decide), h17 1 (by decide)]
    exact q_lot hM hP _ _
  rw [if_neg h4, if_neg h4]
  by_cases h5' : c = 115
  · subst h5'
    rw [if_pos rfl, if_pos rfl, h17 0 (by decide), h17 1 (by decide)]
    exact q_sell hM hP _ _
  rw [if_neg h5', if_neg h5']
  rw [h17 0 (by omega)]
  exact q_pass hM hP ha h0 hKp _
def q_Run (o : (Nat × Int32 × Int32) ⊕ (Nat × cr_S)) (H : List cr_S) (v : cr_V) (out : Option (Int32 × cr_V)) : Prop := match o with
  | .inl r => ∃ v', out = some (0, v') ∧ v' 12 0 = nI r.1 ∧ v' 13 0 = r.2.1 ∧ v' 14 0 = r.2.2 ∧ mdP H v' ∧ v' 4 0 = 0 ∧ sameC [0, 1, 3, 4, 7, 8, 9, 10, 11, 12, 13, 14, 15, 16, 17] v v'
  | .inr r => ∃ v', out = some (1, v') ∧ v' 15 0 = nI r.1 ∧ mdR r.2 (v' 0) ∧ mdP H v' ∧ v' 4 0 = 0 ∧ sameC [0, 1, 3, 4, 7, 8, 9, 10, 11, 12, 13, 14, 15, 16, 17] v v'
theorem q_Run.tr {o : (Nat × Int32 × Int32) ⊕ (Nat × cr_S)} {H : List cr_S} {u v : cr_V} {out : Option (Int32 × cr_V)} {cs : List Nat} (h : q_Run o H v out) (hs : sameC cs u v) (hc : ∀ c, c ∈ cs → c ∈ [0, 1, 3, 4, 7, 8, 9, 10, 11, 12, 13, 14, 15, 16, 17]) : q_Run o H u out := by
  unfold q_Run at *
  cases o with
  | inl r =>
    obtain ⟨v', e1, e2, e3, e4, e5, e6, e7⟩ := h
    exact ⟨v', e1, e2, e3, e4, e5, e6, hs.tr e7 hc (fun c h => h)⟩
  | inr r =>
    obtain ⟨v', e1, e2, e3, e4, e5, e6⟩ := h
    exact ⟨v', e1, e2, e3, e4, e5, hs.tr e6 hc (fun c h => h)⟩
theorem z_err {e : Int32} (h : s_in e (-2000000004) (-2000000001) = true) : e ≤ -2000000001 := by
  unfold s_in at h
  simp at h
  exact h.2
theorem q_plays_22 {T : List Int32} {H : List cr_S} : ∀ (n p b d : Nat) (S : cr_S) (v : cr_V), T.length - p + 1 < n → p ≤ T.length → mdT T v → v 4 0 = 1 → v 11 0 = nI p → v 15 0 = nI d → mdR S (v 0) → mdP H v → s_inv b S → b + (T.length - p) < 2 ^ 30 →
    ∀ k, T.length - p < k → q_Run (s_run T k p S d) H v (f_X7_plays_22 n v 1) := by
  intro n
  induction n with
  | zero => intro p b d S v h; omega
  | succ n ih =>
    intro p b d S v hn hp hT h4 h11 h15 hM hP hI hb
    have hl := hT.1.1
    by_cases hpl : p < T.length
    · have hs0 : sameC [12] v (cr_i v 12 (v 11 0)) := sameC.c (by simp)
      obtain ⟨v1, e1, e2, e3, e4⟩ := q_reads (hT.sm hs0 (by simp) (by simp)) hpl (by simpa [cr_ce] using h11)
      have hs1 : sameC [11, 12, 16, 17] v v1 := hs0.tr e4 (by simp) (by simp)
      have h12' : v1 12 0 = nI p := by rw [e4 12 (by simp)]; simpa [cr_ce] using h11
      have hq0 : ∀ (u : cr_V), f_X7_plays_22 n u 0 = some (0, cr_i u 4 0) := by
        intro u
        cases n with
        | zero => omega
        | succ n =>
          rw [f_X7_plays_22, f_X7_plays_126]
          split
          · rw [if_pos (by decide)]
          · rw [if_pos rfl, if_pos (by decide)]
      obtain ⟨l1, l2, l3⟩ := s_read_le hpl
      rw [f_X7_plays_22, hT.2.1, h11, if_neg (nI_ge hpl (by omega)), if_neg (by decide)]
      rw [h11] at e1
      rw [e1, Option.bind_some]
      cases hr : (s_read T p).2 with
      | none =>
        intro k hk'
        obtain ⟨k, rfl⟩ : ∃ j, k = j + 1 := ⟨k - 1, by omega⟩
        rw [s_run, if_pos hpl, hr]
        dsimp only
        simp only [Option.isSome_none, Bool.false_eq_true, if_false, if_true]
        rw [f_X7_plays_62, if_pos rfl, f_X7_plays_77, f_X7_plays_78, if_pos rfl, f_X7_plays_89, if_pos rfl, f_X7_plays_110, hq0]
        have hs2 : sameC [4, 13, 14, 15] v1 (cr_i (cr_i (cr_i (cr_i v1 13 1) 14 (cr_i v1 13 1 11 0 - cr_i v1 13 1 12 0)) 15 (cr_i (cr_i v1 13 1) 14 (cr_i v1 13 1 11 0 - cr_i v1 13 1 12 0) 15 0 + 1)) 4 0) := fun c hc => by
          simp only [List.mem_cons, not_or, List.not_mem_nil, not_false_eq_true, and_true] at hc
          simp only [cr_ce]
          rw [if_neg hc.1, if_neg hc.2.2.2, if_neg hc.2.2.1, if_neg hc.2.1]
        refine ⟨_, rfl, ?_, ?_, ?_, (hP.sm hs1 (by simp) (by simp)).sm hs2 (by simp) (by simp), ?_, hs1.tr hs2 (by simp) (by simp)⟩
        · simp [cr_ce, h12']
        · simp [cr_ce]
        · simp [cr_ce, h12', e2]; exact pk_sub l1
        · simp [cr_ce]
      | some a =>
        obtain ⟨g1, g2⟩ := e3 a hr
        obtain ⟨j1, j2, j3⟩ := l3 a hr
        have hM1 : mdR S (v1 0) := by rw [hs1 0 (by simp)]; exact hM
        have hP1 := hP.sm hs1 (by simp) (by simp)
        have hk := q_calls hI hM1 hP1 g1 g2 j3
        have ho := i_call hI (by omega) hM.1.1 hM.2.1.1 (s_chr T p) a
        simp only [Option.isSome_some, if_true, n10, if_false]
        cases hc : s_call S (s_chr T p) a with
        | inl e =>
          rw [hc] at hk ho
          obtain ⟨v2, k1, k2, k3, k4⟩ := hk
          intro k hk'
          obtain ⟨k, rfl⟩ : ∃ j, k = j + 1 := ⟨k - 1, by omega⟩
          rw [s_run, if_pos hpl, hr]
          dsimp only
          rw [hc, k1, Option.bind_some]
          dsimp only
          rw [f_X7_plays_62, if_neg (by decide), if_pos (z_err ho), f_X7_plays_77, f_X7_plays_78, if_neg (by decide), f_X7_plays_89, if_neg (by decide), f_X7_plays_110, hq0]
          have hs2 : sameC [4, 13, 14, 15] v2 (cr_i (cr_i (cr_i (cr_i v2 13 2) 14 e) 15 (cr_i (cr_i v2 13 2) 14 e 15 0 + 1)) 4 0) := fun c hc => by
            simp only [List.mem_cons, not_or, List.not_mem_nil, not_false_eq_true, and_true] at hc
            simp only [cr_ce]
            rw [if_neg hc.1, if_neg hc.2.2.2, if_neg hc.2.2.1, if_neg hc.2.1]
          refine ⟨_, rfl, ?_, ?_, ?_, k3.sm hs2 (by simp) (by simp), ?_, hs1.tr (k4.tr hs2 (es := [4, 7, 8, 9, 10, 13, 14, 15]) (by simp) (by simp)) (by simp) (by simp)⟩
          · simp [cr_ce, k4 12 (by simp), h12']
          · simp [cr_ce]
          · simp [cr_ce]
          · simp [cr_ce]
        | inr q =>
          rw [hc] at hk ho
          obtain ⟨v2, k1, k2, k3, k4⟩ := hk
          obtain ⟨o1, o2⟩ := ho
          have hs2 : sameC [13, 14, 15] v2 (cr_i (cr_i (cr_i v2 13 2) 14 q.1) 15 (cr_i (cr_i v2 13 2) 14 q.1 15 0 + 1)) := fun c hc => by
            simp only [List.mem_cons, not_or, List.not_mem_nil, not_false_eq_true, and_true] at hc
            simp only [cr_ce]
            rw [if_neg hc.2.2, if_neg hc.2.1, if_neg hc.1]
          have hs3 : sameC [0, 1, 3, 7, 8, 9, 10, 11, 12, 13, 14, 15, 16, 17] v (cr_i (cr_i (cr_i v2 13 2) 14 q.1) 15 (cr_i (cr_i v2 13 2) 14 q.1 15 0 + 1)) := hs1.tr (k4.tr hs2 (es := [0, 1, 3, 7, 8, 9, 10, 13, 14, 15]) (by simp) (by simp)) (by simp) (by simp)
          have hch : s_chg (v1 4 0) H S = H := by
            unfold s_chg
            rw [hs1 4 (by simp), h4, if_neg (by decide)]
          rw [hch] at k3
          have hN := ih (s_read T p).1 (b + 1) (d + 1) q.2 (cr_i (cr_i (cr_i v2 13 2) 14 q.1) 15 (cr_i (cr_i v2 13 2) 14 q.1 15 0 + 1)) (by omega) l2 (hT.sm hs3 (by simp) (by simp)) (by rw [hs3 4 (by simp)]; exact h4) (by rw [hs2 11 (by simp), k4 11 (by simp)]; exact e2) (by
            simp [cr_ce, k4 15 (by simp), hs1 15 (by simp), h15, nI_1]) (by rw [hs2 0 (by simp)]; exact k2) (k3.sm hs2 (by simp) (by simp)) o2 (by omega)
          intro k hk'
          obtain ⟨k, rfl⟩ : ∃ j, k = j + 1 := ⟨k - 1, by omega⟩
          rw [s_run, if_pos hpl, hr]
          dsimp only
          rw [hc, k1, Option.bind_some]
          dsimp only
          rw [f_X7_plays_62, if_neg (by decide), if_neg (Int32.not_le.mpr o1), f_X7_plays_78, if_neg (by decide), f_X7_plays_89, if_neg (by decide), f_X7_plays_110]
          exact (hN k (by omega)).tr hs3 (by simp)
    · rw [f_X7_plays_22, hT.2.1, h11, if_pos (nI_le (by omega) (by omega)), f_X7_plays_126, if_pos (by decide)]
      intro k _
      have hs2 : sameC [4] v (cr_i v 4 0) := sameC.c (by simp)
      have he : s_run T k p S d = .inr (d, S) := by
        cases k with
        | zero => rfl
        | succ k => rw [s_run, if_neg hpl]
      rw [he]
      exact ⟨_, rfl, by simpa [cr_ce] using h15, by rw [hs2 0 (by simp)]; exact hM, hP.sm hs2 (by simp) (by simp), by simp [cr_ce], hs2.tr sameC.rf (by simp) (fun c h => h)⟩
theorem q_plays {T : List Int32} {H : List cr_S} {b : Nat} {S : cr_S} {v : cr_V} (hT : mdT T v) (hM : mdR S (v 0)) (hP : mdP H v) (hI : s_inv b S) (hb : b + 60 < 2 ^ 30) : q_Run (s_run T 61 0 S 0) H v (f_X7_plays v) := by
  have hl := hT.1.1
  have hs : sameC [4, 11, 12, 15] v (cr_i (cr_i (cr_i (cr_i v 4 1) 11 0) 12 0) 15 0) := fun c hc => by
    simp only [List.mem_cons, not_or, List.not_mem_nil, not_false_eq_true, and_true] at hc
    simp only [cr_ce]
    rw [if_neg hc.2.2.2, if_neg hc.2.2.1, if_neg hc.2.1, if_neg hc.1]
  rw [f_X7_plays]
  exact (q_plays_22 10100 0 b 0 S _ (by omega) (by omega) (hT.sm hs (by simp) (by simp)) (by simp [cr_ce]) (by simp [cr_ce]; rfl) (by simp [cr_ce]; rfl) (by rw [hs 0 (by simp)]; exact hM) (hP.sm hs (by simp) (by simp)) hI (by omega) 61 (by omega)).tr hs (by simp)
/-- the model, whole: the state, the past, the text -/
def mdA (S : cr_S) (H : List cr_S) (T : List Int32) (v : cr_V) : Prop := mdR S (v 0) ∧ mdP H v ∧ mdT T v ∧ v 4 0 = 0
noncomputable def r_fault (T : List Int32) (S : cr_S) (w : Int32) : Int32 := if s_in w 0 2 = true then (match s_run T 61 0 S 0 with
  | .inl r => if w = 0 then nI r.1 else if w = 1 then r.2.1 else r.2.2
  | .inr _ => (-2000000004)) else (-2000000001)
theorem md_back {S : cr_S} {s s' c : cr_V} (hM : mdR S (s 0)) (h : ∀ t, s' 0 t = if t < 81 then s 0 t else c 0 t) : mdR S (s' 0) := md_congr hM fun t ht => by rw [h, if_pos ht]
theorem q_fault {T : List Int32} {H : List cr_S} {b : Nat} {S : cr_S} {v : cr_V} (hA : mdA S H T v) (hI : s_inv b S) (hb : b + 60 < 2 ^ 30) (x1 : Int32) : ∃ v', f_X7_fault v x1 = some (r_fault T S x1, v') ∧ mdA S H T v' := by
  obtain ⟨hM, hP, hT, h4⟩ := id hA
  rw [f_X7_fault, q_in, Option.bind_some]
  unfold r_fault
  cases h1 : s_in x1 0 2 with
  | false => exact ⟨v, by simp, hA⟩
  | true =>
    simp only [if_true, n10, if_false]
    obtain ⟨c1, d1, d2⟩ := q_copies (fun _ => v 0) (fun _ => v 2)
    rw [d1, Option.bind_some]
    have hs : sameC [2] v (cr_c v 2 (c1 0)) := sameC.c (by simp)
    have hc2 : ∀ t, t < 81 → cr_c v 2 (c1 0) 2 t = v 0 t := fun t ht => by rw [cr_cs, d2, if_pos ht]
    have hR := q_plays (hT.sm hs (by simp) (by simp)) (show mdR S (cr_c v 2 (c1 0) 0) by rw [hs 0 (by simp)]; exact hM) (hP.sm hs (by simp) (by simp)) hI hb
    have fin : ∀ (u : cr_V), mdP H u → u 4 0 = 0 → sameC [0, 1, 3, 4, 7, 8, 9, 10, 11, 12, 13, 14, 15, 16, 17] (cr_c v 2 (c1 0)) u → ∃ c2, f_X7_copies (fun _ => u 2) (fun _ => u 0) = some c2 ∧ mdA S H T (cr_c u 0 (c2 0)) := by
      intro u hu h4u hsu
      obtain ⟨c2, f1, f2⟩ := q_copies (fun _ => u 2) (fun _ => u 0)
      have hs3 : sameC [0] u (cr_c u 0 (c2 0)) := sameC.c (by simp)
      refine ⟨c2, f1, md_congr hM fun t ht => ?_, hu.sm hs3 (by simp) (by simp), ((hT.sm hs (by simp) (by simp)).sm hsu (by simp) (by simp)).sm hs3 (by simp) (by simp), by rw [hs3 4 (by simp)]; exact h4u⟩
      rw [cr_cs, f2, if_pos ht]
      show u 2 t = _
      rw [hsu 2 (by simp)]; exact hc2 t ht
    cases hr : s_run T 61 0 S 0 with
    | inl r =>
      rw [hr] at hR
      obtain ⟨u, e1, e2, e3, e4, e5, e6, e7⟩ := hR
      obtain ⟨c2, f1, f2⟩ := fin u e5 e6 e7
      rw [e1, Option.bind_some]
      dsimp only
      rw [f1, Option.bind_some, if_pos rfl, e2, e3, e4]
      refine ⟨_, ?_, f2⟩
      split
      · rfl
      · split <;> rfl
    | inr r =>
      rw [hr] at hR
      obtain ⟨u, e1, e2, e3, e4, e5, e6⟩ := hR
      obtain ⟨c2, f1, f2⟩ := fin u e4 e5 e6
      rw [e1, Option.bind_some]
      dsimp only
      rw [f1, Option.bind_some, if_neg (by decide)]
      exact ⟨_, rfl, f2⟩
noncomputable def o_play (T : List Int32) (S : cr_S) : cr_R := match s_run T 61 0 S 0 with
  | .inl _ => .inl (-2000000002)
  | .inr r => .inr (nI r.1, r.2)
theorem q_play {T : List Int32} {H : List cr_S} {b : Nat} {S : cr_S} {v : cr_V} (hA : mdA S H T v) (hI : s_inv b S) (hb : b + 60 < 2 ^ 30) : match o_play T S with
    | .inl e => ∃ v', f_X7_play v = some (e, v') ∧ mdA S H T v'
    | .inr q => ∃ v', f_X7_play v = some (q.1, v') ∧ mdA q.2 (s_push H S) T v' := by
  obtain ⟨hM, hP, hT, h4⟩ := id hA
  rw [f_X7_play]
  unfold o_play
  obtain ⟨c1, d1, d2⟩ := q_copies (fun _ => v 0) (fun _ => v 2)
  rw [d1, Option.bind_some]
  have hs : sameC [2] v (cr_c v 2 (c1 0)) := sameC.c (by simp)
  have hc2 : ∀ t, t < 81 → cr_c v 2 (c1 0) 2 t = v 0 t := fun t ht => by rw [cr_cs, d2, if_pos ht]
  have hR := q_plays (hT.sm hs (by simp) (by simp)) (show mdR S (cr_c v 2 (c1 0) 0) by rw [hs 0 (by simp)]; exact hM) (hP.sm hs (by simp) (by simp)) hI hb
  have fin : ∀ (u : cr_V), mdP H u → u 4 0 = 0 → sameC [0, 1, 3, 4, 7, 8, 9, 10, 11, 12, 13, 14, 15, 16, 17] (cr_c v 2 (c1 0)) u → ∃ c2, f_X7_copies (fun _ => u 2) (fun _ => u 0) = some c2 ∧ mdA S H T (cr_c u 0 (c2 0)) := by
    intro u hu h4u hsu
    obtain ⟨c2, f1, f2⟩ := q_copies (fun _ => u 2) (fun _ => u 0)
    have hs3 : sameC [0] u (cr_c u 0 (c2 0)) := sameC.c (by simp)
    refine ⟨c2, f1, md_congr hM fun t ht => ?_, hu.sm hs3 (by simp) (by simp), ((hT.sm hs (by simp) (by simp)).sm hsu (by simp) (by simp)).sm hs3 (by simp) (by simp), by rw [hs3 4 (by simp)]; exact h4u⟩
    rw [cr_cs, f2, if_pos ht]
    show u 2 t = _
    rw [hsu 2 (by simp)]; exact hc2 t ht
  cases hr : s_run T 61 0 S 0 with
  | inl r =>
    rw [hr] at hR
    obtain ⟨u, e1, e2, e3, e4, e5, e6, e7⟩ := hR
    obtain ⟨c2, f1, f2⟩ := fin u e5 e6 e7
    rw [e1, Option.bind_some]
    dsimp only
    rw [f1, Option.bind_some, if_pos rfl]
    exact ⟨_, rfl, f2⟩
  | inr r =>
    rw [hr] at hR
    obtain ⟨u, e1, e2, e3, e4, e5, e6⟩ := hR
    obtain ⟨c2, f1, f2⟩ := fin u e4 e5 e6
    rw [e1, Option.bind_some]
    dsimp only
    rw [f1, Option.bind_some, if_neg (by decide)]
    obtain ⟨g1, g2, g3, g4⟩ := f2
    obtain ⟨w, i1, i2, i3, i4⟩ := q_chg g2 g1
    have hch : s_chg (cr_c u 0 (c2 0) 4 0) H S = s_push H S := by unfold s_chg; rw [if_pos g4]
    rw [hch] at i3
    have hR2 := q_plays (g3.sm i4 (by simp) (by simp)) i2 i3 hI hb
    rw [hr] at hR2
    obtain ⟨u2, k1, k2, k3, k4, k5, k6⟩ := hR2
    rw [i1, Option.bind_some, k1, Option.bind_some]
    dsimp only
    rw [if_neg (by decide), k2]
    exact ⟨u2, rfl, k3, k4, (g3.sm i4 (by simp) (by simp)).sm k6 (by simp) (by simp), k5⟩
def s_typed (T : List Int32) (c : Int32) : Int32 ⊕ List Int32 := if s_in c 32 126 = true then (if T.length = 60 then .inl (-2000000003) else .inr (T ++ [c])) else .inl (-2000000001)
theorem s_txt.add {T : List Int32} {c : Int32} (h : s_txt T) (hl : ¬ T.length = 60) (hc : s_in c 32 126 = true) : s_txt (T ++ [c]) := by
  have := h.1
  refine ⟨by rw [List.length_append, List.length_singleton]; omega, fun x hx => ?_⟩
  rcases List.mem_append.mp hx with k | k
  · exact h.2 x k
  · rw [List.mem_singleton] at k; rw [k]; exact hc
theorem q_type {T : List Int32} {H : List cr_S} {S : cr_S} {v : cr_V} (hA : mdA S H T v) (x1 : Int32) : match s_typed T x1 with
    | .inl e => f_X7_type v x1 = some (e, v)
    | .inr T' => ∃ v', f_X7_type v x1 = some (nI T'.length, v') ∧ mdA S H T' v' := by
  obtain ⟨hM, hP, ⟨⟨t1, t2⟩, t3, t4⟩, h4⟩ := id hA
  rw [f_X7_type, q_in, Option.bind_some]
  unfold s_typed
  cases h1 : s_in x1 32 126 with
  | false => simp
  | true =>
    simp only [if_true, n10, if_false]
    rw [t3]
    by_cases h2 : T.length = 60
    · rw [if_pos h2, h2]; rfl
    · rw [if_neg h2]
      dsimp only
      have hne : ¬ nI T.length = 60 := fun e => h2 (nI_inj (b := 60) (by omega) (by omega) e)
      rw [if_neg hne, if_pos (cr_inn (by omega) (by omega)), cr_xn (by omega), nI_1, List.length_append, List.length_singleton]
      have hs : sameC [5, 6] v (cr_i (cr_a v 5 T.length x1) 6 (nI (T.length + 1))) := (sameC.c (cs := [5, 6]) (by simp)).tr (sameC.c (cs := [5, 6]) (by simp)) (fun c h => h) (fun c h => h)
      refine ⟨_, rfl, by rw [hs 0 (by simp)]; exact hM, hP.sm hs (by simp) (by simp), ⟨s_txt.add ⟨t1, t2⟩ h2 h1, ?_, fun j x hx => ?_⟩, by rw [hs 4 (by simp)]; exact h4⟩
      · simp [cr_ce]
      · by_cases hj : j < T.length
        · rw [List.getElem?_append_left hj] at hx
          have hne2 : ¬ j = T.length := by omega
          simp [cr_ce, cr_up, hne2]; exact t4 j x hx
        · have hl := p_lt hx
          rw [List.length_append, List.length_singleton] at hl
          have hj2 : j = T.length := by omega
          subst hj2
          rw [List.getElem?_append_right (Nat.le_refl _)] at hx
          simp at hx
          subst hx
          simp [cr_ce, cr_up]
theorem q_clearText {T : List Int32} {H : List cr_S} {S : cr_S} {v : cr_V} (hA : mdA S H T v) : ∃ v', f_X7_clearText v = some (nI T.length, v') ∧ mdA S H [] v' := by
  obtain ⟨hM, hP, ⟨⟨t1, t2⟩, t3, t4⟩, h4⟩ := id hA
  have hs : sameC [6] v (cr_i v 6 0) := sameC.c (by simp)
  rw [f_X7_clearText, t3]
  exact ⟨_, rfl, by rw [hs 0 (by simp)]; exact hM, hP.sm hs (by simp) (by simp), ⟨⟨by simp, fun c hc => by simp at hc⟩, by simp [cr_ce]; rfl, fun j x hx => by simp at hx⟩, by rw [hs 4 (by simp)]; exact h4⟩
