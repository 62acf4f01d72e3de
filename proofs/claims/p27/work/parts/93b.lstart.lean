/-! the law's start -/
abbrev lwA (s : State) : Nat → Prop := fun q => s.heap.size ≤ q
def lw_S0 : cr_S := ([], [], cr_fw, cr_fs, fun _ => 0)
def lw_X0 : cr_XT := (cr_hV, cr_zV, cr_zV, cr_hV, cr_zV, cr_zV, cr_zV, cr_xV, cr_zV, cr_zV)
def lw_G0 : cr_V := cr_a (cr_a (cr_a (cr_a (cr_a (cr_a (cr_a (cr_a (cr_a cr_zV 0 8 100) 0 9 2388) 0 10 3) 0 11 2) 0 12 20) 0 13 100) 0 14 150) 0 15 200) 0 16 300
theorem lw_init : LWS 0 lw_S0 lw_G0 cr_zV cr_zV lw_X0 := by
  refine ⟨⟨⟨[], ⟨⟨by simp [lw_S0], rfl, fun j x h => by simp [lw_S0] at h⟩, ⟨by simp [lw_S0], rfl, fun j x h => by simp [lw_S0] at h⟩, ⟨fun j hj => ?_, fun j hj => ?_, rfl, rfl, rfl, rfl, rfl⟩, rfl⟩, ⟨by simp, rfl, fun i T h => by simp at h⟩⟩, rfl, ⟨0, 0, Nat.le_refl _, by omega, rfl, rfl, by simp [s_dist, lw_S0], fun x h => by simp [lw_S0] at h, fun x h => by simp [lw_S0] at h, fun j hj => ?_, fun j hj => ?_⟩⟩, ⟨⟨by simp [lw_S0], ?_, fun j x h => by simp [lw_S0] at h⟩, ⟨by simp [lw_S0], ?_, fun j x h => by simp [lw_S0] at h⟩, fun j hj => ?_, fun j hj => ?_, fun j hj => ?_⟩, by simp [s_inc, lw_S0]⟩
  · rfl
  · rfl
  · rcases (show j = 0 ∨ j = 1 ∨ j = 2 ∨ j = 3 by omega) with rfl | rfl | rfl | rfl <;> decide
  · rcases (show j = 0 ∨ j = 1 ∨ j = 2 ∨ j = 3 ∨ j = 4 by omega) with rfl | rfl | rfl | rfl | rfl <;> decide
  · rfl
  · rfl
  · rcases (show j = 0 ∨ j = 1 ∨ j = 2 ∨ j = 3 by omega) with rfl | rfl | rfl | rfl <;> rfl
  · rcases (show j = 0 ∨ j = 1 ∨ j = 2 ∨ j = 3 ∨ j = 4 by omega) with rfl | rfl | rfl | rfl | rfl <;> rfl
  · rcases (show j = 0 ∨ j = 1 ∨ j = 2 ∨ j = 3 ∨ j = 4 ∨ j = 5 by omega) with rfl | rfl | rfl | rfl | rfl | rfl <;> rfl
theorem lw_eqi {args : Array Value} {s : State} {t : Term} {z : Int32} (h : (Cond.eq t (.int z)).before args s = true) : t.eval args s none [] s = some (.int z) := by
  cases hv : t.eval args s none [] s with
  | none => simp [Cond.before, Cond.holds, Cond.value, hv] at h
  | some w =>
    have hz : (Term.int z).eval args s none [] s = some (.int z) := rfl
    simp only [Cond.before, Cond.holds, Cond.value, hv, hz] at h
    cases w <;> simp_all
theorem lw_E {args : Array Value} {s : State} {tm : Term} {t N : Nat} {f : Nat → Int32} {A : Nat → Prop} (hN : N < 2 ^ 31) (hT : va_T .int t N (fun j => .int (f j)) A s s.heap) (ht : tm.eval args s none [] s = some (.ref t)) (hlen : (Term.length tm).eval args s none [] s = some (.int (Int32.ofNat N))) (hex : (Cond.exactly tm "[I").before args s = true) : cr_E t N f A s s.heap := by
  obtain ⟨cell, h1, h2, h3, h4, h5, h6, h7⟩ := hT
  obtain ⟨a, c, cell1, k, g1, g2, g3, g4, g5, g6, -⟩ := Cond.exactly_spec hex
  have ha : a = t := by rw [ht] at g1; cases g1; rfl
  subst ha
  have hc1 : cell1 = cell := Option.some.inj (g3.symm.trans h1)
  subst hc1
  obtain ⟨t', cell', ht', hat, hv⟩ := Term.length_spec hlen
  have ht2 : t' = a := by rw [ht] at ht'; cases ht'; rfl
  subst ht2
  obtain ⟨hcell, hkn, -, -⟩ := State.arrayAt?_spec hat
  have hc2 : cell' = cell1 := Option.some.inj (hcell.symm.trans h1)
  subst hc2
  have hsz : cell'.slots.size < 2 ^ 31 := by
    simp only [Term.eval, ht, hat, Option.bind_eq_bind, Option.bind_some] at hlen
    by_cases hlt : cell'.slots.size < 2147483648
    · exact hlt
    · simp [hlt] at hlen
  have hN2 : cell'.slots.size = N := nI_inj hsz hN h5
  refine ⟨cell', h1, by rw [g6]; exact g2, h2.1, h3, ?_, h7⟩
  apply Array.ext
  · rw [hN2, arrV_size]
  · intro i i1 i2
    have hi : i < N := by omega
    have e1 := h6 i hi
    have e2 := arrV_read cell'.cls (fun j => Value.int (f j)) hi
    rw [Array.getElem?_eq_getElem i1] at e1
    rw [Array.getElem?_eq_getElem i2] at e2
    exact Option.some.inj (e1.trans e2.symm)
theorem lw_classes {args : Array Value} {s : State} (hts : ∀ w ∈ lw_tbl, w.before args s = true) : ∃ D : va_G, ∀ (c : Nat) (q : vw_C), vwCl[c]? = some q → u_Kn s q.1 q.2.1 q.2.2 (D.1 c) (D.2 c) := by
  obtain ⟨c0, i0, h0⟩ := u_known (C := RX0) (T := TX0) (N := 3) (n := 3) hts wsL_law_in_wsX00 (hts (.instantiable RX0 3) (by decide +kernel))
  obtain ⟨c1, i1, h1⟩ := u_known (C := RX1) (T := TX1) (N := 12) (n := 12) hts wsL_law_in_wsX10 (hts (.instantiable RX1 12) (by decide +kernel))
  obtain ⟨c2, i2, h2⟩ := u_known (C := RX2) (T := TX2) (N := 2) (n := 2) hts wsL_law_in_wsX20 (hts (.instantiable RX2 2) (by decide +kernel))
  obtain ⟨c3, i3, h3⟩ := u_known (C := RX3) (T := TX3) (N := 9) (n := 9) hts wsL_law_in_wsX30 (hts (.instantiable RX3 9) (by decide +kernel))
  obtain ⟨c4, i4, h4⟩ := u_known (C := RX4) (T := TX4) (N := 6) (n := 6) hts wsL_law_in_wsX40 (hts (.instantiable RX4 6) (by decide +kernel))
  obtain ⟨c5, i5, h5⟩ := u_known (C := RX5) (T := TX5) (N := 8) (n := 8) hts wsL_law_in_wsX50 (hts (.instantiable RX5 8) (by decide +kernel))
  obtain ⟨c6, i6, h6⟩ := u_known (C := RX6) (T := TX6) (N := 5) (n := 5) hts wsL_law_in_wsX60 (hts (.instantiable RX6 5) (by decide +kernel))
  refine ⟨(fun k => match k with | 0 => c0 | 1 => c1 | 2 => c2 | 3 => c3 | 4 => c4 | 5 => c5 | _ => c6, fun k => match k with | 0 => i0 | 1 => i1 | 2 => i2 | 3 => i3 | 4 => i4 | 5 => i5 | _ => i6), fun k q hq => ?_⟩
  match k, hq with
  | 0, hq => cases hq; exact h0
  | 1, hq => cases hq; exact h1
  | 2, hq => cases hq; exact h2
  | 3, hq => cases hq; exact h3
  | 4, hq => cases hq; exact h4
  | 5, hq => cases hq; exact h5
  | 6, hq => cases hq; exact h6
  | k + 7, hq => simp at hq
theorem lw_arr {args : Array Value} {s : State} {ty : FieldType} (h : (Cond.arrayClass ty).before args s = true) : ∃ c, ArrOfT s c ty ∧ s.vm.findClass ("[" ++ ty.toString) = some c := by
  obtain ⟨c, k, comp, e1, e2, e3⟩ := Cond.arrayClass_spec h
  exact ⟨c, fun n z => ⟨fun k h => (by cases h), k, e2, comp, e3⟩, e1⟩
theorem lw_arrays {args : Array Value} {s : State} (hts : ∀ w ∈ lw_tbl, w.before args s = true) : ∃ ct : Nat → ClassId, ∀ (k : Nat) (q : ClassId × FieldType), (cr_TY ct)[k]? = some q → ArrOfT s q.1 q.2 ∧ va_RA s q.1 q.2 := by
  obtain ⟨c0, a0, b0⟩ := lw_arr (hts (Cond.arrayClass .int) (by decide +kernel))
  obtain ⟨c1, a1, b1⟩ := lw_arr (hts (Cond.arrayClass .boolean) (by decide +kernel))
  obtain ⟨c2, a2, b2⟩ := lw_arr (hts (Cond.arrayClass .char) (by decide +kernel))
  obtain ⟨comp, c3, k3, e1, e2, e3, e4, e5⟩ := Cond.arrayOver_spec (hts (Cond.arrayOver (.object "CupReceipts$House")) (by decide +kernel))
  refine ⟨fun k => match k with | 0 => c0 | 1 => c1 | 2 => c2 | _ => c3, fun k q hq => ?_⟩
  match k, hq with
  | 0, hq => cases hq; exact ⟨a0, b0⟩
  | 1, hq => cases hq; exact ⟨a1, b1⟩
  | 2, hq => cases hq; exact ⟨a2, b2⟩
  | 3, hq => cases hq; exact ⟨fun n z => ⟨fun k h => (by cases h), k3, e3, comp, e4⟩, k3, comp, e3, e4, e1, e5⟩
  | k + 4, hq => simp at hq
theorem lw_NW {args : Array Value} {s : State} (hts : ∀ w ∈ lw_tbl, w.before args s = true) : cr_NW s :=
  ⟨va_Nw.of rfl (hts _ (by decide +kernel)), va_Nw.of rfl (hts _ (by decide +kernel)), va_Nw.of rfl (hts _ (by decide +kernel)), trivial⟩
theorem lw_NF {args : Array Value} {s : State} (hts : ∀ w ∈ lw_tbl, w.before args s = true) : cr_NF s :=
  ⟨va_Nw.of rfl (hts _ (by decide +kernel)), va_Nw.of rfl (hts _ (by decide +kernel))⟩
theorem lw_NI {args : Array Value} {s : State} (hts : ∀ w ∈ lw_tbl, w.before args s = true) : cr_NI s :=
  ⟨va_Nw.of rfl (hts _ (by decide +kernel)), va_Nw.of rfl (hts _ (by decide +kernel)), va_Nw.of rfl (hts _ (by decide +kernel)), va_Nw.of rfl (hts _ (by decide +kernel)), va_Nw.of rfl (hts _ (by decide +kernel)), va_Nw.of rfl (hts _ (by decide +kernel)), va_Nw.of rfl (hts _ (by decide +kernel)), va_Nw.of rfl (hts _ (by decide +kernel)), va_Nw.of rfl (hts _ (by decide +kernel)), va_AO.of (hts _ (by decide +kernel))⟩
theorem lw_st_FIRST_WORTHS {b : Nat} {s : State} (hts : ∀ w ∈ lw_tbl, w.before #[Value.ref b] s = true) (hgv : (Jvm.Cond.and given_1 narrow_1).before #[Value.ref b] s = true) : ∃ t : Nat, va_Z "CupReceipts" "FIRST_WORTHS" "[I" (.ref t) (lwA s) s s.heap ∧ cr_E t 4 cr_fw (lwA s) s s.heap := by
  have hs := flat_of_before _ hgv
  have hA : ∀ a : Nat, a < s.heap.size → ¬ lwA s a := fun a h => Nat.not_le.mpr h
  have hlen : (Term.length (Term.static "CupReceipts" "FIRST_WORTHS" "[I")).eval #[Value.ref b] s none [] s = some (.int (Int32.ofNat 4)) := lw_eqi (hs (Cond.eq (Term.length (Term.static "CupReceipts" "FIRST_WORTHS" "[I")) (.int 4)) (by decide +kernel))
  obtain ⟨t, h1, h2⟩ := va_Tof (ty := .int) (f := fun j => .int (cr_fw j)) (A := lwA s) (by omega) (hs (Cond.arrayOf (Term.static "CupReceipts" "FIRST_WORTHS" "[I") .int) (by decide +kernel)) hlen (fun j hj => by
    rcases (show j = 0 ∨ j = 1 ∨ j = 2 ∨ j = 3 by omega) with rfl | rfl | rfl | rfl
    · exact lw_eqi (hs (Cond.eq (Term.elem (Term.static "CupReceipts" "FIRST_WORTHS" "[I") (.int 0)) (.int 100)) (by decide +kernel))
    · exact lw_eqi (hs (Cond.eq (Term.elem (Term.static "CupReceipts" "FIRST_WORTHS" "[I") (.int 1)) (.int 150)) (by decide +kernel))
    · exact lw_eqi (hs (Cond.eq (Term.elem (Term.static "CupReceipts" "FIRST_WORTHS" "[I") (.int 2)) (.int 200)) (by decide +kernel))
    · exact lw_eqi (hs (Cond.eq (Term.elem (Term.static "CupReceipts" "FIRST_WORTHS" "[I") (.int 3)) (.int 300)) (by decide +kernel))) hA
  have hZ := va_Zof (A := lwA s) (hts (Cond.laysStatic "CupReceipts" "FIRST_WORTHS" "[I") (by decide +kernel)) (hts (Cond.initialized "CupReceipts") (by decide +kernel)) h1 hA
  exact ⟨t, hZ, lw_E (by omega) h2 h1 hlen (hs (Cond.exactly (Term.static "CupReceipts" "FIRST_WORTHS" "[I") "[I") (by decide +kernel))⟩
theorem lw_st_FIRST_SETTINGS {b : Nat} {s : State} (hts : ∀ w ∈ lw_tbl, w.before #[Value.ref b] s = true) (hgv : (Jvm.Cond.and given_1 narrow_1).before #[Value.ref b] s = true) : ∃ t : Nat, va_Z "CupReceipts" "FIRST_SETTINGS" "[I" (.ref t) (lwA s) s s.heap ∧ cr_E t 5 cr_fs (lwA s) s s.heap := by
  have hs := flat_of_before _ hgv
  have hA : ∀ a : Nat, a < s.heap.size → ¬ lwA s a := fun a h => Nat.not_le.mpr h
  have hlen : (Term.length (Term.static "CupReceipts" "FIRST_SETTINGS" "[I")).eval #[Value.ref b] s none [] s = some (.int (Int32.ofNat 5)) := lw_eqi (hs (Cond.eq (Term.length (Term.static "CupReceipts" "FIRST_SETTINGS" "[I")) (.int 5)) (by decide +kernel))
  obtain ⟨t, h1, h2⟩ := va_Tof (ty := .int) (f := fun j => .int (cr_fs j)) (A := lwA s) (by omega) (hs (Cond.arrayOf (Term.static "CupReceipts" "FIRST_SETTINGS" "[I") .int) (by decide +kernel)) hlen (fun j hj => by
    rcases (show j = 0 ∨ j = 1 ∨ j = 2 ∨ j = 3 ∨ j = 4 by omega) with rfl | rfl | rfl | rfl | rfl
    · exact lw_eqi (hs (Cond.eq (Term.elem (Term.static "CupReceipts" "FIRST_SETTINGS" "[I") (.int 0)) (.int 100)) (by decide +kernel))
    · exact lw_eqi (hs (Cond.eq (Term.elem (Term.static "CupReceipts" "FIRST_SETTINGS" "[I") (.int 1)) (.int 2388)) (by decide +kernel))
    · exact lw_eqi (hs (Cond.eq (Term.elem (Term.static "CupReceipts" "FIRST_SETTINGS" "[I") (.int 2)) (.int 3)) (by decide +kernel))
    · exact lw_eqi (hs (Cond.eq (Term.elem (Term.static "CupReceipts" "FIRST_SETTINGS" "[I") (.int 3)) (.int 2)) (by decide +kernel))
    · exact lw_eqi (hs (Cond.eq (Term.elem (Term.static "CupReceipts" "FIRST_SETTINGS" "[I") (.int 4)) (.int 20)) (by decide +kernel))) hA
  have hZ := va_Zof (A := lwA s) (hts (Cond.laysStatic "CupReceipts" "FIRST_SETTINGS" "[I") (by decide +kernel)) (hts (Cond.initialized "CupReceipts") (by decide +kernel)) h1 hA
  exact ⟨t, hZ, lw_E (by omega) h2 h1 hlen (hs (Cond.exactly (Term.static "CupReceipts" "FIRST_SETTINGS" "[I") "[I") (by decide +kernel))⟩
theorem lw_st_LEAST_SETTINGS {b : Nat} {s : State} (hts : ∀ w ∈ lw_tbl, w.before #[Value.ref b] s = true) (hgv : (Jvm.Cond.and given_1 narrow_1).before #[Value.ref b] s = true) : ∃ t : Nat, va_Z "CupReceipts" "LEAST_SETTINGS" "[I" (.ref t) (lwA s) s s.heap ∧ va_T .int t 5 (fun j => .int (cr_least j)) (lwA s) s s.heap := by
  have hs := flat_of_before _ hgv
  have hA : ∀ a : Nat, a < s.heap.size → ¬ lwA s a := fun a h => Nat.not_le.mpr h
  have hlen : (Term.length (Term.static "CupReceipts" "LEAST_SETTINGS" "[I")).eval #[Value.ref b] s none [] s = some (.int (Int32.ofNat 5)) := lw_eqi (hs (Cond.eq (Term.length (Term.static "CupReceipts" "LEAST_SETTINGS" "[I")) (.int 5)) (by decide +kernel))
  obtain ⟨t, h1, h2⟩ := va_Tof (ty := .int) (f := fun j => .int (cr_least j)) (A := lwA s) (by omega) (hs (Cond.arrayOf (Term.static "CupReceipts" "LEAST_SETTINGS" "[I") .int) (by decide +kernel)) hlen (fun j hj => by
    rcases (show j = 0 ∨ j = 1 ∨ j = 2 ∨ j = 3 ∨ j = 4 by omega) with rfl | rfl | rfl | rfl | rfl
    · exact lw_eqi (hs (Cond.eq (Term.elem (Term.static "CupReceipts" "LEAST_SETTINGS" "[I") (.int 0)) (.int 1)) (by decide +kernel))
    · exact lw_eqi (hs (Cond.eq (Term.elem (Term.static "CupReceipts" "LEAST_SETTINGS" "[I") (.int 1)) (.int 1)) (by decide +kernel))
    · exact lw_eqi (hs (Cond.eq (Term.elem (Term.static "CupReceipts" "LEAST_SETTINGS" "[I") (.int 2)) (.int 0)) (by decide +kernel))
    · exact lw_eqi (hs (Cond.eq (Term.elem (Term.static "CupReceipts" "LEAST_SETTINGS" "[I") (.int 3)) (.int 0)) (by decide +kernel))
    · exact lw_eqi (hs (Cond.eq (Term.elem (Term.static "CupReceipts" "LEAST_SETTINGS" "[I") (.int 4)) (.int 0)) (by decide +kernel))) hA
  have hZ := va_Zof (A := lwA s) (hts (Cond.laysStatic "CupReceipts" "LEAST_SETTINGS" "[I") (by decide +kernel)) (hts (Cond.initialized "CupReceipts") (by decide +kernel)) h1 hA
  exact ⟨t, hZ, h2⟩
theorem lw_st_MOST_SETTINGS {b : Nat} {s : State} (hts : ∀ w ∈ lw_tbl, w.before #[Value.ref b] s = true) (hgv : (Jvm.Cond.and given_1 narrow_1).before #[Value.ref b] s = true) : ∃ t : Nat, va_Z "CupReceipts" "MOST_SETTINGS" "[I" (.ref t) (lwA s) s s.heap ∧ va_T .int t 5 (fun j => .int (cr_most j)) (lwA s) s s.heap := by
  have hs := flat_of_before _ hgv
  have hA : ∀ a : Nat, a < s.heap.size → ¬ lwA s a := fun a h => Nat.not_le.mpr h
  have hlen : (Term.length (Term.static "CupReceipts" "MOST_SETTINGS" "[I")).eval #[Value.ref b] s none [] s = some (.int (Int32.ofNat 5)) := lw_eqi (hs (Cond.eq (Term.length (Term.static "CupReceipts" "MOST_SETTINGS" "[I")) (.int 5)) (by decide +kernel))
  obtain ⟨t, h1, h2⟩ := va_Tof (ty := .int) (f := fun j => .int (cr_most j)) (A := lwA s) (by omega) (hs (Cond.arrayOf (Term.static "CupReceipts" "MOST_SETTINGS" "[I") .int) (by decide +kernel)) hlen (fun j hj => by
    rcases (show j = 0 ∨ j = 1 ∨ j = 2 ∨ j = 3 ∨ j = 4 by omega) with rfl | rfl | rfl | rfl | rfl
    · exact lw_eqi (hs (Cond.eq (Term.elem (Term.static "CupReceipts" "MOST_SETTINGS" "[I") (.int 0)) (.int 250)) (by decide +kernel))
    · exact lw_eqi (hs (Cond.eq (Term.elem (Term.static "CupReceipts" "MOST_SETTINGS" "[I") (.int 1)) (.int 4095)) (by decide +kernel))
    · exact lw_eqi (hs (Cond.eq (Term.elem (Term.static "CupReceipts" "MOST_SETTINGS" "[I") (.int 2)) (.int 50)) (by decide +kernel))
    · exact lw_eqi (hs (Cond.eq (Term.elem (Term.static "CupReceipts" "MOST_SETTINGS" "[I") (.int 3)) (.int 50)) (by decide +kernel))
    · exact lw_eqi (hs (Cond.eq (Term.elem (Term.static "CupReceipts" "MOST_SETTINGS" "[I") (.int 4)) (.int 999)) (by decide +kernel))) hA
  have hZ := va_Zof (A := lwA s) (hts (Cond.laysStatic "CupReceipts" "MOST_SETTINGS" "[I") (by decide +kernel)) (hts (Cond.initialized "CupReceipts") (by decide +kernel)) h1 hA
  exact ⟨t, hZ, h2⟩
