/-! lots taken from, by number -/
def s_dist (L : List cr_Lot) : Prop := (L.map (·.1)).Nodup
theorem s_dist_ne {L : List cr_Lot} (h : s_dist L) {i j : Nat} {x y : cr_Lot} (hx : L[i]? = some x) (hy : L[j]? = some y) (he : x.1 = y.1) : i = j := by
  have h2 := List.pairwise_iff_getElem.mp h
  have hi := p_lt hx
  have hj := p_lt hy
  have ex : L[i] = x := (List.getElem?_eq_some_iff.mp hx).2
  have ey : L[j] = y := (List.getElem?_eq_some_iff.mp hy).2
  rcases Nat.lt_trichotomy i j with q | q | q
  · refine (h2 i j (by simpa using hi) (by simpa using hj) q ?_).elim
    rw [List.getElem_map, List.getElem_map, ex, ey]; exact he
  · exact q
  · refine (h2 j i (by simpa using hj) (by simpa using hi) q ?_).elim
    rw [List.getElem_map, List.getElem_map, ex, ey]; exact he.symm
theorem s_dist_idx {L : List cr_Lot} (h : s_dist L) {k : Nat} {x : cr_Lot} (hx : L[k]? = some x) : cr_idx L x.1 = some k :=
  cr_idx_at hx rfl fun j y hj hy e => by have := s_dist_ne h hy hx e; omega
def s_sub (n b : Int32) (x : cr_Lot) : cr_Lot := if x.1 = n then s_less x b else x
theorem s_sub_map {L : List cr_Lot} (h : s_dist L) {k : Nat} {x : cr_Lot} (hx : L[k]? = some x) (b : Int32) : L.map (s_sub x.1 b) = L.set k (s_less x b) := by
  refine List.ext_getElem? fun j => ?_
  rw [List.getElem?_map]
  by_cases hj : j = k
  · subst hj
    rw [List.getElem?_set_self (p_lt hx), hx]; simp [s_sub]
  · rw [List.getElem?_set_ne (Ne.symm hj)]
    cases hy : L[j]? with
    | none => rfl
    | some y =>
      have : ¬ y.1 = x.1 := fun e => hj (s_dist_ne h hy hx e)
      simp [s_sub, this]
theorem fl_drop {α : Type} {p : α → Bool} {y : α} (hy : p y = false) : ∀ (L : List α) (k : Nat), (∀ x ∈ L, p x = true) → k < L.length → (L.set k y).filter p = (L.set k y).eraseIdx k
  | [], k, _, h => by simp at h
  | x :: L, 0, hx, _ => by
    simp [hy]
    exact fun a ha => hx a (by simp [ha])
  | x :: L, k + 1, hx, h => by
    simp [hx x (by simp)]
    exact fl_drop hy L k (fun a ha => hx a (by simp [ha])) (by simpa using h)
theorem fl_keep {α : Type} {p : α → Bool} {y : α} (hy : p y = true) (L : List α) (k : Nat) (hx : ∀ x ∈ L, p x = true) : (L.set k y).filter p = L.set k y :=
  List.filter_eq_self.mpr fun a ha => by
    rcases List.mem_or_eq_of_mem_set ha with h | rfl
    · exact hx a h
    · exact hy
theorem fl_map {α : Type} {p : α → Bool} {f : α → α} : ∀ (M : List α), (∀ x ∈ M, p x = false → p (f x) = false) → ((M.filter p).map f).filter p = (M.map f).filter p
  | [], _ => rfl
  | x :: M, h => by
    have ih := fl_map M (fun a ha => h a (by simp [ha]))
    cases hp : p x with
    | true => simp only [List.filter_cons, hp, if_true, List.map_cons, ih]
    | false =>
      have := h x (by simp) hp
      simp [List.filter_cons, hp, this, ih]
theorem s_takes_fl {G : List cr_Lot} (hd : s_dist G) {r : Nat} {x : cr_Lot} (hx : G[r]? = some x) (hf : s_full x = true) {b : Int32} (hz : x.2.1 - b = 0 ∨ 0 < x.2.1 - b) :
    ∃ k, cr_idx (G.filter s_full) x.1 = some k ∧ s_takes (G.filter s_full) k b = (G.set r (s_less x b)).filter s_full := by
  have hm : x ∈ G.filter s_full := List.mem_filter.mpr ⟨List.mem_of_getElem? hx, hf⟩
  obtain ⟨k, hk⟩ := List.getElem?_of_mem hm
  have hdM : s_dist (G.filter s_full) := List.Nodup.sublist (List.Sublist.map _ List.filter_sublist) hd
  refine ⟨k, s_dist_idx hdM hk, ?_⟩
  have hall : ∀ y ∈ G.filter s_full, s_full y = true := fun y hy => (List.mem_filter.mp hy).2
  have e : ((G.filter s_full).set k (s_less x b)).filter s_full = (G.set r (s_less x b)).filter s_full := by
    rw [← s_sub_map hdM hk, ← s_sub_map hd hx]
    refine fl_map G fun y hy hn => ?_
    obtain ⟨j, hj⟩ := List.getElem?_of_mem hy
    have : ¬ y.1 = x.1 := fun e => by
      have := s_dist_ne hd hj hx e
      subst this
      rw [hj] at hx
      cases hx
      rw [hf] at hn
      cases hn
    simp [s_sub, this, hn]
  rw [← e]
  unfold s_takes
  rw [s_get_of hk]
  rcases hz with hz | hz
  · rw [if_pos hz, fl_drop _ _ _ hall (p_lt hk)]
    simp [s_full, s_less, hz]
  · have : ¬ x.2.1 - b = 0 := fun q => by rw [q] at hz; exact (Int32.lt_irrefl hz).elim
    rw [if_neg this, fl_keep _ _ _ hall]
    have hz2 : ¬ (s_less x b).2.1 ≤ 0 := Int32.not_le.mpr hz
    unfold s_full
    rw [decide_eq_false hz2]; rfl
