theorem md_g {S : cr_S} {s s' w st g : Nat → Int32} (hM : mdR S s) (h : ∀ t, t = 6 ∨ t = 7 ∨ 17 ≤ t → s' t = s t) (hG : mdG w st g s') : mdR (S.1, S.2.1, w, st, g) s' := by
  obtain ⟨⟨l1, l2, l3⟩, ⟨k1, k2, k3⟩, _⟩ := hM
  refine ⟨⟨l1, by rw [h 6 (by omega)]; exact l2, fun j z hz => ?_⟩, ⟨k1, by rw [h 7 (by omega)]; exact k2, fun j z hz => ?_⟩, hG⟩
  · rw [h _ (by omega), h _ (by omega), h _ (by omega), h _ (by omega)]; exact l3 j z hz
  · rw [h _ (by omega), h _ (by omega)]; exact k3 j z hz
theorem q_nz {a b : Int32} (h : b < a) : ¬ a - b = 0 := fun e => by
  have h2 : a = b := by rw [← Int32.sub_add_cancel a b, e, Int32.zero_add]
  rw [h2] at h
  exact (Int32.lt_irrefl h).elim
theorem q_lt1 {a : Int32} (h : 1 ≤ a) : (1 < a) = ¬ a = 1 := by
  refine propext ⟨fun q e => ?_, fun q => ?_⟩
  · rw [e] at q; exact (Int32.lt_irrefl q).elim
  · exact Int32.lt_of_le_of_ne h (Ne.symm q)
