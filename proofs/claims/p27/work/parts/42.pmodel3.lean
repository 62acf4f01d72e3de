/-! the model's past -/
theorem nI_inj {a b : Nat} (ha : a < 2 ^ 31) (hb : b < 2 ^ 31) (h : nI a = nI b) : a = b := by
  rcases Nat.lt_trichotomy a b with q | q | q
  · have := nI_lt q hb; rw [h] at this; exact (Int32.lt_irrefl this).elim
  · exact q
  · have := nI_lt q ha; rw [h] at this; exact (Int32.lt_irrefl this).elim
theorem md_congr {S : cr_S} {s s' : Nat → Int32} (hM : mdR S s) (h : ∀ t, t < 81 → s' t = s t) : mdR S s' := by
  obtain ⟨⟨l1, l2, l3⟩, ⟨k1, k2, k3⟩, w1, w2, w3⟩ := hM
  refine ⟨⟨l1, by rw [h 6 (by omega)]; exact l2, fun j z hz => ?_⟩, ⟨k1, by rw [h 7 (by omega)]; exact k2, fun j z hz => ?_⟩, fun j hj => ?_, fun j hj => ?_, fun j hj => ?_⟩
  · have hl := p_lt hz
    rw [h _ (by omega), h _ (by omega), h _ (by omega), h _ (by omega)]; exact l3 j z hz
  · have hl := p_lt hz
    rw [h _ (by omega), h _ (by omega)]; exact k3 j z hz
  · rw [h _ (by omega)]; exact w1 j hj
  · rw [h _ (by omega)]; exact w2 j hj
  · rw [h _ (by omega)]; exact w3 j hj
def mdP (H : List cr_S) (v : cr_V) : Prop := H.length ≤ 4 ∧ v 3 0 = nI H.length ∧ ∀ i T, H[i]? = some T → mdR T (fun t => v 1 (81 * i + t))
def s_push (H : List cr_S) (S : cr_S) : List cr_S := if H.length = 4 then H.tail ++ [S] else H ++ [S]
