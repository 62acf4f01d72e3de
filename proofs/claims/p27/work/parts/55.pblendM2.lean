theorem z_sum {a b : Int32} (ha1 : 1 ≤ a) (ha2 : a ≤ 9999) (hb1 : 1 ≤ b) (hb2 : b ≤ 9999) : ¬ a + b = 0 := by
  have ha : s_in a 1 9999 = true := by simp [s_in, Int32.not_lt.mpr ha1, Int32.not_lt.mpr ha2]
  have hb : s_in b 1 9999 = true := by simp [s_in, Int32.not_lt.mpr hb1, Int32.not_lt.mpr hb2]
  obtain ⟨n, n1, n2, rfl⟩ := p_inN (a := 1) (b := 9999) ha (by omega) (by omega)
  obtain ⟨m, m1, m2, rfl⟩ := p_inN (a := 1) (b := 9999) hb (by omega) (by omega)
  rw [nI_add]
  exact nI_ne0 (by omega) (by omega)
theorem z_le {x : Int32} (h : s_in x 1 9999 = true) : x ≤ 9999 := by
  obtain ⟨n, n1, n2, rfl⟩ := p_inN (a := 1) (b := 9999) h (by omega) (by omega)
  exact c_le n 9999 rfl rfl n2 (by omega)
