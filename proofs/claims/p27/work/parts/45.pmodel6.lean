theorem q_ixK (j : Nat) : (69 : Int32) + 2 * nI j = nI (69 + 2 * j) := by rw [show (69 : Int32) = nI 69 from rfl, show (2 : Int32) = nI 2 from rfl, pk_mul, nI_add]
