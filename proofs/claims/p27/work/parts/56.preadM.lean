/-! undo and readers, on the model -/
noncomputable def r_num (S : cr_S) (x : Int32) : Int32 := if 0 ≤ x then (if x < nI S.1.length then (s_get S.1 (cr_x x)).1 else (-2000000004)) else (-2000000001)
noncomputable def r_con (S : cr_S) (x w : Int32) : Int32 := if s_open S.2.1.length x = 1 ∧ s_in w 0 2 = true then (if w = 0 then (s_con S.2.1 (cr_x x)).1 else if w = 1 then (s_con S.2.1 (cr_x x)).2 else (s_con S.2.1 (cr_x x)).1 - S.2.2.2.2 0) else (-2000000001)
def r_paid (S : cr_S) (n p w : Int32) : Int32 := match cr_idx S.1 n with
  | none => (-2000000001)
  | some k => if s_in p 1 999 && s_in w 0 1 then (if 70 ≤ s_cup (s_get S.1 k) (S.2.2.2.2 0) then (if w = 0 then s_pay S.2.2.2.1 (s_get S.1 k) p (S.2.2.2.2 0) else s_gain S.2.2.1 S.2.2.2.1 (s_get S.1 k) p (S.2.2.2.2 0) + 10000) else (-2000000004)) else (-2000000001)
