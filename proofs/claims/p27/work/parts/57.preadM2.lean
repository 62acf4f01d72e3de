noncomputable def r_lot (S : cr_S) (n w : Int32) : Int32 := match cr_idx S.1 n with
  | none => (-2000000001)
  | some k => if s_in w 0 6 = true then (if w = 0 then (s_get S.1 k).2.1 else if w = 1 then (s_get S.1 k).2.2.1 else if w = 2 then (s_get S.1 k).2.2.2 else if w = 3 then s_cup (s_get S.1 k) (S.2.2.2.2 0) else if w = 4 then S.2.2.1 (s_band (s_cup (s_get S.1 k) (S.2.2.2.2 0))) else if w = 5 then s_late (s_get S.1 k) (S.2.2.2.2 0) else nI (s_band (s_cup (s_get S.1 k) (S.2.2.2.2 0)))) else (-2000000001)
def s_bags (c m : Int32) : List cr_Lot → Int32 → Int32
  | [], a => a
  | x :: L, a => s_bags c m L (a + (if s_cup x m < c then 0 else x.2.1))
