noncomputable def f_X4_rowOf_2  : Nat → cr_V → Int32 → Int32 → Option (Int32)
  | 0, _, _, _ => none
  | n + 1, vl, x1, x2 => if (vl 4 0) ≤ x2 then (some (-1)) else (if cr_in x2 12 = true then if (vl 0 (cr_x x2)) = x1 then (some x2) else (f_X4_rowOf_2 n vl x1 (x2 + 1)) else none)
noncomputable def f_X4_rowOf (vl : cr_V) (x1 : Int32) : Option (Int32) := f_X4_rowOf_2 10100 vl x1 0

noncomputable def f_X4_isFull (vl : cr_V)  : Option (Int32) := if (vl 4 0) < 12 then (some 0) else (some 1)

noncomputable def f_X4_add (vl : cr_V) (x1 : Int32) (x2 : Int32) (x3 : Int32) : Option (Int32 × cr_V) := (f_X4_isFull vl).bind fun q1 => if q1 = 0 then (if cr_in (vl 4 0) 12 = true then some ((((vl 5 0) + 1) - 1), (cr_i (cr_i (cr_a (cr_a (cr_a (cr_a vl 0 (cr_x (vl 4 0)) (vl 5 0)) 1 (cr_x (vl 4 0)) x1) 2 (cr_x (vl 4 0)) x2) 3 (cr_x (vl 4 0)) x3) 4 ((vl 4 0) + 1)) 5 ((vl 5 0) + 1))) else none) else (some ((-2000000003), vl))

noncomputable def f_X4_copyFrom_2  : Nat → cr_V → cr_V → Int32 → Option (cr_V)
  | 0, _, _, _ => none
  | n + 1, vl, vl2, x2 => if 12 ≤ x2 then (some (cr_i (cr_i vl 4 (vl2 4 0)) 5 (vl2 5 0))) else (if cr_in x2 12 = true then f_X4_copyFrom_2 n (cr_a (cr_a (cr_a (cr_a vl 0 (cr_x x2) (vl2 0 (cr_x x2))) 1 (cr_x x2) (vl2 1 (cr_x x2))) 2 (cr_x x2) (vl2 2 (cr_x x2))) 3 (cr_x x2) (vl2 3 (cr_x x2))) vl2 (x2 + 1) else none)
noncomputable def f_X4_copyFrom (vl : cr_V) (vl2 : cr_V)  : Option (cr_V) := f_X4_copyFrom_2 10100 vl vl2 0

noncomputable def f_X4_dropEmpty_72 (k4_ : cr_V → Int32 → Int32 → Option (cr_V)) (vl : cr_V) (x1 : Int32) (x2 : Int32) : Option (cr_V) := k4_ vl x1 (x2 + 1)
noncomputable def f_X4_dropEmpty_4  : Nat → cr_V → Int32 → Int32 → Option (cr_V)
  | 0, _, _, _ => none
  | n + 1, vl, x1, x2 => if (vl 4 0) ≤ x2 then (some (cr_i vl 4 x1)) else (if cr_in x2 12 = true then if (vl 1 (cr_x x2)) ≤ 0 then (f_X4_dropEmpty_72 (f_X4_dropEmpty_4 n) vl x1 x2) else (if cr_in x1 12 = true then f_X4_dropEmpty_72 (f_X4_dropEmpty_4 n) (cr_a (cr_a (cr_a (cr_a vl 0 (cr_x x1) (vl 0 (cr_x x2))) 1 (cr_x x1) (vl 1 (cr_x x2))) 2 (cr_x x1) (vl 2 (cr_x x2))) 3 (cr_x x1) (vl 3 (cr_x x2))) (x1 + 1) x2 else none) else none)
noncomputable def f_X4_dropEmpty (vl : cr_V)  : Option (cr_V) := f_X4_dropEmpty_4 10100 vl 0 0

noncomputable def f_X4_cupAt (vl : cr_V) (x1 : Int32) (x2 : Int32) : Option (Int32) := if cr_in x1 12 = true then if 60 ≤ ((vl 2 (cr_x x1)) - ((x2 - (vl 3 (cr_x x1))) / 4)) then (some ((vl 2 (cr_x x1)) - ((x2 - (vl 3 (cr_x x1))) / 4))) else (some 60) else none

noncomputable def f_X4_monthsTooOld (vl : cr_V) (x1 : Int32) (x2 : Int32) : Option (Int32) := if cr_in x1 12 = true then if 0 ≤ ((x2 - (vl 3 (cr_x x1))) - 3) then (some ((x2 - (vl 3 (cr_x x1))) - 3)) else (some 0) else none

noncomputable def f_X4_allBags_4  : Nat → cr_V → Int32 → Int32 → Option (Int32)
  | 0, _, _, _ => none
  | n + 1, vl, x1, x2 => if (vl 4 0) ≤ x2 then (some x1) else (if cr_in x2 12 = true then f_X4_allBags_4 n vl (x1 + (vl 1 (cr_x x2))) (x2 + 1) else none)
noncomputable def f_X4_allBags (vl : cr_V)  : Option (Int32) := f_X4_allBags_4 10100 vl 0 0

noncomputable def f_X4_bagsToGive_32 (k4_ : cr_V → Int32 → Int32 → Int32 → Option (Int32)) (vl : cr_V) (x1 : Int32) (x2 : Int32) (x3 : Int32) : Option (Int32) := k4_ vl x1 x2 (x3 + 1)
noncomputable def f_X4_bagsToGive_4  : Nat → cr_V → Int32 → Int32 → Int32 → Option (Int32)
  | 0, _, _, _, _ => none
  | n + 1, vl, x1, x2, x3 => if (vl 4 0) ≤ x3 then (some x2) else ((f_X4_cupAt vl x3 x1).bind fun q2 => if q2 < 70 then (f_X4_bagsToGive_32 (f_X4_bagsToGive_4 n) vl x1 x2 x3) else (if cr_in x3 12 = true then f_X4_bagsToGive_32 (f_X4_bagsToGive_4 n) vl x1 (x2 + (vl 1 (cr_x x3))) x3 else none))
noncomputable def f_X4_bagsToGive (vl : cr_V) (x1 : Int32) : Option (Int32) := f_X4_bagsToGive_4 10100 vl x1 0 0

noncomputable def f_X0_copyFrom_2  : Nat → cr_V → cr_V → Int32 → Option (cr_V)
  | 0, _, _, _ => none
  | n + 1, vk, vk2, x2 => if 6 ≤ x2 then (some (cr_i vk 2 (vk2 2 0))) else (if cr_in x2 6 = true then f_X0_copyFrom_2 n (cr_a (cr_a vk 0 (cr_x x2) (vk2 0 (cr_x x2))) 1 (cr_x x2) (vk2 1 (cr_x x2))) vk2 (x2 + 1) else none)
noncomputable def f_X0_copyFrom (vk : cr_V) (vk2 : cr_V)  : Option (cr_V) := f_X0_copyFrom_2 10100 vk vk2 0

noncomputable def f_X0_isOpen (vk : cr_V) (x1 : Int32) : Option (Int32) := if x1 < 0 then (some 0) else (if (vk 2 0) ≤ x1 then (some 0) else (some 1))

noncomputable def f_X0_add (vk : cr_V) (x1 : Int32) (x2 : Int32) : Option (Int32 × cr_V) := if (vk 2 0) < 6 then (if cr_in (vk 2 0) 6 = true then some ((((vk 2 0) + 1) - 1), (cr_i (cr_a (cr_a vk 0 (cr_x (vk 2 0)) x1) 1 (cr_x (vk 2 0)) x2) 2 ((vk 2 0) + 1))) else none) else (some ((-2000000003), vk))

noncomputable def f_X0_drop_13  : Nat → cr_V → Int32 → Option (cr_V)
  | 0, _, _ => none
  | n + 1, vk, x2 => if (vk 2 0) ≤ x2 then (some (cr_i vk 2 ((vk 2 0) - 1))) else (if cr_in x2 6 = true then if cr_in (x2 - 1) 6 = true then f_X0_drop_13 n (cr_a (cr_a vk 0 (cr_x (x2 - 1)) (vk 0 (cr_x x2))) 1 (cr_x (x2 - 1)) (vk 1 (cr_x x2))) (x2 + 1) else none else none)
noncomputable def f_X0_drop (vk : cr_V) (x1 : Int32) : Option (cr_V) := (f_X0_isOpen vk x1).bind fun q4 => if q4 = 0 then (some vk) else (f_X0_drop_13 10100 vk (x1 + 1))

noncomputable def f_X0_dropBefore_49 (k4_ : cr_V → Int32 → Int32 → Int32 → Option (Int32 × cr_V)) (vk : cr_V) (x1 : Int32) (x2 : Int32) (x3 : Int32) : Option (Int32 × cr_V) := k4_ vk x1 x2 (x3 + 1)
noncomputable def f_X0_dropBefore_4  : Nat → cr_V → Int32 → Int32 → Int32 → Option (Int32 × cr_V)
  | 0, _, _, _, _ => none
  | n + 1, vk, x1, x2, x3 => if (vk 2 0) ≤ x3 then (some (((vk 2 0) - x2), (cr_i vk 2 x2))) else (if cr_in x3 6 = true then if (vk 0 (cr_x x3)) < x1 then (f_X0_dropBefore_49 (f_X0_dropBefore_4 n) vk x1 x2 x3) else (if cr_in x2 6 = true then f_X0_dropBefore_49 (f_X0_dropBefore_4 n) (cr_a (cr_a vk 0 (cr_x x2) (vk 0 (cr_x x3))) 1 (cr_x x2) (vk 1 (cr_x x3))) x1 (x2 + 1) x3 else none) else none)
noncomputable def f_X0_dropBefore (vk : cr_V) (x1 : Int32) : Option (Int32 × cr_V) := f_X0_dropBefore_4 10100 vk x1 0 0
