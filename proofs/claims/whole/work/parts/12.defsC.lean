noncomputable def f_X7_in  (x0 : Int32) (x1 : Int32) (x2 : Int32) : Option (Int32) := if x0 < x1 then (some 0) else (if x2 < x0 then (some 0) else (some 1))

noncomputable def f_X7_copies_2  : Nat → cr_V → cr_V → Int32 → Option (cr_V)
  | 0, _, _, _ => none
  | n + 1, p0, p1, x2 => if 81 ≤ x2 then (some p1) else (if cr_in x2 81 = true then f_X7_copies_2 n p0 (cr_a p1 0 (cr_x x2) (p0 0 (cr_x x2))) (x2 + 1) else none)
noncomputable def f_X7_copies (p0 : cr_V) (p1 : cr_V)  : Option (cr_V) := f_X7_copies_2 10100 p0 p1 0

noncomputable def f_X7_changes_58  : Nat → cr_V → Int32 → Option (cr_V)
  | 0, _, _ => none
  | n + 1, vz, x1 => if 81 ≤ x1 then (some (cr_i vz 3 ((vz 3 0) + 1))) else (if cr_in x1 81 = true then if cr_in ((81 * (vz 3 0)) + x1) 324 = true then f_X7_changes_58 n (cr_a vz 1 (cr_x ((81 * (vz 3 0)) + x1)) (vz 0 (cr_x x1))) (x1 + 1) else none else none)
noncomputable def f_X7_changes_56  (vz : cr_V)  : Option (cr_V) := f_X7_changes_58 10100 vz 0
noncomputable def f_X7_changes_18  : Nat → cr_V → Int32 → Option (cr_V)
  | 0, _, _ => none
  | n + 1, vz, x1 => if 243 ≤ x1 then (f_X7_changes_56 (cr_i vz 3 ((vz 3 0) - 1))) else (if cr_in (x1 + 81) 324 = true then if cr_in x1 324 = true then f_X7_changes_18 n (cr_a vz 1 (cr_x x1) (vz 1 (cr_x (x1 + 81)))) (x1 + 1) else none else none)
noncomputable def f_X7_changes (vz : cr_V)  : Option (cr_V) := if (vz 4 0) = 0 then (if (vz 3 0) = 4 then (f_X7_changes_18 10100 vz 0) else (f_X7_changes_56 vz)) else (some vz)

noncomputable def f_X7_of (vz : cr_V) (x1 : Int32) (x2 : Int32) : Option (Int32) := if cr_in ((17 + (4 * x1)) + x2) 81 = true then some (vz 0 (cr_x ((17 + (4 * x1)) + x2))) else none

noncomputable def f_X7_placeOf_2  : Nat → cr_V → Int32 → Int32 → Option (Int32)
  | 0, _, _, _ => none
  | n + 1, vz, x1, x2 => if (vz 0 6) ≤ x2 then (some (-2000000004)) else ((f_X7_of vz x2 0).bind fun q2 => if q2 = x1 then (some x2) else (f_X7_placeOf_2 n vz x1 (x2 + 1)))
noncomputable def f_X7_placeOf (vz : cr_V) (x1 : Int32) : Option (Int32) := f_X7_placeOf_2 10100 vz x1 0

noncomputable def f_X7_isLot (vz : cr_V) (x1 : Int32) : Option (Int32) := (f_X7_placeOf vz x1).bind fun q1 => if q1 < 0 then (some 0) else (some 1)

noncomputable def f_X7_cupAt (vz : cr_V) (x1 : Int32) (x2 : Int32) : Option (Int32) := (f_X7_of vz x1 2).bind fun q1 => (f_X7_of vz x1 3).bind fun q2 => if 60 ≤ (q1 - ((x2 - q2) / 4)) then (some (q1 - ((x2 - q2) / 4))) else (some 60)

noncomputable def f_X7_cupOf (vz : cr_V) (x1 : Int32) : Option (Int32) := (f_X7_cupAt vz x1 (vz 0 0)).bind fun q1 => some q1

noncomputable def f_X7_bandOf  (x0 : Int32) : Option (Int32) := if 70 ≤ x0 then (if 80 ≤ x0 then (if 90 ≤ x0 then (some 3) else (some 2)) else (some 1)) else (some 0)

noncomputable def f_X7_lateAt (vz : cr_V) (x1 : Int32) (x2 : Int32) : Option (Int32) := (f_X7_of vz x1 3).bind fun q1 => if 0 ≤ ((x2 - q1) - 3) then (some ((x2 - q1) - 3)) else (some 0)

noncomputable def f_X7_paidAt (vz : cr_V) (x1 : Int32) (x2 : Int32) (x3 : Int32) : Option (Int32) := (f_X7_cupAt vz x1 x3).bind fun q1 => (f_X7_lateAt vz x1 x3).bind fun q2 => if 1 ≤ ((x2 + ((q1 - 80) * (vz 0 10))) - ((vz 0 11) * q2)) then (some ((x2 + ((q1 - 80) * (vz 0 10))) - ((vz 0 11) * q2))) else (some 1)

noncomputable def f_X7_gainAt (vz : cr_V) (x1 : Int32) (x2 : Int32) (x3 : Int32) : Option (Int32) := (f_X7_paidAt vz x1 x2 x3).bind fun q1 => (f_X7_cupAt vz x1 x3).bind fun q2 => (f_X7_bandOf q2).bind fun q3 => if cr_in (13 + q3) 81 = true then some (q1 - (vz 0 (cr_x (13 + q3)))) else none

noncomputable def f_X7_makes (vz : cr_V) (x1 : Int32) (x2 : Int32) (x3 : Int32) : Option (Int32 × cr_V) := if cr_in ((17 + (4 * (vz 0 6))) + 0) 81 = true then if cr_in ((17 + (4 * (vz 0 6))) + 1) 81 = true then if cr_in ((17 + (4 * (vz 0 6))) + 2) 81 = true then if cr_in ((17 + (4 * (vz 0 6))) + 3) 81 = true then some ((((cr_a (cr_a (cr_a (cr_a (cr_a (cr_a vz 0 (cr_x ((17 + (4 * (vz 0 6))) + 0)) (vz 0 5)) 0 (cr_x ((17 + (4 * (vz 0 6))) + 1)) x1) 0 (cr_x ((17 + (4 * (vz 0 6))) + 2)) x2) 0 (cr_x ((17 + (4 * (vz 0 6))) + 3)) x3) 0 6 (((cr_a (cr_a (cr_a (cr_a vz 0 (cr_x ((17 + (4 * (vz 0 6))) + 0)) (vz 0 5)) 0 (cr_x ((17 + (4 * (vz 0 6))) + 1)) x1) 0 (cr_x ((17 + (4 * (vz 0 6))) + 2)) x2) 0 (cr_x ((17 + (4 * (vz 0 6))) + 3)) x3) 0 6) + 1)) 0 5 (((cr_a (cr_a (cr_a (cr_a (cr_a vz 0 (cr_x ((17 + (4 * (vz 0 6))) + 0)) (vz 0 5)) 0 (cr_x ((17 + (4 * (vz 0 6))) + 1)) x1) 0 (cr_x ((17 + (4 * (vz 0 6))) + 2)) x2) 0 (cr_x ((17 + (4 * (vz 0 6))) + 3)) x3) 0 6 (((cr_a (cr_a (cr_a (cr_a vz 0 (cr_x ((17 + (4 * (vz 0 6))) + 0)) (vz 0 5)) 0 (cr_x ((17 + (4 * (vz 0 6))) + 1)) x1) 0 (cr_x ((17 + (4 * (vz 0 6))) + 2)) x2) 0 (cr_x ((17 + (4 * (vz 0 6))) + 3)) x3) 0 6) + 1)) 0 5) + 1)) 0 5) - 1), (cr_a (cr_a (cr_a (cr_a (cr_a (cr_a vz 0 (cr_x ((17 + (4 * (vz 0 6))) + 0)) (vz 0 5)) 0 (cr_x ((17 + (4 * (vz 0 6))) + 1)) x1) 0 (cr_x ((17 + (4 * (vz 0 6))) + 2)) x2) 0 (cr_x ((17 + (4 * (vz 0 6))) + 3)) x3) 0 6 (((cr_a (cr_a (cr_a (cr_a vz 0 (cr_x ((17 + (4 * (vz 0 6))) + 0)) (vz 0 5)) 0 (cr_x ((17 + (4 * (vz 0 6))) + 1)) x1) 0 (cr_x ((17 + (4 * (vz 0 6))) + 2)) x2) 0 (cr_x ((17 + (4 * (vz 0 6))) + 3)) x3) 0 6) + 1)) 0 5 (((cr_a (cr_a (cr_a (cr_a (cr_a vz 0 (cr_x ((17 + (4 * (vz 0 6))) + 0)) (vz 0 5)) 0 (cr_x ((17 + (4 * (vz 0 6))) + 1)) x1) 0 (cr_x ((17 + (4 * (vz 0 6))) + 2)) x2) 0 (cr_x ((17 + (4 * (vz 0 6))) + 3)) x3) 0 6 (((cr_a (cr_a (cr_a (cr_a vz 0 (cr_x ((17 + (4 * (vz 0 6))) + 0)) (vz 0 5)) 0 (cr_x ((17 + (4 * (vz 0 6))) + 1)) x1) 0 (cr_x ((17 + (4 * (vz 0 6))) + 2)) x2) 0 (cr_x ((17 + (4 * (vz 0 6))) + 3)) x3) 0 6) + 1)) 0 5) + 1))) else none else none else none else none

noncomputable def f_X7_takes_51  : Nat → cr_V → Int32 → Option (cr_V)
  | 0, _, _ => none
  | n + 1, vz, x4 => if (17 + (4 * (vz 0 6))) ≤ x4 then (some vz) else (if cr_in (x4 + 4) 81 = true then if cr_in x4 81 = true then f_X7_takes_51 n (cr_a vz 0 (cr_x x4) (vz 0 (cr_x (x4 + 4)))) (x4 + 1) else none else none)
noncomputable def f_X7_takes (vz : cr_V) (x1 : Int32) (x2 : Int32) : Option (cr_V) := (f_X7_placeOf vz x1).bind fun q4 => if cr_in ((17 + (4 * q4)) + 1) 81 = true then (f_X7_of (cr_a vz 0 (cr_x ((17 + (4 * q4)) + 1)) ((vz 0 (cr_x ((17 + (4 * q4)) + 1))) - x2)) q4 1).bind fun q6 => if q6 = 0 then (f_X7_takes_51 10100 (cr_a (cr_a vz 0 (cr_x ((17 + (4 * q4)) + 1)) ((vz 0 (cr_x ((17 + (4 * q4)) + 1))) - x2)) 0 6 (((cr_a vz 0 (cr_x ((17 + (4 * q4)) + 1)) ((vz 0 (cr_x ((17 + (4 * q4)) + 1))) - x2)) 0 6) - 1)) (17 + (4 * q4))) else (some (cr_a vz 0 (cr_x ((17 + (4 * q4)) + 1)) ((vz 0 (cr_x ((17 + (4 * q4)) + 1))) - x2))) else none

noncomputable def f_X7_lot (vz : cr_V) (x1 : Int32) (x2 : Int32) : Option (Int32 × cr_V) := (f_X7_in x1 1 999).bind fun q1 => if q1 = 0 then (some ((-2000000001), vz)) else ((f_X7_in x2 60 100).bind fun q3 => if q3 = 0 then (some ((-2000000001), vz)) else (if (vz 0 6) = 12 then (some ((-2000000003), vz)) else ((f_X7_changes vz).bind fun q6 => (f_X7_makes q6 x1 x2 (q6 0 0)).bind fun q7 => some (q7.1, q7.2))))

noncomputable def f_X7_part (vz : cr_V) (x1 : Int32) (x2 : Int32) : Option (Int32 × cr_V) := (f_X7_isLot vz x1).bind fun q1 => if q1 = 0 then (some ((-2000000001), vz)) else (if 1 ≤ x2 then ((f_X7_placeOf vz x1).bind fun q4 => (f_X7_of vz q4 1).bind fun q5 => if x2 < q5 then (if (vz 0 6) = 12 then (some ((-2000000003), vz)) else ((f_X7_changes vz).bind fun q8 => (f_X7_takes q8 x1 x2).bind fun q9 => (f_X7_of q9 q4 2).bind fun q10 => (f_X7_of q9 q4 3).bind fun q11 => (f_X7_makes q9 x2 q10 q11).bind fun q12 => some (q12.1, q12.2))) else (some ((-2000000002), vz))) else (some ((-2000000001), vz)))

noncomputable def f_X7_blended  (x0 : Int32) (x1 : Int32) (x2 : Int32) (x3 : Int32) : Option (Int32) := if (x0 + x2) = 0 then none else some (((x0 * x1) + (x2 * x3)) / (x0 + x2))

noncomputable def f_X7_blend_118  (vz : cr_V) (x1 : Int32) (x2 : Int32) (x3 : Int32) (x4 : Int32) (x5 : Int32) (x6 : Int32) (s0 : Int32) (s1 : Int32) : Option (Int32 × cr_V) := if 12 < (s1 - s0) then (some ((-2000000003), vz)) else (if (x2 + x4) ≤ 9999 then ((f_X7_changes vz).bind fun q3 => (f_X7_cupOf q3 x5).bind fun q4 => (f_X7_cupOf q3 x6).bind fun q5 => (f_X7_blended x2 q4 x4 q5).bind fun q6 => (f_X7_takes q3 x1 x2).bind fun q7 => (f_X7_takes q7 x3 x4).bind fun q8 => (f_X7_makes q8 (x2 + x4) q6 (q8 0 0)).bind fun q9 => some (q9.1, q9.2)) else (some ((-2000000003), vz)))
noncomputable def f_X7_blend_100  (vz : cr_V) (x1 : Int32) (x2 : Int32) (x3 : Int32) (x4 : Int32) (x5 : Int32) (x6 : Int32) (s0 : Int32) (s1 : Int32) : Option (Int32 × cr_V) := (f_X7_of vz x6 1).bind fun q10 => if x4 = q10 then (f_X7_blend_118 vz x1 x2 x3 x4 x5 x6 1 (s1 - s0)) else (f_X7_blend_118 vz x1 x2 x3 x4 x5 x6 0 (s1 - s0))
noncomputable def f_X7_blend (vz : cr_V) (x1 : Int32) (x2 : Int32) (x3 : Int32) (x4 : Int32) : Option (Int32 × cr_V) := (f_X7_isLot vz x1).bind fun q12 => if q12 = 0 then (some ((-2000000001), vz)) else ((f_X7_isLot vz x3).bind fun q14 => if q14 = 0 then (some ((-2000000001), vz)) else (if x1 = x3 then (some ((-2000000001), vz)) else (if x2 < 1 then (some ((-2000000001), vz)) else (if 1 ≤ x4 then ((f_X7_placeOf vz x1).bind fun q19 => (f_X7_placeOf vz x3).bind fun q20 => (f_X7_of vz q19 1).bind fun q21 => if q21 < x2 then (some ((-2000000002), vz)) else ((f_X7_of vz q20 1).bind fun q23 => if x4 ≤ q23 then ((f_X7_of vz q19 1).bind fun q25 => if x2 = q25 then (f_X7_blend_100 vz x1 x2 x3 x4 q19 q20 1 ((vz 0 6) + 1)) else (f_X7_blend_100 vz x1 x2 x3 x4 q19 q20 0 ((vz 0 6) + 1))) else (some ((-2000000002), vz)))) else (some ((-2000000001), vz))))))

noncomputable def f_X7_cup (vz : cr_V) (x1 : Int32) : Option (Int32 × cr_V) := (f_X7_isLot vz x1).bind fun q1 => if q1 = 0 then (some ((-2000000001), vz)) else ((f_X7_placeOf vz x1).bind fun q3 => (f_X7_of vz q3 1).bind fun q4 => if q4 = 1 then (some ((-2000000002), vz)) else ((f_X7_changes vz).bind fun q6 => (f_X7_cupOf q6 q3).bind fun q7 => if cr_in ((17 + (4 * q3)) + 1) 81 = true then if cr_in ((17 + (4 * q3)) + 2) 81 = true then if cr_in ((17 + (4 * q3)) + 3) 81 = true then some (q7, (cr_a (cr_a (cr_a q6 0 (cr_x ((17 + (4 * q3)) + 1)) ((q6 0 (cr_x ((17 + (4 * q3)) + 1))) - 1)) 0 (cr_x ((17 + (4 * q3)) + 2)) q7) 0 (cr_x ((17 + (4 * q3)) + 3)) ((cr_a (cr_a q6 0 (cr_x ((17 + (4 * q3)) + 1)) ((q6 0 (cr_x ((17 + (4 * q3)) + 1))) - 1)) 0 (cr_x ((17 + (4 * q3)) + 2)) q7) 0 0))) else none else none else none))

noncomputable def f_X7_worth (vz : cr_V) (x1 : Int32) (x2 : Int32) : Option (Int32 × cr_V) := (f_X7_in x1 0 3).bind fun q1 => if q1 = 0 then (some ((-2000000001), vz)) else ((f_X7_in x2 1 999).bind fun q3 => if q3 = 0 then (some ((-2000000001), vz)) else ((f_X7_changes vz).bind fun q5 => if cr_in (13 + x1) 81 = true then some ((q5 0 (cr_x (13 + x1))), (cr_a q5 0 (cr_x (13 + x1)) x2)) else none))

noncomputable def f_X7_isContract (vz : cr_V) (x1 : Int32) : Option (Int32) := if x1 < 0 then (some 0) else (if (vz 0 7) ≤ x1 then (some 0) else (some 1))

noncomputable def f_X7_monthOf (vz : cr_V) (x1 : Int32) : Option (Int32) := if cr_in (69 + (2 * x1)) 81 = true then some (vz 0 (cr_x (69 + (2 * x1)))) else none

noncomputable def f_X7_priceOf (vz : cr_V) (x1 : Int32) : Option (Int32) := if cr_in ((69 + (2 * x1)) + 1) 81 = true then some (vz 0 (cr_x ((69 + (2 * x1)) + 1))) else none

noncomputable def f_X7_isDelivery (vz : cr_V) (x1 : Int32) : Option (Int32) := if (((vz 0 9) >>> ((x1 - x1 / 12 * 12) &&& 31)) &&& 1) = 1 then (some 1) else (some 0)

noncomputable def f_X7_closes_18  : Nat → cr_V → Int32 → Option (cr_V)
  | 0, _, _ => none
  | n + 1, vz, x2 => if (69 + (2 * (vz 0 7))) ≤ x2 then (some vz) else (if cr_in (x2 + 2) 81 = true then if cr_in x2 81 = true then f_X7_closes_18 n (cr_a vz 0 (cr_x x2) (vz 0 (cr_x (x2 + 2)))) (x2 + 1) else none else none)
noncomputable def f_X7_closes (vz : cr_V) (x1 : Int32) : Option (cr_V) := f_X7_closes_18 10100 (cr_a vz 0 7 ((vz 0 7) - 1)) (69 + (2 * x1))

noncomputable def f_X7_sell (vz : cr_V) (x1 : Int32) (x2 : Int32) : Option (Int32 × cr_V) := (f_X7_in x1 0 999).bind fun q1 => if q1 = 0 then (some ((-2000000001), vz)) else ((f_X7_in x2 1 999).bind fun q3 => if q3 = 0 then (some ((-2000000001), vz)) else (if x1 < (vz 0 0) then (some ((-2000000002), vz)) else ((f_X7_isDelivery vz x1).bind fun q6 => if q6 = 0 then (some ((-2000000002), vz)) else (if (vz 0 7) = 6 then (some ((-2000000003), vz)) else ((f_X7_changes vz).bind fun q9 => if cr_in (69 + (2 * (vz 0 7))) 81 = true then if cr_in ((69 + (2 * (vz 0 7))) + 1) 81 = true then some ((vz 0 7), (cr_a (cr_a (cr_a q9 0 (cr_x (69 + (2 * (vz 0 7)))) x1) 0 (cr_x ((69 + (2 * (vz 0 7))) + 1)) x2) 0 7 (((cr_a (cr_a q9 0 (cr_x (69 + (2 * (vz 0 7)))) x1) 0 (cr_x ((69 + (2 * (vz 0 7))) + 1)) x2) 0 7) + 1))) else none else none)))))

noncomputable def f_X7_buyBack (vz : cr_V) (x1 : Int32) (x2 : Int32) : Option (Int32 × cr_V) := (f_X7_isContract vz x1).bind fun q1 => if q1 = 0 then (some ((-2000000001), vz)) else ((f_X7_in x2 1 999).bind fun q3 => if q3 = 0 then (some ((-2000000001), vz)) else ((f_X7_changes vz).bind fun q5 => (f_X7_priceOf q5 x1).bind fun q6 => (f_X7_closes (cr_a q5 0 1 ((q5 0 1) + ((q5 0 8) * (q6 - x2)))) x1).bind fun q7 => some (((q5 0 8) * (q6 - x2)), q7)))

noncomputable def f_X7_gives_116 (k21_ : cr_V → Int32 → Int32 → Int32 → Int32 → Option (cr_V)) (k40_ : cr_V → Int32 → Int32 → Int32 → Int32 → Int32 → Option (cr_V)) (vz : cr_V) (x1 : Int32) (x2 : Int32) (x3 : Int32) (x6 : Int32) (s0 : Int32) : Option (cr_V) := k40_ vz x1 x2 x3 s0 (x6 + 1)
noncomputable def f_X7_gives_109 (k21_ : cr_V → Int32 → Int32 → Int32 → Int32 → Option (cr_V)) (k40_ : cr_V → Int32 → Int32 → Int32 → Int32 → Int32 → Option (cr_V)) (vz : cr_V) (x1 : Int32) (x2 : Int32) (x3 : Int32) (x6 : Int32) : Option (cr_V) := f_X7_gives_116 k21_ k40_ vz x1 x2 x3 x6 x6
noncomputable def f_X7_gives_114 (k21_ : cr_V → Int32 → Int32 → Int32 → Int32 → Option (cr_V)) (k40_ : cr_V → Int32 → Int32 → Int32 → Int32 → Int32 → Option (cr_V)) (vz : cr_V) (x1 : Int32) (x2 : Int32) (x3 : Int32) (x5 : Int32) (x6 : Int32) : Option (cr_V) := f_X7_gives_116 k21_ k40_ vz x1 x2 x3 x6 x5
noncomputable def f_X7_gives_78 (k21_ : cr_V → Int32 → Int32 → Int32 → Int32 → Option (cr_V)) (k40_ : cr_V → Int32 → Int32 → Int32 → Int32 → Int32 → Option (cr_V)) (vz : cr_V) (x1 : Int32) (x2 : Int32) (x3 : Int32) (x5 : Int32) (x6 : Int32) (s0 : Int32) : Option (cr_V) := if s0 = 0 then (f_X7_gives_114 k21_ k40_ vz x1 x2 x3 x5 x6) else (if x5 < 0 then (f_X7_gives_109 k21_ k40_ vz x1 x2 x3 x6) else ((f_X7_gainAt vz x6 x1 x2).bind fun q3 => (f_X7_gainAt vz x5 x1 x2).bind fun q4 => if q3 ≤ q4 then (f_X7_gives_114 k21_ k40_ vz x1 x2 x3 x5 x6) else (f_X7_gives_109 k21_ k40_ vz x1 x2 x3 x6)))
noncomputable def f_X7_gives_77 (k21_ : cr_V → Int32 → Int32 → Int32 → Int32 → Option (cr_V)) (k40_ : cr_V → Int32 → Int32 → Int32 → Int32 → Int32 → Option (cr_V)) (vz : cr_V) (x1 : Int32) (x2 : Int32) (x3 : Int32) (x5 : Int32) (x6 : Int32) : Option (cr_V) := f_X7_gives_78 k21_ k40_ vz x1 x2 x3 x5 x6 0
noncomputable def f_X7_gives_221 (k21_ : cr_V → Int32 → Int32 → Int32 → Int32 → Option (cr_V)) (vz : cr_V) (x1 : Int32) (x2 : Int32) (x3 : Int32) (x4 : Int32) : Option (cr_V) := k21_ vz x1 x2 x3 x4
noncomputable def f_X7_gives_169 (k21_ : cr_V → Int32 → Int32 → Int32 → Int32 → Option (cr_V)) (vz : cr_V) (x1 : Int32) (x2 : Int32) (x3 : Int32) (x4 : Int32) (x5 : Int32) (s0 : Int32) : Option (cr_V) := if cr_in (vz 9 0) 12 = true then f_X7_gives_221 k21_ (cr_i (cr_i (cr_a (cr_a vz 7 (cr_x (vz 9 0)) x5) 8 (cr_x (vz 9 0)) s0) 9 ((vz 9 0) + 1)) 10 ((vz 10 0) - s0)) x1 x2 (x3 ||| (1 <<< (x5 &&& 31))) x4 else none
noncomputable def f_X7_gives_134 (k21_ : cr_V → Int32 → Int32 → Int32 → Int32 → Option (cr_V)) (vz : cr_V) (x1 : Int32) (x2 : Int32) (x3 : Int32) (x5 : Int32) (s0 : Int32) : Option (cr_V) := if s0 = 0 then (f_X7_gives_221 k21_ vz x1 x2 x3 s0) else ((f_X7_of vz x5 1).bind fun q8 => if (vz 10 0) ≤ q8 then (f_X7_gives_169 k21_ vz x1 x2 x3 s0 x5 (vz 10 0)) else ((f_X7_of vz x5 1).bind fun q10 => f_X7_gives_169 k21_ vz x1 x2 x3 s0 x5 q10))
noncomputable def f_X7_gives_40 (k21_ : cr_V → Int32 → Int32 → Int32 → Int32 → Option (cr_V)) : Nat → cr_V → Int32 → Int32 → Int32 → Int32 → Int32 → Option (cr_V)
  | 0, _, _, _, _, _, _ => none
  | n + 1, vz, x1, x2, x3, x5, x6 => if (vz 0 6) ≤ x6 then (if x5 < 0 then (f_X7_gives_134 k21_ vz x1 x2 x3 x5 0) else (f_X7_gives_134 k21_ vz x1 x2 x3 x5 1)) else ((f_X7_cupAt vz x6 x2).bind fun q13 => if q13 < 70 then (f_X7_gives_77 k21_ (f_X7_gives_40 k21_ n) vz x1 x2 x3 x5 x6) else (if ((x3 >>> (x6 &&& 31)) &&& 1) = 0 then (f_X7_gives_78 k21_ (f_X7_gives_40 k21_ n) vz x1 x2 x3 x5 x6 1) else (f_X7_gives_77 k21_ (f_X7_gives_40 k21_ n) vz x1 x2 x3 x5 x6)))
noncomputable def f_X7_gives_21  : Nat → cr_V → Int32 → Int32 → Int32 → Int32 → Option (cr_V)
  | 0, _, _, _, _, _ => none
  | n + 1, vz, x1, x2, x3, x4 => if x4 = 0 then (some vz) else (if (vz 10 0) ≤ 0 then (some vz) else (f_X7_gives_40 (f_X7_gives_21 n) 10100 vz x1 x2 x3 (-2000000004) 0))
noncomputable def f_X7_gives (vz : cr_V) (x1 : Int32) (x2 : Int32) : Option (cr_V) := f_X7_gives_21 10100 (cr_i (cr_i vz 9 0) 10 (vz 0 8)) x1 x2 0 1

noncomputable def f_X7_paidAll_57 (k6_ : cr_V → Int32 → Int32 → Int32 → Int32 → Int32 → Option (Int32)) (vz : cr_V) (x1 : Int32) (x2 : Int32) (x3 : Int32) (x5 : Int32) (s0 : Int32) (s1 : Int32) (s2 : Int32) : Option (Int32) := k6_ vz x1 x2 x3 (s2 + (s1 * s0)) (x5 + 1)
noncomputable def f_X7_paidAll_6  : Nat → cr_V → Int32 → Int32 → Int32 → Int32 → Int32 → Option (Int32)
  | 0, _, _, _, _, _, _ => none
  | n + 1, vz, x1, x2, x3, x4, x5 => if (vz 9 0) ≤ x5 then (some x4) else (if cr_in x5 12 = true then if x3 = 0 then ((f_X7_paidAt vz (vz 7 (cr_x x5)) x1 x2).bind fun q4 => f_X7_paidAll_57 (f_X7_paidAll_6 n) vz x1 x2 x3 x5 q4 (vz 8 (cr_x x5)) x4) else ((f_X7_gainAt vz (vz 7 (cr_x x5)) x1 x2).bind fun q5 => f_X7_paidAll_57 (f_X7_paidAll_6 n) vz x1 x2 x3 x5 q5 (vz 8 (cr_x x5)) x4) else none)
noncomputable def f_X7_paidAll (vz : cr_V) (x1 : Int32) (x2 : Int32) (x3 : Int32) : Option (Int32) := f_X7_paidAll_6 10100 vz x1 x2 x3 0 0

noncomputable def f_X7_meet_106  : Nat → cr_V → Int32 → Int32 → Int32 → Option (Int32 × cr_V)
  | 0, _, _, _, _ => none
  | n + 1, vz, x1, x2, x3 => if (vz 9 0) ≤ x3 then ((f_X7_closes (cr_a (cr_a (cr_a vz 0 1 ((vz 0 1) + x2)) 0 2 (((cr_a vz 0 1 ((vz 0 1) + x2)) 0 2) + 1)) 0 4 (((cr_a (cr_a vz 0 1 ((vz 0 1) + x2)) 0 2 (((cr_a vz 0 1 ((vz 0 1) + x2)) 0 2) + 1)) 0 4) + ((cr_a (cr_a vz 0 1 ((vz 0 1) + x2)) 0 2 (((cr_a vz 0 1 ((vz 0 1) + x2)) 0 2) + 1)) 0 8))) x1).bind fun q2 => some (x2, q2)) else (if cr_in x3 12 = true then (f_X7_takes vz (vz 7 (cr_x x3)) (vz 8 (cr_x x3))).bind fun q4 => f_X7_meet_106 n q4 x1 x2 (x3 + 1) else none)
noncomputable def f_X7_meet_73  : Nat → cr_V → Int32 → Int32 → Int32 → Option (Int32 × cr_V)
  | 0, _, _, _, _ => none
  | n + 1, vz, x1, x2, x3 => if (vz 9 0) ≤ x3 then (f_X7_meet_106 10100 vz x1 x2 0) else (if cr_in x3 12 = true then (f_X7_of vz (vz 7 (cr_x x3)) 0).bind fun q7 => f_X7_meet_73 n (cr_a vz 7 (cr_x x3) q7) x1 x2 (x3 + 1) else none)
noncomputable def f_X7_meet (vz : cr_V) (x1 : Int32) : Option (Int32 × cr_V) := (f_X7_isContract vz x1).bind fun q8 => if q8 = 0 then (some ((-2000000001), vz)) else ((f_X7_priceOf vz x1).bind fun q10 => (f_X7_gives vz q10 (vz 0 0)).bind fun q11 => (f_X7_monthOf q11 x1).bind fun q12 => if q12 = (q11 0 0) then (if (q11 10 0) ≤ 0 then ((f_X7_changes q11).bind fun q15 => (f_X7_priceOf q15 x1).bind fun q16 => (f_X7_paidAll q15 q16 (q15 0 0) 0).bind fun q17 => f_X7_meet_73 10100 q15 x1 q17 0) else (some ((-2000000002), q11))) else (some ((-2000000002), q11)))

noncomputable def f_X7_fails_72 (k12_ : cr_V → Int32 → Int32 → Option (Int32 × cr_V)) (vz : cr_V) (x1 : Int32) (x2 : Int32) : Option (Int32 × cr_V) := k12_ vz x1 (x2 + (-1))
noncomputable def f_X7_fails_12  : Nat → cr_V → Int32 → Int32 → Option (Int32 × cr_V)
  | 0, _, _, _ => none
  | n + 1, vz, x1, x2 => if x2 < 0 then (some (x1, vz)) else ((f_X7_monthOf vz x2).bind fun q2 => if q2 = (vz 0 0) then ((f_X7_closes vz x2).bind fun q4 => f_X7_fails_72 (f_X7_fails_12 n) (cr_a (cr_a q4 0 1 ((q4 0 1) - ((q4 0 8) * (q4 0 12)))) 0 3 (((cr_a q4 0 1 ((q4 0 1) - ((q4 0 8) * (q4 0 12)))) 0 3) + 1)) (x1 + 1) x2) else (f_X7_fails_72 (f_X7_fails_12 n) vz x1 x2))
noncomputable def f_X7_fails (vz : cr_V)  : Option (Int32 × cr_V) := f_X7_fails_12 10100 vz 0 ((vz 0 7) - 1)

noncomputable def f_X7_pass_38  : Nat → cr_V → Int32 → Int32 → Int32 → Option (Int32 × cr_V)
  | 0, _, _, _, _ => none
  | n + 1, vz, x1, x2, x3 => if x1 ≤ x3 then (some (x2, vz)) else ((f_X7_fails vz).bind fun q2 => f_X7_pass_38 n (cr_a q2.2 0 0 ((q2.2 0 0) + 1)) x1 (x2 + q2.1) (x3 + 1))
noncomputable def f_X7_pass (vz : cr_V) (x1 : Int32) : Option (Int32 × cr_V) := (f_X7_in x1 1 24).bind fun q3 => if q3 = 0 then (some ((-2000000001), vz)) else (if ((vz 0 0) + x1) ≤ 999 then ((f_X7_changes vz).bind fun q6 => f_X7_pass_38 10100 q6 x1 0 0) else (some ((-2000000003), vz)))

noncomputable def f_X7_set_86  (vz : cr_V) (x1 : Int32) (x2 : Int32) : Option (Int32 × cr_V) := (f_X7_changes vz).bind fun q1 => if cr_in (8 + x1) 81 = true then some ((q1 0 (cr_x (8 + x1))), (cr_a q1 0 (cr_x (8 + x1)) x2)) else none
noncomputable def f_X7_set_45  (vz : cr_V) (x1 : Int32) (x2 : Int32) (x3 : Int32) (s0 : Int32) : Option (Int32 × cr_V) := (f_X7_in x1 0 4).bind fun q3 => if q3 = 0 then (some ((-2000000001), vz)) else ((f_X7_in x2 x3 s0).bind fun q5 => if q5 = 0 then (some ((-2000000001), vz)) else (if x1 = 0 then (if (vz 0 7) ≤ 0 then (f_X7_set_86 vz x1 x2) else (some ((-2000000002), vz))) else (f_X7_set_86 vz x1 x2)))
noncomputable def f_X7_set_10  (vz : cr_V) (x1 : Int32) (x2 : Int32) (s0 : Int32) : Option (Int32 × cr_V) := if x1 = 0 then (f_X7_set_45 vz x1 x2 s0 250) else (if x1 = 1 then (f_X7_set_45 vz x1 x2 s0 4095) else (if x1 = 4 then (f_X7_set_45 vz x1 x2 s0 999) else (f_X7_set_45 vz x1 x2 s0 50)))
noncomputable def f_X7_set (vz : cr_V) (x1 : Int32) (x2 : Int32) : Option (Int32 × cr_V) := if 2 ≤ x1 then (f_X7_set_10 vz x1 x2 0) else (f_X7_set_10 vz x1 x2 1)

noncomputable def f_X7_lotOf (vz : cr_V) (x1 : Int32) (x2 : Int32) : Option (Int32) := (f_X7_isLot vz x1).bind fun q1 => if q1 = 0 then (some (-2000000001)) else ((f_X7_in x2 0 6).bind fun q3 => if q3 = 0 then (some (-2000000001)) else ((f_X7_placeOf vz x1).bind fun q5 => if x2 = 0 then ((f_X7_of vz q5 (x2 + 1)).bind fun q7 => some q7) else (if x2 = 1 then ((f_X7_of vz q5 (x2 + 1)).bind fun q9 => some q9) else (if x2 = 2 then ((f_X7_of vz q5 (x2 + 1)).bind fun q11 => some q11) else (if x2 = 3 then ((f_X7_cupOf vz q5).bind fun q13 => some q13) else (if x2 = 4 then ((f_X7_cupOf vz q5).bind fun q15 => (f_X7_bandOf q15).bind fun q16 => if cr_in (13 + q16) 81 = true then some (vz 0 (cr_x (13 + q16))) else none) else (if x2 = 5 then ((f_X7_lateAt vz q5 (vz 0 0)).bind fun q19 => some q19) else ((f_X7_cupOf vz q5).bind fun q20 => (f_X7_bandOf q20).bind fun q21 => some q21))))))))

noncomputable def f_X7_numberOf (vz : cr_V) (x1 : Int32) : Option (Int32) := if 0 ≤ x1 then (if x1 < (vz 0 6) then ((f_X7_of vz x1 0).bind fun q3 => some q3) else (some (-2000000004))) else (some (-2000000001))

noncomputable def f_X7_contractOf (vz : cr_V) (x1 : Int32) (x2 : Int32) : Option (Int32) := (f_X7_isContract vz x1).bind fun q1 => if q1 = 0 then (some (-2000000001)) else ((f_X7_in x2 0 2).bind fun q3 => if q3 = 0 then (some (-2000000001)) else (if x2 = 0 then ((f_X7_monthOf vz x1).bind fun q9 => some q9) else (if x2 = 1 then ((f_X7_priceOf vz x1).bind fun q8 => some q8) else ((f_X7_monthOf vz x1).bind fun q7 => some (q7 - (vz 0 0))))))

noncomputable def f_X7_paid (vz : cr_V) (x1 : Int32) (x2 : Int32) (x3 : Int32) : Option (Int32) := (f_X7_isLot vz x1).bind fun q1 => if q1 = 0 then (some (-2000000001)) else ((f_X7_in x2 1 999).bind fun q3 => if q3 = 0 then (some (-2000000001)) else ((f_X7_in x3 0 1).bind fun q5 => if q5 = 0 then (some (-2000000001)) else ((f_X7_placeOf vz x1).bind fun q7 => (f_X7_cupOf vz q7).bind fun q8 => if 70 ≤ q8 then (if x3 = 0 then ((f_X7_paidAt vz q7 x2 (vz 0 0)).bind fun q12 => some q12) else ((f_X7_gainAt vz q7 x2 (vz 0 0)).bind fun q11 => some (q11 + 10000))) else (some (-2000000004)))))

noncomputable def f_X7_given (vz : cr_V) (x1 : Int32) (x2 : Int32) (x3 : Int32) : Option (Int32 × cr_V) := (f_X7_isContract vz x1).bind fun q1 => if q1 = 0 then (some ((-2000000001), vz)) else (if x2 < 0 then (some ((-2000000001), vz)) else ((f_X7_in x3 0 1).bind fun q4 => if q4 = 0 then (some ((-2000000001), vz)) else ((f_X7_priceOf vz x1).bind fun q6 => (f_X7_gives vz q6 (vz 0 0)).bind fun q7 => if x2 < (q7 9 0) then (if x3 = 0 then (if cr_in x2 12 = true then (f_X7_of q7 (q7 7 (cr_x x2)) 0).bind fun q12 => some (q12, q7) else none) else (if cr_in x2 12 = true then some ((q7 8 (cr_x x2)), q7) else none)) else (some ((-2000000004), q7)))))

noncomputable def f_X7_lift_52  : Nat → cr_V → Int32 → Int32 → Int32 → Int32 → Option (Int32)
  | 0, _, _, _, _, _ => none
  | n + 1, vz, x3, x4, x5, x6 => (f_X7_of vz x5 1).bind fun q1 => if q1 < x6 then (some (-2000000004)) else ((f_X7_of vz x4 1).bind fun q3 => (f_X7_cupOf vz x4).bind fun q4 => (f_X7_cupOf vz x5).bind fun q5 => (f_X7_blended q3 q4 x6 q5).bind fun q6 => if q6 < x3 then (f_X7_lift_52 n vz x3 x4 x5 (x6 + 1)) else (some x6))
noncomputable def f_X7_lift (vz : cr_V) (x1 : Int32) (x2 : Int32) (x3 : Int32) : Option (Int32) := (f_X7_isLot vz x1).bind fun q8 => if q8 = 0 then (some (-2000000001)) else ((f_X7_isLot vz x2).bind fun q10 => if q10 = 0 then (some (-2000000001)) else (if x1 = x2 then (some (-2000000001)) else ((f_X7_in x3 60 100).bind fun q13 => if q13 = 0 then (some (-2000000001)) else ((f_X7_placeOf vz x1).bind fun q15 => (f_X7_placeOf vz x2).bind fun q16 => f_X7_lift_52 10100 vz x3 q15 q16 1))))

noncomputable def f_X7_bestMonth_101 (k32_ : cr_V → Int32 → Int32 → Int32 → Int32 → Int32 → Option (Int32 × cr_V)) (vz : cr_V) (x1 : Int32) (x2 : Int32) (x3 : Int32) (x4 : Int32) (x5 : Int32) : Option (Int32 × cr_V) := k32_ vz x1 x2 x3 x4 (x5 + 1)
noncomputable def f_X7_bestMonth_94 (k32_ : cr_V → Int32 → Int32 → Int32 → Int32 → Int32 → Option (Int32 × cr_V)) (vz : cr_V) (x1 : Int32) (x2 : Int32) (x5 : Int32) (x7 : Int32) : Option (Int32 × cr_V) := f_X7_bestMonth_101 k32_ vz x1 x2 x5 x7 x5
noncomputable def f_X7_bestMonth_115  (vz : cr_V) (x3 : Int32) : Option (Int32 × cr_V) := some (x3, vz)
noncomputable def f_X7_bestMonth_32  : Nat → cr_V → Int32 → Int32 → Int32 → Int32 → Int32 → Option (Int32 × cr_V)
  | 0, _, _, _, _, _, _ => none
  | n + 1, vz, x1, x2, x3, x4, x5 => if 24 ≤ x5 then (if x3 < 0 then (f_X7_bestMonth_115 vz x3) else (if x2 = 0 then (f_X7_bestMonth_115 vz x3) else (some ((x4 + 1000000), vz)))) else ((f_X7_gives vz x1 ((vz 0 0) + x5)).bind fun q4 => (f_X7_paidAll q4 x1 ((vz 0 0) + x5) 1).bind fun q5 => (f_X7_isDelivery q4 ((vz 0 0) + x5)).bind fun q6 => if q6 = 0 then (f_X7_bestMonth_101 (f_X7_bestMonth_32 n) q4 x1 x2 x3 x4 x5) else (if (q4 10 0) = 0 then (if x3 < 0 then (f_X7_bestMonth_94 (f_X7_bestMonth_32 n) q4 x1 x2 x5 q5) else (if q5 ≤ x4 then (f_X7_bestMonth_101 (f_X7_bestMonth_32 n) q4 x1 x2 x3 x4 x5) else (f_X7_bestMonth_94 (f_X7_bestMonth_32 n) q4 x1 x2 x5 q5))) else (f_X7_bestMonth_101 (f_X7_bestMonth_32 n) q4 x1 x2 x3 x4 x5)))
noncomputable def f_X7_bestMonth (vz : cr_V) (x1 : Int32) (x2 : Int32) : Option (Int32 × cr_V) := (f_X7_in x1 1 999).bind fun q11 => if q11 = 0 then (some ((-2000000001), vz)) else ((f_X7_in x2 0 1).bind fun q13 => if q13 = 0 then (some ((-2000000001), vz)) else (f_X7_bestMonth_32 10100 vz x1 x2 (-2000000004) 0 0))

noncomputable def f_X7_bags_35 (k4_ : cr_V → Int32 → Int32 → Int32 → Option (Int32)) (vz : cr_V) (x1 : Int32) (x3 : Int32) (s0 : Int32) (s1 : Int32) : Option (Int32) := k4_ vz x1 (s1 + s0) (x3 + 1)
noncomputable def f_X7_bags_4  : Nat → cr_V → Int32 → Int32 → Int32 → Option (Int32)
  | 0, _, _, _, _ => none
  | n + 1, vz, x1, x2, x3 => if (vz 0 6) ≤ x3 then (some x2) else ((f_X7_cupOf vz x3).bind fun q2 => if q2 < x1 then (f_X7_bags_35 (f_X7_bags_4 n) vz x1 x3 0 x2) else ((f_X7_of vz x3 1).bind fun q4 => f_X7_bags_35 (f_X7_bags_4 n) vz x1 x3 q4 x2))
noncomputable def f_X7_bags (vz : cr_V) (x1 : Int32) : Option (Int32) := f_X7_bags_4 10100 vz x1 0 0

noncomputable def f_X7_count (vz : cr_V) (x1 : Int32) : Option (Int32) := if x1 = 0 then (some (vz 0 6)) else (if x1 = 1 then ((f_X7_bags vz 0).bind fun q3 => some q3) else (if x1 = 2 then (some (vz 0 0)) else (if x1 = 3 then (some (vz 0 7)) else (if x1 = 4 then (some (vz 0 1)) else (if x1 = 5 then (if cr_in ((2 + x1) - 5) 81 = true then some (vz 0 (cr_x ((2 + x1) - 5))) else none) else (if x1 = 6 then (if cr_in ((2 + x1) - 5) 81 = true then some (vz 0 (cr_x ((2 + x1) - 5))) else none) else (if x1 = 7 then (if cr_in ((2 + x1) - 5) 81 = true then some (vz 0 (cr_x ((2 + x1) - 5))) else none) else (if x1 = 8 then ((f_X7_bags vz 70).bind fun q14 => some q14) else (if x1 = 9 then (some (vz 0 5)) else (if x1 = 10 then (some (vz 3 0)) else (if x1 = 11 then (some (vz 6 0)) else ((f_X7_in x1 20 24).bind fun q18 => if q18 = 0 then (some (-2000000001)) else (if cr_in ((8 + x1) - 20) 81 = true then some (vz 0 (cr_x ((8 + x1) - 20))) else none)))))))))))))

noncomputable def f_X7_undo_22  : Nat → cr_V → Int32 → Option (Int32 × cr_V)
  | 0, _, _ => none
  | n + 1, vz, x1 => if 81 ≤ x1 then (some ((vz 3 0), vz)) else (if cr_in ((81 * (vz 3 0)) + x1) 324 = true then if cr_in x1 81 = true then f_X7_undo_22 n (cr_a vz 0 (cr_x x1) (vz 1 (cr_x ((81 * (vz 3 0)) + x1)))) (x1 + 1) else none else none)
noncomputable def f_X7_undo (vz : cr_V)  : Option (Int32 × cr_V) := if (vz 3 0) = 0 then (some ((-2000000002), vz)) else (f_X7_undo_22 10100 (cr_i vz 3 ((vz 3 0) - 1)) 0)

noncomputable def f_X7_type (vz : cr_V) (x1 : Int32) : Option (Int32 × cr_V) := (f_X7_in x1 32 126).bind fun q1 => if q1 = 0 then (some ((-2000000001), vz)) else (if (vz 6 0) = 60 then (some ((-2000000003), vz)) else (if cr_in (vz 6 0) 60 = true then some (((vz 6 0) + 1), (cr_i (cr_a vz 5 (cr_x (vz 6 0)) x1) 6 ((vz 6 0) + 1))) else none))

noncomputable def f_X7_clearText (vz : cr_V)  : Option (Int32 × cr_V) := some ((vz 6 0), (cr_i vz 6 0))

noncomputable def f_X7_isAt (vz : cr_V) (x1 : Int32) (x2 : Int32) : Option (Int32) := if (vz 6 0) ≤ (vz 11 0) then (some 0) else (if cr_in (vz 11 0) 60 = true then (f_X7_in (vz 5 (cr_x (vz 11 0))) x1 x2).bind fun q3 => if q3 = 0 then (some 0) else (some 1) else none)

noncomputable def f_X7_sign_21  (vz : cr_V) (x2 : Int32) (s0 : Int32) (s1 : Int32) : Option (Int32 × cr_V) := if cr_bool x2 = true then some (x2, (cr_i vz 11 (s1 + s0))) else none
noncomputable def f_X7_sign (vz : cr_V) (x1 : Int32) : Option (Int32 × cr_V) := (f_X7_isAt vz x1 x1).bind fun q2 => if q2 = 0 then (f_X7_sign_21 vz q2 0 (vz 11 0)) else (f_X7_sign_21 vz q2 1 (vz 11 0))

noncomputable def f_X7_number_74  (vz : cr_V) (x2 : Int32) : Option (Int32 × cr_V) := if (vz 11 0) ≤ x2 then (some (0, vz)) else (some (1, vz))
noncomputable def f_X7_number_12  : Nat → cr_V → Int32 → Int32 → Option (Int32 × cr_V)
  | 0, _, _, _ => none
  | n + 1, vz, x1, x2 => (f_X7_isAt vz 48 57).bind fun q2 => if q2 = 0 then (f_X7_number_74 vz x2) else (if 4 ≤ ((vz 11 0) - x2) then (f_X7_number_74 vz x2) else (if cr_in x1 4 = true then if cr_in (vz 11 0) 60 = true then f_X7_number_12 n (cr_i (cr_a vz 17 (cr_x x1) (((10 * (vz 17 (cr_x x1))) + (vz 5 (cr_x (vz 11 0)))) - 48)) 11 ((vz 11 0) + 1)) x1 x2 else none else none))
noncomputable def f_X7_number (vz : cr_V) (x1 : Int32) : Option (Int32 × cr_V) := if cr_in x1 4 = true then f_X7_number_12 10100 (cr_a vz 17 (cr_x x1) 0) x1 (vz 11 0) else none

noncomputable def f_X7_numbersOf_44    : Option (Int32) := some 1
noncomputable def f_X7_numbersOf_12    : Option (Int32) := some 2
noncomputable def f_X7_numbersOf  (x0 : Int32) : Option (Int32) := if x0 = 108 then (f_X7_numbersOf_12) else (if x0 = 115 then (f_X7_numbersOf_12) else (if x0 = 98 then (some 4) else (if x0 = 99 then (f_X7_numbersOf_44) else (if x0 = 100 then (f_X7_numbersOf_44) else (if x0 = 109 then (f_X7_numbersOf_44) else (some 0))))))

noncomputable def f_X7_reads_91 (k60_ : cr_V → Int32 → Int32 → Int32 → Option (Int32 × cr_V)) (vz : cr_V) (x1 : Int32) (x3 : Int32) (s0 : Int32) : Option (Int32 × cr_V) := k60_ vz x1 s0 (x3 + 1)
noncomputable def f_X7_reads_90 (k60_ : cr_V → Int32 → Int32 → Int32 → Option (Int32 × cr_V)) (vz : cr_V) (x1 : Int32) (x3 : Int32) : Option (Int32 × cr_V) := f_X7_reads_91 k60_ vz x1 x3 0
noncomputable def f_X7_reads_98  (vz : cr_V) (x2 : Int32) : Option (Int32 × cr_V) := if x2 = 0 then (some (0, vz)) else ((f_X7_sign vz 59).bind fun q2 => if q2.1 = 0 then (some (0, q2.2)) else (some (1, q2.2)))
noncomputable def f_X7_reads_60  : Nat → cr_V → Int32 → Int32 → Int32 → Option (Int32 × cr_V)
  | 0, _, _, _, _ => none
  | n + 1, vz, x1, x2, x3 => if x1 ≤ x3 then (f_X7_reads_98 vz x2) else (if x2 = 0 then (f_X7_reads_98 vz x2) else ((f_X7_sign vz 44).bind fun q6 => if q6.1 = 0 then (f_X7_reads_90 (f_X7_reads_60 n) q6.2 x1 x3) else ((f_X7_number q6.2 x3).bind fun q8 => if q8.1 = 0 then (f_X7_reads_90 (f_X7_reads_60 n) q8.2 x1 x3) else (f_X7_reads_91 (f_X7_reads_60 n) q8.2 x1 x3 1))))
noncomputable def f_X7_reads_25  (vz : cr_V) (s0 : Int32) : Option (Int32 × cr_V) := (f_X7_numbersOf s0).bind fun q10 => if q10 = 0 then (some (0, (cr_i vz 16 s0))) else ((f_X7_number (cr_i (cr_i vz 16 s0) 11 ((vz 11 0) + 1)) 0).bind fun q12 => f_X7_reads_60 10100 q12.2 q10 q12.1 1)
noncomputable def f_X7_reads (vz : cr_V)  : Option (Int32 × cr_V) := (f_X7_isAt vz 33 126).bind fun q13 => if q13 = 0 then (f_X7_reads_25 vz 0) else (if cr_in (vz 11 0) 60 = true then f_X7_reads_25 vz (vz 5 (cr_x (vz 11 0))) else none)

noncomputable def f_X7_calls (vz : cr_V)  : Option (Int32 × cr_V) := if (vz 16 0) = 98 then ((f_X7_blend vz (vz 17 0) (vz 17 1) (vz 17 2) (vz 17 3)).bind fun q2 => some (q2.1, q2.2)) else (if (vz 16 0) = 99 then ((f_X7_cup vz (vz 17 0)).bind fun q4 => some (q4.1, q4.2)) else (if (vz 16 0) = 100 then ((f_X7_meet vz (vz 17 0)).bind fun q6 => some (q6.1, q6.2)) else (if (vz 16 0) = 108 then ((f_X7_lot vz (vz 17 0) (vz 17 1)).bind fun q8 => some (q8.1, q8.2)) else (if (vz 16 0) = 115 then ((f_X7_sell vz (vz 17 0) (vz 17 1)).bind fun q10 => some (q10.1, q10.2)) else ((f_X7_pass vz (vz 17 0)).bind fun q11 => some (q11.1, q11.2))))))

noncomputable def f_X7_plays_110 (k22_ : cr_V → Int32 → Option (Int32 × cr_V)) (vz : cr_V) (x1 : Int32) (s0 : Int32) : Option (Int32 × cr_V) := k22_ (cr_i (cr_i vz 14 s0) 15 ((vz 15 0) + 1)) x1
noncomputable def f_X7_plays_89 (k22_ : cr_V → Int32 → Option (Int32 × cr_V)) (vz : cr_V) (x1 : Int32) (x2 : Int32) (x3 : Int32) (s0 : Int32) : Option (Int32 × cr_V) := if x2 = 0 then (f_X7_plays_110 k22_ (cr_i vz 13 s0) x1 ((vz 11 0) - (vz 12 0))) else (f_X7_plays_110 k22_ (cr_i vz 13 s0) x1 x3)
noncomputable def f_X7_plays_78 (k22_ : cr_V → Int32 → Option (Int32 × cr_V)) (vz : cr_V) (x2 : Int32) (x3 : Int32) (s0 : Int32) : Option (Int32 × cr_V) := if x2 = 0 then (f_X7_plays_89 k22_ vz s0 x2 x3 1) else (f_X7_plays_89 k22_ vz s0 x2 x3 2)
noncomputable def f_X7_plays_77 (k22_ : cr_V → Int32 → Option (Int32 × cr_V)) (vz : cr_V) (x2 : Int32) (x3 : Int32) : Option (Int32 × cr_V) := f_X7_plays_78 k22_ vz x2 x3 0
noncomputable def f_X7_plays_62 (k22_ : cr_V → Int32 → Option (Int32 × cr_V)) (vz : cr_V) (x2 : Int32) (s0 : Int32) : Option (Int32 × cr_V) := if x2 = 0 then (f_X7_plays_77 k22_ vz x2 s0) else (if s0 ≤ (-2000000001) then (f_X7_plays_77 k22_ vz x2 s0) else (f_X7_plays_78 k22_ vz x2 s0 1))
noncomputable def f_X7_plays_126  (vz : cr_V) (x1 : Int32) : Option (Int32 × cr_V) := if cr_bool x1 = true then some (x1, (cr_i vz 4 0)) else none
noncomputable def f_X7_plays_22  : Nat → cr_V → Int32 → Option (Int32 × cr_V)
  | 0, _, _ => none
  | n + 1, vz, x1 => if (vz 6 0) ≤ (vz 11 0) then (f_X7_plays_126 vz x1) else (if x1 = 0 then (f_X7_plays_126 vz x1) else ((f_X7_reads (cr_i vz 12 (vz 11 0))).bind fun q8 => if q8.1 = 0 then (f_X7_plays_62 (f_X7_plays_22 n) q8.2 q8.1 0) else ((f_X7_calls q8.2).bind fun q10 => f_X7_plays_62 (f_X7_plays_22 n) q10.2 q8.1 q10.1)))
noncomputable def f_X7_plays (vz : cr_V)  : Option (Int32 × cr_V) := f_X7_plays_22 10100 (cr_i (cr_i (cr_i (cr_i vz 4 1) 11 0) 12 0) 15 0) 1

noncomputable def f_X7_fault (vz : cr_V) (x1 : Int32) : Option (Int32 × cr_V) := (f_X7_in x1 0 2).bind fun q1 => if q1 = 0 then (some ((-2000000001), vz)) else ((f_X7_copies (fun _ => vz 0) (fun _ => vz 2)).bind fun q3 => (f_X7_plays (cr_c vz 2 (q3 0))).bind fun q4 => (f_X7_copies (fun _ => q4.2 2) (fun _ => q4.2 0)).bind fun q5 => if q4.1 = 0 then (if x1 = 0 then (some ((q4.2 12 0), (cr_c q4.2 0 (q5 0)))) else (if x1 = 1 then (some ((q4.2 13 0), (cr_c q4.2 0 (q5 0)))) else (some ((q4.2 14 0), (cr_c q4.2 0 (q5 0)))))) else (some ((-2000000004), (cr_c q4.2 0 (q5 0)))))

noncomputable def f_X7_play (vz : cr_V)  : Option (Int32 × cr_V) := (f_X7_copies (fun _ => vz 0) (fun _ => vz 2)).bind fun q1 => (f_X7_plays (cr_c vz 2 (q1 0))).bind fun q2 => (f_X7_copies (fun _ => q2.2 2) (fun _ => q2.2 0)).bind fun q3 => if q2.1 = 0 then (some ((-2000000002), (cr_c q2.2 0 (q3 0)))) else ((f_X7_changes (cr_c q2.2 0 (q3 0))).bind fun q5 => (f_X7_plays q5).bind fun q6 => if q6.1 = 0 then (some ((-2000000004), q6.2)) else (some ((q6.2 15 0), q6.2)))
