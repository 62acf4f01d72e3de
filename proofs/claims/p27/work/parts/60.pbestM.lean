def s_bm (S : cr_S) (p : Int32) : Nat → Int32 × Int32
  | 0 => ((-2000000004), 0)
  | i + 1 => if s_month S.2.2.2.1 (S.2.2.2.2 0 + nI i) = true ∧ s_left (s_deliver S.2.2.1 S.2.2.2.1 S.1 p (S.2.2.2.2 0 + nI i)) (S.2.2.2.1 0) = 0 then
      (if (s_bm S p i).1 < 0 ∨ ¬ s_tot (s_at S.1 (fun x => s_gain S.2.2.1 S.2.2.2.1 x p (S.2.2.2.2 0 + nI i))) (s_deliver S.2.2.1 S.2.2.2.1 S.1 p (S.2.2.2.2 0 + nI i)) 0 ≤ (s_bm S p i).2 then
        (nI i, s_tot (s_at S.1 (fun x => s_gain S.2.2.1 S.2.2.2.1 x p (S.2.2.2.2 0 + nI i))) (s_deliver S.2.2.1 S.2.2.2.1 S.1 p (S.2.2.2.2 0 + nI i)) 0) else s_bm S p i) else s_bm S p i
def r_best (S : cr_S) (p w : Int32) : Int32 := if s_in p 1 999 && s_in w 0 1 then (if (s_bm S p 24).1 < 0 then (s_bm S p 24).1 else if w = 0 then (s_bm S p 24).1 else (s_bm S p 24).2 + 1000000) else (-2000000001)
