def s_lf (bi ci cj t : Int32) : Nat → Nat → Int32
  | 0, _ => (-2000000004)
  | r + 1, k => if (bi * ci + nI k * cj) / (bi + nI k) < t then s_lf bi ci cj t r (k + 1) else nI k
