/-! the model -/
theorem cr_cc (v : cr_V) (c : Nat) (f g : Nat → Int32) : cr_c (cr_c v c f) c g = cr_c v c g := by funext k; simp only [cr_ce]; split <;> rfl
theorem cr_cs (v : cr_V) (c : Nat) (f : Nat → Int32) : cr_c v c f c = f := by rw [cr_ce, if_pos rfl]
def sameC (cs : List Nat) (v v' : cr_V) : Prop := ∀ c, c ∉ cs → v' c = v c
theorem sameC.rf {cs : List Nat} {v : cr_V} : sameC cs v v := fun _ _ => rfl
theorem sameC.tr {cs ds es : List Nat} {u v w : cr_V} (h : sameC cs u v) (k : sameC ds v w) (h1 : ∀ c, c ∈ cs → c ∈ es) (h2 : ∀ c, c ∈ ds → c ∈ es) : sameC es u w := fun c hc => (k c (fun z => hc (h2 c z))).trans (h c (fun z => hc (h1 c z)))
theorem sameC.c {v : cr_V} {c : Nat} {f : Nat → Int32} {cs : List Nat} (h : c ∈ cs) : sameC cs v (cr_c v c f) := fun k hk => by rw [cr_ce, if_neg (fun e => hk (by rw [e]; exact h))]
theorem q_ix (j w : Nat) : (17 : Int32) + 4 * nI j + nI w = nI (17 + 4 * j + w) := by rw [show (17 : Int32) = nI 17 from rfl, show (4 : Int32) = nI 4 from rfl, pk_mul, nI_add, nI_add]
