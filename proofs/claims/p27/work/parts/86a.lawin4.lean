theorem wsL_law_in_7 : ∀ w ∈ wsL_law_r7, w ∈ lw_tbl := by decide +kernel
theorem wsL_law_in_8_0 : ∀ w ∈ ([Cond.methodLink RX6 107 yX0_isOpen, Cond.instanceMethod yX0_isOpen, Cond.selects RX0 yX0_isOpen yX0_isOpen, Cond.code yX0_isOpen cX0_isOpen 2 (some .boolean), Cond.fieldLink RX0 18 "CupReceipts$Contracts" "size" "I", Cond.methodLink RL 112 yL_cell, Cond.static yL_cell, Cond.code yL_cell cL_cell 2 (some .int), Cond.constant RL 7 (40503), Cond.methodLink RL 116 yL_acts, Cond.static yL_acts] : List Cond), w ∈ lw_tbl := by decide +kernel
set_option maxRecDepth 100000 in
theorem wsL_law_in_8_1 : ∀ w ∈ ([Cond.code yL_acts cL_acts 12 (some .boolean)] : List Cond), w ∈ lw_tbl := List.forall_mem_singleton.mpr (List.mem_of_getElem? (i := 282) rfl)
theorem wsL_law_in_8_2 : ∀ w ∈ ([Cond.constant RL 56 (10000000), Cond.constant RL 51 (-2000000002), Cond.constant RL 37 (-2000000003), Cond.methodLink RL 57 yL_low, Cond.static yL_low, Cond.code yL_low cL_low 2 (some .int), Cond.methodLink RL 60 yL_lots, Cond.static yL_lots] : List Cond), w ∈ lw_tbl := by decide +kernel
set_option maxRecDepth 100000 in
theorem wsL_law_in_8_3 : ∀ w ∈ ([Cond.code yL_lots cL_lots 13 (some .boolean)] : List Cond), w ∈ lw_tbl := List.forall_mem_singleton.mpr (List.mem_of_getElem? (i := 286) rfl)
theorem wsL_law_in_8_4 : ∀ w ∈ ([Cond.methodLink RL 31 yX6_lot, Cond.instanceMethod yX6_lot, Cond.selects RX6 yX6_lot yX6_lot] : List Cond), w ∈ lw_tbl := by decide +kernel
theorem wsL_law_in_8 : ∀ w ∈ wsL_law_r8, w ∈ lw_tbl := List.forall_mem_append.mpr ⟨wsL_law_in_8_0, List.forall_mem_append.mpr ⟨wsL_law_in_8_1, List.forall_mem_append.mpr ⟨wsL_law_in_8_2, List.forall_mem_append.mpr ⟨wsL_law_in_8_3, wsL_law_in_8_4⟩⟩⟩⟩
theorem wsL_law_in_9 : ∀ w ∈ wsL_law_r9, w ∈ lw_tbl := by decide +kernel
theorem wsL_law_in_10 : ∀ w ∈ wsL_law_r10, w ∈ lw_tbl := by decide +kernel
