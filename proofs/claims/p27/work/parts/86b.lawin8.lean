theorem wsL_law_in_11 : ∀ w ∈ wsL_law_r11, w ∈ lw_tbl := by decide +kernel
theorem wsL_law_in_12 : ∀ w ∈ wsL_law_r12, w ∈ lw_tbl := by decide +kernel
theorem wsL_law_in_13 : ∀ w ∈ wsL_law_r13, w ∈ lw_tbl := by decide +kernel
theorem wsL_law_in_14 : ∀ w ∈ wsL_law_r14, w ∈ lw_tbl := by decide +kernel
theorem wsL_law_in_15 : ∀ w ∈ wsL_law_r15, w ∈ lw_tbl := by decide +kernel
theorem wsL_law_in_16_0 : ∀ w ∈ ([Cond.methodLink RX6 68 yX3_buyContractBack, Cond.instanceMethod yX3_buyContractBack, Cond.selects RX3 yX3_buyContractBack yX3_buyContractBack, Cond.code yX3_buyContractBack cX3_buyContractBack 4 (some .int), Cond.methodLink RL 73 yL_close, Cond.static yL_close, Cond.code yL_close cL_close 4 none, Cond.methodLink RL 77 yL_gives, Cond.static yL_gives] : List Cond), w ∈ lw_tbl := by decide +kernel
set_option maxRecDepth 100000 in
theorem wsL_law_in_16_1 : ∀ w ∈ ([Cond.code yL_gives cL_gives 13 (some .int)] : List Cond), w ∈ lw_tbl := List.forall_mem_singleton.mpr (List.mem_of_getElem? (i := 463) rfl)
theorem wsL_law_in_16_2 : ∀ w ∈ ([Cond.constant RL 27 (2000000), Cond.methodLink RL 28 yL_gain, Cond.static yL_gain, Cond.code yL_gain cL_gain 5 (some .int), Cond.methodLink RL 15 yL_paid, Cond.static yL_paid, Cond.code yL_paid cL_paid 7 (some .int), Cond.methodLink RL 81 yL_paidAll, Cond.static yL_paidAll] : List Cond), w ∈ lw_tbl := by decide +kernel
set_option maxRecDepth 100000 in
theorem wsL_law_in_16_3 : ∀ w ∈ ([Cond.code yL_paidAll cL_paidAll 10 (some .int)] : List Cond), w ∈ lw_tbl := List.forall_mem_singleton.mpr (List.mem_of_getElem? (i := 476) rfl)
