theorem wsL_law_in_1 : ∀ w ∈ wsL_law_r1, w ∈ lw_tbl := by decide +kernel
theorem wsL_law_in_2 : ∀ w ∈ wsL_law_r2, w ∈ lw_tbl := by decide +kernel
theorem wsL_law_in_3 : ∀ w ∈ wsL_law_r3, w ∈ lw_tbl := by decide +kernel
theorem wsL_law_in_4_0 : ∀ w ∈ ([Cond.fieldLink RX1 18 "CupReceipts$Delivery" "waiting" "[Z", Cond.fieldLink RX1 22 "CupReceipts$Delivery" "cups" "[I", Cond.fieldLink RX1 25 "CupReceipts$Delivery" "pays" "[I", Cond.fieldLink RX1 28 "CupReceipts$Delivery" "gains" "[I", Cond.instanceMethod yX5_init, Cond.code yX5_init cX5_init 1 none, Cond.methodLink RX5 3 objectInit, Cond.arrayClass .char, Cond.fieldLink RX5 9 "CupReceipts$Orders" "signs" "[C", Cond.fieldLink RX5 15 "CupReceipts$Orders" "numbers" "[I", Cond.methodLink RL 108 yL_isSo, Cond.static yL_isSo, Cond.initialized RL] : List Cond), w ∈ lw_tbl := by decide +kernel
set_option maxRecDepth 100000 in
theorem wsL_law_in_4_1 : ∀ w ∈ ([Cond.code yL_isSo cL_isSo 11 (some .boolean)] : List Cond), w ∈ lw_tbl := List.forall_mem_singleton.mpr (List.mem_of_getElem? (i := 511) rfl)
theorem wsL_law_in_4_2 : ∀ w ∈ ([Cond.constant RL 106 (-2000000004), Cond.methodLink RL 9 yL_cup, Cond.static yL_cup, Cond.code yL_cup cL_cup 4 (some .int), Cond.methodLink RL 94 yX6_numberOf, Cond.instanceMethod yX6_numberOf, Cond.selects RX6 yX6_numberOf yX6_numberOf, Cond.code yX6_numberOf cX6_numberOf 2 (some .int), Cond.constant RX6 90 (-2000000001), Cond.fieldLink RX6 81 "CupReceipts$House" "lots" "LCupReceipts$Lots;"] : List Cond), w ∈ lw_tbl := by decide +kernel
theorem wsL_law_in_4 : ∀ w ∈ wsL_law_r4, w ∈ lw_tbl := List.forall_mem_append.mpr ⟨wsL_law_in_4_0, List.forall_mem_append.mpr ⟨wsL_law_in_4_1, wsL_law_in_4_2⟩⟩
theorem wsL_law_in_5 : ∀ w ∈ wsL_law_r5, w ∈ lw_tbl := by decide +kernel
theorem wsL_law_in_6 : ∀ w ∈ wsL_law_r6, w ∈ lw_tbl := by decide +kernel
