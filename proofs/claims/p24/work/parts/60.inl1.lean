set_option maxRecDepth 20000 in
theorem inv_20 : ∀ w ∈ wsX20, w ∈ lw_tbl := by decide +kernel
set_option maxRecDepth 20000 in
theorem inv_00 : ∀ w ∈ wsX00, w ∈ lw_tbl := by decide +kernel
set_option maxRecDepth 20000 in
theorem inv_10 : ∀ w ∈ wsX10, w ∈ lw_tbl := by decide +kernel
set_option maxRecDepth 20000 in
theorem wsL_law_in0 : ∀ w ∈ wsL_law0, w ∈ lw_tbl := q_inapp (q_inapp (q_inapp (q_inapp (q_inapp inw_1 (q_inapp inw_2 (q_inapp inw_3 (q_inapp inw_4 (q_inapp inw_5 (q_inapp inw_6 (q_inapp inw_7 (q_inapp inw_8 (q_inapp inw_9 (q_inapp inw_10 (q_inapp inw_11 (q_inapp inw_12 (q_inapp inw_13 inw_14))))))))))))) inv_20) inv_00) inv_10) (fun _ h => absurd h List.not_mem_nil)
