/-! the law's words in the tables, piece by piece -/
set_option maxRecDepth 20000 in
theorem lwr_1 : wsL_law_r1.all (fun w => decide (w ∈ lw_tbl)) = true := by decide +kernel
set_option maxRecDepth 20000 in
theorem lwr_2 : wsL_law_r2.all (fun w => decide (w ∈ lw_tbl)) = true := by decide +kernel
set_option maxRecDepth 20000 in
theorem lwr_3 : wsL_law_r3.all (fun w => decide (w ∈ lw_tbl)) = true := by decide +kernel
set_option maxRecDepth 20000 in
theorem lwr_4 : wsL_law_r4.all (fun w => decide (w ∈ lw_tbl)) = true := by decide +kernel
set_option maxRecDepth 20000 in
theorem lwr_5 : wsL_law_r5.all (fun w => decide (w ∈ lw_tbl)) = true := by decide +kernel
set_option maxRecDepth 20000 in
theorem lwr_6 : wsL_law_r6.all (fun w => decide (w ∈ lw_tbl)) = true := by decide +kernel
set_option maxRecDepth 20000 in
theorem lwr_7 : wsL_law_r7.all (fun w => decide (w ∈ lw_tbl)) = true := by decide +kernel
set_option maxRecDepth 20000 in
theorem lwr_8 : wsL_law_r8.all (fun w => decide (w ∈ lw_tbl)) = true := by decide +kernel
