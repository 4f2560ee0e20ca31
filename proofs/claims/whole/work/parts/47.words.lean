/-! the law's words in the tables, piece by piece -/
set_option maxRecDepth 20000 in
theorem lwr_9 : wsL_law_r9.all (fun w => decide (w ∈ lw_tbl)) = true := by decide +kernel
set_option maxRecDepth 20000 in
theorem lwr_10 : wsL_law_r10.all (fun w => decide (w ∈ lw_tbl)) = true := by decide +kernel
set_option maxRecDepth 20000 in
theorem lwr_11 : wsL_law_r11.all (fun w => decide (w ∈ lw_tbl)) = true := by decide +kernel
set_option maxRecDepth 20000 in
theorem lwr_12 : wsL_law_r12.all (fun w => decide (w ∈ lw_tbl)) = true := by decide +kernel
set_option maxRecDepth 20000 in
theorem lwr_13 : wsL_law_r13.all (fun w => decide (w ∈ lw_tbl)) = true := by decide +kernel
set_option maxRecDepth 20000 in
theorem lwr_14 : wsL_law_r14.all (fun w => decide (w ∈ lw_tbl)) = true := by decide +kernel
set_option maxRecDepth 20000 in
theorem lwr_15 : wsL_law_r15.all (fun w => decide (w ∈ lw_tbl)) = true := by decide +kernel
set_option maxRecDepth 20000 in
theorem lwr_16 : wsL_law_r16.all (fun w => decide (w ∈ lw_tbl)) = true := by decide +kernel
