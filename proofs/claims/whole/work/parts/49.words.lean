/-! the law's words in the tables, piece by piece -/
set_option maxRecDepth 20000 in
theorem lwr_25 : wsL_law_r25.all (fun w => decide (w ∈ lw_tbl)) = true := by decide +kernel
set_option maxRecDepth 20000 in
theorem lwr_26 : wsL_law_r26.all (fun w => decide (w ∈ lw_tbl)) = true := by decide +kernel
set_option maxRecDepth 20000 in
theorem lwr_27 : wsL_law_r27.all (fun w => decide (w ∈ lw_tbl)) = true := by decide +kernel
set_option maxRecDepth 20000 in
theorem lwr_28 : wsL_law_r28.all (fun w => decide (w ∈ lw_tbl)) = true := by decide +kernel
set_option maxRecDepth 20000 in
theorem lwr_29 : wsL_law_r29.all (fun w => decide (w ∈ lw_tbl)) = true := by decide +kernel
set_option maxRecDepth 20000 in
theorem lwr_30 : wsL_law_r30.all (fun w => decide (w ∈ lw_tbl)) = true := by decide +kernel
set_option maxRecDepth 20000 in
theorem lwr_31 : wsL_law_r31.all (fun w => decide (w ∈ lw_tbl)) = true := by decide +kernel
set_option maxRecDepth 20000 in
theorem lwr_32 : wsL_law_r32.all (fun w => decide (w ∈ lw_tbl)) = true := by decide +kernel
