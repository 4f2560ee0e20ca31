/-! the law's words in the tables, piece by piece -/
set_option maxRecDepth 20000 in
theorem lwr_17 : wsL_law_r17.all (fun w => decide (w ∈ lw_tbl)) = true := by decide +kernel
set_option maxRecDepth 20000 in
theorem lwr_18 : wsL_law_r18.all (fun w => decide (w ∈ lw_tbl)) = true := by decide +kernel
set_option maxRecDepth 20000 in
theorem lwr_19 : wsL_law_r19.all (fun w => decide (w ∈ lw_tbl)) = true := by decide +kernel
set_option maxRecDepth 20000 in
theorem lwr_20 : wsL_law_r20.all (fun w => decide (w ∈ lw_tbl)) = true := by decide +kernel
set_option maxRecDepth 20000 in
theorem lwr_21 : wsL_law_r21.all (fun w => decide (w ∈ lw_tbl)) = true := by decide +kernel
set_option maxRecDepth 20000 in
theorem lwr_22 : wsL_law_r22.all (fun w => decide (w ∈ lw_tbl)) = true := by decide +kernel
set_option maxRecDepth 20000 in
theorem lwr_23 : wsL_law_r23.all (fun w => decide (w ∈ lw_tbl)) = true := by decide +kernel
set_option maxRecDepth 20000 in
theorem lwr_24 : wsL_law_r24.all (fun w => decide (w ∈ lw_tbl)) = true := by decide +kernel
