/-! all of them -/
theorem lw_of {ws : List Cond} (h : ws.all (fun w => decide (w ∈ lw_tbl)) = true) : ∀ w ∈ ws, w ∈ lw_tbl := fun w hw => of_decide_eq_true (List.all_eq_true.mp h w hw)
theorem lw_app {a b : List Cond} (h1 : ∀ w ∈ a, w ∈ lw_tbl) (h2 : ∀ w ∈ b, w ∈ lw_tbl) : ∀ w ∈ a ++ b, w ∈ lw_tbl := fun w hw => (List.mem_append.mp hw).elim (h1 w) (h2 w)
set_option maxRecDepth 20000 in
theorem lwx_0 : wsX00.all (fun w => decide (w ∈ lw_tbl)) = true := by decide +kernel
set_option maxRecDepth 20000 in
theorem lwx_1 : wsX10.all (fun w => decide (w ∈ lw_tbl)) = true := by decide +kernel
set_option maxRecDepth 20000 in
theorem lwx_2 : wsX20.all (fun w => decide (w ∈ lw_tbl)) = true := by decide +kernel
set_option maxRecDepth 20000 in
theorem lwx_3 : wsX30.all (fun w => decide (w ∈ lw_tbl)) = true := by decide +kernel
set_option maxRecDepth 20000 in
theorem lwx_4 : wsX40.all (fun w => decide (w ∈ lw_tbl)) = true := by decide +kernel
set_option maxRecDepth 20000 in
theorem lwx_5 : wsX50.all (fun w => decide (w ∈ lw_tbl)) = true := by decide +kernel
set_option maxRecDepth 20000 in
theorem lwx_6 : wsX60.all (fun w => decide (w ∈ lw_tbl)) = true := by decide +kernel
set_option maxRecDepth 20000 in
theorem lwx_7 : wsX70.all (fun w => decide (w ∈ lw_tbl)) = true := by decide +kernel
theorem wsL_law_in : ∀ w ∈ wsL_law, w ∈ lw_tbl := (lw_app (lw_app (lw_app (lw_app (lw_app (lw_app (lw_app (lw_app (lw_app (lw_app (lw_of lwr_1) (lw_app (lw_of lwr_2) (lw_app (lw_of lwr_3) (lw_app (lw_of lwr_4) (lw_app (lw_of lwr_5) (lw_app (lw_of lwr_6) (lw_app (lw_of lwr_7) (lw_app (lw_of lwr_8) (lw_app (lw_of lwr_9) (lw_app (lw_of lwr_10) (lw_app (lw_of lwr_11) (lw_app (lw_of lwr_12) (lw_app (lw_of lwr_13) (lw_app (lw_of lwr_14) (lw_app (lw_of lwr_15) (lw_app (lw_of lwr_16) (lw_app (lw_of lwr_17) (lw_app (lw_of lwr_18) (lw_app (lw_of lwr_19) (lw_app (lw_of lwr_20) (lw_app (lw_of lwr_21) (lw_app (lw_of lwr_22) (lw_app (lw_of lwr_23) (lw_app (lw_of lwr_24) (lw_app (lw_of lwr_25) (lw_app (lw_of lwr_26) (lw_app (lw_of lwr_27) (lw_app (lw_of lwr_28) (lw_app (lw_of lwr_29) (lw_app (lw_of lwr_30) (lw_app (lw_of lwr_31) (lw_of lwr_32)))))))))))))))))))))))))))))))) (lw_of lwx_6)) (lw_of lwx_7)) (lw_of lwx_5)) (lw_of lwx_0)) (lw_of lwx_2)) (lw_of lwx_1)) (lw_of lwx_3)) (lw_of lwx_4)) (fun w h => by cases h))
