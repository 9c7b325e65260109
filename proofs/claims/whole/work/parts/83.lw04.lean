/-! the law's words among the tables' -/
set_option maxRecDepth 20000 in
theorem lwi_r21 : ∀ w9 ∈ wsL_law_r21, w9 ∈ lw_tbl := fun w9 h9 => (goodIn_p wsL_law_r21 [438, 677, 681, 442, 446, 449] (by decide +kernel) (by decide +kernel) w9 h9).1
set_option maxRecDepth 20000 in
theorem lwi_r22 : ∀ w9 ∈ wsL_law_r22, w9 ∈ lw_tbl := fun w9 h9 => (goodIn_p wsL_law_r22 [685, 689, 453, 457, 693, 461] (by decide +kernel) (by decide +kernel) w9 h9).1
set_option maxRecDepth 20000 in
theorem lwi_r23 : ∀ w9 ∈ wsL_law_r23, w9 ∈ lw_tbl := fun w9 h9 => (goodIn_p wsL_law_r23 [697, 465, 701] (by decide +kernel) (by decide +kernel) w9 h9).1
set_option maxRecDepth 20000 in
theorem lwi_X10 : ∀ w9 ∈ wsX10, w9 ∈ lw_tbl := fun w9 h9 => (goodIn_p wsX10 [] (by decide +kernel) (by decide +kernel) w9 h9).1
set_option maxRecDepth 20000 in
theorem lwi_X20 : ∀ w9 ∈ wsX20, w9 ∈ lw_tbl := fun w9 h9 => (goodIn_p wsX20 [] (by decide +kernel) (by decide +kernel) w9 h9).1
