/-! the law's words among the tables' -/
set_option maxRecDepth 20000 in
theorem lwi_r1 : ∀ w9 ∈ wsL_law_r1, w9 ∈ lw_tbl := fun w9 h9 => (goodIn_p wsL_law_r1 [60, 63] (by decide +kernel) (by decide +kernel) w9 h9).1
set_option maxRecDepth 20000 in
theorem lwi_r2 : ∀ w9 ∈ wsL_law_r2, w9 ∈ lw_tbl := fun w9 h9 => (goodIn_p wsL_law_r2 [72, 75] (by decide +kernel) (by decide +kernel) w9 h9).1
set_option maxRecDepth 20000 in
theorem lwi_r3 : ∀ w9 ∈ wsL_law_r3, w9 ∈ lw_tbl := fun w9 h9 => (goodIn_p wsL_law_r3 [78, 470] (by decide +kernel) (by decide +kernel) w9 h9).1
set_option maxRecDepth 20000 in
theorem lwi_r4 : ∀ w9 ∈ wsL_law_r4, w9 ∈ lw_tbl := fun w9 h9 => (goodIn_p wsL_law_r4 [143, 557, 561, 148] (by decide +kernel) (by decide +kernel) w9 h9).1
set_option maxRecDepth 20000 in
theorem lwi_r5 : ∀ w9 ∈ wsL_law_r5, w9 ∈ lw_tbl := fun w9 h9 => (goodIn_p wsL_law_r5 [152, 565, 569, 158, 162] (by decide +kernel) (by decide +kernel) w9 h9).1
