/-! the law's words among the tables' -/
set_option maxRecDepth 20000 in
theorem lwi_r6 : ∀ w9 ∈ wsL_law_r6, w9 ∈ lw_tbl := fun w9 h9 => (goodIn_p wsL_law_r6 [165, 575, 169, 579] (by decide +kernel) (by decide +kernel) w9 h9).1
set_option maxRecDepth 20000 in
theorem lwi_r7 : ∀ w9 ∈ wsL_law_r7, w9 ∈ lw_tbl := fun w9 h9 => (goodIn_p wsL_law_r7 [177, 181, 185, 189, 192, 195, 199] (by decide +kernel) (by decide +kernel) w9 h9).1
set_option maxRecDepth 20000 in
theorem lwi_r8 : ∀ w9 ∈ wsL_law_r8, w9 ∈ lw_tbl := fun w9 h9 => (goodIn_p wsL_law_r8 [203, 206, 209, 213, 216, 220] (by decide +kernel) (by decide +kernel) w9 h9).1
set_option maxRecDepth 20000 in
theorem lwi_r9 : ∀ w9 ∈ wsL_law_r9, w9 ∈ lw_tbl := fun w9 h9 => (goodIn_p wsL_law_r9 [226, 229, 232, 586, 590, 596] (by decide +kernel) (by decide +kernel) w9 h9).1
set_option maxRecDepth 20000 in
theorem lwi_r10 : ∀ w9 ∈ wsL_law_r10, w9 ∈ lw_tbl := fun w9 h9 => (goodIn_p wsL_law_r10 [599, 236, 240, 244, 247, 251, 254] (by decide +kernel) (by decide +kernel) w9 h9).1
