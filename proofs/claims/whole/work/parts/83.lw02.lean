/-! the law's words among the tables' -/
set_option maxRecDepth 20000 in
theorem lwi_r11 : ∀ w9 ∈ wsL_law_r11, w9 ∈ lw_tbl := fun w9 h9 => (goodIn_p wsL_law_r11 [257, 261, 264, 268, 272, 603] (by decide +kernel) (by decide +kernel) w9 h9).1
set_option maxRecDepth 20000 in
theorem lwi_r12 : ∀ w9 ∈ wsL_law_r12, w9 ∈ lw_tbl := fun w9 h9 => (goodIn_p wsL_law_r12 [607, 611, 615, 620, 276, 321] (by decide +kernel) (by decide +kernel) w9 h9).1
set_option maxRecDepth 20000 in
theorem lwi_r13 : ∀ w9 ∈ wsL_law_r13, w9 ∈ lw_tbl := fun w9 h9 => (goodIn_p wsL_law_r13 [324, 280, 284, 288, 291, 295] (by decide +kernel) (by decide +kernel) w9 h9).1
set_option maxRecDepth 20000 in
theorem lwi_r14 : ∀ w9 ∈ wsL_law_r14, w9 ∈ lw_tbl := fun w9 h9 => (goodIn_p wsL_law_r14 [299, 303, 307, 310, 313, 317] (by decide +kernel) (by decide +kernel) w9 h9).1
set_option maxRecDepth 20000 in
theorem lwi_r15 : ∀ w9 ∈ wsL_law_r15, w9 ∈ lw_tbl := fun w9 h9 => (goodIn_p wsL_law_r15 [328, 333, 367] (by decide +kernel) (by decide +kernel) w9 h9).1
