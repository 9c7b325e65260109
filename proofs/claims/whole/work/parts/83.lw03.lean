/-! the law's words among the tables' -/
set_option maxRecDepth 20000 in
theorem lwi_r16 : ∀ w9 ∈ wsL_law_r16, w9 ∈ lw_tbl := fun w9 h9 => (goodIn_p wsL_law_r16 [371, 375, 379, 382, 387] (by decide +kernel) (by decide +kernel) w9 h9).1
set_option maxRecDepth 20000 in
theorem lwi_r17 : ∀ w9 ∈ wsL_law_r17, w9 ∈ lw_tbl := fun w9 h9 => (goodIn_p wsL_law_r17 [390, 401, 624] (by decide +kernel) (by decide +kernel) w9 h9).1
set_option maxRecDepth 20000 in
theorem lwi_r18 : ∀ w9 ∈ wsL_law_r18, w9 ∈ lw_tbl := fun w9 h9 => (goodIn_p wsL_law_r18 [628, 632, 636, 640, 644] (by decide +kernel) (by decide +kernel) w9 h9).1
set_option maxRecDepth 20000 in
theorem lwi_r19 : ∀ w9 ∈ wsL_law_r19, w9 ∈ lw_tbl := fun w9 h9 => (goodIn_p wsL_law_r19 [414, 653, 418, 422, 657, 426] (by decide +kernel) (by decide +kernel) w9 h9).1
set_option maxRecDepth 20000 in
theorem lwi_r20 : ∀ w9 ∈ wsL_law_r20, w9 ∈ lw_tbl := fun w9 h9 => (goodIn_p wsL_law_r20 [661, 430, 665, 669, 434, 673] (by decide +kernel) (by decide +kernel) w9 h9).1
