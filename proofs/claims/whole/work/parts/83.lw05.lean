/-! the law's words among the tables' -/
set_option maxRecDepth 20000 in
theorem lwi_Jx4a65c0 : ∀ w9 ∈ wsJx4a65c0, w9 ∈ lw_tbl := fun w9 h9 => (goodIn_p wsJx4a65c0 [] (by decide +kernel) (by decide +kernel) w9 h9).1
set_option maxRecDepth 20000 in
theorem lwi_X00 : ∀ w9 ∈ wsX00, w9 ∈ lw_tbl := fun w9 h9 => (goodIn_p wsX00 [] (by decide +kernel) (by decide +kernel) w9 h9).1
