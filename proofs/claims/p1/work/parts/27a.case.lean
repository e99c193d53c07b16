set_option maxRecDepth 100000 in
theorem pj_c_dflt : ∀ c ∈ ([44, 45, 46, 47, 48, 49, 50, 51, 52, 53, 54, 55, 56, 57, 58, 59, 60, 61, 62, 63] : List Int32), pj_chk c [] = true := by decide +kernel
set_option maxRecDepth 100000 in
theorem pj_c_no1 : ∀ c ∈ ([2, 3, 4, 5, 15] : List Int32), pj_chk c [] = true := by decide +kernel
set_option maxRecDepth 100000 in
theorem pj_c_no2 : ∀ c ∈ ([16, 21, 24, 25, 27] : List Int32), pj_chk c [] = true := by decide +kernel
set_option maxRecDepth 100000 in
theorem pj_c_no3 : ∀ c ∈ ([32, 33, 34, 38] : List Int32), pj_chk c [] = true := by decide +kernel
