set_option maxRecDepth 100000 in
theorem lq_keeps : lx_cb 985 1 138 141 1162 1975 24 122 316 = true := by decide +kernel
set_option maxRecDepth 100000 in
theorem lk_keeps : ia_all 24 122 ([[(0, 2147483648), (2147483649, 2147483847), (2147483848, 4294967295)]] : List (List (Nat × Nat))) [] = true := by decide +kernel
set_option maxRecDepth 100000 in
theorem lc_keeps : ([[(0, 2147483648), (2147483649, 2147483847), (2147483848, 4294967295)]] : List (List (Nat × Nat))).all (fun qs => ia_cov qs 0) = true := by decide +kernel
