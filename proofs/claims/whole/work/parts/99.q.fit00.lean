set_option maxRecDepth 100000 in
theorem k_all_0 : k_all 0 = true := by decide +kernel
set_option maxRecDepth 100000 in
theorem k_all_1 : k_all 1 = true := by decide +kernel
set_option maxRecDepth 100000 in
theorem k_all_2 : k_all 2 = true := by decide +kernel
set_option maxRecDepth 100000 in
theorem k_all_3 : k_all 3 = true := by decide +kernel
set_option maxRecDepth 100000 in
theorem k_all_4 : k_all 4 = true := by decide +kernel
set_option maxRecDepth 100000 in
theorem k_all_5 : k_all 5 = true := by decide +kernel
set_option maxRecDepth 100000 in
theorem k_all_6 : k_all 6 = true := by decide +kernel
set_option maxRecDepth 100000 in
theorem k_all_7 : k_all 7 = true := by decide +kernel
set_option maxRecDepth 100000 in
theorem k_all_8 : k_all 8 = true := by decide +kernel
set_option maxRecDepth 100000 in
theorem k_all_9 : k_all 9 = true := by decide +kernel
set_option maxRecDepth 100000 in
theorem k_all_10 : k_all 10 = true := by decide +kernel
set_option maxRecDepth 100000 in
theorem k_all_11 : k_all 11 = true := by decide +kernel
set_option maxRecDepth 100000 in
theorem k_all_12 : k_all 12 = true := by decide +kernel
set_option maxRecDepth 100000 in
theorem k_all_13 : k_all 13 = true := by decide +kernel
set_option maxRecDepth 100000 in
theorem k_all_14 : k_all 14 = true := by decide +kernel
set_option maxRecDepth 100000 in
theorem k_all_15 : k_all 15 = true := by decide +kernel
set_option maxRecDepth 100000 in
theorem k_all_16 : k_all 16 = true := by decide +kernel
set_option maxRecDepth 100000 in
theorem k_all_17 : k_all 17 = true := by decide +kernel
set_option maxRecDepth 100000 in
theorem k_all_18 : k_all 18 = true := by decide +kernel
set_option maxRecDepth 100000 in
theorem k_all_19 : k_all 19 = true := by decide +kernel
