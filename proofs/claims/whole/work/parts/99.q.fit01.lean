set_option maxRecDepth 100000 in
theorem k_all_20 : k_all 20 = true := by decide +kernel
set_option maxRecDepth 100000 in
theorem k_all_21 : k_all 21 = true := by decide +kernel
set_option maxRecDepth 100000 in
theorem k_all_22 : k_all 22 = true := by decide +kernel
set_option maxRecDepth 100000 in
theorem k_all_23 : k_all 23 = true := by decide +kernel
set_option maxRecDepth 100000 in
theorem k_all_24 : k_all 24 = true := by decide +kernel
set_option maxRecDepth 100000 in
theorem k_all_25 : k_all 25 = true := by decide +kernel
set_option maxRecDepth 100000 in
theorem k_all_26 : k_all 26 = true := by decide +kernel
set_option maxRecDepth 100000 in
theorem k_all_27 : k_all 27 = true := by decide +kernel
set_option maxRecDepth 100000 in
theorem k_all_28 : k_all 28 = true := by decide +kernel
set_option maxRecDepth 100000 in
theorem k_all_29 : k_all 29 = true := by decide +kernel
set_option maxRecDepth 100000 in
theorem k_all_30 : k_all 30 = true := by decide +kernel
set_option maxRecDepth 100000 in
theorem k_all_31 : k_all 31 = true := by decide +kernel
set_option maxRecDepth 100000 in
theorem k_all_32 : k_all 32 = true := by decide +kernel
set_option maxRecDepth 100000 in
theorem k_all_33 : k_all 33 = true := by decide +kernel
set_option maxRecDepth 100000 in
theorem k_all_34 : k_all 34 = true := by decide +kernel
set_option maxRecDepth 100000 in
theorem k_all_35 : k_all 35 = true := by decide +kernel
set_option maxRecDepth 100000 in
theorem k_all_36 : k_all 36 = true := by decide +kernel
set_option maxRecDepth 100000 in
theorem k_all_37 : k_all 37 = true := by decide +kernel
set_option maxRecDepth 100000 in
theorem k_all_38 : k_all 38 = true := by decide +kernel
set_option maxRecDepth 100000 in
theorem k_all_39 : k_all 39 = true := by decide +kernel
