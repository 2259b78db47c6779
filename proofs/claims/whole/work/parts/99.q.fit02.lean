set_option maxRecDepth 100000 in
theorem k_all_40 : k_all 40 = true := by decide +kernel
set_option maxRecDepth 100000 in
theorem k_all_41 : k_all 41 = true := by decide +kernel
set_option maxRecDepth 100000 in
theorem k_all_42 : k_all 42 = true := by decide +kernel
set_option maxRecDepth 100000 in
theorem k_all_43 : k_all 43 = true := by decide +kernel
set_option maxRecDepth 100000 in
theorem k_all_44 : k_all 44 = true := by decide +kernel
set_option maxRecDepth 100000 in
theorem k_all_45 : k_all 45 = true := by decide +kernel
set_option maxRecDepth 100000 in
theorem k_all_46 : k_all 46 = true := by decide +kernel
set_option maxRecDepth 100000 in
theorem k_all_47 : k_all 47 = true := by decide +kernel
set_option maxRecDepth 100000 in
theorem k_all_48 : k_all 48 = true := by decide +kernel
set_option maxRecDepth 100000 in
theorem k_all_49 : k_all 49 = true := by decide +kernel
set_option maxRecDepth 100000 in
theorem k_all_50 : k_all 50 = true := by decide +kernel
set_option maxRecDepth 100000 in
theorem k_all_51 : k_all 51 = true := by decide +kernel
set_option maxRecDepth 100000 in
theorem k_all_52 : k_all 52 = true := by decide +kernel
set_option maxRecDepth 100000 in
theorem k_all_53 : k_all 53 = true := by decide +kernel
set_option maxRecDepth 100000 in
theorem k_all_54 : k_all 54 = true := by decide +kernel
set_option maxRecDepth 100000 in
theorem k_all_55 : k_all 55 = true := by decide +kernel
set_option maxRecDepth 100000 in
theorem k_all_56 : k_all 56 = true := by decide +kernel
set_option maxRecDepth 100000 in
theorem k_all_57 : k_all 57 = true := by decide +kernel
set_option maxRecDepth 100000 in
theorem k_all_58 : k_all 58 = true := by decide +kernel
set_option maxRecDepth 100000 in
theorem k_all_59 : k_all 59 = true := by decide +kernel
