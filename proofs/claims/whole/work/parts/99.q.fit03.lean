set_option maxRecDepth 100000 in
theorem k_all_60 : k_all 60 = true := by decide +kernel
set_option maxRecDepth 100000 in
theorem k_all_61 : k_all 61 = true := by decide +kernel
set_option maxRecDepth 100000 in
theorem k_all_62 : k_all 62 = true := by decide +kernel
set_option maxRecDepth 100000 in
theorem k_all_63 : k_all 63 = true := by decide +kernel
set_option maxRecDepth 100000 in
theorem k_all_64 : k_all 64 = true := by decide +kernel
set_option maxRecDepth 100000 in
theorem k_all_65 : k_all 65 = true := by decide +kernel
set_option maxRecDepth 100000 in
theorem k_all_66 : k_all 66 = true := by decide +kernel
set_option maxRecDepth 100000 in
theorem k_all_67 : k_all 67 = true := by decide +kernel
set_option maxRecDepth 100000 in
theorem k_all_68 : k_all 68 = true := by decide +kernel
set_option maxRecDepth 100000 in
theorem k_all_69 : k_all 69 = true := by decide +kernel
set_option maxRecDepth 100000 in
theorem k_all_70 : k_all 70 = true := by decide +kernel
set_option maxRecDepth 100000 in
theorem k_all_71 : k_all 71 = true := by decide +kernel
set_option maxRecDepth 100000 in
theorem k_all_72 : k_all 72 = true := by decide +kernel
set_option maxRecDepth 100000 in
theorem k_all_73 : k_all 73 = true := by decide +kernel
set_option maxRecDepth 100000 in
theorem k_all_74 : k_all 74 = true := by decide +kernel
set_option maxRecDepth 100000 in
theorem k_all_75 : k_all 75 = true := by decide +kernel
set_option maxRecDepth 100000 in
theorem k_all_76 : k_all 76 = true := by decide +kernel
set_option maxRecDepth 100000 in
theorem k_all_77 : k_all 77 = true := by decide +kernel
set_option maxRecDepth 100000 in
theorem k_all_78 : k_all 78 = true := by decide +kernel
set_option maxRecDepth 100000 in
theorem k_all_79 : k_all 79 = true := by decide +kernel
