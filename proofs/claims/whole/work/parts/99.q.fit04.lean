set_option maxRecDepth 100000 in
theorem k_all_80 : k_all 80 = true := by decide +kernel
set_option maxRecDepth 100000 in
theorem k_all_81 : k_all 81 = true := by decide +kernel
set_option maxRecDepth 100000 in
theorem k_all_82 : k_all 82 = true := by decide +kernel
set_option maxRecDepth 100000 in
theorem k_all_83 : k_all 83 = true := by decide +kernel
set_option maxRecDepth 100000 in
theorem k_all_84 : k_all 84 = true := by decide +kernel
set_option maxRecDepth 100000 in
theorem k_all_85 : k_all 85 = true := by decide +kernel
set_option maxRecDepth 100000 in
theorem k_all_86 : k_all 86 = true := by decide +kernel
set_option maxRecDepth 100000 in
theorem k_all_87 : k_all 87 = true := by decide +kernel
set_option maxRecDepth 100000 in
theorem k_all_88 : k_all 88 = true := by decide +kernel
set_option maxRecDepth 100000 in
theorem k_all_89 : k_all 89 = true := by decide +kernel
set_option maxRecDepth 100000 in
theorem k_all_90 : k_all 90 = true := by decide +kernel
set_option maxRecDepth 100000 in
theorem k_all_91 : k_all 91 = true := by decide +kernel
set_option maxRecDepth 100000 in
theorem k_all_92 : k_all 92 = true := by decide +kernel
set_option maxRecDepth 100000 in
theorem k_all_93 : k_all 93 = true := by decide +kernel
set_option maxRecDepth 100000 in
theorem k_all_94 : k_all 94 = true := by decide +kernel
set_option maxRecDepth 100000 in
theorem k_all_95 : k_all 95 = true := by decide +kernel
set_option maxRecDepth 100000 in
theorem k_all_96 : k_all 96 = true := by decide +kernel
set_option maxRecDepth 100000 in
theorem k_all_97 : k_all 97 = true := by decide +kernel
set_option maxRecDepth 100000 in
theorem k_all_98 : k_all 98 = true := by decide +kernel
set_option maxRecDepth 100000 in
theorem k_all_99 : k_all 99 = true := by decide +kernel
