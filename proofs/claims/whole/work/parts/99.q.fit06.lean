set_option maxRecDepth 100000 in
theorem k_all_120 : k_all 120 = true := by decide +kernel
set_option maxRecDepth 100000 in
theorem k_all_121 : k_all 121 = true := by decide +kernel
set_option maxRecDepth 100000 in
theorem k_all_122 : k_all 122 = true := by decide +kernel
set_option maxRecDepth 100000 in
theorem k_all_123 : k_all 123 = true := by decide +kernel
set_option maxRecDepth 100000 in
theorem k_all_124 : k_all 124 = true := by decide +kernel
set_option maxRecDepth 100000 in
theorem k_all_125 : k_all 125 = true := by decide +kernel
set_option maxRecDepth 100000 in
theorem k_all_126 : k_all 126 = true := by decide +kernel
set_option maxRecDepth 100000 in
theorem k_all_127 : k_all 127 = true := by decide +kernel
set_option maxRecDepth 100000 in
theorem k_all_128 : k_all 128 = true := by decide +kernel
set_option maxRecDepth 100000 in
theorem k_all_129 : k_all 129 = true := by decide +kernel
set_option maxRecDepth 100000 in
theorem k_all_130 : k_all 130 = true := by decide +kernel
set_option maxRecDepth 100000 in
theorem k_all_131 : k_all 131 = true := by decide +kernel
set_option maxRecDepth 100000 in
theorem k_all_132 : k_all 132 = true := by decide +kernel
set_option maxRecDepth 100000 in
theorem k_all_133 : k_all 133 = true := by decide +kernel
set_option maxRecDepth 100000 in
theorem k_all_134 : k_all 134 = true := by decide +kernel
set_option maxRecDepth 100000 in
theorem k_all_135 : k_all 135 = true := by decide +kernel
set_option maxRecDepth 100000 in
theorem k_all_136 : k_all 136 = true := by decide +kernel
set_option maxRecDepth 100000 in
theorem k_all_137 : k_all 137 = true := by decide +kernel
set_option maxRecDepth 100000 in
theorem k_all_138 : k_all 138 = true := by decide +kernel
set_option maxRecDepth 100000 in
theorem k_all_139 : k_all 139 = true := by decide +kernel
