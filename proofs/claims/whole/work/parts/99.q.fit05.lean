set_option maxRecDepth 100000 in
theorem k_all_100 : k_all 100 = true := by decide +kernel
set_option maxRecDepth 100000 in
theorem k_all_101 : k_all 101 = true := by decide +kernel
set_option maxRecDepth 100000 in
theorem k_all_102 : k_all 102 = true := by decide +kernel
set_option maxRecDepth 100000 in
theorem k_all_103 : k_all 103 = true := by decide +kernel
set_option maxRecDepth 100000 in
theorem k_all_104 : k_all 104 = true := by decide +kernel
set_option maxRecDepth 100000 in
theorem k_all_105 : k_all 105 = true := by decide +kernel
set_option maxRecDepth 100000 in
theorem k_all_106 : k_all 106 = true := by decide +kernel
set_option maxRecDepth 100000 in
theorem k_all_107 : k_all 107 = true := by decide +kernel
set_option maxRecDepth 100000 in
theorem k_all_108 : k_all 108 = true := by decide +kernel
set_option maxRecDepth 100000 in
theorem k_all_109 : k_all 109 = true := by decide +kernel
set_option maxRecDepth 100000 in
theorem k_all_110 : k_all 110 = true := by decide +kernel
set_option maxRecDepth 100000 in
theorem k_all_111 : k_all 111 = true := by decide +kernel
set_option maxRecDepth 100000 in
theorem k_all_112 : k_all 112 = true := by decide +kernel
set_option maxRecDepth 100000 in
theorem k_all_113 : k_all 113 = true := by decide +kernel
set_option maxRecDepth 100000 in
theorem k_all_114 : k_all 114 = true := by decide +kernel
set_option maxRecDepth 100000 in
theorem k_all_115 : k_all 115 = true := by decide +kernel
set_option maxRecDepth 100000 in
theorem k_all_116 : k_all 116 = true := by decide +kernel
set_option maxRecDepth 100000 in
theorem k_all_117 : k_all 117 = true := by decide +kernel
set_option maxRecDepth 100000 in
theorem k_all_118 : k_all 118 = true := by decide +kernel
set_option maxRecDepth 100000 in
theorem k_all_119 : k_all 119 = true := by decide +kernel
