set_option maxRecDepth 100000 in
theorem k_all_140 : k_all 140 = true := by decide +kernel
set_option maxRecDepth 100000 in
theorem k_all_141 : k_all 141 = true := by decide +kernel
set_option maxRecDepth 100000 in
theorem k_all_142 : k_all 142 = true := by decide +kernel
set_option maxRecDepth 100000 in
theorem k_all_143 : k_all 143 = true := by decide +kernel
set_option maxRecDepth 100000 in
theorem k_all_144 : k_all 144 = true := by decide +kernel
set_option maxRecDepth 100000 in
theorem k_all_145 : k_all 145 = true := by decide +kernel
set_option maxRecDepth 100000 in
theorem k_all_146 : k_all 146 = true := by decide +kernel
set_option maxRecDepth 100000 in
theorem k_all_147 : k_all 147 = true := by decide +kernel
set_option maxRecDepth 100000 in
theorem k_all_148 : k_all 148 = true := by decide +kernel
set_option maxRecDepth 100000 in
theorem k_all_149 : k_all 149 = true := by decide +kernel
set_option maxRecDepth 100000 in
theorem k_all_150 : k_all 150 = true := by decide +kernel
set_option maxRecDepth 100000 in
theorem k_all_151 : k_all 151 = true := by decide +kernel
set_option maxRecDepth 100000 in
theorem k_all_152 : k_all 152 = true := by decide +kernel
set_option maxRecDepth 100000 in
theorem k_all_153 : k_all 153 = true := by decide +kernel
set_option maxRecDepth 100000 in
theorem k_all_154 : k_all 154 = true := by decide +kernel
set_option maxRecDepth 100000 in
theorem k_all_155 : k_all 155 = true := by decide +kernel
set_option maxRecDepth 100000 in
theorem k_all_156 : k_all 156 = true := by decide +kernel
set_option maxRecDepth 100000 in
theorem k_all_157 : k_all 157 = true := by decide +kernel
set_option maxRecDepth 100000 in
theorem k_all_158 : k_all 158 = true := by decide +kernel
set_option maxRecDepth 100000 in
theorem k_all_159 : k_all 159 = true := by decide +kernel
