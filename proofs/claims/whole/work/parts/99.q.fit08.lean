set_option maxRecDepth 100000 in
theorem k_all_160 : k_all 160 = true := by decide +kernel
set_option maxRecDepth 100000 in
theorem k_all_161 : k_all 161 = true := by decide +kernel
set_option maxRecDepth 100000 in
theorem k_all_162 : k_all 162 = true := by decide +kernel
set_option maxRecDepth 100000 in
theorem k_all_163 : k_all 163 = true := by decide +kernel
set_option maxRecDepth 100000 in
theorem k_all_164 : k_all 164 = true := by decide +kernel
set_option maxRecDepth 100000 in
theorem k_all_165 : k_all 165 = true := by decide +kernel
set_option maxRecDepth 100000 in
theorem k_all_166 : k_all 166 = true := by decide +kernel
set_option maxRecDepth 100000 in
theorem k_all_167 : k_all 167 = true := by decide +kernel
set_option maxRecDepth 100000 in
theorem k_all_168 : k_all 168 = true := by decide +kernel
set_option maxRecDepth 100000 in
theorem k_all_169 : k_all 169 = true := by decide +kernel
set_option maxRecDepth 100000 in
theorem k_all_170 : k_all 170 = true := by decide +kernel
set_option maxRecDepth 100000 in
theorem k_all_171 : k_all 171 = true := by decide +kernel
set_option maxRecDepth 100000 in
theorem k_all_172 : k_all 172 = true := by decide +kernel
set_option maxRecDepth 100000 in
theorem k_all_173 : k_all 173 = true := by decide +kernel
set_option maxRecDepth 100000 in
theorem k_all_174 : k_all 174 = true := by decide +kernel
set_option maxRecDepth 100000 in
theorem k_all_175 : k_all 175 = true := by decide +kernel
set_option maxRecDepth 100000 in
theorem k_all_176 : k_all 176 = true := by decide +kernel
set_option maxRecDepth 100000 in
theorem k_all_177 : k_all 177 = true := by decide +kernel
set_option maxRecDepth 100000 in
theorem k_all_178 : k_all 178 = true := by decide +kernel
set_option maxRecDepth 100000 in
theorem k_all_179 : k_all 179 = true := by decide +kernel
