set_option maxRecDepth 100000 in
theorem k_all_180 : k_all 180 = true := by decide +kernel
set_option maxRecDepth 100000 in
theorem k_all_181 : k_all 181 = true := by decide +kernel
set_option maxRecDepth 100000 in
theorem k_all_182 : k_all 182 = true := by decide +kernel
set_option maxRecDepth 100000 in
theorem k_all_183 : k_all 183 = true := by decide +kernel
set_option maxRecDepth 100000 in
theorem k_all_184 : k_all 184 = true := by decide +kernel
set_option maxRecDepth 100000 in
theorem k_all_185 : k_all 185 = true := by decide +kernel
set_option maxRecDepth 100000 in
theorem k_all_186 : k_all 186 = true := by decide +kernel
set_option maxRecDepth 100000 in
theorem k_all_187 : k_all 187 = true := by decide +kernel
set_option maxRecDepth 100000 in
theorem k_all_188 : k_all 188 = true := by decide +kernel
set_option maxRecDepth 100000 in
theorem k_all_189 : k_all 189 = true := by decide +kernel
set_option maxRecDepth 100000 in
theorem k_all_190 : k_all 190 = true := by decide +kernel
set_option maxRecDepth 100000 in
theorem k_all_191 : k_all 191 = true := by decide +kernel
set_option maxRecDepth 100000 in
theorem k_all_192 : k_all 192 = true := by decide +kernel
set_option maxRecDepth 100000 in
theorem k_all_193 : k_all 193 = true := by decide +kernel
set_option maxRecDepth 100000 in
theorem k_all_194 : k_all 194 = true := by decide +kernel
set_option maxRecDepth 100000 in
theorem k_all_195 : k_all 195 = true := by decide +kernel
set_option maxRecDepth 100000 in
theorem k_all_196 : k_all 196 = true := by decide +kernel
