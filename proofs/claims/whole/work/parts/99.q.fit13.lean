set_option maxRecDepth 100000 in
theorem k_law_30 : k_fit 197 (n_lb 197 30) (m_bl 197 30) = true := by decide +kernel
set_option maxRecDepth 100000 in
theorem k_law_31 : k_fit 197 (n_lb 197 31) (m_bl 197 31) = true := by decide +kernel
set_option maxRecDepth 100000 in
theorem k_law_32 : k_fit 197 (n_lb 197 32) (m_bl 197 32) = true := by decide +kernel
set_option maxRecDepth 100000 in
theorem k_law_33 : k_fit 197 (n_lb 197 33) (m_bl 197 33) = true := by decide +kernel
set_option maxRecDepth 100000 in
theorem k_law_34 : k_fit 197 (n_lb 197 34) (m_bl 197 34) = true := by decide +kernel
set_option maxRecDepth 100000 in
theorem k_law_35 : k_fit 197 (n_lb 197 35) (m_bl 197 35) = true := by decide +kernel
set_option maxRecDepth 100000 in
theorem k_law_36 : k_fit 197 (n_lb 197 36) (m_bl 197 36) = true := by decide +kernel
set_option maxRecDepth 100000 in
theorem k_law_37 : k_fit 197 (n_lb 197 37) (m_bl 197 37) = true := by decide +kernel
set_option maxRecDepth 100000 in
theorem k_law_38 : k_fit 197 (n_lb 197 38) (m_bl 197 38) = true := by decide +kernel
