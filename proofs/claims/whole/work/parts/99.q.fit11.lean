set_option maxRecDepth 100000 in
theorem k_law_10 : k_fit 197 (n_lb 197 10) (m_bl 197 10) = true := by decide +kernel
set_option maxRecDepth 100000 in
theorem k_law_11 : k_fit 197 (n_lb 197 11) (m_bl 197 11) = true := by decide +kernel
set_option maxRecDepth 100000 in
theorem k_law_12 : k_fit 197 (n_lb 197 12) (m_bl 197 12) = true := by decide +kernel
set_option maxRecDepth 100000 in
theorem k_law_13 : k_fit 197 (n_lb 197 13) (m_bl 197 13) = true := by decide +kernel
set_option maxRecDepth 100000 in
theorem k_law_14 : k_fit 197 (n_lb 197 14) (m_bl 197 14) = true := by decide +kernel
set_option maxRecDepth 100000 in
theorem k_law_15 : k_fit 197 (n_lb 197 15) (m_bl 197 15) = true := by decide +kernel
set_option maxRecDepth 100000 in
theorem k_law_16 : k_fit 197 (n_lb 197 16) (m_bl 197 16) = true := by decide +kernel
set_option maxRecDepth 100000 in
theorem k_law_17 : k_fit 197 (n_lb 197 17) (m_bl 197 17) = true := by decide +kernel
set_option maxRecDepth 100000 in
theorem k_law_18 : k_fit 197 (n_lb 197 18) (m_bl 197 18) = true := by decide +kernel
set_option maxRecDepth 100000 in
theorem k_law_19 : k_fit 197 (n_lb 197 19) (m_bl 197 19) = true := by decide +kernel
