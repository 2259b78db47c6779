set_option maxRecDepth 100000 in
theorem k_law_0 : k_fit 197 (n_lb 197 0) (m_bl 197 0) = true := by decide +kernel
set_option maxRecDepth 100000 in
theorem k_law_1 : k_fit 197 (n_lb 197 1) (m_bl 197 1) = true := by decide +kernel
set_option maxRecDepth 100000 in
theorem k_law_2 : k_fit 197 (n_lb 197 2) (m_bl 197 2) = true := by decide +kernel
set_option maxRecDepth 100000 in
theorem k_law_3 : k_fit 197 (n_lb 197 3) (m_bl 197 3) = true := by decide +kernel
set_option maxRecDepth 100000 in
theorem k_law_4 : k_fit 197 (n_lb 197 4) (m_bl 197 4) = true := by decide +kernel
set_option maxRecDepth 100000 in
theorem k_law_5 : k_fit 197 (n_lb 197 5) (m_bl 197 5) = true := by decide +kernel
set_option maxRecDepth 100000 in
theorem k_law_6 : k_fit 197 (n_lb 197 6) (m_bl 197 6) = true := by decide +kernel
set_option maxRecDepth 100000 in
theorem k_law_7 : k_fit 197 (n_lb 197 7) (m_bl 197 7) = true := by decide +kernel
set_option maxRecDepth 100000 in
theorem k_law_8 : k_fit 197 (n_lb 197 8) (m_bl 197 8) = true := by decide +kernel
set_option maxRecDepth 100000 in
theorem k_law_9 : k_fit 197 (n_lb 197 9) (m_bl 197 9) = true := by decide +kernel
