set_option maxRecDepth 100000 in
theorem k_law_20 : k_fit 197 (n_lb 197 20) (m_bl 197 20) = true := by decide +kernel
set_option maxRecDepth 100000 in
theorem k_law_21 : k_fit 197 (n_lb 197 21) (m_bl 197 21) = true := by decide +kernel
set_option maxRecDepth 100000 in
theorem k_law_22 : k_fit 197 (n_lb 197 22) (m_bl 197 22) = true := by decide +kernel
set_option maxRecDepth 100000 in
theorem k_law_23 : k_fit 197 (n_lb 197 23) (m_bl 197 23) = true := by decide +kernel
set_option maxRecDepth 100000 in
theorem k_law_24 : k_fit 197 (n_lb 197 24) (m_bl 197 24) = true := by decide +kernel
set_option maxRecDepth 100000 in
theorem k_law_25 : k_fit 197 (n_lb 197 25) (m_bl 197 25) = true := by decide +kernel
set_option maxRecDepth 100000 in
theorem k_law_26 : k_fit 197 (n_lb 197 26) (m_bl 197 26) = true := by decide +kernel
set_option maxRecDepth 100000 in
theorem k_law_27 : k_fit 197 (n_lb 197 27) (m_bl 197 27) = true := by decide +kernel
set_option maxRecDepth 100000 in
theorem k_law_28 : k_fit 197 (n_lb 197 28) (m_bl 197 28) = true := by decide +kernel
set_option maxRecDepth 100000 in
theorem k_law_29 : k_fit 197 (n_lb 197 29) (m_bl 197 29) = true := by decide +kernel
