theorem m_il_ok_0 : m_il_0.all m_ilc = true := by decide +kernel
