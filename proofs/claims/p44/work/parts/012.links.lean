theorem m_il_ok_1 : m_il_1.all m_ilc = true := by decide +kernel
