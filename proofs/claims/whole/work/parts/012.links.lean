theorem m_il_ok_2 : m_il_2.all m_ilc = true := by decide +kernel
theorem m_il_ok_3 : m_il_3.all m_ilc = true := by decide +kernel
theorem m_il_ok_4 : m_il_4.all m_ilc = true := by decide +kernel
