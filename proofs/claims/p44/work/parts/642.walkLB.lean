/-! walks: the law, drawing, who holds what -/
theorem n_159 : m_n 159 = 10 := by decide +kernel
theorem F_159_0 : F 159 0 (.aload_n 0) 1 := ⟨1, by decide +kernel, rfl, rfl⟩
theorem F_159_1 : F 159 1 (.iload_n 1) 2 := ⟨1, by decide +kernel, rfl, rfl⟩
theorem F_159_2 : F 159 2 (.invokestatic 15) 5 := ⟨3, by decide +kernel, rfl, rfl⟩
theorem o_159 : m_o 159 = 6 := by decide +kernel
theorem il_6_15 : ilq 6 15 1 157 2 = true := by decide +kernel
theorem F_159_5 : F 159 5 (.istore 6) 7 := ⟨2, by decide +kernel, rfl, rfl⟩
theorem F_159_7 : F 159 7 (.iconst 0) 8 := ⟨1, by decide +kernel, rfl, rfl⟩
theorem F_159_8 : F 159 8 (.istore 7) 10 := ⟨2, by decide +kernel, rfl, rfl⟩
theorem F_159_10 : F 159 10 (.iload 7) 12 := ⟨2, by decide +kernel, rfl, rfl⟩
theorem F_159_12 : F 159 12 (.iload_n 2) 13 := ⟨1, by decide +kernel, rfl, rfl⟩
theorem F_159_13 : F 159 13 (.if_icmp .ge 58) 16 := ⟨3, by decide +kernel, rfl, rfl⟩
theorem F_159_71 : F 159 71 (.iconst 0) 72 := ⟨1, by decide +kernel, rfl, rfl⟩
theorem F_159_72 : F 159 72 (.istore 7) 74 := ⟨2, by decide +kernel, rfl, rfl⟩
theorem F_159_16 : F 159 16 (.aload_n 3) 17 := ⟨1, by decide +kernel, rfl, rfl⟩
theorem F_159_17 : F 159 17 (.iconst 2) 18 := ⟨1, by decide +kernel, rfl, rfl⟩
theorem F_159_18 : F 159 18 (.iload 7) 20 := ⟨2, by decide +kernel, rfl, rfl⟩
theorem F_159_20 : F 159 20 (.imul) 21 := ⟨1, by decide +kernel, rfl, rfl⟩
theorem F_159_21 : F 159 21 (.iload 6) 23 := ⟨2, by decide +kernel, rfl, rfl⟩
theorem F_159_23 : F 159 23 (.iconst 4) 24 := ⟨1, by decide +kernel, rfl, rfl⟩
theorem F_159_24 : F 159 24 (.iload 7) 26 := ⟨2, by decide +kernel, rfl, rfl⟩
theorem F_159_26 : F 159 26 (.imul) 27 := ⟨1, by decide +kernel, rfl, rfl⟩
theorem F_159_27 : F 159 27 (.ishr) 28 := ⟨1, by decide +kernel, rfl, rfl⟩
theorem F_159_28 : F 159 28 (.iconst 4) 29 := ⟨1, by decide +kernel, rfl, rfl⟩
theorem F_159_29 : F 159 29 (.invokestatic 21) 32 := ⟨3, by decide +kernel, rfl, rfl⟩
theorem il_6_21 : ilq 6 21 1 158 2 = true := by decide +kernel
theorem F_159_32 : F 159 32 (.iastore) 33 := ⟨1, by decide +kernel, rfl, rfl⟩
theorem F_159_33 : F 159 33 (.aload_n 3) 34 := ⟨1, by decide +kernel, rfl, rfl⟩
theorem F_159_34 : F 159 34 (.iconst 2) 35 := ⟨1, by decide +kernel, rfl, rfl⟩
theorem F_159_35 : F 159 35 (.iload 7) 37 := ⟨2, by decide +kernel, rfl, rfl⟩
theorem F_159_37 : F 159 37 (.imul) 38 := ⟨1, by decide +kernel, rfl, rfl⟩
theorem F_159_38 : F 159 38 (.iconst 1) 39 := ⟨1, by decide +kernel, rfl, rfl⟩
theorem F_159_39 : F 159 39 (.iadd) 40 := ⟨1, by decide +kernel, rfl, rfl⟩
theorem F_159_40 : F 159 40 (.aload_n 3) 41 := ⟨1, by decide +kernel, rfl, rfl⟩
theorem F_159_41 : F 159 41 (.iconst 2) 42 := ⟨1, by decide +kernel, rfl, rfl⟩
theorem F_159_42 : F 159 42 (.iload 7) 44 := ⟨2, by decide +kernel, rfl, rfl⟩
theorem F_159_44 : F 159 44 (.imul) 45 := ⟨1, by decide +kernel, rfl, rfl⟩
theorem F_159_45 : F 159 45 (.iaload) 46 := ⟨1, by decide +kernel, rfl, rfl⟩
theorem F_159_46 : F 159 46 (.iconst 1) 47 := ⟨1, by decide +kernel, rfl, rfl⟩
theorem F_159_47 : F 159 47 (.iadd) 48 := ⟨1, by decide +kernel, rfl, rfl⟩
theorem F_159_48 : F 159 48 (.iload 6) 50 := ⟨2, by decide +kernel, rfl, rfl⟩
theorem F_159_50 : F 159 50 (.iconst 4) 51 := ⟨1, by decide +kernel, rfl, rfl⟩
theorem F_159_51 : F 159 51 (.iload 7) 53 := ⟨2, by decide +kernel, rfl, rfl⟩
theorem F_159_53 : F 159 53 (.imul) 54 := ⟨1, by decide +kernel, rfl, rfl⟩
theorem F_159_54 : F 159 54 (.iconst 2) 55 := ⟨1, by decide +kernel, rfl, rfl⟩
theorem F_159_55 : F 159 55 (.iadd) 56 := ⟨1, by decide +kernel, rfl, rfl⟩
theorem F_159_56 : F 159 56 (.ishr) 57 := ⟨1, by decide +kernel, rfl, rfl⟩
theorem F_159_57 : F 159 57 (.iconst 3) 58 := ⟨1, by decide +kernel, rfl, rfl⟩
theorem F_159_58 : F 159 58 (.invokestatic 21) 61 := ⟨3, by decide +kernel, rfl, rfl⟩
theorem F_159_61 : F 159 61 (.iadd) 62 := ⟨1, by decide +kernel, rfl, rfl⟩
theorem F_159_62 : F 159 62 (.iconst 4) 63 := ⟨1, by decide +kernel, rfl, rfl⟩
theorem F_159_63 : F 159 63 (.irem) 64 := ⟨1, by decide +kernel, rfl, rfl⟩
theorem F_159_64 : F 159 64 (.iastore) 65 := ⟨1, by decide +kernel, rfl, rfl⟩
theorem F_159_65 : F 159 65 (.iinc 7 1) 68 := ⟨3, by decide +kernel, rfl, rfl⟩
theorem F_159_68 : F 159 68 (.goto (-58)) 71 := ⟨3, by decide +kernel, rfl, rfl⟩
theorem F_159_74 : F 159 74 (.iload 7) 76 := ⟨2, by decide +kernel, rfl, rfl⟩
theorem F_159_76 : F 159 76 (.iload 4) 78 := ⟨2, by decide +kernel, rfl, rfl⟩
theorem F_159_78 : F 159 78 (.if_icmp .ge 111) 81 := ⟨3, by decide +kernel, rfl, rfl⟩
theorem F_159_189 : F 159 189 (.return_) 190 := ⟨1, by decide +kernel, rfl, rfl⟩
theorem rt_159 : m_r 159 = none := by decide +kernel
theorem F_159_81 : F 159 81 (.aload_n 0) 82 := ⟨1, by decide +kernel, rfl, rfl⟩
theorem F_159_82 : F 159 82 (.iload_n 1) 83 := ⟨1, by decide +kernel, rfl, rfl⟩
theorem F_159_83 : F 159 83 (.iconst 1) 84 := ⟨1, by decide +kernel, rfl, rfl⟩
theorem F_159_84 : F 159 84 (.iadd) 85 := ⟨1, by decide +kernel, rfl, rfl⟩
theorem F_159_85 : F 159 85 (.iload 7) 87 := ⟨2, by decide +kernel, rfl, rfl⟩
theorem F_159_87 : F 159 87 (.iadd) 88 := ⟨1, by decide +kernel, rfl, rfl⟩
theorem F_159_88 : F 159 88 (.invokestatic 15) 91 := ⟨3, by decide +kernel, rfl, rfl⟩
theorem F_159_91 : F 159 91 (.istore 8) 93 := ⟨2, by decide +kernel, rfl, rfl⟩
theorem F_159_93 : F 159 93 (.aload 5) 95 := ⟨2, by decide +kernel, rfl, rfl⟩
theorem F_159_95 : F 159 95 (.iconst 5) 96 := ⟨1, by decide +kernel, rfl, rfl⟩
theorem F_159_96 : F 159 96 (.iload 7) 98 := ⟨2, by decide +kernel, rfl, rfl⟩
theorem F_159_98 : F 159 98 (.imul) 99 := ⟨1, by decide +kernel, rfl, rfl⟩
theorem F_159_99 : F 159 99 (.iload 8) 101 := ⟨2, by decide +kernel, rfl, rfl⟩
theorem F_159_101 : F 159 101 (.bipush 6) 103 := ⟨2, by decide +kernel, rfl, rfl⟩
theorem F_159_103 : F 159 103 (.invokestatic 21) 106 := ⟨3, by decide +kernel, rfl, rfl⟩
theorem F_159_106 : F 159 106 (.iastore) 107 := ⟨1, by decide +kernel, rfl, rfl⟩
theorem F_159_107 : F 159 107 (.iconst 0) 108 := ⟨1, by decide +kernel, rfl, rfl⟩
theorem F_159_108 : F 159 108 (.istore 9) 110 := ⟨2, by decide +kernel, rfl, rfl⟩
theorem F_159_110 : F 159 110 (.iload 9) 112 := ⟨2, by decide +kernel, rfl, rfl⟩
theorem F_159_112 : F 159 112 (.iconst 4) 113 := ⟨1, by decide +kernel, rfl, rfl⟩
theorem F_159_113 : F 159 113 (.if_icmp .ge 70) 116 := ⟨3, by decide +kernel, rfl, rfl⟩
theorem F_159_183 : F 159 183 (.iinc 7 1) 186 := ⟨3, by decide +kernel, rfl, rfl⟩
theorem F_159_186 : F 159 186 (.goto (-112)) 189 := ⟨3, by decide +kernel, rfl, rfl⟩
theorem F_159_116 : F 159 116 (.aload 5) 118 := ⟨2, by decide +kernel, rfl, rfl⟩
theorem F_159_118 : F 159 118 (.iconst 5) 119 := ⟨1, by decide +kernel, rfl, rfl⟩
theorem F_159_119 : F 159 119 (.iload 7) 121 := ⟨2, by decide +kernel, rfl, rfl⟩
theorem F_159_121 : F 159 121 (.imul) 122 := ⟨1, by decide +kernel, rfl, rfl⟩
theorem F_159_122 : F 159 122 (.iconst 1) 123 := ⟨1, by decide +kernel, rfl, rfl⟩
theorem F_159_123 : F 159 123 (.iadd) 124 := ⟨1, by decide +kernel, rfl, rfl⟩
theorem F_159_124 : F 159 124 (.iload 9) 126 := ⟨2, by decide +kernel, rfl, rfl⟩
theorem F_159_126 : F 159 126 (.iadd) 127 := ⟨1, by decide +kernel, rfl, rfl⟩
theorem F_159_127 : F 159 127 (.iload 8) 129 := ⟨2, by decide +kernel, rfl, rfl⟩
theorem F_159_129 : F 159 129 (.iconst 3) 130 := ⟨1, by decide +kernel, rfl, rfl⟩
theorem F_159_130 : F 159 130 (.iconst 5) 131 := ⟨1, by decide +kernel, rfl, rfl⟩
theorem F_159_131 : F 159 131 (.iload 9) 133 := ⟨2, by decide +kernel, rfl, rfl⟩
theorem F_159_133 : F 159 133 (.imul) 134 := ⟨1, by decide +kernel, rfl, rfl⟩
theorem F_159_134 : F 159 134 (.iadd) 135 := ⟨1, by decide +kernel, rfl, rfl⟩
theorem F_159_135 : F 159 135 (.ishr) 136 := ⟨1, by decide +kernel, rfl, rfl⟩
theorem F_159_136 : F 159 136 (.iload 8) 138 := ⟨2, by decide +kernel, rfl, rfl⟩
theorem F_159_138 : F 159 138 (.bipush 25) 140 := ⟨2, by decide +kernel, rfl, rfl⟩
theorem bi_25 : (Int8.ofInt 25).toInt32 = Int32.ofInt 25 := by decide +kernel
theorem F_159_140 : F 159 140 (.ishr) 141 := ⟨1, by decide +kernel, rfl, rfl⟩
theorem F_159_141 : F 159 141 (.iconst 3) 142 := ⟨1, by decide +kernel, rfl, rfl⟩
theorem F_159_142 : F 159 142 (.invokestatic 21) 145 := ⟨3, by decide +kernel, rfl, rfl⟩
theorem F_159_145 : F 159 145 (.ifCond .ne 8) 148 := ⟨3, by decide +kernel, rfl, rfl⟩
theorem F_159_153 : F 159 153 (.iconst 5) 154 := ⟨1, by decide +kernel, rfl, rfl⟩
theorem F_159_154 : F 159 154 (.invokestatic 21) 157 := ⟨3, by decide +kernel, rfl, rfl⟩
theorem F_159_157 : F 159 157 (.iload 8) 159 := ⟨2, by decide +kernel, rfl, rfl⟩
theorem F_159_159 : F 159 159 (.bipush 25) 161 := ⟨2, by decide +kernel, rfl, rfl⟩
theorem F_159_161 : F 159 161 (.ishr) 162 := ⟨1, by decide +kernel, rfl, rfl⟩
theorem F_159_162 : F 159 162 (.iconst 3) 163 := ⟨1, by decide +kernel, rfl, rfl⟩
theorem F_159_163 : F 159 163 (.invokestatic 21) 166 := ⟨3, by decide +kernel, rfl, rfl⟩
theorem F_159_166 : F 159 166 (.iconst 1) 167 := ⟨1, by decide +kernel, rfl, rfl⟩
theorem F_159_167 : F 159 167 (.if_icmp .ne 7) 170 := ⟨3, by decide +kernel, rfl, rfl⟩
theorem F_159_174 : F 159 174 (.iconst 0) 175 := ⟨1, by decide +kernel, rfl, rfl⟩
theorem F_159_175 : F 159 175 (.iadd) 176 := ⟨1, by decide +kernel, rfl, rfl⟩
theorem F_159_176 : F 159 176 (.iastore) 177 := ⟨1, by decide +kernel, rfl, rfl⟩
theorem F_159_177 : F 159 177 (.iinc 9 1) 180 := ⟨3, by decide +kernel, rfl, rfl⟩
theorem F_159_180 : F 159 180 (.goto (-70)) 183 := ⟨3, by decide +kernel, rfl, rfl⟩
theorem F_159_170 : F 159 170 (.iconst 4) 171 := ⟨1, by decide +kernel, rfl, rfl⟩
theorem F_159_171 : F 159 171 (.goto 4) 174 := ⟨3, by decide +kernel, rfl, rfl⟩
theorem F_159_148 : F 159 148 (.bipush 10) 150 := ⟨2, by decide +kernel, rfl, rfl⟩
theorem F_159_150 : F 159 150 (.goto 4) 153 := ⟨3, by decide +kernel, rfl, rfl⟩
theorem n_169 : m_n 169 = 2 := by decide +kernel
theorem F_169_0 : F 169 0 (.aload_n 0) 1 := ⟨1, by decide +kernel, rfl, rfl⟩
theorem F_169_1 : F 169 1 (.iconst 5) 2 := ⟨1, by decide +kernel, rfl, rfl⟩
theorem F_169_2 : F 169 2 (.iload_n 1) 3 := ⟨1, by decide +kernel, rfl, rfl⟩
theorem F_169_3 : F 169 3 (.imul) 4 := ⟨1, by decide +kernel, rfl, rfl⟩
theorem F_169_4 : F 169 4 (.iaload) 5 := ⟨1, by decide +kernel, rfl, rfl⟩
theorem F_169_5 : F 169 5 (.aload_n 0) 6 := ⟨1, by decide +kernel, rfl, rfl⟩
theorem F_169_6 : F 169 6 (.iconst 5) 7 := ⟨1, by decide +kernel, rfl, rfl⟩
theorem F_169_7 : F 169 7 (.iload_n 1) 8 := ⟨1, by decide +kernel, rfl, rfl⟩
theorem F_169_8 : F 169 8 (.imul) 9 := ⟨1, by decide +kernel, rfl, rfl⟩
theorem F_169_9 : F 169 9 (.iconst 1) 10 := ⟨1, by decide +kernel, rfl, rfl⟩
theorem F_169_10 : F 169 10 (.iadd) 11 := ⟨1, by decide +kernel, rfl, rfl⟩
theorem F_169_11 : F 169 11 (.invokestatic 41) 14 := ⟨3, by decide +kernel, rfl, rfl⟩
theorem o_169 : m_o 169 = 6 := by decide +kernel
theorem il_6_41 : ilq 6 41 1 164 3 = true := by decide +kernel
theorem F_169_14 : F 169 14 (.ireturn) 15 := ⟨1, by decide +kernel, rfl, rfl⟩
theorem rt_169 : m_r 169 = (some .int) := by decide +kernel
theorem n_163 : m_n 163 = 4 := by decide +kernel
theorem F_163_0 : F 163 0 (.aload_n 1) 1 := ⟨1, by decide +kernel, rfl, rfl⟩
theorem F_163_1 : F 163 1 (.iload_n 2) 2 := ⟨1, by decide +kernel, rfl, rfl⟩
theorem F_163_2 : F 163 2 (.iconst 4) 3 := ⟨1, by decide +kernel, rfl, rfl⟩
theorem F_163_3 : F 163 3 (.idiv) 4 := ⟨1, by decide +kernel, rfl, rfl⟩
theorem F_163_4 : F 163 4 (.iaload) 5 := ⟨1, by decide +kernel, rfl, rfl⟩
theorem F_163_5 : F 163 5 (.istore_n 3) 6 := ⟨1, by decide +kernel, rfl, rfl⟩
theorem F_163_6 : F 163 6 (.aload_n 0) 7 := ⟨1, by decide +kernel, rfl, rfl⟩
theorem F_163_7 : F 163 7 (.iconst 5) 8 := ⟨1, by decide +kernel, rfl, rfl⟩
theorem F_163_8 : F 163 8 (.iload_n 3) 9 := ⟨1, by decide +kernel, rfl, rfl⟩
theorem F_163_9 : F 163 9 (.imul) 10 := ⟨1, by decide +kernel, rfl, rfl⟩
theorem F_163_10 : F 163 10 (.iaload) 11 := ⟨1, by decide +kernel, rfl, rfl⟩
theorem F_163_11 : F 163 11 (.aload_n 0) 12 := ⟨1, by decide +kernel, rfl, rfl⟩
theorem F_163_12 : F 163 12 (.iconst 5) 13 := ⟨1, by decide +kernel, rfl, rfl⟩
theorem F_163_13 : F 163 13 (.iload_n 3) 14 := ⟨1, by decide +kernel, rfl, rfl⟩
theorem F_163_14 : F 163 14 (.imul) 15 := ⟨1, by decide +kernel, rfl, rfl⟩
theorem F_163_15 : F 163 15 (.iconst 1) 16 := ⟨1, by decide +kernel, rfl, rfl⟩
theorem F_163_16 : F 163 16 (.iadd) 17 := ⟨1, by decide +kernel, rfl, rfl⟩
theorem F_163_17 : F 163 17 (.invokestatic 41) 20 := ⟨3, by decide +kernel, rfl, rfl⟩
theorem o_163 : m_o 163 = 6 := by decide +kernel
theorem F_163_20 : F 163 20 (.iload_n 2) 21 := ⟨1, by decide +kernel, rfl, rfl⟩
theorem F_163_21 : F 163 21 (.iconst 4) 22 := ⟨1, by decide +kernel, rfl, rfl⟩
theorem F_163_22 : F 163 22 (.irem) 23 := ⟨1, by decide +kernel, rfl, rfl⟩
theorem F_163_23 : F 163 23 (.ishr) 24 := ⟨1, by decide +kernel, rfl, rfl⟩
theorem F_163_24 : F 163 24 (.iconst 1) 25 := ⟨1, by decide +kernel, rfl, rfl⟩
theorem F_163_25 : F 163 25 (.iand) 26 := ⟨1, by decide +kernel, rfl, rfl⟩
theorem F_163_26 : F 163 26 (.iconst 1) 27 := ⟨1, by decide +kernel, rfl, rfl⟩
theorem F_163_27 : F 163 27 (.if_icmp .ne 7) 30 := ⟨3, by decide +kernel, rfl, rfl⟩
theorem F_163_34 : F 163 34 (.iconst 0) 35 := ⟨1, by decide +kernel, rfl, rfl⟩
theorem F_163_35 : F 163 35 (.ireturn) 36 := ⟨1, by decide +kernel, rfl, rfl⟩
theorem rt_163 : m_r 163 = (some .boolean) := by decide +kernel
theorem F_163_30 : F 163 30 (.iconst 1) 31 := ⟨1, by decide +kernel, rfl, rfl⟩
theorem F_163_31 : F 163 31 (.goto 4) 34 := ⟨3, by decide +kernel, rfl, rfl⟩
theorem n_167 : m_n 167 = 9 := by decide +kernel
theorem F_167_0 : F 167 0 (.iload_n 2) 1 := ⟨1, by decide +kernel, rfl, rfl⟩
theorem F_167_1 : F 167 1 (.aload_n 3) 2 := ⟨1, by decide +kernel, rfl, rfl⟩
theorem F_167_2 : F 167 2 (.iload 4) 4 := ⟨2, by decide +kernel, rfl, rfl⟩
theorem F_167_4 : F 167 4 (.invokestatic 41) 7 := ⟨3, by decide +kernel, rfl, rfl⟩
theorem o_167 : m_o 167 = 6 := by decide +kernel
theorem F_167_7 : F 167 7 (.istore 6) 9 := ⟨2, by decide +kernel, rfl, rfl⟩
theorem F_167_9 : F 167 9 (.iconst 1) 10 := ⟨1, by decide +kernel, rfl, rfl⟩
theorem F_167_10 : F 167 10 (.istore 7) 12 := ⟨2, by decide +kernel, rfl, rfl⟩
theorem F_167_12 : F 167 12 (.iconst 0) 13 := ⟨1, by decide +kernel, rfl, rfl⟩
theorem F_167_13 : F 167 13 (.istore 8) 15 := ⟨2, by decide +kernel, rfl, rfl⟩
theorem F_167_15 : F 167 15 (.iload 8) 17 := ⟨2, by decide +kernel, rfl, rfl⟩
theorem F_167_17 : F 167 17 (.iconst 4) 18 := ⟨1, by decide +kernel, rfl, rfl⟩
theorem F_167_18 : F 167 18 (.if_icmp .ge 40) 21 := ⟨3, by decide +kernel, rfl, rfl⟩
theorem F_167_21 : F 167 21 (.iload 6) 23 := ⟨2, by decide +kernel, rfl, rfl⟩
theorem F_167_23 : F 167 23 (.iload 8) 25 := ⟨2, by decide +kernel, rfl, rfl⟩
theorem F_167_25 : F 167 25 (.ishr) 26 := ⟨1, by decide +kernel, rfl, rfl⟩
theorem F_167_26 : F 167 26 (.iconst 1) 27 := ⟨1, by decide +kernel, rfl, rfl⟩
theorem F_167_27 : F 167 27 (.iand) 28 := ⟨1, by decide +kernel, rfl, rfl⟩
theorem F_167_28 : F 167 28 (.iconst 1) 29 := ⟨1, by decide +kernel, rfl, rfl⟩
theorem F_167_29 : F 167 29 (.if_icmp .ne 19) 32 := ⟨3, by decide +kernel, rfl, rfl⟩
theorem F_167_48 : F 167 48 (.iload 7) 50 := ⟨2, by decide +kernel, rfl, rfl⟩
theorem F_167_50 : F 167 50 (.istore 7) 52 := ⟨2, by decide +kernel, rfl, rfl⟩
theorem F_167_52 : F 167 52 (.iinc 8 1) 55 := ⟨3, by decide +kernel, rfl, rfl⟩
theorem F_167_55 : F 167 55 (.goto (-40)) 58 := ⟨3, by decide +kernel, rfl, rfl⟩
theorem F_167_32 : F 167 32 (.iload_n 0) 33 := ⟨1, by decide +kernel, rfl, rfl⟩
theorem F_167_33 : F 167 33 (.aload_n 1) 34 := ⟨1, by decide +kernel, rfl, rfl⟩
theorem F_167_34 : F 167 34 (.iload 8) 36 := ⟨2, by decide +kernel, rfl, rfl⟩
theorem F_167_36 : F 167 36 (.iload 5) 38 := ⟨2, by decide +kernel, rfl, rfl⟩
theorem F_167_38 : F 167 38 (.invokestatic 45) 41 := ⟨3, by decide +kernel, rfl, rfl⟩
theorem il_6_45 : ilq 6 45 1 168 4 = true := by decide +kernel
theorem F_167_41 : F 167 41 (.ifCond .eq 7) 44 := ⟨3, by decide +kernel, rfl, rfl⟩
theorem F_167_44 : F 167 44 (.iconst 2) 45 := ⟨1, by decide +kernel, rfl, rfl⟩
theorem F_167_45 : F 167 45 (.goto 5) 48 := ⟨3, by decide +kernel, rfl, rfl⟩
theorem F_167_58 : F 167 58 (.iload_n 2) 59 := ⟨1, by decide +kernel, rfl, rfl⟩
theorem F_167_59 : F 167 59 (.iconst 3) 60 := ⟨1, by decide +kernel, rfl, rfl⟩
theorem F_167_60 : F 167 60 (.if_icmp .ne 15) 63 := ⟨3, by decide +kernel, rfl, rfl⟩
theorem F_167_75 : F 167 75 (.iload_n 2) 76 := ⟨1, by decide +kernel, rfl, rfl⟩
theorem F_167_76 : F 167 76 (.iconst 1) 77 := ⟨1, by decide +kernel, rfl, rfl⟩
theorem F_167_77 : F 167 77 (.if_icmp .eq 8) 80 := ⟨3, by decide +kernel, rfl, rfl⟩
theorem F_167_85 : F 167 85 (.iload 7) 87 := ⟨2, by decide +kernel, rfl, rfl⟩
theorem F_167_87 : F 167 87 (.iconst 1) 88 := ⟨1, by decide +kernel, rfl, rfl⟩
theorem F_167_88 : F 167 88 (.if_icmp .ne 7) 91 := ⟨3, by decide +kernel, rfl, rfl⟩
theorem F_167_95 : F 167 95 (.iload 7) 97 := ⟨2, by decide +kernel, rfl, rfl⟩
theorem F_167_97 : F 167 97 (.goto 22) 100 := ⟨3, by decide +kernel, rfl, rfl⟩
theorem F_167_119 : F 167 119 (.ireturn) 120 := ⟨1, by decide +kernel, rfl, rfl⟩
theorem rt_167 : m_r 167 = (some .int) := by decide +kernel
theorem F_167_91 : F 167 91 (.iconst 0) 92 := ⟨1, by decide +kernel, rfl, rfl⟩
theorem F_167_92 : F 167 92 (.goto 27) 95 := ⟨3, by decide +kernel, rfl, rfl⟩
theorem F_167_80 : F 167 80 (.iload_n 2) 81 := ⟨1, by decide +kernel, rfl, rfl⟩
theorem F_167_81 : F 167 81 (.iconst 4) 82 := ⟨1, by decide +kernel, rfl, rfl⟩
theorem F_167_82 : F 167 82 (.if_icmp .ne 18) 85 := ⟨3, by decide +kernel, rfl, rfl⟩
theorem F_167_100 : F 167 100 (.iload_n 2) 101 := ⟨1, by decide +kernel, rfl, rfl⟩
theorem F_167_101 : F 167 101 (.iconst 2) 102 := ⟨1, by decide +kernel, rfl, rfl⟩
theorem F_167_102 : F 167 102 (.if_icmp .eq 8) 105 := ⟨3, by decide +kernel, rfl, rfl⟩
theorem F_167_110 : F 167 110 (.iload 7) 112 := ⟨2, by decide +kernel, rfl, rfl⟩
theorem F_167_112 : F 167 112 (.iconst 1) 113 := ⟨1, by decide +kernel, rfl, rfl⟩
theorem F_167_113 : F 167 113 (.iadd) 114 := ⟨1, by decide +kernel, rfl, rfl⟩
theorem F_167_114 : F 167 114 (.goto 5) 117 := ⟨3, by decide +kernel, rfl, rfl⟩
theorem F_167_105 : F 167 105 (.iload_n 2) 106 := ⟨1, by decide +kernel, rfl, rfl⟩
theorem F_167_106 : F 167 106 (.iconst 5) 107 := ⟨1, by decide +kernel, rfl, rfl⟩
theorem F_167_107 : F 167 107 (.if_icmp .ne 10) 110 := ⟨3, by decide +kernel, rfl, rfl⟩
theorem F_167_117 : F 167 117 (.iload 7) 119 := ⟨2, by decide +kernel, rfl, rfl⟩
theorem F_167_63 : F 167 63 (.iload 6) 65 := ⟨2, by decide +kernel, rfl, rfl⟩
theorem F_167_65 : F 167 65 (.iload 5) 67 := ⟨2, by decide +kernel, rfl, rfl⟩
theorem F_167_67 : F 167 67 (.ishr) 68 := ⟨1, by decide +kernel, rfl, rfl⟩
theorem F_167_68 : F 167 68 (.iconst 1) 69 := ⟨1, by decide +kernel, rfl, rfl⟩
theorem F_167_69 : F 167 69 (.iand) 70 := ⟨1, by decide +kernel, rfl, rfl⟩
theorem F_167_70 : F 167 70 (.ifCond .ne 5) 73 := ⟨3, by decide +kernel, rfl, rfl⟩
theorem F_167_73 : F 167 73 (.iconst (-1)) 74 := ⟨1, by decide +kernel, rfl, rfl⟩
theorem F_167_74 : F 167 74 (.ireturn) 75 := ⟨1, by decide +kernel, rfl, rfl⟩
theorem t_L_draws {X : m_X} {d : Nat} {s : m_St} {P : Option Value → m_St → Prop} {j m n : Int} (hU : 2 ≤ X.2)
    (l1 : inR j)
    (l2 : 0 ≤ j)
    (l3 : X.1.length < 2147483648)
    (l4 : ∀ (v1 : Int), inR v1 → Rn X (d + 1) 159 10 [some (vR 1000), some (vI j), some (vI m), some (vR 77), some (vI n), some (vR 78), some (vI v1), some (vI 0), none, none] [] s P)
    : Cl X (d + 1) 159 [vR 1000, vI j, vI m, vR 77, vI n, vR 78] s P := by
  refine Cl_of n_159 rfl ?_
  show Rn _ _ _ _ [some (vR 1000), some (vI j), some (vI m), some (vR 77), some (vI n), some (vR 78), none, none, none, none] [] _ _
  refine r_ldR_n (m := 0) F_159_0 rfl ?_
  refine r_ldI_n (m := 1) F_159_1 rfl ?_
  refine r_stat2 (A := [vR 1000, vI j]) (r := []) (n := 2) F_159_2 o_159 il_6_15 (by decide) rfl rfl rfl rfl (lay_le n_157 rfl) ?_
  refine sp_cell l1 l2 l3 ?_
  intro v1 q1a
  show Rn _ _ _ _ _ [vI v1] _ _
  refine r_stI (m := 6) (L' := [some (vR 1000), some (vI j), some (vI m), some (vR 77), some (vI n), some (vR 78), some (vI v1), none, none, none]) F_159_5 rfl rfl ?_
  refine r_iconst F_159_7 ?_
  refine r_stI (m := 7) (L' := [some (vR 1000), some (vI j), some (vI m), some (vR 77), some (vI n), some (vR 78), some (vI v1), some (vI 0), none, none]) F_159_8 rfl rfl ?_
  exact (l4 v1 q1a)
theorem t_L_draws_10 {X : m_X} {d : Nat} {s : m_St} {P : Option Value → m_St → Prop} {j m n v k : Int} (hU : 2 ≤ X.2)
    (l1 : inR k)
    (l2 : inR m)
    (l3 : m ≤ k → Rn X (d + 1) 159 74 [some (vR 1000), some (vI j), some (vI m), some (vR 77), some (vI n), some (vR 78), some (vI v), some (vI 0), none, none] [] s P)
    (l4 : k < m → ∀ (v3 : Int), 0 ≤ v3 → v3 < 4 → v3 = lss (iShr v (4 * k)) 4 → 0 ≤ (2 * k))
    (l5 : k < m → ∀ (v3 : Int), 0 ≤ v3 → v3 < 4 → v3 = lss (iShr v (4 * k)) 4 → (2 * k) < 12)
    (l6 : k < m → ∀ (v3 : Int), 0 ≤ v3 → v3 < 4 → v3 = lss (iShr v (4 * k)) 4 → ∀ (v4 : Int), 0 ≤ v4 → v4 < 3 → v4 = lss (iShr v ((4 * k) + 2)) 3 → 0 ≤ ((v3 + 1) + v4))
    (l7 : k < m → ∀ (v3 : Int), 0 ≤ v3 → v3 < 4 → v3 = lss (iShr v (4 * k)) 4 → ∀ (v4 : Int), 0 ≤ v4 → v4 < 3 → v4 = lss (iShr v ((4 * k) + 2)) 3 → inR ((v3 + 1) + v4))
    (l8 : k < m → ∀ (v3 : Int), 0 ≤ v3 → v3 < 4 → v3 = lss (iShr v (4 * k)) 4 → ∀ (v4 : Int), 0 ≤ v4 → v4 < 3 → v4 = lss (iShr v ((4 * k) + 2)) 3 → 0 ≤ ((2 * k) + 1))
    (l9 : k < m → ∀ (v3 : Int), 0 ≤ v3 → v3 < 4 → v3 = lss (iShr v (4 * k)) 4 → ∀ (v4 : Int), 0 ≤ v4 → v4 < 3 → v4 = lss (iShr v ((4 * k) + 2)) 3 → ((2 * k) + 1) < 12)
    (l10 : k < m → ∀ (v3 : Int), 0 ≤ v3 → v3 < 4 → v3 = lss (iShr v (4 * k)) 4 → ∀ (v4 : Int), 0 ≤ v4 → v4 < 3 → v4 = lss (iShr v ((4 * k) + 2)) 3 → Rn X (d + 1) 159 10 [some (vR 1000), some (vI j), some (vI m), some (vR 77), some (vI n), some (vR 78), some (vI v), some (vI (k + 1)), none, none] [] (m_upd (m_upd s 77 (2 * k) v3) 77 ((2 * k) + 1) (((v3 + 1) + v4) % 4)) P)
    : Rn X (d + 1) 159 10 [some (vR 1000), some (vI j), some (vI m), some (vR 77), some (vI n), some (vR 78), some (vI v), some (vI k), none, none] [] s P := by
  refine r_ldI (m := 7) F_159_10 rfl ?_
  refine r_ldI_n (m := 2) F_159_12 rfl ?_
  refine r_icmp (t := 71) F_159_13 rfl l1 l2 ?_ ?_
  · intro e1
    replace e1 : m ≤ k := e1
    refine r_iconst F_159_71 ?_
    refine r_stI (m := 7) (L' := [some (vR 1000), some (vI j), some (vI m), some (vR 77), some (vI n), some (vR 78), some (vI v), some (vI 0), none, none]) F_159_72 rfl rfl ?_
    exact (l3 e1)
  · intro e2
    replace e2 : k < m := (Int.not_le.mp e2)
    refine r_ldR_n (m := 3) F_159_16 rfl ?_
    refine r_iconst F_159_17 ?_
    refine r_ldI (m := 7) F_159_18 rfl ?_
    refine r_imul F_159_20 rfl ?_
    refine r_ldI (m := 6) F_159_21 rfl ?_
    refine r_iconst F_159_23 ?_
    refine r_ldI (m := 7) F_159_24 rfl ?_
    refine r_imul F_159_26 rfl ?_
    refine r_ishr F_159_27 rfl ?_
    refine r_iconst F_159_28 ?_
    refine r_stat2 (A := [vI (iShr v (4 * k)), vI 4]) (r := [vI (2 * k), vR 77]) (n := 2) F_159_29 o_159 il_6_21 (by decide) rfl rfl rfl rfl (lay_le n_158 rfl) ?_
    refine sp_less (by decide) (by decide) ?_
    intro v3 q3a q3b q3c
    show Rn _ _ _ _ _ [vI v3, vI (2 * k), vR 77] _ _
    refine r_iastU (c := 0) (len := 12) F_159_32 rfl rfl (Nat.lt_of_lt_of_le (by decide) hU) (by decide) (by decide) (l4 e2 v3 q3a q3b q3c) (l5 e2 v3 q3a q3b q3c) ?_
    refine r_ldR_n (m := 3) F_159_33 rfl ?_
    refine r_iconst F_159_34 ?_
    refine r_ldI (m := 7) F_159_35 rfl ?_
    refine r_imul F_159_37 rfl ?_
    refine r_iconst F_159_38 ?_
    refine r_iadd F_159_39 rfl ?_
    refine r_ldR_n (m := 3) F_159_40 rfl ?_
    refine r_iconst F_159_41 ?_
    refine r_ldI (m := 7) F_159_42 rfl ?_
    refine r_imul F_159_44 rfl ?_
    refine r_ialdU (c := 0) (len := 12) (e := v3) F_159_45 rfl rfl (Nat.lt_of_lt_of_le (by decide) hU) (by decide) (by decide) (l4 e2 v3 q3a q3b q3c) (l5 e2 v3 q3a q3b q3c) upd_eq ?_
    refine r_iconst F_159_46 ?_
    refine r_iadd F_159_47 rfl ?_
    refine r_ldI (m := 6) F_159_48 rfl ?_
    refine r_iconst F_159_50 ?_
    refine r_ldI (m := 7) F_159_51 rfl ?_
    refine r_imul F_159_53 rfl ?_
    refine r_iconst F_159_54 ?_
    refine r_iadd F_159_55 rfl ?_
    refine r_ishr F_159_56 rfl ?_
    refine r_iconst F_159_57 ?_
    refine r_stat2 (A := [vI (iShr v ((4 * k) + 2)), vI 3]) (r := [vI (v3 + 1), vI ((2 * k) + 1), vR 77]) (n := 2) F_159_58 o_159 il_6_21 (by decide) rfl rfl rfl rfl (lay_le n_158 rfl) ?_
    refine sp_less (by decide) (by decide) ?_
    intro v4 q4a q4b q4c
    show Rn _ _ _ _ _ [vI v4, vI (v3 + 1), vI ((2 * k) + 1), vR 77] _ _
    refine r_iadd F_159_61 rfl ?_
    refine r_iconst F_159_62 ?_
    refine r_irem F_159_63 (l7 e2 v3 q3a q3b q3c v4 q4a q4b q4c) (l6 e2 v3 q3a q3b q3c v4 q4a q4b q4c) (by decide) (by decide) ?_
    refine r_iastU (c := 0) (len := 12) F_159_64 rfl rfl (Nat.lt_of_lt_of_le (by decide) hU) (by decide) (by decide) (l8 e2 v3 q3a q3b q3c v4 q4a q4b q4c) (l9 e2 v3 q3a q3b q3c v4 q4a q4b q4c) ?_
    refine r_iinc (m := 7) (e := (k + 1)) (L' := [some (vR 1000), some (vI j), some (vI m), some (vR 77), some (vI n), some (vR 78), some (vI v), some (vI (k + 1)), none, none]) F_159_65 rfl rfl rfl rfl ?_
    refine r_goto (t := 10) F_159_68 rfl ?_
    exact (l10 e2 v3 q3a q3b q3c v4 q4a q4b q4c)
theorem t_L_draws_74 {X : m_X} {d : Nat} {s : m_St} {P : Option Value → m_St → Prop} {j m n v k : Int} {z8 z9 : Option Value} (hU : 2 ≤ X.2)
    (l1 : inR k)
    (l2 : inR n)
    (l3 : n ≤ k → P none s)
    (l4 : k < n → inR ((j + 1) + k))
    (l5 : k < n → 0 ≤ ((j + 1) + k))
    (l6 : k < n → X.1.length < 2147483648)
    (l7 : k < n → ∀ (v3 : Int), inR v3 → ∀ (v4 : Int), 0 ≤ v4 → v4 < 6 → v4 = lss v3 6 → 0 ≤ (5 * k))
    (l8 : k < n → ∀ (v3 : Int), inR v3 → ∀ (v4 : Int), 0 ≤ v4 → v4 < 6 → v4 = lss v3 6 → (5 * k) < 30)
    (l9 : k < n → ∀ (v3 : Int), inR v3 → ∀ (v4 : Int), 0 ≤ v4 → v4 < 6 → v4 = lss v3 6 → Rn X (d + 1) 159 110 [some (vR 1000), some (vI j), some (vI m), some (vR 77), some (vI n), some (vR 78), some (vI v), some (vI k), some (vI v3), some (vI 0)] [] (m_upd s 78 (5 * k) v4) P)
    : Rn X (d + 1) 159 74 [some (vR 1000), some (vI j), some (vI m), some (vR 77), some (vI n), some (vR 78), some (vI v), some (vI k), z8, z9] [] s P := by
  refine r_ldI (m := 7) F_159_74 rfl ?_
  refine r_ldI (m := 4) F_159_76 rfl ?_
  refine r_icmp (t := 189) F_159_78 rfl l1 l2 ?_ ?_
  · intro e1
    replace e1 : n ≤ k := e1
    refine r_return F_159_189 rt_159 ?_
    exact (l3 e1)
  · intro e2
    replace e2 : k < n := (Int.not_le.mp e2)
    refine r_ldR_n (m := 0) F_159_81 rfl ?_
    refine r_ldI_n (m := 1) F_159_82 rfl ?_
    refine r_iconst F_159_83 ?_
    refine r_iadd F_159_84 rfl ?_
    refine r_ldI (m := 7) F_159_85 rfl ?_
    refine r_iadd F_159_87 rfl ?_
    refine r_stat2 (A := [vR 1000, vI ((j + 1) + k)]) (r := []) (n := 2) F_159_88 o_159 il_6_15 (by decide) rfl rfl rfl rfl (lay_le n_157 rfl) ?_
    refine sp_cell (l4 e2) (l5 e2) (l6 e2) ?_
    intro v3 q3a
    show Rn _ _ _ _ _ [vI v3] _ _
    refine r_stI (m := 8) (L' := [some (vR 1000), some (vI j), some (vI m), some (vR 77), some (vI n), some (vR 78), some (vI v), some (vI k), some (vI v3), z9]) F_159_91 rfl rfl ?_
    refine r_ldR (m := 5) F_159_93 rfl ?_
    refine r_iconst F_159_95 ?_
    refine r_ldI (m := 7) F_159_96 rfl ?_
    refine r_imul F_159_98 rfl ?_
    refine r_ldI (m := 8) F_159_99 rfl ?_
    refine r_bipush F_159_101 bi_6 ?_
    refine r_stat2 (A := [vI v3, vI 6]) (r := [vI (5 * k), vR 78]) (n := 2) F_159_103 o_159 il_6_21 (by decide) rfl rfl rfl rfl (lay_le n_158 rfl) ?_
    refine sp_less (by decide) (by decide) ?_
    intro v4 q4a q4b q4c
    show Rn _ _ _ _ _ [vI v4, vI (5 * k), vR 78] _ _
    refine r_iastU (c := 1) (len := 30) F_159_106 rfl rfl (Nat.lt_of_lt_of_le (by decide) hU) (by decide) (by decide) (l7 e2 v3 q3a v4 q4a q4b q4c) (l8 e2 v3 q3a v4 q4a q4b q4c) ?_
    refine r_iconst F_159_107 ?_
    refine r_stI (m := 9) (L' := [some (vR 1000), some (vI j), some (vI m), some (vR 77), some (vI n), some (vR 78), some (vI v), some (vI k), some (vI v3), some (vI 0)]) F_159_108 rfl rfl ?_
    exact (l9 e2 v3 q3a v4 q4a q4b q4c)
theorem t_L_draws_110 {X : m_X} {d : Nat} {s : m_St} {P : Option Value → m_St → Prop} {j m n v k u c : Int} (hU : 2 ≤ X.2)
    (l1 : inR c)
    (l2 : 4 ≤ c → Rn X (d + 1) 159 74 [some (vR 1000), some (vI j), some (vI m), some (vR 77), some (vI n), some (vR 78), some (vI v), some (vI (k + 1)), some (vI u), some (vI c)] [] s P)
    (l3 : c < 4 → ∀ (v3 : Int), 0 ≤ v3 → v3 < 3 → v3 = lss (iShr u 25) 3 → inR v3)
    (l4 : c < 4 → ∀ (v3 : Int), 0 ≤ v3 → v3 < 3 → v3 = lss (iShr u 25) 3 → ¬ v3 = 0 → ∀ (v5 : Int), 0 ≤ v5 → v5 < 5 → v5 = lss (iShr u (3 + (5 * c))) 5 → ∀ (v6 : Int), 0 ≤ v6 → v6 < 3 → v6 = lss (iShr u 25) 3 → inR v6)
    (l5 : c < 4 → ∀ (v3 : Int), 0 ≤ v3 → v3 < 3 → v3 = lss (iShr u 25) 3 → ¬ v3 = 0 → ∀ (v5 : Int), 0 ≤ v5 → v5 < 5 → v5 = lss (iShr u (3 + (5 * c))) 5 → ∀ (v6 : Int), 0 ≤ v6 → v6 < 3 → v6 = lss (iShr u 25) 3 → ¬ v6 = 1 → 0 ≤ (((5 * k) + 1) + c))
    (l6 : c < 4 → ∀ (v3 : Int), 0 ≤ v3 → v3 < 3 → v3 = lss (iShr u 25) 3 → ¬ v3 = 0 → ∀ (v5 : Int), 0 ≤ v5 → v5 < 5 → v5 = lss (iShr u (3 + (5 * c))) 5 → ∀ (v6 : Int), 0 ≤ v6 → v6 < 3 → v6 = lss (iShr u 25) 3 → ¬ v6 = 1 → (((5 * k) + 1) + c) < 30)
    (l7 : c < 4 → ∀ (v3 : Int), 0 ≤ v3 → v3 < 3 → v3 = lss (iShr u 25) 3 → ¬ v3 = 0 → ∀ (v5 : Int), 0 ≤ v5 → v5 < 5 → v5 = lss (iShr u (3 + (5 * c))) 5 → ∀ (v6 : Int), 0 ≤ v6 → v6 < 3 → v6 = lss (iShr u 25) 3 → ¬ v6 = 1 → Rn X (d + 1) 159 110 [some (vR 1000), some (vI j), some (vI m), some (vR 77), some (vI n), some (vR 78), some (vI v), some (vI k), some (vI u), some (vI (c + 1))] [] (m_upd s 78 (((5 * k) + 1) + c) v5) P)
    (l8 : c < 4 → ∀ (v3 : Int), 0 ≤ v3 → v3 < 3 → v3 = lss (iShr u 25) 3 → ¬ v3 = 0 → ∀ (v5 : Int), 0 ≤ v5 → v5 < 5 → v5 = lss (iShr u (3 + (5 * c))) 5 → ∀ (v6 : Int), 0 ≤ v6 → v6 < 3 → v6 = lss (iShr u 25) 3 → v6 = 1 → 0 ≤ (((5 * k) + 1) + c))
    (l9 : c < 4 → ∀ (v3 : Int), 0 ≤ v3 → v3 < 3 → v3 = lss (iShr u 25) 3 → ¬ v3 = 0 → ∀ (v5 : Int), 0 ≤ v5 → v5 < 5 → v5 = lss (iShr u (3 + (5 * c))) 5 → ∀ (v6 : Int), 0 ≤ v6 → v6 < 3 → v6 = lss (iShr u 25) 3 → v6 = 1 → (((5 * k) + 1) + c) < 30)
    (l10 : c < 4 → ∀ (v3 : Int), 0 ≤ v3 → v3 < 3 → v3 = lss (iShr u 25) 3 → ¬ v3 = 0 → ∀ (v5 : Int), 0 ≤ v5 → v5 < 5 → v5 = lss (iShr u (3 + (5 * c))) 5 → ∀ (v6 : Int), 0 ≤ v6 → v6 < 3 → v6 = lss (iShr u 25) 3 → v6 = 1 → Rn X (d + 1) 159 110 [some (vR 1000), some (vI j), some (vI m), some (vR 77), some (vI n), some (vR 78), some (vI v), some (vI k), some (vI u), some (vI (c + 1))] [] (m_upd s 78 (((5 * k) + 1) + c) (v5 + 4)) P)
    (l11 : c < 4 → ∀ (v3 : Int), 0 ≤ v3 → v3 < 3 → v3 = lss (iShr u 25) 3 → v3 = 0 → ∀ (v10 : Int), 0 ≤ v10 → v10 < 10 → v10 = lss (iShr u (3 + (5 * c))) 10 → ∀ (v11 : Int), 0 ≤ v11 → v11 < 3 → v11 = lss (iShr u 25) 3 → inR v11)
    (l12 : c < 4 → ∀ (v3 : Int), 0 ≤ v3 → v3 < 3 → v3 = lss (iShr u 25) 3 → v3 = 0 → ∀ (v10 : Int), 0 ≤ v10 → v10 < 10 → v10 = lss (iShr u (3 + (5 * c))) 10 → ∀ (v11 : Int), 0 ≤ v11 → v11 < 3 → v11 = lss (iShr u 25) 3 → ¬ v11 = 1 → 0 ≤ (((5 * k) + 1) + c))
    (l13 : c < 4 → ∀ (v3 : Int), 0 ≤ v3 → v3 < 3 → v3 = lss (iShr u 25) 3 → v3 = 0 → ∀ (v10 : Int), 0 ≤ v10 → v10 < 10 → v10 = lss (iShr u (3 + (5 * c))) 10 → ∀ (v11 : Int), 0 ≤ v11 → v11 < 3 → v11 = lss (iShr u 25) 3 → ¬ v11 = 1 → (((5 * k) + 1) + c) < 30)
    (l14 : c < 4 → ∀ (v3 : Int), 0 ≤ v3 → v3 < 3 → v3 = lss (iShr u 25) 3 → v3 = 0 → ∀ (v10 : Int), 0 ≤ v10 → v10 < 10 → v10 = lss (iShr u (3 + (5 * c))) 10 → ∀ (v11 : Int), 0 ≤ v11 → v11 < 3 → v11 = lss (iShr u 25) 3 → ¬ v11 = 1 → Rn X (d + 1) 159 110 [some (vR 1000), some (vI j), some (vI m), some (vR 77), some (vI n), some (vR 78), some (vI v), some (vI k), some (vI u), some (vI (c + 1))] [] (m_upd s 78 (((5 * k) + 1) + c) v10) P)
    (l15 : c < 4 → ∀ (v3 : Int), 0 ≤ v3 → v3 < 3 → v3 = lss (iShr u 25) 3 → v3 = 0 → ∀ (v10 : Int), 0 ≤ v10 → v10 < 10 → v10 = lss (iShr u (3 + (5 * c))) 10 → ∀ (v11 : Int), 0 ≤ v11 → v11 < 3 → v11 = lss (iShr u 25) 3 → v11 = 1 → 0 ≤ (((5 * k) + 1) + c))
    (l16 : c < 4 → ∀ (v3 : Int), 0 ≤ v3 → v3 < 3 → v3 = lss (iShr u 25) 3 → v3 = 0 → ∀ (v10 : Int), 0 ≤ v10 → v10 < 10 → v10 = lss (iShr u (3 + (5 * c))) 10 → ∀ (v11 : Int), 0 ≤ v11 → v11 < 3 → v11 = lss (iShr u 25) 3 → v11 = 1 → (((5 * k) + 1) + c) < 30)
    (l17 : c < 4 → ∀ (v3 : Int), 0 ≤ v3 → v3 < 3 → v3 = lss (iShr u 25) 3 → v3 = 0 → ∀ (v10 : Int), 0 ≤ v10 → v10 < 10 → v10 = lss (iShr u (3 + (5 * c))) 10 → ∀ (v11 : Int), 0 ≤ v11 → v11 < 3 → v11 = lss (iShr u 25) 3 → v11 = 1 → Rn X (d + 1) 159 110 [some (vR 1000), some (vI j), some (vI m), some (vR 77), some (vI n), some (vR 78), some (vI v), some (vI k), some (vI u), some (vI (c + 1))] [] (m_upd s 78 (((5 * k) + 1) + c) (v10 + 4)) P)
    : Rn X (d + 1) 159 110 [some (vR 1000), some (vI j), some (vI m), some (vR 77), some (vI n), some (vR 78), some (vI v), some (vI k), some (vI u), some (vI c)] [] s P := by
  refine r_ldI (m := 9) F_159_110 rfl ?_
  refine r_iconst F_159_112 ?_
  refine r_icmp (t := 183) F_159_113 rfl l1 (by decide) ?_ ?_
  · intro e1
    replace e1 : 4 ≤ c := e1
    refine r_iinc (m := 7) (e := (k + 1)) (L' := [some (vR 1000), some (vI j), some (vI m), some (vR 77), some (vI n), some (vR 78), some (vI v), some (vI (k + 1)), some (vI u), some (vI c)]) F_159_183 rfl rfl rfl rfl ?_
    refine r_goto (t := 74) F_159_186 rfl ?_
    exact (l2 e1)
  · intro e2
    replace e2 : c < 4 := (Int.not_le.mp e2)
    refine r_ldR (m := 5) F_159_116 rfl ?_
    refine r_iconst F_159_118 ?_
    refine r_ldI (m := 7) F_159_119 rfl ?_
    refine r_imul F_159_121 rfl ?_
    refine r_iconst F_159_122 ?_
    refine r_iadd F_159_123 rfl ?_
    refine r_ldI (m := 9) F_159_124 rfl ?_
    refine r_iadd F_159_126 rfl ?_
    refine r_ldI (m := 8) F_159_127 rfl ?_
    refine r_iconst F_159_129 ?_
    refine r_iconst F_159_130 ?_
    refine r_ldI (m := 9) F_159_131 rfl ?_
    refine r_imul F_159_133 rfl ?_
    refine r_iadd F_159_134 rfl ?_
    refine r_ishr F_159_135 rfl ?_
    refine r_ldI (m := 8) F_159_136 rfl ?_
    refine r_bipush F_159_138 bi_25 ?_
    refine r_ishr F_159_140 rfl ?_
    refine r_iconst F_159_141 ?_
    refine r_stat2 (A := [vI (iShr u 25), vI 3]) (r := [vI (iShr u (3 + (5 * c))), vI (((5 * k) + 1) + c), vR 78]) (n := 2) F_159_142 o_159 il_6_21 (by decide) rfl rfl rfl rfl (lay_le n_158 rfl) ?_
    refine sp_less (by decide) (by decide) ?_
    intro v3 q3a q3b q3c
    show Rn _ _ _ _ _ [vI v3, vI (iShr u (3 + (5 * c))), vI (((5 * k) + 1) + c), vR 78] _ _
    refine r_if (t := 153) F_159_145 rfl (l3 e2 v3 q3a q3b q3c) ?_ ?_
    · intro e4
      replace e4 : ¬ v3 = 0 := e4
      refine r_iconst F_159_153 ?_
      refine r_stat2 (A := [vI (iShr u (3 + (5 * c))), vI 5]) (r := [vI (((5 * k) + 1) + c), vR 78]) (n := 2) F_159_154 o_159 il_6_21 (by decide) rfl rfl rfl rfl (lay_le n_158 rfl) ?_
      refine sp_less (by decide) (by decide) ?_
      intro v5 q5a q5b q5c
      show Rn _ _ _ _ _ [vI v5, vI (((5 * k) + 1) + c), vR 78] _ _
      refine r_ldI (m := 8) F_159_157 rfl ?_
      refine r_bipush F_159_159 bi_25 ?_
      refine r_ishr F_159_161 rfl ?_
      refine r_iconst F_159_162 ?_
      refine r_stat2 (A := [vI (iShr u 25), vI 3]) (r := [vI v5, vI (((5 * k) + 1) + c), vR 78]) (n := 2) F_159_163 o_159 il_6_21 (by decide) rfl rfl rfl rfl (lay_le n_158 rfl) ?_
      refine sp_less (by decide) (by decide) ?_
      intro v6 q6a q6b q6c
      show Rn _ _ _ _ _ [vI v6, vI v5, vI (((5 * k) + 1) + c), vR 78] _ _
      refine r_iconst F_159_166 ?_
      refine r_icmp (t := 174) F_159_167 rfl (l4 e2 v3 q3a q3b q3c e4 v5 q5a q5b q5c v6 q6a q6b q6c) (by decide) ?_ ?_
      · intro e7
        replace e7 : ¬ v6 = 1 := e7
        refine r_iconst F_159_174 ?_
        refine r_iadd (e := v5) F_159_175 (Int.add_zero _) ?_
        refine r_iastU (c := 1) (len := 30) F_159_176 rfl rfl (Nat.lt_of_lt_of_le (by decide) hU) (by decide) (by decide) (l5 e2 v3 q3a q3b q3c e4 v5 q5a q5b q5c v6 q6a q6b q6c e7) (l6 e2 v3 q3a q3b q3c e4 v5 q5a q5b q5c v6 q6a q6b q6c e7) ?_
        refine r_iinc (m := 9) (e := (c + 1)) (L' := [some (vR 1000), some (vI j), some (vI m), some (vR 77), some (vI n), some (vR 78), some (vI v), some (vI k), some (vI u), some (vI (c + 1))]) F_159_177 rfl rfl rfl rfl ?_
        refine r_goto (t := 110) F_159_180 rfl ?_
        exact (l7 e2 v3 q3a q3b q3c e4 v5 q5a q5b q5c v6 q6a q6b q6c e7)
      · intro e8
        replace e8 : v6 = 1 := (Classical.not_not.mp e8)
        refine r_iconst F_159_170 ?_
        refine r_goto (t := 175) F_159_171 rfl ?_
        refine r_iadd F_159_175 rfl ?_
        refine r_iastU (c := 1) (len := 30) F_159_176 rfl rfl (Nat.lt_of_lt_of_le (by decide) hU) (by decide) (by decide) (l8 e2 v3 q3a q3b q3c e4 v5 q5a q5b q5c v6 q6a q6b q6c e8) (l9 e2 v3 q3a q3b q3c e4 v5 q5a q5b q5c v6 q6a q6b q6c e8) ?_
        refine r_iinc (m := 9) (e := (c + 1)) (L' := [some (vR 1000), some (vI j), some (vI m), some (vR 77), some (vI n), some (vR 78), some (vI v), some (vI k), some (vI u), some (vI (c + 1))]) F_159_177 rfl rfl rfl rfl ?_
        refine r_goto (t := 110) F_159_180 rfl ?_
        exact (l10 e2 v3 q3a q3b q3c e4 v5 q5a q5b q5c v6 q6a q6b q6c e8)
    · intro e9
      replace e9 : v3 = 0 := (Classical.not_not.mp e9)
      refine r_bipush F_159_148 bi_10 ?_
      refine r_goto (t := 154) F_159_150 rfl ?_
      refine r_stat2 (A := [vI (iShr u (3 + (5 * c))), vI 10]) (r := [vI (((5 * k) + 1) + c), vR 78]) (n := 2) F_159_154 o_159 il_6_21 (by decide) rfl rfl rfl rfl (lay_le n_158 rfl) ?_
      refine sp_less (by decide) (by decide) ?_
      intro v10 q10a q10b q10c
      show Rn _ _ _ _ _ [vI v10, vI (((5 * k) + 1) + c), vR 78] _ _
      refine r_ldI (m := 8) F_159_157 rfl ?_
      refine r_bipush F_159_159 bi_25 ?_
      refine r_ishr F_159_161 rfl ?_
      refine r_iconst F_159_162 ?_
      refine r_stat2 (A := [vI (iShr u 25), vI 3]) (r := [vI v10, vI (((5 * k) + 1) + c), vR 78]) (n := 2) F_159_163 o_159 il_6_21 (by decide) rfl rfl rfl rfl (lay_le n_158 rfl) ?_
      refine sp_less (by decide) (by decide) ?_
      intro v11 q11a q11b q11c
      show Rn _ _ _ _ _ [vI v11, vI v10, vI (((5 * k) + 1) + c), vR 78] _ _
      refine r_iconst F_159_166 ?_
      refine r_icmp (t := 174) F_159_167 rfl (l11 e2 v3 q3a q3b q3c e9 v10 q10a q10b q10c v11 q11a q11b q11c) (by decide) ?_ ?_
      · intro e12
        replace e12 : ¬ v11 = 1 := e12
        refine r_iconst F_159_174 ?_
        refine r_iadd (e := v10) F_159_175 (Int.add_zero _) ?_
        refine r_iastU (c := 1) (len := 30) F_159_176 rfl rfl (Nat.lt_of_lt_of_le (by decide) hU) (by decide) (by decide) (l12 e2 v3 q3a q3b q3c e9 v10 q10a q10b q10c v11 q11a q11b q11c e12) (l13 e2 v3 q3a q3b q3c e9 v10 q10a q10b q10c v11 q11a q11b q11c e12) ?_
        refine r_iinc (m := 9) (e := (c + 1)) (L' := [some (vR 1000), some (vI j), some (vI m), some (vR 77), some (vI n), some (vR 78), some (vI v), some (vI k), some (vI u), some (vI (c + 1))]) F_159_177 rfl rfl rfl rfl ?_
        refine r_goto (t := 110) F_159_180 rfl ?_
        exact (l14 e2 v3 q3a q3b q3c e9 v10 q10a q10b q10c v11 q11a q11b q11c e12)
      · intro e13
        replace e13 : v11 = 1 := (Classical.not_not.mp e13)
        refine r_iconst F_159_170 ?_
        refine r_goto (t := 175) F_159_171 rfl ?_
        refine r_iadd F_159_175 rfl ?_
        refine r_iastU (c := 1) (len := 30) F_159_176 rfl rfl (Nat.lt_of_lt_of_le (by decide) hU) (by decide) (by decide) (l15 e2 v3 q3a q3b q3c e9 v10 q10a q10b q10c v11 q11a q11b q11c e13) (l16 e2 v3 q3a q3b q3c e9 v10 q10a q10b q10c v11 q11a q11b q11c e13) ?_
        refine r_iinc (m := 9) (e := (c + 1)) (L' := [some (vR 1000), some (vI j), some (vI m), some (vR 77), some (vI n), some (vR 78), some (vI v), some (vI k), some (vI u), some (vI (c + 1))]) F_159_177 rfl rfl rfl rfl ?_
        refine r_goto (t := 110) F_159_180 rfl ?_
        exact (l17 e2 v3 q3a q3b q3c e9 v10 q10a q10b q10c v11 q11a q11b q11c e13)
theorem t_L_held {X : m_X} {d : Nat} {s : m_St} {P : Option Value → m_St → Prop} {k : Int} (hU : 2 ≤ X.2)
    (l1 : 0 ≤ (5 * k))
    (l2 : (5 * k) < 30)
    (l3 : inR (s 78 (5 * k)))
    (l4 : 0 ≤ ((5 * k) + 1))
    (l5 : ((5 * k) + 1) + 3 < 30)
    (l6 : wr (fun c => s 78 (((5 * k) + 1) + c)))
    (l7 : P (some (vI (hset (fun c => s 78 (((5 * k) + 1) + c)) (hf (s 78 (5 * k)))))) s)
    : Cl X (d + 1) 169 [vR 78, vI k] s P := by
  refine Cl_of n_169 rfl ?_
  show Rn _ _ _ _ [some (vR 78), some (vI k)] [] _ _
  refine r_ldR_n (m := 0) F_169_0 rfl ?_
  refine r_iconst F_169_1 ?_
  refine r_ldI_n (m := 1) F_169_2 rfl ?_
  refine r_imul F_169_3 rfl ?_
  refine r_ialdU (c := 1) (len := 30) (e := (s 78 (5 * k))) F_169_4 rfl rfl (Nat.lt_of_lt_of_le (by decide) hU) (by decide) (by decide) l1 l2 rfl ?_
  refine r_ldR_n (m := 0) F_169_5 rfl ?_
  refine r_iconst F_169_6 ?_
  refine r_ldI_n (m := 1) F_169_7 rfl ?_
  refine r_imul F_169_8 rfl ?_
  refine r_iconst F_169_9 ?_
  refine r_iadd F_169_10 rfl ?_
  refine r_stat2 (A := [vI (s 78 (5 * k)), vR 78, vI ((5 * k) + 1)]) (r := []) (n := 3) F_169_11 o_169 il_6_41 (by decide) rfl rfl rfl rfl (lay_le n_164 rfl) ?_
  refine sp_holdsL hU l3 l4 l5 l6 ?_
  show Rn _ _ _ _ _ [vI (hset (fun c => s 78 (((5 * k) + 1) + c)) (hf (s 78 (5 * k))))] _ _
  refine r_ireturn F_169_14 rt_169 ?_
  exact l7
theorem t_L_can {X : m_X} {d : Nat} {s : m_St} {P : Option Value → m_St → Prop} {z : Int} (hU : 4 ≤ X.2)
    (l1 : 0 ≤ z)
    (l2 : inR z)
    (l3 : 0 ≤ (z / 4))
    (l4 : (z / 4) < 2)
    (l5 : 0 ≤ (5 * (s 79 (z / 4))))
    (l6 : (5 * (s 79 (z / 4))) < 30)
    (l7 : 2 ≤ X.2)
    (l8 : inR (s 78 (5 * (s 79 (z / 4)))))
    (l9 : 0 ≤ ((5 * (s 79 (z / 4))) + 1))
    (l10 : ((5 * (s 79 (z / 4))) + 1) + 3 < 30)
    (l11 : wr (fun c => s 78 (((5 * (s 79 (z / 4))) + 1) + c)))
    (l12 : ¬ (iAnd (iShr (hset (fun c => s 78 (((5 * (s 79 (z / 4))) + 1) + c)) (hf (s 78 (5 * (s 79 (z / 4)))))) (z % 4)) 1) = 1 → P (some (vI 0)) s)
    (l13 : (iAnd (iShr (hset (fun c => s 78 (((5 * (s 79 (z / 4))) + 1) + c)) (hf (s 78 (5 * (s 79 (z / 4)))))) (z % 4)) 1) = 1 → P (some (vI 1)) s)
    : Cl X (d + 1) 163 [vR 78, vR 79, vI z] s P := by
  refine Cl_of n_163 rfl ?_
  show Rn _ _ _ _ [some (vR 78), some (vR 79), some (vI z), none] [] _ _
  refine r_ldR_n (m := 1) F_163_0 rfl ?_
  refine r_ldI_n (m := 2) F_163_1 rfl ?_
  refine r_iconst F_163_2 ?_
  refine r_idiv F_163_3 l2 l1 (by decide) (by decide) ?_
  refine r_ialdU (c := 2) (len := 2) (e := (s 79 (z / 4))) F_163_4 rfl rfl (Nat.lt_of_lt_of_le (by decide) hU) (by decide) (by decide) l3 l4 rfl ?_
  refine r_stI_n (m := 3) (L' := [some (vR 78), some (vR 79), some (vI z), some (vI (s 79 (z / 4)))]) F_163_5 rfl rfl ?_
  refine r_ldR_n (m := 0) F_163_6 rfl ?_
  refine r_iconst F_163_7 ?_
  refine r_ldI_n (m := 3) F_163_8 rfl ?_
  refine r_imul F_163_9 rfl ?_
  refine r_ialdU (c := 1) (len := 30) (e := (s 78 (5 * (s 79 (z / 4))))) F_163_10 rfl rfl (Nat.lt_of_lt_of_le (by decide) hU) (by decide) (by decide) l5 l6 rfl ?_
  refine r_ldR_n (m := 0) F_163_11 rfl ?_
  refine r_iconst F_163_12 ?_
  refine r_ldI_n (m := 3) F_163_13 rfl ?_
  refine r_imul F_163_14 rfl ?_
  refine r_iconst F_163_15 ?_
  refine r_iadd F_163_16 rfl ?_
  refine r_stat2 (A := [vI (s 78 (5 * (s 79 (z / 4)))), vR 78, vI ((5 * (s 79 (z / 4))) + 1)]) (r := []) (n := 3) F_163_17 o_163 il_6_41 (by decide) rfl rfl rfl rfl (lay_le n_164 rfl) ?_
  refine sp_holdsL l7 l8 l9 l10 l11 ?_
  show Rn _ _ _ _ _ [vI (hset (fun c => s 78 (((5 * (s 79 (z / 4))) + 1) + c)) (hf (s 78 (5 * (s 79 (z / 4))))))] _ _
  refine r_ldI_n (m := 2) F_163_20 rfl ?_
  refine r_iconst F_163_21 ?_
  refine r_irem F_163_22 l2 l1 (by decide) (by decide) ?_
  refine r_ishr F_163_23 rfl ?_
  refine r_iconst F_163_24 ?_
  refine r_iand F_163_25 rfl ?_
  refine r_iconst F_163_26 ?_
  refine r_icmp (t := 34) F_163_27 rfl (inR_iAnd _ _) (by decide) ?_ ?_
  · intro e1
    replace e1 : ¬ (iAnd (iShr (hset (fun c => s 78 (((5 * (s 79 (z / 4))) + 1) + c)) (hf (s 78 (5 * (s 79 (z / 4)))))) (z % 4)) 1) = 1 := e1
    refine r_iconst F_163_34 ?_
    refine r_zreturn F_163_35 rt_163 (Or.inl rfl) ?_
    exact (l12 e1)
  · intro e2
    replace e2 : (iAnd (iShr (hset (fun c => s 78 (((5 * (s 79 (z / 4))) + 1) + c)) (hf (s 78 (5 * (s 79 (z / 4)))))) (z % 4)) 1) = 1 := (Classical.not_not.mp e2)
    refine r_iconst F_163_30 ?_
    refine r_goto (t := 35) F_163_31 rfl ?_
    refine r_zreturn F_163_35 rt_163 (Or.inr rfl) ?_
    exact (l13 e2)
theorem t_L_moved {X : m_X} {d : Nat} {s : m_St} {P : Option Value → m_St → Prop} {m k p c : Int} (hU : 2 ≤ X.2)
    (l1 : inR k)
    (l2 : 0 ≤ p)
    (l3 : p + 3 < 30)
    (l4 : wr (fun c => s 78 (p + c)))
    (l5 : Rn X (d + 1) 167 15 [some (vI m), some (vR 77), some (vI k), some (vR 78), some (vI p), some (vI c), some (vI (hset (fun c => s 78 (p + c)) (hf k))), some (vI 1), some (vI 0)] [] s P)
    : Cl X (d + 1) 167 [vI m, vR 77, vI k, vR 78, vI p, vI c] s P := by
  refine Cl_of n_167 rfl ?_
  show Rn _ _ _ _ [some (vI m), some (vR 77), some (vI k), some (vR 78), some (vI p), some (vI c), none, none, none] [] _ _
  refine r_ldI_n (m := 2) F_167_0 rfl ?_
  refine r_ldR_n (m := 3) F_167_1 rfl ?_
  refine r_ldI (m := 4) F_167_2 rfl ?_
  refine r_stat2 (A := [vI k, vR 78, vI p]) (r := []) (n := 3) F_167_4 o_167 il_6_41 (by decide) rfl rfl rfl rfl (lay_le n_164 rfl) ?_
  refine sp_holdsL hU l1 l2 l3 l4 ?_
  show Rn _ _ _ _ _ [vI (hset (fun c => s 78 (p + c)) (hf k))] _ _
  refine r_stI (m := 6) (L' := [some (vI m), some (vR 77), some (vI k), some (vR 78), some (vI p), some (vI c), some (vI (hset (fun c => s 78 (p + c)) (hf k))), none, none]) F_167_7 rfl rfl ?_
  refine r_iconst F_167_9 ?_
  refine r_stI (m := 7) (L' := [some (vI m), some (vR 77), some (vI k), some (vR 78), some (vI p), some (vI c), some (vI (hset (fun c => s 78 (p + c)) (hf k))), some (vI 1), none]) F_167_10 rfl rfl ?_
  refine r_iconst F_167_12 ?_
  refine r_stI (m := 8) (L' := [some (vI m), some (vR 77), some (vI k), some (vR 78), some (vI p), some (vI c), some (vI (hset (fun c => s 78 (p + c)) (hf k))), some (vI 1), some (vI 0)]) F_167_13 rfl rfl ?_
  exact l5
theorem t_L_moved_15 {X : m_X} {d : Nat} {s : m_St} {P : Option Value → m_St → Prop} {m k p c h b i : Int} (hU : 2 ≤ X.2)
    (l1 : inR i)
    (l2 : 4 ≤ i → Rn X (d + 1) 167 58 [some (vI m), some (vR 77), some (vI k), some (vR 78), some (vI p), some (vI c), some (vI h), some (vI b), some (vI i)] [] s P)
    (l3 : i < 4 → ¬ (iAnd (iShr h i) 1) = 1 → Rn X (d + 1) 167 15 [some (vI m), some (vR 77), some (vI k), some (vR 78), some (vI p), some (vI c), some (vI h), some (vI b), some (vI (i + 1))] [] s P)
    (l4 : i < 4 → (iAnd (iShr h i) 1) = 1 → 0 ≤ m)
    (l5 : i < 4 → (iAnd (iShr h i) 1) = 1 → m ≤ 5)
    (l6 : i < 4 → (iAnd (iShr h i) 1) = 1 → ∀ j, 0 ≤ j → j < 2 * m → inR (s 77 j))
    (l7 : i < 4 → (iAnd (iShr h i) 1) = 1 → inR c)
    (l8 : i < 4 → (iAnd (iShr h i) 1) = 1 → (tld (s 77) (Int.toNat m) i c) = 0 → Rn X (d + 1) 167 15 [some (vI m), some (vR 77), some (vI k), some (vR 78), some (vI p), some (vI c), some (vI h), some (vI b), some (vI (i + 1))] [] s P)
    (l9 : i < 4 → (iAnd (iShr h i) 1) = 1 → ¬ (tld (s 77) (Int.toNat m) i c) = 0 → Rn X (d + 1) 167 15 [some (vI m), some (vR 77), some (vI k), some (vR 78), some (vI p), some (vI c), some (vI h), some (vI 2), some (vI (i + 1))] [] s P)
    : Rn X (d + 1) 167 15 [some (vI m), some (vR 77), some (vI k), some (vR 78), some (vI p), some (vI c), some (vI h), some (vI b), some (vI i)] [] s P := by
  refine r_ldI (m := 8) F_167_15 rfl ?_
  refine r_iconst F_167_17 ?_
  refine r_icmp (t := 58) F_167_18 rfl l1 (by decide) ?_ ?_
  · intro e1
    replace e1 : 4 ≤ i := e1
    exact (l2 e1)
  · intro e2
    replace e2 : i < 4 := (Int.not_le.mp e2)
    refine r_ldI (m := 6) F_167_21 rfl ?_
    refine r_ldI (m := 8) F_167_23 rfl ?_
    refine r_ishr F_167_25 rfl ?_
    refine r_iconst F_167_26 ?_
    refine r_iand F_167_27 rfl ?_
    refine r_iconst F_167_28 ?_
    refine r_icmp (t := 48) F_167_29 rfl (inR_iAnd _ _) (by decide) ?_ ?_
    · intro e3
      replace e3 : ¬ (iAnd (iShr h i) 1) = 1 := e3
      refine r_ldI (m := 7) F_167_48 rfl ?_
      refine r_stI (m := 7) (L' := [some (vI m), some (vR 77), some (vI k), some (vR 78), some (vI p), some (vI c), some (vI h), some (vI b), some (vI i)]) F_167_50 rfl rfl ?_
      refine r_iinc (m := 8) (e := (i + 1)) (L' := [some (vI m), some (vR 77), some (vI k), some (vR 78), some (vI p), some (vI c), some (vI h), some (vI b), some (vI (i + 1))]) F_167_52 rfl rfl rfl rfl ?_
      refine r_goto (t := 15) F_167_55 rfl ?_
      exact (l3 e2 e3)
    · intro e4
      replace e4 : (iAnd (iShr h i) 1) = 1 := (Classical.not_not.mp e4)
      refine r_ldI_n (m := 0) F_167_32 rfl ?_
      refine r_ldR_n (m := 1) F_167_33 rfl ?_
      refine r_ldI (m := 8) F_167_34 rfl ?_
      refine r_ldI (m := 5) F_167_36 rfl ?_
      refine r_stat2 (A := [vI m, vR 77, vI i, vI c]) (r := []) (n := 4) F_167_38 o_167 il_6_45 (by decide) rfl rfl rfl rfl (lay_le n_168 rfl) ?_
      refine sp_told hU (l4 e2 e4) (l5 e2 e4) (l6 e2 e4) l1 (l7 e2 e4) ?_
      show Rn _ _ _ _ _ [vI (tld (s 77) (Int.toNat m) i c)] _ _
      refine r_if (t := 48) F_167_41 rfl (inR_tld _ _ _ _) ?_ ?_
      · intro e5
        replace e5 : (tld (s 77) (Int.toNat m) i c) = 0 := e5
        refine r_ldI (m := 7) F_167_48 rfl ?_
        refine r_stI (m := 7) (L' := [some (vI m), some (vR 77), some (vI k), some (vR 78), some (vI p), some (vI c), some (vI h), some (vI b), some (vI i)]) F_167_50 rfl rfl ?_
        refine r_iinc (m := 8) (e := (i + 1)) (L' := [some (vI m), some (vR 77), some (vI k), some (vR 78), some (vI p), some (vI c), some (vI h), some (vI b), some (vI (i + 1))]) F_167_52 rfl rfl rfl rfl ?_
        refine r_goto (t := 15) F_167_55 rfl ?_
        exact (l8 e2 e4 e5)
      · intro e6
        replace e6 : ¬ (tld (s 77) (Int.toNat m) i c) = 0 := e6
        refine r_iconst F_167_44 ?_
        refine r_goto (t := 50) F_167_45 rfl ?_
        refine r_stI (m := 7) (L' := [some (vI m), some (vR 77), some (vI k), some (vR 78), some (vI p), some (vI c), some (vI h), some (vI 2), some (vI i)]) F_167_50 rfl rfl ?_
        refine r_iinc (m := 8) (e := (i + 1)) (L' := [some (vI m), some (vR 77), some (vI k), some (vR 78), some (vI p), some (vI c), some (vI h), some (vI 2), some (vI (i + 1))]) F_167_52 rfl rfl rfl rfl ?_
        refine r_goto (t := 15) F_167_55 rfl ?_
        exact (l9 e2 e4 e6)
theorem t_L_moved_58 {X : m_X} {d : Nat} {s : m_St} {P : Option Value → m_St → Prop} {m k p c h b i : Int} (hU : 2 ≤ X.2)
    (l1 : inR k)
    (l2 : ¬ k = 3 → k = 1 → inR b)
    (l3 : ¬ k = 3 → k = 1 → ¬ b = 1 → P (some (vI b)) s)
    (l4 : ¬ k = 3 → k = 1 → b = 1 → P (some (vI 0)) s)
    (l5 : ¬ k = 3 → ¬ k = 1 → ¬ k = 4 → k = 2 → P (some (vI (b + 1))) s)
    (l6 : ¬ k = 3 → ¬ k = 1 → ¬ k = 4 → ¬ k = 2 → ¬ k = 5 → P (some (vI b)) s)
    (l7 : ¬ k = 3 → ¬ k = 1 → ¬ k = 4 → ¬ k = 2 → k = 5 → P (some (vI (b + 1))) s)
    (l8 : ¬ k = 3 → ¬ k = 1 → k = 4 → inR b)
    (l9 : ¬ k = 3 → ¬ k = 1 → k = 4 → ¬ b = 1 → P (some (vI b)) s)
    (l10 : ¬ k = 3 → ¬ k = 1 → k = 4 → b = 1 → P (some (vI 0)) s)
    (l11 : k = 3 → ¬ (iAnd (iShr h c) 1) = 0 → k = 1 → inR b)
    (l12 : k = 3 → ¬ (iAnd (iShr h c) 1) = 0 → k = 1 → ¬ b = 1 → P (some (vI b)) s)
    (l13 : k = 3 → ¬ (iAnd (iShr h c) 1) = 0 → k = 1 → b = 1 → P (some (vI 0)) s)
    (l14 : k = 3 → ¬ (iAnd (iShr h c) 1) = 0 → ¬ k = 1 → ¬ k = 4 → k = 2 → P (some (vI (b + 1))) s)
    (l15 : k = 3 → ¬ (iAnd (iShr h c) 1) = 0 → ¬ k = 1 → ¬ k = 4 → ¬ k = 2 → ¬ k = 5 → P (some (vI b)) s)
    (l16 : k = 3 → ¬ (iAnd (iShr h c) 1) = 0 → ¬ k = 1 → ¬ k = 4 → ¬ k = 2 → k = 5 → P (some (vI (b + 1))) s)
    (l17 : k = 3 → ¬ (iAnd (iShr h c) 1) = 0 → ¬ k = 1 → k = 4 → inR b)
    (l18 : k = 3 → ¬ (iAnd (iShr h c) 1) = 0 → ¬ k = 1 → k = 4 → ¬ b = 1 → P (some (vI b)) s)
    (l19 : k = 3 → ¬ (iAnd (iShr h c) 1) = 0 → ¬ k = 1 → k = 4 → b = 1 → P (some (vI 0)) s)
    (l20 : k = 3 → (iAnd (iShr h c) 1) = 0 → P (some (vI (-1))) s)
    : Rn X (d + 1) 167 58 [some (vI m), some (vR 77), some (vI k), some (vR 78), some (vI p), some (vI c), some (vI h), some (vI b), some (vI i)] [] s P := by
  refine r_ldI_n (m := 2) F_167_58 rfl ?_
  refine r_iconst F_167_59 ?_
  refine r_icmp (t := 75) F_167_60 rfl l1 (by decide) ?_ ?_
  · intro e1
    replace e1 : ¬ k = 3 := e1
    refine r_ldI_n (m := 2) F_167_75 rfl ?_
    refine r_iconst F_167_76 ?_
    refine r_icmp (t := 85) F_167_77 rfl l1 (by decide) ?_ ?_
    · intro e2
      replace e2 : k = 1 := e2
      refine r_ldI (m := 7) F_167_85 rfl ?_
      refine r_iconst F_167_87 ?_
      refine r_icmp (t := 95) F_167_88 rfl (l2 e1 e2) (by decide) ?_ ?_
      · intro e3
        replace e3 : ¬ b = 1 := e3
        refine r_ldI (m := 7) F_167_95 rfl ?_
        refine r_goto (t := 119) F_167_97 rfl ?_
        refine r_ireturn F_167_119 rt_167 ?_
        exact (l3 e1 e2 e3)
      · intro e4
        replace e4 : b = 1 := (Classical.not_not.mp e4)
        refine r_iconst F_167_91 ?_
        refine r_goto (t := 119) F_167_92 rfl ?_
        refine r_ireturn F_167_119 rt_167 ?_
        exact (l4 e1 e2 e4)
    · intro e5
      replace e5 : ¬ k = 1 := e5
      refine r_ldI_n (m := 2) F_167_80 rfl ?_
      refine r_iconst F_167_81 ?_
      refine r_icmp (t := 100) F_167_82 rfl l1 (by decide) ?_ ?_
      · intro e6
        replace e6 : ¬ k = 4 := e6
        refine r_ldI_n (m := 2) F_167_100 rfl ?_
        refine r_iconst F_167_101 ?_
        refine r_icmp (t := 110) F_167_102 rfl l1 (by decide) ?_ ?_
        · intro e7
          replace e7 : k = 2 := e7
          refine r_ldI (m := 7) F_167_110 rfl ?_
          refine r_iconst F_167_112 ?_
          refine r_iadd F_167_113 rfl ?_
          refine r_goto (t := 119) F_167_114 rfl ?_
          refine r_ireturn F_167_119 rt_167 ?_
          exact (l5 e1 e5 e6 e7)
        · intro e8
          replace e8 : ¬ k = 2 := e8
          refine r_ldI_n (m := 2) F_167_105 rfl ?_
          refine r_iconst F_167_106 ?_
          refine r_icmp (t := 117) F_167_107 rfl l1 (by decide) ?_ ?_
          · intro e9
            replace e9 : ¬ k = 5 := e9
            refine r_ldI (m := 7) F_167_117 rfl ?_
            refine r_ireturn F_167_119 rt_167 ?_
            exact (l6 e1 e5 e6 e8 e9)
          · intro e10
            replace e10 : k = 5 := (Classical.not_not.mp e10)
            refine r_ldI (m := 7) F_167_110 rfl ?_
            refine r_iconst F_167_112 ?_
            refine r_iadd F_167_113 rfl ?_
            refine r_goto (t := 119) F_167_114 rfl ?_
            refine r_ireturn F_167_119 rt_167 ?_
            exact (l7 e1 e5 e6 e8 e10)
      · intro e11
        replace e11 : k = 4 := (Classical.not_not.mp e11)
        refine r_ldI (m := 7) F_167_85 rfl ?_
        refine r_iconst F_167_87 ?_
        refine r_icmp (t := 95) F_167_88 rfl (l8 e1 e5 e11) (by decide) ?_ ?_
        · intro e12
          replace e12 : ¬ b = 1 := e12
          refine r_ldI (m := 7) F_167_95 rfl ?_
          refine r_goto (t := 119) F_167_97 rfl ?_
          refine r_ireturn F_167_119 rt_167 ?_
          exact (l9 e1 e5 e11 e12)
        · intro e13
          replace e13 : b = 1 := (Classical.not_not.mp e13)
          refine r_iconst F_167_91 ?_
          refine r_goto (t := 119) F_167_92 rfl ?_
          refine r_ireturn F_167_119 rt_167 ?_
          exact (l10 e1 e5 e11 e13)
  · intro e14
    replace e14 : k = 3 := (Classical.not_not.mp e14)
    refine r_ldI (m := 6) F_167_63 rfl ?_
    refine r_ldI (m := 5) F_167_65 rfl ?_
    refine r_ishr F_167_67 rfl ?_
    refine r_iconst F_167_68 ?_
    refine r_iand F_167_69 rfl ?_
    refine r_if (t := 75) F_167_70 rfl (inR_iAnd _ _) ?_ ?_
    · intro e15
      replace e15 : ¬ (iAnd (iShr h c) 1) = 0 := e15
      refine r_ldI_n (m := 2) F_167_75 rfl ?_
      refine r_iconst F_167_76 ?_
      refine r_icmp (t := 85) F_167_77 rfl l1 (by decide) ?_ ?_
      · intro e16
        replace e16 : k = 1 := e16
        refine r_ldI (m := 7) F_167_85 rfl ?_
        refine r_iconst F_167_87 ?_
        refine r_icmp (t := 95) F_167_88 rfl (l11 e14 e15 e16) (by decide) ?_ ?_
        · intro e17
          replace e17 : ¬ b = 1 := e17
          refine r_ldI (m := 7) F_167_95 rfl ?_
          refine r_goto (t := 119) F_167_97 rfl ?_
          refine r_ireturn F_167_119 rt_167 ?_
          exact (l12 e14 e15 e16 e17)
        · intro e18
          replace e18 : b = 1 := (Classical.not_not.mp e18)
          refine r_iconst F_167_91 ?_
          refine r_goto (t := 119) F_167_92 rfl ?_
          refine r_ireturn F_167_119 rt_167 ?_
          exact (l13 e14 e15 e16 e18)
      · intro e19
        replace e19 : ¬ k = 1 := e19
        refine r_ldI_n (m := 2) F_167_80 rfl ?_
        refine r_iconst F_167_81 ?_
        refine r_icmp (t := 100) F_167_82 rfl l1 (by decide) ?_ ?_
        · intro e20
          replace e20 : ¬ k = 4 := e20
          refine r_ldI_n (m := 2) F_167_100 rfl ?_
          refine r_iconst F_167_101 ?_
          refine r_icmp (t := 110) F_167_102 rfl l1 (by decide) ?_ ?_
          · intro e21
            replace e21 : k = 2 := e21
            refine r_ldI (m := 7) F_167_110 rfl ?_
            refine r_iconst F_167_112 ?_
            refine r_iadd F_167_113 rfl ?_
            refine r_goto (t := 119) F_167_114 rfl ?_
            refine r_ireturn F_167_119 rt_167 ?_
            exact (l14 e14 e15 e19 e20 e21)
          · intro e22
            replace e22 : ¬ k = 2 := e22
            refine r_ldI_n (m := 2) F_167_105 rfl ?_
            refine r_iconst F_167_106 ?_
            refine r_icmp (t := 117) F_167_107 rfl l1 (by decide) ?_ ?_
            · intro e23
              replace e23 : ¬ k = 5 := e23
              refine r_ldI (m := 7) F_167_117 rfl ?_
              refine r_ireturn F_167_119 rt_167 ?_
              exact (l15 e14 e15 e19 e20 e22 e23)
            · intro e24
              replace e24 : k = 5 := (Classical.not_not.mp e24)
              refine r_ldI (m := 7) F_167_110 rfl ?_
              refine r_iconst F_167_112 ?_
              refine r_iadd F_167_113 rfl ?_
              refine r_goto (t := 119) F_167_114 rfl ?_
              refine r_ireturn F_167_119 rt_167 ?_
              exact (l16 e14 e15 e19 e20 e22 e24)
        · intro e25
          replace e25 : k = 4 := (Classical.not_not.mp e25)
          refine r_ldI (m := 7) F_167_85 rfl ?_
          refine r_iconst F_167_87 ?_
          refine r_icmp (t := 95) F_167_88 rfl (l17 e14 e15 e19 e25) (by decide) ?_ ?_
          · intro e26
            replace e26 : ¬ b = 1 := e26
            refine r_ldI (m := 7) F_167_95 rfl ?_
            refine r_goto (t := 119) F_167_97 rfl ?_
            refine r_ireturn F_167_119 rt_167 ?_
            exact (l18 e14 e15 e19 e25 e26)
          · intro e27
            replace e27 : b = 1 := (Classical.not_not.mp e27)
            refine r_iconst F_167_91 ?_
            refine r_goto (t := 119) F_167_92 rfl ?_
            refine r_ireturn F_167_119 rt_167 ?_
            exact (l19 e14 e15 e19 e25 e27)
    · intro e28
      replace e28 : (iAnd (iShr h c) 1) = 0 := (Classical.not_not.mp e28)
      refine r_iconst F_167_73 ?_
      refine r_ireturn F_167_74 rt_167 ?_
      exact (l20 e14 e28)
