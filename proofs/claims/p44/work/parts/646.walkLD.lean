/-! walks: the law, saying, making -/
theorem n_165 : m_n 165 = 6 := by decide +kernel
theorem F_165_0 : F 165 0 (.aload_n 3) 1 := ⟨1, by decide +kernel, rfl, rfl⟩
theorem F_165_1 : F 165 1 (.iconst 1) 2 := ⟨1, by decide +kernel, rfl, rfl⟩
theorem F_165_2 : F 165 2 (.iload 4) 4 := ⟨2, by decide +kernel, rfl, rfl⟩
theorem F_165_4 : F 165 4 (.iconst 4) 5 := ⟨1, by decide +kernel, rfl, rfl⟩
theorem F_165_5 : F 165 5 (.idiv) 6 := ⟨1, by decide +kernel, rfl, rfl⟩
theorem F_165_6 : F 165 6 (.isub) 7 := ⟨1, by decide +kernel, rfl, rfl⟩
theorem F_165_7 : F 165 7 (.iaload) 8 := ⟨1, by decide +kernel, rfl, rfl⟩
theorem F_165_8 : F 165 8 (.istore 5) 10 := ⟨2, by decide +kernel, rfl, rfl⟩
theorem F_165_10 : F 165 10 (.iload_n 0) 11 := ⟨1, by decide +kernel, rfl, rfl⟩
theorem F_165_11 : F 165 11 (.aload_n 1) 12 := ⟨1, by decide +kernel, rfl, rfl⟩
theorem F_165_12 : F 165 12 (.aload_n 2) 13 := ⟨1, by decide +kernel, rfl, rfl⟩
theorem F_165_13 : F 165 13 (.iconst 5) 14 := ⟨1, by decide +kernel, rfl, rfl⟩
theorem F_165_14 : F 165 14 (.iload 5) 16 := ⟨2, by decide +kernel, rfl, rfl⟩
theorem F_165_16 : F 165 16 (.imul) 17 := ⟨1, by decide +kernel, rfl, rfl⟩
theorem F_165_17 : F 165 17 (.iaload) 18 := ⟨1, by decide +kernel, rfl, rfl⟩
theorem F_165_18 : F 165 18 (.aload_n 2) 19 := ⟨1, by decide +kernel, rfl, rfl⟩
theorem F_165_19 : F 165 19 (.iconst 5) 20 := ⟨1, by decide +kernel, rfl, rfl⟩
theorem F_165_20 : F 165 20 (.iload 5) 22 := ⟨2, by decide +kernel, rfl, rfl⟩
theorem F_165_22 : F 165 22 (.imul) 23 := ⟨1, by decide +kernel, rfl, rfl⟩
theorem F_165_23 : F 165 23 (.iconst 1) 24 := ⟨1, by decide +kernel, rfl, rfl⟩
theorem F_165_24 : F 165 24 (.iadd) 25 := ⟨1, by decide +kernel, rfl, rfl⟩
theorem F_165_25 : F 165 25 (.iload 4) 27 := ⟨2, by decide +kernel, rfl, rfl⟩
theorem F_165_27 : F 165 27 (.iconst 4) 28 := ⟨1, by decide +kernel, rfl, rfl⟩
theorem F_165_28 : F 165 28 (.irem) 29 := ⟨1, by decide +kernel, rfl, rfl⟩
theorem F_165_29 : F 165 29 (.invokestatic 53) 32 := ⟨3, by decide +kernel, rfl, rfl⟩
theorem o_165 : m_o 165 = 6 := by decide +kernel
theorem il_6_53 : ilq 6 53 1 166 6 = true := by decide +kernel
theorem F_165_32 : F 165 32 (.return_) 33 := ⟨1, by decide +kernel, rfl, rfl⟩
theorem rt_165 : m_r 165 = none := by decide +kernel
theorem n_160 : m_n 160 = 13 := by decide +kernel
theorem F_160_0 : F 160 0 (.aload_n 0) 1 := ⟨1, by decide +kernel, rfl, rfl⟩
theorem F_160_1 : F 160 1 (.iconst 0) 2 := ⟨1, by decide +kernel, rfl, rfl⟩
theorem F_160_2 : F 160 2 (.bipush 60) 4 := ⟨2, by decide +kernel, rfl, rfl⟩
theorem F_160_4 : F 160 4 (.invokevirtual 25) 7 := ⟨3, by decide +kernel, rfl, rfl⟩
theorem o_160 : m_o 160 = 6 := by decide +kernel
theorem il_6_25 : ilq 6 25 0 28 2 = true := by decide +kernel
theorem vy_28 : (m_cls 5).1 = (m_y 28).cls ∧ 5 < m_cl.length := by decide +kernel
theorem F_160_7 : F 160 7 (.bipush 60) 9 := ⟨2, by decide +kernel, rfl, rfl⟩
theorem F_160_9 : F 160 9 (.if_icmp .ne 7) 12 := ⟨3, by decide +kernel, rfl, rfl⟩
theorem F_160_12 : F 160 12 (.iconst 1) 13 := ⟨1, by decide +kernel, rfl, rfl⟩
theorem F_160_13 : F 160 13 (.goto 4) 16 := ⟨3, by decide +kernel, rfl, rfl⟩
theorem F_160_17 : F 160 17 (.istore 7) 19 := ⟨2, by decide +kernel, rfl, rfl⟩
theorem F_160_19 : F 160 19 (.aload_n 0) 20 := ⟨1, by decide +kernel, rfl, rfl⟩
theorem F_160_20 : F 160 20 (.iload 6) 22 := ⟨2, by decide +kernel, rfl, rfl⟩
theorem F_160_22 : F 160 22 (.iconst 1) 23 := ⟨1, by decide +kernel, rfl, rfl⟩
theorem F_160_23 : F 160 23 (.iand) 24 := ⟨1, by decide +kernel, rfl, rfl⟩
theorem F_160_24 : F 160 24 (.bipush 119) 26 := ⟨2, by decide +kernel, rfl, rfl⟩
theorem F_160_26 : F 160 26 (.invokestatic 28) 29 := ⟨3, by decide +kernel, rfl, rfl⟩
theorem il_6_28 : ilq 6 28 1 161 3 = true := by decide +kernel
theorem F_160_29 : F 160 29 (.istore 8) 31 := ⟨2, by decide +kernel, rfl, rfl⟩
theorem F_160_31 : F 160 31 (.aload_n 0) 32 := ⟨1, by decide +kernel, rfl, rfl⟩
theorem F_160_32 : F 160 32 (.iload 8) 34 := ⟨2, by decide +kernel, rfl, rfl⟩
theorem F_160_34 : F 160 34 (.bipush 48) 36 := ⟨2, by decide +kernel, rfl, rfl⟩
theorem F_160_36 : F 160 36 (.iload_n 1) 37 := ⟨1, by decide +kernel, rfl, rfl⟩
theorem F_160_37 : F 160 37 (.bipush 10) 39 := ⟨2, by decide +kernel, rfl, rfl⟩
theorem F_160_39 : F 160 39 (.idiv) 40 := ⟨1, by decide +kernel, rfl, rfl⟩
theorem F_160_40 : F 160 40 (.iadd) 41 := ⟨1, by decide +kernel, rfl, rfl⟩
theorem F_160_41 : F 160 41 (.invokestatic 28) 44 := ⟨3, by decide +kernel, rfl, rfl⟩
theorem F_160_44 : F 160 44 (.istore 8) 46 := ⟨2, by decide +kernel, rfl, rfl⟩
theorem F_160_46 : F 160 46 (.aload_n 0) 47 := ⟨1, by decide +kernel, rfl, rfl⟩
theorem F_160_47 : F 160 47 (.iload 8) 49 := ⟨2, by decide +kernel, rfl, rfl⟩
theorem F_160_49 : F 160 49 (.bipush 48) 51 := ⟨2, by decide +kernel, rfl, rfl⟩
theorem F_160_51 : F 160 51 (.iload_n 1) 52 := ⟨1, by decide +kernel, rfl, rfl⟩
theorem F_160_52 : F 160 52 (.bipush 10) 54 := ⟨2, by decide +kernel, rfl, rfl⟩
theorem F_160_54 : F 160 54 (.irem) 55 := ⟨1, by decide +kernel, rfl, rfl⟩
theorem F_160_55 : F 160 55 (.iadd) 56 := ⟨1, by decide +kernel, rfl, rfl⟩
theorem F_160_56 : F 160 56 (.invokestatic 28) 59 := ⟨3, by decide +kernel, rfl, rfl⟩
theorem F_160_59 : F 160 59 (.istore 8) 61 := ⟨2, by decide +kernel, rfl, rfl⟩
theorem F_160_61 : F 160 61 (.iconst 0) 62 := ⟨1, by decide +kernel, rfl, rfl⟩
theorem F_160_62 : F 160 62 (.istore 9) 64 := ⟨2, by decide +kernel, rfl, rfl⟩
theorem F_160_64 : F 160 64 (.iload 9) 66 := ⟨2, by decide +kernel, rfl, rfl⟩
theorem F_160_66 : F 160 66 (.iconst 2) 67 := ⟨1, by decide +kernel, rfl, rfl⟩
theorem F_160_67 : F 160 67 (.if_icmp .ge 207) 70 := ⟨3, by decide +kernel, rfl, rfl⟩
theorem F_160_274 : F 160 274 (.iload 7) 276 := ⟨2, by decide +kernel, rfl, rfl⟩
theorem F_160_276 : F 160 276 (.ifCond .eq 32) 279 := ⟨3, by decide +kernel, rfl, rfl⟩
theorem F_160_308 : F 160 308 (.iconst 0) 309 := ⟨1, by decide +kernel, rfl, rfl⟩
theorem F_160_309 : F 160 309 (.ireturn) 310 := ⟨1, by decide +kernel, rfl, rfl⟩
theorem rt_160 : m_r 160 = (some .boolean) := by decide +kernel
theorem F_160_279 : F 160 279 (.iload 8) 281 := ⟨2, by decide +kernel, rfl, rfl⟩
theorem F_160_281 : F 160 281 (.ifCond .le 27) 284 := ⟨3, by decide +kernel, rfl, rfl⟩
theorem F_160_284 : F 160 284 (.aload_n 0) 285 := ⟨1, by decide +kernel, rfl, rfl⟩
theorem F_160_285 : F 160 285 (.iconst 0) 286 := ⟨1, by decide +kernel, rfl, rfl⟩
theorem F_160_286 : F 160 286 (.invokevirtual 35) 289 := ⟨3, by decide +kernel, rfl, rfl⟩
theorem il_6_35 : ilq 6 35 0 30 1 = true := by decide +kernel
theorem vy_30 : (m_cls 5).1 = (m_y 30).cls ∧ 5 < m_cl.length := by decide +kernel
theorem F_160_70 : F 160 70 (.iload 6) 72 := ⟨2, by decide +kernel, rfl, rfl⟩
theorem F_160_72 : F 160 72 (.bipush 9) 74 := ⟨2, by decide +kernel, rfl, rfl⟩
theorem F_160_74 : F 160 74 (.ishr) 75 := ⟨1, by decide +kernel, rfl, rfl⟩
theorem F_160_75 : F 160 75 (.iconst 1) 76 := ⟨1, by decide +kernel, rfl, rfl⟩
theorem F_160_76 : F 160 76 (.iand) 77 := ⟨1, by decide +kernel, rfl, rfl⟩
theorem F_160_77 : F 160 77 (.iload 9) 79 := ⟨2, by decide +kernel, rfl, rfl⟩
theorem F_160_79 : F 160 79 (.if_icmp .ne 7) 82 := ⟨3, by decide +kernel, rfl, rfl⟩
theorem F_160_86 : F 160 86 (.iconst 0) 87 := ⟨1, by decide +kernel, rfl, rfl⟩
theorem F_160_87 : F 160 87 (.istore 10) 89 := ⟨2, by decide +kernel, rfl, rfl⟩
theorem F_160_89 : F 160 89 (.iconst 0) 90 := ⟨1, by decide +kernel, rfl, rfl⟩
theorem F_160_90 : F 160 90 (.istore 11) 92 := ⟨2, by decide +kernel, rfl, rfl⟩
theorem F_160_82 : F 160 82 (.iconst 1) 83 := ⟨1, by decide +kernel, rfl, rfl⟩
theorem F_160_83 : F 160 83 (.goto 4) 86 := ⟨3, by decide +kernel, rfl, rfl⟩
theorem F_160_289 : F 160 289 (.bipush (-9)) 291 := ⟨2, by decide +kernel, rfl, rfl⟩
theorem F_160_291 : F 160 291 (.if_icmp .ne 17) 294 := ⟨3, by decide +kernel, rfl, rfl⟩
theorem F_160_294 : F 160 294 (.aload_n 0) 295 := ⟨1, by decide +kernel, rfl, rfl⟩
theorem F_160_295 : F 160 295 (.iconst 0) 296 := ⟨1, by decide +kernel, rfl, rfl⟩
theorem F_160_296 : F 160 296 (.invokevirtual 38) 299 := ⟨3, by decide +kernel, rfl, rfl⟩
theorem il_6_38 : ilq 6 38 0 47 1 = true := by decide +kernel
theorem vy_47 : (m_cls 5).1 = (m_y 47).cls ∧ 5 < m_cl.length := by decide +kernel
theorem F_160_92 : F 160 92 (.iload 11) 94 := ⟨2, by decide +kernel, rfl, rfl⟩
theorem F_160_94 : F 160 94 (.iload_n 2) 95 := ⟨1, by decide +kernel, rfl, rfl⟩
theorem F_160_95 : F 160 95 (.if_icmp .ge 76) 98 := ⟨3, by decide +kernel, rfl, rfl⟩
theorem F_160_171 : F 160 171 (.iconst 0) 172 := ⟨1, by decide +kernel, rfl, rfl⟩
theorem F_160_172 : F 160 172 (.istore 11) 174 := ⟨2, by decide +kernel, rfl, rfl⟩
theorem F_160_98 : F 160 98 (.iload 10) 100 := ⟨2, by decide +kernel, rfl, rfl⟩
theorem F_160_100 : F 160 100 (.ifCond .eq 71) 103 := ⟨3, by decide +kernel, rfl, rfl⟩
theorem F_160_103 : F 160 103 (.aload_n 0) 104 := ⟨1, by decide +kernel, rfl, rfl⟩
theorem F_160_104 : F 160 104 (.iload 8) 106 := ⟨2, by decide +kernel, rfl, rfl⟩
theorem F_160_106 : F 160 106 (.iload 6) 108 := ⟨2, by decide +kernel, rfl, rfl⟩
theorem F_160_108 : F 160 108 (.iconst 1) 109 := ⟨1, by decide +kernel, rfl, rfl⟩
theorem F_160_109 : F 160 109 (.ishr) 110 := ⟨1, by decide +kernel, rfl, rfl⟩
theorem F_160_110 : F 160 110 (.iload 11) 112 := ⟨2, by decide +kernel, rfl, rfl⟩
theorem F_160_112 : F 160 112 (.ifCond .ne 7) 115 := ⟨3, by decide +kernel, rfl, rfl⟩
theorem F_160_119 : F 160 119 (.iconst 0) 120 := ⟨1, by decide +kernel, rfl, rfl⟩
theorem F_160_120 : F 160 120 (.iand) 121 := ⟨1, by decide +kernel, rfl, rfl⟩
theorem F_160_121 : F 160 121 (.iadd) 122 := ⟨1, by decide +kernel, rfl, rfl⟩
theorem F_160_122 : F 160 122 (.bipush 102) 124 := ⟨2, by decide +kernel, rfl, rfl⟩
theorem F_160_124 : F 160 124 (.invokestatic 28) 127 := ⟨3, by decide +kernel, rfl, rfl⟩
theorem F_160_127 : F 160 127 (.istore 8) 129 := ⟨2, by decide +kernel, rfl, rfl⟩
theorem F_160_129 : F 160 129 (.aload_n 0) 130 := ⟨1, by decide +kernel, rfl, rfl⟩
theorem F_160_130 : F 160 130 (.iload 8) 132 := ⟨2, by decide +kernel, rfl, rfl⟩
theorem F_160_132 : F 160 132 (.bipush 48) 134 := ⟨2, by decide +kernel, rfl, rfl⟩
theorem F_160_134 : F 160 134 (.aload_n 3) 135 := ⟨1, by decide +kernel, rfl, rfl⟩
theorem F_160_135 : F 160 135 (.iconst 2) 136 := ⟨1, by decide +kernel, rfl, rfl⟩
theorem F_160_136 : F 160 136 (.iload 11) 138 := ⟨2, by decide +kernel, rfl, rfl⟩
theorem F_160_138 : F 160 138 (.imul) 139 := ⟨1, by decide +kernel, rfl, rfl⟩
theorem F_160_139 : F 160 139 (.iaload) 140 := ⟨1, by decide +kernel, rfl, rfl⟩
theorem F_160_140 : F 160 140 (.iadd) 141 := ⟨1, by decide +kernel, rfl, rfl⟩
theorem F_160_141 : F 160 141 (.invokestatic 28) 144 := ⟨3, by decide +kernel, rfl, rfl⟩
theorem F_160_144 : F 160 144 (.istore 8) 146 := ⟨2, by decide +kernel, rfl, rfl⟩
theorem F_160_146 : F 160 146 (.aload_n 0) 147 := ⟨1, by decide +kernel, rfl, rfl⟩
theorem F_160_147 : F 160 147 (.iload 8) 149 := ⟨2, by decide +kernel, rfl, rfl⟩
theorem F_160_149 : F 160 149 (.bipush 48) 151 := ⟨2, by decide +kernel, rfl, rfl⟩
theorem F_160_151 : F 160 151 (.aload_n 3) 152 := ⟨1, by decide +kernel, rfl, rfl⟩
theorem F_160_152 : F 160 152 (.iconst 2) 153 := ⟨1, by decide +kernel, rfl, rfl⟩
theorem F_160_153 : F 160 153 (.iload 11) 155 := ⟨2, by decide +kernel, rfl, rfl⟩
theorem F_160_155 : F 160 155 (.imul) 156 := ⟨1, by decide +kernel, rfl, rfl⟩
theorem F_160_156 : F 160 156 (.iconst 1) 157 := ⟨1, by decide +kernel, rfl, rfl⟩
theorem F_160_157 : F 160 157 (.iadd) 158 := ⟨1, by decide +kernel, rfl, rfl⟩
theorem F_160_158 : F 160 158 (.iaload) 159 := ⟨1, by decide +kernel, rfl, rfl⟩
theorem F_160_159 : F 160 159 (.iadd) 160 := ⟨1, by decide +kernel, rfl, rfl⟩
theorem F_160_160 : F 160 160 (.invokestatic 28) 163 := ⟨3, by decide +kernel, rfl, rfl⟩
theorem F_160_163 : F 160 163 (.istore 8) 165 := ⟨2, by decide +kernel, rfl, rfl⟩
theorem F_160_165 : F 160 165 (.iinc 11 1) 168 := ⟨3, by decide +kernel, rfl, rfl⟩
theorem F_160_168 : F 160 168 (.goto (-76)) 171 := ⟨3, by decide +kernel, rfl, rfl⟩
theorem F_160_115 : F 160 115 (.iconst 3) 116 := ⟨1, by decide +kernel, rfl, rfl⟩
theorem F_160_116 : F 160 116 (.goto 4) 119 := ⟨3, by decide +kernel, rfl, rfl⟩
theorem F_160_299 : F 160 299 (.iload 4) 301 := ⟨2, by decide +kernel, rfl, rfl⟩
theorem F_160_301 : F 160 301 (.if_icmp .ne 7) 304 := ⟨3, by decide +kernel, rfl, rfl⟩
theorem F_160_304 : F 160 304 (.iconst 1) 305 := ⟨1, by decide +kernel, rfl, rfl⟩
theorem F_160_305 : F 160 305 (.goto 4) 308 := ⟨3, by decide +kernel, rfl, rfl⟩
theorem F_160_174 : F 160 174 (.iload 11) 176 := ⟨2, by decide +kernel, rfl, rfl⟩
theorem F_160_176 : F 160 176 (.iload 4) 178 := ⟨2, by decide +kernel, rfl, rfl⟩
theorem F_160_178 : F 160 178 (.if_icmp .ge 90) 181 := ⟨3, by decide +kernel, rfl, rfl⟩
theorem F_160_268 : F 160 268 (.iinc 9 1) 271 := ⟨3, by decide +kernel, rfl, rfl⟩
theorem F_160_271 : F 160 271 (.goto (-207)) 274 := ⟨3, by decide +kernel, rfl, rfl⟩
theorem F_160_181 : F 160 181 (.iload 10) 183 := ⟨2, by decide +kernel, rfl, rfl⟩
theorem F_160_183 : F 160 183 (.ifCond .ne 85) 186 := ⟨3, by decide +kernel, rfl, rfl⟩
theorem F_160_186 : F 160 186 (.aload_n 0) 187 := ⟨1, by decide +kernel, rfl, rfl⟩
theorem F_160_187 : F 160 187 (.iload 8) 189 := ⟨2, by decide +kernel, rfl, rfl⟩
theorem F_160_189 : F 160 189 (.iload 6) 191 := ⟨2, by decide +kernel, rfl, rfl⟩
theorem F_160_191 : F 160 191 (.iconst 3) 192 := ⟨1, by decide +kernel, rfl, rfl⟩
theorem F_160_192 : F 160 192 (.iload 11) 194 := ⟨2, by decide +kernel, rfl, rfl⟩
theorem F_160_194 : F 160 194 (.iadd) 195 := ⟨1, by decide +kernel, rfl, rfl⟩
theorem F_160_195 : F 160 195 (.ishr) 196 := ⟨1, by decide +kernel, rfl, rfl⟩
theorem F_160_196 : F 160 196 (.iload 11) 198 := ⟨2, by decide +kernel, rfl, rfl⟩
theorem F_160_198 : F 160 198 (.iconst 3) 199 := ⟨1, by decide +kernel, rfl, rfl⟩
theorem F_160_199 : F 160 199 (.if_icmp .ge 7) 202 := ⟨3, by decide +kernel, rfl, rfl⟩
theorem F_160_206 : F 160 206 (.iconst 0) 207 := ⟨1, by decide +kernel, rfl, rfl⟩
theorem F_160_207 : F 160 207 (.iand) 208 := ⟨1, by decide +kernel, rfl, rfl⟩
theorem F_160_208 : F 160 208 (.iadd) 209 := ⟨1, by decide +kernel, rfl, rfl⟩
theorem F_160_209 : F 160 209 (.aload 5) 211 := ⟨2, by decide +kernel, rfl, rfl⟩
theorem F_160_211 : F 160 211 (.iconst 5) 212 := ⟨1, by decide +kernel, rfl, rfl⟩
theorem F_160_212 : F 160 212 (.iload 11) 214 := ⟨2, by decide +kernel, rfl, rfl⟩
theorem F_160_214 : F 160 214 (.imul) 215 := ⟨1, by decide +kernel, rfl, rfl⟩
theorem F_160_215 : F 160 215 (.iaload) 216 := ⟨1, by decide +kernel, rfl, rfl⟩
theorem F_160_216 : F 160 216 (.invokestatic 31) 219 := ⟨3, by decide +kernel, rfl, rfl⟩
theorem il_6_31 : ilq 6 31 1 162 1 = true := by decide +kernel
theorem F_160_219 : F 160 219 (.invokestatic 28) 222 := ⟨3, by decide +kernel, rfl, rfl⟩
theorem F_160_222 : F 160 222 (.istore 8) 224 := ⟨2, by decide +kernel, rfl, rfl⟩
theorem F_160_224 : F 160 224 (.iconst 0) 225 := ⟨1, by decide +kernel, rfl, rfl⟩
theorem F_160_225 : F 160 225 (.istore 12) 227 := ⟨2, by decide +kernel, rfl, rfl⟩
theorem F_160_202 : F 160 202 (.iconst 1) 203 := ⟨1, by decide +kernel, rfl, rfl⟩
theorem F_160_203 : F 160 203 (.goto 4) 206 := ⟨3, by decide +kernel, rfl, rfl⟩
theorem F_160_227 : F 160 227 (.iload 12) 229 := ⟨2, by decide +kernel, rfl, rfl⟩
theorem F_160_229 : F 160 229 (.iconst 4) 230 := ⟨1, by decide +kernel, rfl, rfl⟩
theorem F_160_230 : F 160 230 (.if_icmp .ge 32) 233 := ⟨3, by decide +kernel, rfl, rfl⟩
theorem F_160_262 : F 160 262 (.iinc 11 1) 265 := ⟨3, by decide +kernel, rfl, rfl⟩
theorem F_160_265 : F 160 265 (.goto (-91)) 268 := ⟨3, by decide +kernel, rfl, rfl⟩
theorem F_160_233 : F 160 233 (.aload_n 0) 234 := ⟨1, by decide +kernel, rfl, rfl⟩
theorem F_160_234 : F 160 234 (.iload 8) 236 := ⟨2, by decide +kernel, rfl, rfl⟩
theorem F_160_236 : F 160 236 (.bipush 48) 238 := ⟨2, by decide +kernel, rfl, rfl⟩
theorem F_160_238 : F 160 238 (.aload 5) 240 := ⟨2, by decide +kernel, rfl, rfl⟩
theorem F_160_240 : F 160 240 (.iconst 5) 241 := ⟨1, by decide +kernel, rfl, rfl⟩
theorem F_160_241 : F 160 241 (.iload 11) 243 := ⟨2, by decide +kernel, rfl, rfl⟩
theorem F_160_243 : F 160 243 (.imul) 244 := ⟨1, by decide +kernel, rfl, rfl⟩
theorem F_160_244 : F 160 244 (.iconst 1) 245 := ⟨1, by decide +kernel, rfl, rfl⟩
theorem F_160_245 : F 160 245 (.iadd) 246 := ⟨1, by decide +kernel, rfl, rfl⟩
theorem F_160_246 : F 160 246 (.iload 12) 248 := ⟨2, by decide +kernel, rfl, rfl⟩
theorem F_160_248 : F 160 248 (.iadd) 249 := ⟨1, by decide +kernel, rfl, rfl⟩
theorem F_160_249 : F 160 249 (.iaload) 250 := ⟨1, by decide +kernel, rfl, rfl⟩
theorem F_160_250 : F 160 250 (.iadd) 251 := ⟨1, by decide +kernel, rfl, rfl⟩
theorem F_160_251 : F 160 251 (.invokestatic 28) 254 := ⟨3, by decide +kernel, rfl, rfl⟩
theorem F_160_254 : F 160 254 (.istore 8) 256 := ⟨2, by decide +kernel, rfl, rfl⟩
theorem F_160_256 : F 160 256 (.iinc 12 1) 259 := ⟨3, by decide +kernel, rfl, rfl⟩
theorem F_160_259 : F 160 259 (.goto (-32)) 262 := ⟨3, by decide +kernel, rfl, rfl⟩
theorem t_L_says {X : m_X} {d : Nat} {s : m_St} {P : Option Value → m_St → Prop} {m z : Int} (hU : 4 ≤ X.2)
    (l1 : 0 ≤ z)
    (l2 : inR z)
    (l3 : 0 ≤ (1 - (z / 4)))
    (l4 : (1 - (z / 4)) < 2)
    (l5 : 0 ≤ (5 * (s 79 (1 - (z / 4)))))
    (l6 : (5 * (s 79 (1 - (z / 4)))) < 30)
    (l7 : 2 ≤ X.2)
    (l8 : trL (s 38 5) (s 77) (Int.toNat m))
    (l9 : 0 ≤ m)
    (l10 : m ≤ 5)
    (l11 : ∀ j, 0 ≤ j → j < 2 * m → inR (s 77 j))
    (l12 : 0 ≤ (s 78 (5 * (s 79 (1 - (z / 4))))))
    (l13 : (s 78 (5 * (s 79 (1 - (z / 4))))) < 6)
    (l14 : 0 ≤ ((5 * (s 79 (1 - (z / 4)))) + 1))
    (l15 : ((5 * (s 79 (1 - (z / 4)))) + 1) + 3 < 30)
    (l16 : ∀ c, 0 ≤ c → c < 4 → 0 ≤ s 78 (((5 * (s 79 (1 - (z / 4)))) + 1) + c) ∧ s 78 (((5 * (s 79 (1 - (z / 4)))) + 1) + c) ≤ 20)
    (l17 : 0 ≤ (z % 4))
    (l18 : (z % 4) < 4)
    (l19 : P none (m_upd s 78 (((5 * (s 79 (1 - (z / 4)))) + 1) + (z % 4)) (cl (s 78 (((5 * (s 79 (1 - (z / 4)))) + 1) + (z % 4)) + mv (s 78 (5 * (s 79 (1 - (z / 4))))) (hset (fun c => s 78 (((5 * (s 79 (1 - (z / 4)))) + 1) + c)) (hf (s 78 (5 * (s 79 (1 - (z / 4))))))) (s 38 5) (z % 4)))))
    : Cl X (d + 3) 165 [vI m, vR 77, vR 78, vR 79, vI z] s P := by
  refine Cl_of n_165 rfl ?_
  show Rn _ _ _ _ [some (vI m), some (vR 77), some (vR 78), some (vR 79), some (vI z), none] [] _ _
  refine r_ldR_n (m := 3) F_165_0 rfl ?_
  refine r_iconst F_165_1 ?_
  refine r_ldI (m := 4) F_165_2 rfl ?_
  refine r_iconst F_165_4 ?_
  refine r_idiv F_165_5 l2 l1 (by decide) (by decide) ?_
  refine r_isub F_165_6 rfl ?_
  refine r_ialdU (c := 2) (len := 2) (e := (s 79 (1 - (z / 4)))) F_165_7 rfl rfl (Nat.lt_of_lt_of_le (by decide) hU) (by decide) (by decide) l3 l4 rfl ?_
  refine r_stI (m := 5) (L' := [some (vI m), some (vR 77), some (vR 78), some (vR 79), some (vI z), some (vI (s 79 (1 - (z / 4))))]) F_165_8 rfl rfl ?_
  refine r_ldI_n (m := 0) F_165_10 rfl ?_
  refine r_ldR_n (m := 1) F_165_11 rfl ?_
  refine r_ldR_n (m := 2) F_165_12 rfl ?_
  refine r_iconst F_165_13 ?_
  refine r_ldI (m := 5) F_165_14 rfl ?_
  refine r_imul F_165_16 rfl ?_
  refine r_ialdU (c := 1) (len := 30) (e := (s 78 (5 * (s 79 (1 - (z / 4)))))) F_165_17 rfl rfl (Nat.lt_of_lt_of_le (by decide) hU) (by decide) (by decide) l5 l6 rfl ?_
  refine r_ldR_n (m := 2) F_165_18 rfl ?_
  refine r_iconst F_165_19 ?_
  refine r_ldI (m := 5) F_165_20 rfl ?_
  refine r_imul F_165_22 rfl ?_
  refine r_iconst F_165_23 ?_
  refine r_iadd F_165_24 rfl ?_
  refine r_ldI (m := 4) F_165_25 rfl ?_
  refine r_iconst F_165_27 ?_
  refine r_irem F_165_28 l2 l1 (by decide) (by decide) ?_
  refine r_stat2 (A := [vI m, vR 77, vI (s 78 (5 * (s 79 (1 - (z / 4))))), vR 78, vI ((5 * (s 79 (1 - (z / 4)))) + 1), vI (z % 4)]) (r := []) (n := 6) F_165_29 o_165 il_6_53 (by decide) rfl rfl rfl rfl (lay_le n_166 rfl) ?_
  refine sp_hearsL l7 l8 l9 l10 l11 l12 l13 l14 l15 l16 l17 l18 ?_
  show Rn _ _ _ _ _ [] _ _
  refine r_return F_165_32 rt_165 ?_
  exact l19
theorem t_L_makes {X : m_X} {d : Nat} {s : m_St} {P : Option Value → m_St → Prop} {w m n b : Int} (hU : 2 ≤ X.2)
    (l1 : s 10 2 = 60)
    (l2 : (fil (m_upd s 11 0 60) 13 60 32) 11 0 = 60)
    (l3 : 0 ≤ (iAnd b 1))
    (l4 : (iAnd b 1) < 60)
    (l5 : (fil (m_upd s 11 0 60) 13 60 32) 13 (iAnd b 1) = 32)
    (l6 : 0 ≤ w)
    (l7 : inR w)
    (l8 : (m_upd (fil (m_upd s 11 0 60) 13 60 32) 13 (iAnd b 1) (i2B 119)) 11 0 = 60)
    (l9 : 0 ≤ ((iAnd b 1) + 1))
    (l10 : ((iAnd b 1) + 1) < 60)
    (l11 : (m_upd (fil (m_upd s 11 0 60) 13 60 32) 13 (iAnd b 1) (i2B 119)) 13 ((iAnd b 1) + 1) = 32)
    (l12 : (m_upd (m_upd (fil (m_upd s 11 0 60) 13 60 32) 13 (iAnd b 1) (i2B 119)) 13 ((iAnd b 1) + 1) (i2B (48 + (w / 10)))) 11 0 = 60)
    (l13 : 0 ≤ (((iAnd b 1) + 1) + 1))
    (l14 : (((iAnd b 1) + 1) + 1) < 60)
    (l15 : (m_upd (m_upd (fil (m_upd s 11 0 60) 13 60 32) 13 (iAnd b 1) (i2B 119)) 13 ((iAnd b 1) + 1) (i2B (48 + (w / 10)))) 13 (((iAnd b 1) + 1) + 1) = 32)
    (l16 : Rn X (d + 8) 160 64 [some (vR 0), some (vI w), some (vI m), some (vR 77), some (vI n), some (vR 78), some (vI b), some (vI 1), some (vI ((((iAnd b 1) + 1) + 1) + 1)), some (vI 0), none, none, none] [] (m_upd (m_upd (m_upd (fil (m_upd s 11 0 60) 13 60 32) 13 (iAnd b 1) (i2B 119)) 13 ((iAnd b 1) + 1) (i2B (48 + (w / 10)))) 13 (((iAnd b 1) + 1) + 1) (i2B (48 + (w % 10)))) P)
    : Cl X (d + 8) 160 [vR 0, vI w, vI m, vR 77, vI n, vR 78, vI b] s P := by
  refine Cl_of n_160 rfl ?_
  show Rn _ _ _ _ [some (vR 0), some (vI w), some (vI m), some (vR 77), some (vI n), some (vR 78), some (vI b), none, none, none, none, none, none] [] _ _
  refine r_ldR_n (m := 0) F_160_0 rfl ?_
  refine r_iconst F_160_1 ?_
  refine r_bipush F_160_2 bi_60 ?_
  refine r_virt2 (A := [vI 0, vI 60]) (r := []) (n := 2) F_160_4 o_160 il_6_25 rfl rfl rfl rfl ty_0 vy_28 (lay_le n_28 rfl) ?_
  refine sp_text0 l1 ?_
  show Rn _ _ _ _ _ [vI 60] _ _
  refine r_bipush F_160_7 bi_60 ?_
  refine r_icmpF (t := 16) F_160_9 rfl (by decide) (by decide) (by show ¬ (¬ (60 : Int) = 60); decide) ?_
  refine r_iconst F_160_12 ?_
  refine r_goto (t := 17) F_160_13 rfl ?_
  refine r_stI (m := 7) (L' := [some (vR 0), some (vI w), some (vI m), some (vR 77), some (vI n), some (vR 78), some (vI b), some (vI 1), none, none, none, none, none]) F_160_17 rfl rfl ?_
  refine r_ldR_n (m := 0) F_160_19 rfl ?_
  refine r_ldI (m := 6) F_160_20 rfl ?_
  refine r_iconst F_160_22 ?_
  refine r_iand F_160_23 rfl ?_
  refine r_bipush F_160_24 bi_119 ?_
  refine r_stat2 (A := [vR 0, vI (iAnd b 1), vI 119]) (r := []) (n := 3) F_160_26 o_160 il_6_28 (by decide) rfl rfl rfl rfl (lay_le n_161 rfl) ?_
  refine sp_putL l2 l3 l4 l5 ?_
  show Rn _ _ _ _ _ [vI ((iAnd b 1) + 1)] _ _
  refine r_stI (m := 8) (L' := [some (vR 0), some (vI w), some (vI m), some (vR 77), some (vI n), some (vR 78), some (vI b), some (vI 1), some (vI ((iAnd b 1) + 1)), none, none, none, none]) F_160_29 rfl rfl ?_
  refine r_ldR_n (m := 0) F_160_31 rfl ?_
  refine r_ldI (m := 8) F_160_32 rfl ?_
  refine r_bipush F_160_34 bi_48 ?_
  refine r_ldI_n (m := 1) F_160_36 rfl ?_
  refine r_bipush F_160_37 bi_10 ?_
  refine r_idiv F_160_39 l7 l6 (by decide) (by decide) ?_
  refine r_iadd F_160_40 rfl ?_
  refine r_stat2 (A := [vR 0, vI ((iAnd b 1) + 1), vI (48 + (w / 10))]) (r := []) (n := 3) F_160_41 o_160 il_6_28 (by decide) rfl rfl rfl rfl (lay_le n_161 rfl) ?_
  refine sp_putL l8 l9 l10 l11 ?_
  show Rn _ _ _ _ _ [vI (((iAnd b 1) + 1) + 1)] _ _
  refine r_stI (m := 8) (L' := [some (vR 0), some (vI w), some (vI m), some (vR 77), some (vI n), some (vR 78), some (vI b), some (vI 1), some (vI (((iAnd b 1) + 1) + 1)), none, none, none, none]) F_160_44 rfl rfl ?_
  refine r_ldR_n (m := 0) F_160_46 rfl ?_
  refine r_ldI (m := 8) F_160_47 rfl ?_
  refine r_bipush F_160_49 bi_48 ?_
  refine r_ldI_n (m := 1) F_160_51 rfl ?_
  refine r_bipush F_160_52 bi_10 ?_
  refine r_irem F_160_54 l7 l6 (by decide) (by decide) ?_
  refine r_iadd F_160_55 rfl ?_
  refine r_stat2 (A := [vR 0, vI (((iAnd b 1) + 1) + 1), vI (48 + (w % 10))]) (r := []) (n := 3) F_160_56 o_160 il_6_28 (by decide) rfl rfl rfl rfl (lay_le n_161 rfl) ?_
  refine sp_putL l12 l13 l14 l15 ?_
  show Rn _ _ _ _ _ [vI ((((iAnd b 1) + 1) + 1) + 1)] _ _
  refine r_stI (m := 8) (L' := [some (vR 0), some (vI w), some (vI m), some (vR 77), some (vI n), some (vR 78), some (vI b), some (vI 1), some (vI ((((iAnd b 1) + 1) + 1) + 1)), none, none, none, none]) F_160_59 rfl rfl ?_
  refine r_iconst F_160_61 ?_
  refine r_stI (m := 9) (L' := [some (vR 0), some (vI w), some (vI m), some (vR 77), some (vI n), some (vR 78), some (vI b), some (vI 1), some (vI ((((iAnd b 1) + 1) + 1) + 1)), some (vI 0), none, none, none]) F_160_62 rfl rfl ?_
  exact l16
theorem t_L_makes_64 {X : m_X} {d : Nat} {s : m_St} {P : Option Value → m_St → Prop} {w m n b o a t : Int} {z10 z11 z12 : Option Value} (hU : 2 ≤ X.2)
    (l1 : inR t)
    (l2 : 2 ≤ t → inR o)
    (l3 : 2 ≤ t → o = 0 → P (some (vI 0)) s)
    (l4 : 2 ≤ t → ¬ o = 0 → inR a)
    (l5 : 2 ≤ t → ¬ o = 0 → a ≤ 0 → P (some (vI 0)) s)
    (l6 : 2 ≤ t → ¬ o = 0 → 0 < a → Cl X (d + 7) 30 [vR 0, vI 0] s (fun v s' => Rn X (d + 8) 160 289 [some (vR 0), some (vI w), some (vI m), some (vR 77), some (vI n), some (vR 78), some (vI b), some (vI o), some (vI a), some (vI t), z10, z11, z12] (m_push v []) s' P))
    (l7 : t < 2 → ¬ (iAnd (iShr b 9) 1) = t → Rn X (d + 8) 160 92 [some (vR 0), some (vI w), some (vI m), some (vR 77), some (vI n), some (vR 78), some (vI b), some (vI o), some (vI a), some (vI t), some (vI 0), some (vI 0), z12] [] s P)
    (l8 : t < 2 → (iAnd (iShr b 9) 1) = t → Rn X (d + 8) 160 92 [some (vR 0), some (vI w), some (vI m), some (vR 77), some (vI n), some (vR 78), some (vI b), some (vI o), some (vI a), some (vI t), some (vI 1), some (vI 0), z12] [] s P)
    : Rn X (d + 8) 160 64 [some (vR 0), some (vI w), some (vI m), some (vR 77), some (vI n), some (vR 78), some (vI b), some (vI o), some (vI a), some (vI t), z10, z11, z12] [] s P := by
  refine r_ldI (m := 9) F_160_64 rfl ?_
  refine r_iconst F_160_66 ?_
  refine r_icmp (t := 274) F_160_67 rfl l1 (by decide) ?_ ?_
  · intro e1
    replace e1 : 2 ≤ t := e1
    refine r_ldI (m := 7) F_160_274 rfl ?_
    refine r_if (t := 308) F_160_276 rfl (l2 e1) ?_ ?_
    · intro e2
      replace e2 : o = 0 := e2
      refine r_iconst F_160_308 ?_
      refine r_zreturn F_160_309 rt_160 (Or.inl rfl) ?_
      exact (l3 e1 e2)
    · intro e3
      replace e3 : ¬ o = 0 := e3
      refine r_ldI (m := 8) F_160_279 rfl ?_
      refine r_if (t := 308) F_160_281 rfl (l4 e1 e3) ?_ ?_
      · intro e4
        replace e4 : a ≤ 0 := e4
        refine r_iconst F_160_308 ?_
        refine r_zreturn F_160_309 rt_160 (Or.inl rfl) ?_
        exact (l5 e1 e3 e4)
      · intro e5
        replace e5 : 0 < a := (Int.not_le.mp e5)
        refine r_ldR_n (m := 0) F_160_284 rfl ?_
        refine r_iconst F_160_285 ?_
        refine r_virt2 (A := [vI 0]) (r := []) (n := 1) F_160_286 o_160 il_6_35 rfl rfl rfl rfl ty_0 vy_30 (lay_le n_30 rfl) ?_
        exact (l6 e1 e3 e5)
  · intro e6
    replace e6 : t < 2 := (Int.not_le.mp e6)
    refine r_ldI (m := 6) F_160_70 rfl ?_
    refine r_bipush F_160_72 bi_9 ?_
    refine r_ishr F_160_74 rfl ?_
    refine r_iconst F_160_75 ?_
    refine r_iand F_160_76 rfl ?_
    refine r_ldI (m := 9) F_160_77 rfl ?_
    refine r_icmp (t := 86) F_160_79 rfl (inR_iAnd _ _) l1 ?_ ?_
    · intro e7
      replace e7 : ¬ (iAnd (iShr b 9) 1) = t := e7
      refine r_iconst F_160_86 ?_
      refine r_stI (m := 10) (L' := [some (vR 0), some (vI w), some (vI m), some (vR 77), some (vI n), some (vR 78), some (vI b), some (vI o), some (vI a), some (vI t), some (vI 0), z11, z12]) F_160_87 rfl rfl ?_
      refine r_iconst F_160_89 ?_
      refine r_stI (m := 11) (L' := [some (vR 0), some (vI w), some (vI m), some (vR 77), some (vI n), some (vR 78), some (vI b), some (vI o), some (vI a), some (vI t), some (vI 0), some (vI 0), z12]) F_160_90 rfl rfl ?_
      exact (l7 e6 e7)
    · intro e8
      replace e8 : (iAnd (iShr b 9) 1) = t := (Classical.not_not.mp e8)
      refine r_iconst F_160_82 ?_
      refine r_goto (t := 87) F_160_83 rfl ?_
      refine r_stI (m := 10) (L' := [some (vR 0), some (vI w), some (vI m), some (vR 77), some (vI n), some (vR 78), some (vI b), some (vI o), some (vI a), some (vI t), some (vI 1), z11, z12]) F_160_87 rfl rfl ?_
      refine r_iconst F_160_89 ?_
      refine r_stI (m := 11) (L' := [some (vR 0), some (vI w), some (vI m), some (vR 77), some (vI n), some (vR 78), some (vI b), some (vI o), some (vI a), some (vI t), some (vI 1), some (vI 0), z12]) F_160_90 rfl rfl ?_
      exact (l8 e6 e8)
theorem t_L_makes_289 {X : m_X} {d : Nat} {s : m_St} {P : Option Value → m_St → Prop} {w m n b o a t rv : Int} {z10 z11 z12 : Option Value} (hU : 2 ≤ X.2)
    (l1 : inR rv)
    (l2 : ¬ rv = (-9) → P (some (vI 0)) s)
    (l3 : rv = (-9) → Cl X (d + 7) 47 [vR 0, vI 0] s (fun v s' => Rn X (d + 8) 160 299 [some (vR 0), some (vI w), some (vI m), some (vR 77), some (vI n), some (vR 78), some (vI b), some (vI o), some (vI a), some (vI t), z10, z11, z12] (m_push v []) s' P))
    : Rn X (d + 8) 160 289 [some (vR 0), some (vI w), some (vI m), some (vR 77), some (vI n), some (vR 78), some (vI b), some (vI o), some (vI a), some (vI t), z10, z11, z12] [vI rv] s P := by
  refine r_bipush F_160_289 bi__9 ?_
  refine r_icmp (t := 308) F_160_291 rfl l1 (by decide) ?_ ?_
  · intro e1
    replace e1 : ¬ rv = (-9) := e1
    refine r_iconst F_160_308 ?_
    refine r_zreturn F_160_309 rt_160 (Or.inl rfl) ?_
    exact (l2 e1)
  · intro e2
    replace e2 : rv = (-9) := (Classical.not_not.mp e2)
    refine r_ldR_n (m := 0) F_160_294 rfl ?_
    refine r_iconst F_160_295 ?_
    refine r_virt2 (A := [vI 0]) (r := []) (n := 1) F_160_296 o_160 il_6_38 rfl rfl rfl rfl ty_0 vy_47 (lay_le n_47 rfl) ?_
    exact (l3 e2)
theorem t_L_makes_92 {X : m_X} {d : Nat} {s : m_St} {P : Option Value → m_St → Prop} {w m n b o a t e k : Int} {z12 : Option Value} (hU : 2 ≤ X.2)
    (l1 : inR k)
    (l2 : inR m)
    (l3 : m ≤ k → Rn X (d + 8) 160 174 [some (vR 0), some (vI w), some (vI m), some (vR 77), some (vI n), some (vR 78), some (vI b), some (vI o), some (vI a), some (vI t), some (vI e), some (vI 0), z12] [] s P)
    (l4 : k < m → inR e)
    (l5 : k < m → e = 0 → Rn X (d + 8) 160 174 [some (vR 0), some (vI w), some (vI m), some (vR 77), some (vI n), some (vR 78), some (vI b), some (vI o), some (vI a), some (vI t), some (vI e), some (vI 0), z12] [] s P)
    (l6 : k < m → ¬ e = 0 → ¬ k = 0 → s 11 0 = 60)
    (l7 : k < m → ¬ e = 0 → ¬ k = 0 → 0 ≤ (a + (iAnd (iShr b 1) 0)))
    (l8 : k < m → ¬ e = 0 → ¬ k = 0 → (a + (iAnd (iShr b 1) 0)) < 60)
    (l9 : k < m → ¬ e = 0 → ¬ k = 0 → s 13 (a + (iAnd (iShr b 1) 0)) = 32)
    (l10 : k < m → ¬ e = 0 → ¬ k = 0 → 0 ≤ (2 * k))
    (l11 : k < m → ¬ e = 0 → ¬ k = 0 → (2 * k) < 12)
    (l12 : k < m → ¬ e = 0 → ¬ k = 0 → (m_upd s 13 (a + (iAnd (iShr b 1) 0)) (i2B 102)) 11 0 = 60)
    (l13 : k < m → ¬ e = 0 → ¬ k = 0 → 0 ≤ ((a + (iAnd (iShr b 1) 0)) + 1))
    (l14 : k < m → ¬ e = 0 → ¬ k = 0 → ((a + (iAnd (iShr b 1) 0)) + 1) < 60)
    (l15 : k < m → ¬ e = 0 → ¬ k = 0 → (m_upd s 13 (a + (iAnd (iShr b 1) 0)) (i2B 102)) 13 ((a + (iAnd (iShr b 1) 0)) + 1) = 32)
    (l16 : k < m → ¬ e = 0 → ¬ k = 0 → 0 ≤ ((2 * k) + 1))
    (l17 : k < m → ¬ e = 0 → ¬ k = 0 → ((2 * k) + 1) < 12)
    (l18 : k < m → ¬ e = 0 → ¬ k = 0 → (m_upd (m_upd s 13 (a + (iAnd (iShr b 1) 0)) (i2B 102)) 13 ((a + (iAnd (iShr b 1) 0)) + 1) (i2B (48 + ((m_upd s 13 (a + (iAnd (iShr b 1) 0)) (i2B 102)) 77 (2 * k))))) 11 0 = 60)
    (l19 : k < m → ¬ e = 0 → ¬ k = 0 → 0 ≤ (((a + (iAnd (iShr b 1) 0)) + 1) + 1))
    (l20 : k < m → ¬ e = 0 → ¬ k = 0 → (((a + (iAnd (iShr b 1) 0)) + 1) + 1) < 60)
    (l21 : k < m → ¬ e = 0 → ¬ k = 0 → (m_upd (m_upd s 13 (a + (iAnd (iShr b 1) 0)) (i2B 102)) 13 ((a + (iAnd (iShr b 1) 0)) + 1) (i2B (48 + ((m_upd s 13 (a + (iAnd (iShr b 1) 0)) (i2B 102)) 77 (2 * k))))) 13 (((a + (iAnd (iShr b 1) 0)) + 1) + 1) = 32)
    (l22 : k < m → ¬ e = 0 → ¬ k = 0 → Rn X (d + 8) 160 92 [some (vR 0), some (vI w), some (vI m), some (vR 77), some (vI n), some (vR 78), some (vI b), some (vI o), some (vI ((((a + (iAnd (iShr b 1) 0)) + 1) + 1) + 1)), some (vI t), some (vI e), some (vI (k + 1)), z12] [] (m_upd (m_upd (m_upd s 13 (a + (iAnd (iShr b 1) 0)) (i2B 102)) 13 ((a + (iAnd (iShr b 1) 0)) + 1) (i2B (48 + ((m_upd s 13 (a + (iAnd (iShr b 1) 0)) (i2B 102)) 77 (2 * k))))) 13 (((a + (iAnd (iShr b 1) 0)) + 1) + 1) (i2B (48 + ((m_upd (m_upd s 13 (a + (iAnd (iShr b 1) 0)) (i2B 102)) 13 ((a + (iAnd (iShr b 1) 0)) + 1) (i2B (48 + ((m_upd s 13 (a + (iAnd (iShr b 1) 0)) (i2B 102)) 77 (2 * k))))) 77 ((2 * k) + 1))))) P)
    (l23 : k < m → ¬ e = 0 → k = 0 → s 11 0 = 60)
    (l24 : k < m → ¬ e = 0 → k = 0 → 0 ≤ (a + (iAnd (iShr b 1) 3)))
    (l25 : k < m → ¬ e = 0 → k = 0 → (a + (iAnd (iShr b 1) 3)) < 60)
    (l26 : k < m → ¬ e = 0 → k = 0 → s 13 (a + (iAnd (iShr b 1) 3)) = 32)
    (l27 : k < m → ¬ e = 0 → k = 0 → 0 ≤ (2 * k))
    (l28 : k < m → ¬ e = 0 → k = 0 → (2 * k) < 12)
    (l29 : k < m → ¬ e = 0 → k = 0 → (m_upd s 13 (a + (iAnd (iShr b 1) 3)) (i2B 102)) 11 0 = 60)
    (l30 : k < m → ¬ e = 0 → k = 0 → 0 ≤ ((a + (iAnd (iShr b 1) 3)) + 1))
    (l31 : k < m → ¬ e = 0 → k = 0 → ((a + (iAnd (iShr b 1) 3)) + 1) < 60)
    (l32 : k < m → ¬ e = 0 → k = 0 → (m_upd s 13 (a + (iAnd (iShr b 1) 3)) (i2B 102)) 13 ((a + (iAnd (iShr b 1) 3)) + 1) = 32)
    (l33 : k < m → ¬ e = 0 → k = 0 → 0 ≤ ((2 * k) + 1))
    (l34 : k < m → ¬ e = 0 → k = 0 → ((2 * k) + 1) < 12)
    (l35 : k < m → ¬ e = 0 → k = 0 → (m_upd (m_upd s 13 (a + (iAnd (iShr b 1) 3)) (i2B 102)) 13 ((a + (iAnd (iShr b 1) 3)) + 1) (i2B (48 + ((m_upd s 13 (a + (iAnd (iShr b 1) 3)) (i2B 102)) 77 (2 * k))))) 11 0 = 60)
    (l36 : k < m → ¬ e = 0 → k = 0 → 0 ≤ (((a + (iAnd (iShr b 1) 3)) + 1) + 1))
    (l37 : k < m → ¬ e = 0 → k = 0 → (((a + (iAnd (iShr b 1) 3)) + 1) + 1) < 60)
    (l38 : k < m → ¬ e = 0 → k = 0 → (m_upd (m_upd s 13 (a + (iAnd (iShr b 1) 3)) (i2B 102)) 13 ((a + (iAnd (iShr b 1) 3)) + 1) (i2B (48 + ((m_upd s 13 (a + (iAnd (iShr b 1) 3)) (i2B 102)) 77 (2 * k))))) 13 (((a + (iAnd (iShr b 1) 3)) + 1) + 1) = 32)
    (l39 : k < m → ¬ e = 0 → k = 0 → Rn X (d + 8) 160 92 [some (vR 0), some (vI w), some (vI m), some (vR 77), some (vI n), some (vR 78), some (vI b), some (vI o), some (vI ((((a + (iAnd (iShr b 1) 3)) + 1) + 1) + 1)), some (vI t), some (vI e), some (vI (k + 1)), z12] [] (m_upd (m_upd (m_upd s 13 (a + (iAnd (iShr b 1) 3)) (i2B 102)) 13 ((a + (iAnd (iShr b 1) 3)) + 1) (i2B (48 + ((m_upd s 13 (a + (iAnd (iShr b 1) 3)) (i2B 102)) 77 (2 * k))))) 13 (((a + (iAnd (iShr b 1) 3)) + 1) + 1) (i2B (48 + ((m_upd (m_upd s 13 (a + (iAnd (iShr b 1) 3)) (i2B 102)) 13 ((a + (iAnd (iShr b 1) 3)) + 1) (i2B (48 + ((m_upd s 13 (a + (iAnd (iShr b 1) 3)) (i2B 102)) 77 (2 * k))))) 77 ((2 * k) + 1))))) P)
    : Rn X (d + 8) 160 92 [some (vR 0), some (vI w), some (vI m), some (vR 77), some (vI n), some (vR 78), some (vI b), some (vI o), some (vI a), some (vI t), some (vI e), some (vI k), z12] [] s P := by
  refine r_ldI (m := 11) F_160_92 rfl ?_
  refine r_ldI_n (m := 2) F_160_94 rfl ?_
  refine r_icmp (t := 171) F_160_95 rfl l1 l2 ?_ ?_
  · intro e1
    replace e1 : m ≤ k := e1
    refine r_iconst F_160_171 ?_
    refine r_stI (m := 11) (L' := [some (vR 0), some (vI w), some (vI m), some (vR 77), some (vI n), some (vR 78), some (vI b), some (vI o), some (vI a), some (vI t), some (vI e), some (vI 0), z12]) F_160_172 rfl rfl ?_
    exact (l3 e1)
  · intro e2
    replace e2 : k < m := (Int.not_le.mp e2)
    refine r_ldI (m := 10) F_160_98 rfl ?_
    refine r_if (t := 171) F_160_100 rfl (l4 e2) ?_ ?_
    · intro e3
      replace e3 : e = 0 := e3
      refine r_iconst F_160_171 ?_
      refine r_stI (m := 11) (L' := [some (vR 0), some (vI w), some (vI m), some (vR 77), some (vI n), some (vR 78), some (vI b), some (vI o), some (vI a), some (vI t), some (vI e), some (vI 0), z12]) F_160_172 rfl rfl ?_
      exact (l5 e2 e3)
    · intro e4
      replace e4 : ¬ e = 0 := e4
      refine r_ldR_n (m := 0) F_160_103 rfl ?_
      refine r_ldI (m := 8) F_160_104 rfl ?_
      refine r_ldI (m := 6) F_160_106 rfl ?_
      refine r_iconst F_160_108 ?_
      refine r_ishr F_160_109 rfl ?_
      refine r_ldI (m := 11) F_160_110 rfl ?_
      refine r_if (t := 119) F_160_112 rfl l1 ?_ ?_
      · intro e5
        replace e5 : ¬ k = 0 := e5
        refine r_iconst F_160_119 ?_
        refine r_iand F_160_120 rfl ?_
        refine r_iadd F_160_121 rfl ?_
        refine r_bipush F_160_122 bi_102 ?_
        refine r_stat2 (A := [vR 0, vI (a + (iAnd (iShr b 1) 0)), vI 102]) (r := []) (n := 3) F_160_124 o_160 il_6_28 (by decide) rfl rfl rfl rfl (lay_le n_161 rfl) ?_
        refine sp_putL (l6 e2 e4 e5) (l7 e2 e4 e5) (l8 e2 e4 e5) (l9 e2 e4 e5) ?_
        show Rn _ _ _ _ _ [vI ((a + (iAnd (iShr b 1) 0)) + 1)] _ _
        refine r_stI (m := 8) (L' := [some (vR 0), some (vI w), some (vI m), some (vR 77), some (vI n), some (vR 78), some (vI b), some (vI o), some (vI ((a + (iAnd (iShr b 1) 0)) + 1)), some (vI t), some (vI e), some (vI k), z12]) F_160_127 rfl rfl ?_
        refine r_ldR_n (m := 0) F_160_129 rfl ?_
        refine r_ldI (m := 8) F_160_130 rfl ?_
        refine r_bipush F_160_132 bi_48 ?_
        refine r_ldR_n (m := 3) F_160_134 rfl ?_
        refine r_iconst F_160_135 ?_
        refine r_ldI (m := 11) F_160_136 rfl ?_
        refine r_imul F_160_138 rfl ?_
        refine r_ialdU (c := 0) (len := 12) (e := ((m_upd s 13 (a + (iAnd (iShr b 1) 0)) (i2B 102)) 77 (2 * k))) F_160_139 rfl rfl (Nat.lt_of_lt_of_le (by decide) hU) (by decide) (by decide) (l10 e2 e4 e5) (l11 e2 e4 e5) rfl ?_
        refine r_iadd F_160_140 rfl ?_
        refine r_stat2 (A := [vR 0, vI ((a + (iAnd (iShr b 1) 0)) + 1), vI (48 + ((m_upd s 13 (a + (iAnd (iShr b 1) 0)) (i2B 102)) 77 (2 * k)))]) (r := []) (n := 3) F_160_141 o_160 il_6_28 (by decide) rfl rfl rfl rfl (lay_le n_161 rfl) ?_
        refine sp_putL (l12 e2 e4 e5) (l13 e2 e4 e5) (l14 e2 e4 e5) (l15 e2 e4 e5) ?_
        show Rn _ _ _ _ _ [vI (((a + (iAnd (iShr b 1) 0)) + 1) + 1)] _ _
        refine r_stI (m := 8) (L' := [some (vR 0), some (vI w), some (vI m), some (vR 77), some (vI n), some (vR 78), some (vI b), some (vI o), some (vI (((a + (iAnd (iShr b 1) 0)) + 1) + 1)), some (vI t), some (vI e), some (vI k), z12]) F_160_144 rfl rfl ?_
        refine r_ldR_n (m := 0) F_160_146 rfl ?_
        refine r_ldI (m := 8) F_160_147 rfl ?_
        refine r_bipush F_160_149 bi_48 ?_
        refine r_ldR_n (m := 3) F_160_151 rfl ?_
        refine r_iconst F_160_152 ?_
        refine r_ldI (m := 11) F_160_153 rfl ?_
        refine r_imul F_160_155 rfl ?_
        refine r_iconst F_160_156 ?_
        refine r_iadd F_160_157 rfl ?_
        refine r_ialdU (c := 0) (len := 12) (e := ((m_upd (m_upd s 13 (a + (iAnd (iShr b 1) 0)) (i2B 102)) 13 ((a + (iAnd (iShr b 1) 0)) + 1) (i2B (48 + ((m_upd s 13 (a + (iAnd (iShr b 1) 0)) (i2B 102)) 77 (2 * k))))) 77 ((2 * k) + 1))) F_160_158 rfl rfl (Nat.lt_of_lt_of_le (by decide) hU) (by decide) (by decide) (l16 e2 e4 e5) (l17 e2 e4 e5) rfl ?_
        refine r_iadd F_160_159 rfl ?_
        refine r_stat2 (A := [vR 0, vI (((a + (iAnd (iShr b 1) 0)) + 1) + 1), vI (48 + ((m_upd (m_upd s 13 (a + (iAnd (iShr b 1) 0)) (i2B 102)) 13 ((a + (iAnd (iShr b 1) 0)) + 1) (i2B (48 + ((m_upd s 13 (a + (iAnd (iShr b 1) 0)) (i2B 102)) 77 (2 * k))))) 77 ((2 * k) + 1)))]) (r := []) (n := 3) F_160_160 o_160 il_6_28 (by decide) rfl rfl rfl rfl (lay_le n_161 rfl) ?_
        refine sp_putL (l18 e2 e4 e5) (l19 e2 e4 e5) (l20 e2 e4 e5) (l21 e2 e4 e5) ?_
        show Rn _ _ _ _ _ [vI ((((a + (iAnd (iShr b 1) 0)) + 1) + 1) + 1)] _ _
        refine r_stI (m := 8) (L' := [some (vR 0), some (vI w), some (vI m), some (vR 77), some (vI n), some (vR 78), some (vI b), some (vI o), some (vI ((((a + (iAnd (iShr b 1) 0)) + 1) + 1) + 1)), some (vI t), some (vI e), some (vI k), z12]) F_160_163 rfl rfl ?_
        refine r_iinc (m := 11) (e := (k + 1)) (L' := [some (vR 0), some (vI w), some (vI m), some (vR 77), some (vI n), some (vR 78), some (vI b), some (vI o), some (vI ((((a + (iAnd (iShr b 1) 0)) + 1) + 1) + 1)), some (vI t), some (vI e), some (vI (k + 1)), z12]) F_160_165 rfl rfl rfl rfl ?_
        refine r_goto (t := 92) F_160_168 rfl ?_
        exact (l22 e2 e4 e5)
      · intro e6
        replace e6 : k = 0 := (Classical.not_not.mp e6)
        refine r_iconst F_160_115 ?_
        refine r_goto (t := 120) F_160_116 rfl ?_
        refine r_iand F_160_120 rfl ?_
        refine r_iadd F_160_121 rfl ?_
        refine r_bipush F_160_122 bi_102 ?_
        refine r_stat2 (A := [vR 0, vI (a + (iAnd (iShr b 1) 3)), vI 102]) (r := []) (n := 3) F_160_124 o_160 il_6_28 (by decide) rfl rfl rfl rfl (lay_le n_161 rfl) ?_
        refine sp_putL (l23 e2 e4 e6) (l24 e2 e4 e6) (l25 e2 e4 e6) (l26 e2 e4 e6) ?_
        show Rn _ _ _ _ _ [vI ((a + (iAnd (iShr b 1) 3)) + 1)] _ _
        refine r_stI (m := 8) (L' := [some (vR 0), some (vI w), some (vI m), some (vR 77), some (vI n), some (vR 78), some (vI b), some (vI o), some (vI ((a + (iAnd (iShr b 1) 3)) + 1)), some (vI t), some (vI e), some (vI k), z12]) F_160_127 rfl rfl ?_
        refine r_ldR_n (m := 0) F_160_129 rfl ?_
        refine r_ldI (m := 8) F_160_130 rfl ?_
        refine r_bipush F_160_132 bi_48 ?_
        refine r_ldR_n (m := 3) F_160_134 rfl ?_
        refine r_iconst F_160_135 ?_
        refine r_ldI (m := 11) F_160_136 rfl ?_
        refine r_imul F_160_138 rfl ?_
        refine r_ialdU (c := 0) (len := 12) (e := ((m_upd s 13 (a + (iAnd (iShr b 1) 3)) (i2B 102)) 77 (2 * k))) F_160_139 rfl rfl (Nat.lt_of_lt_of_le (by decide) hU) (by decide) (by decide) (l27 e2 e4 e6) (l28 e2 e4 e6) rfl ?_
        refine r_iadd F_160_140 rfl ?_
        refine r_stat2 (A := [vR 0, vI ((a + (iAnd (iShr b 1) 3)) + 1), vI (48 + ((m_upd s 13 (a + (iAnd (iShr b 1) 3)) (i2B 102)) 77 (2 * k)))]) (r := []) (n := 3) F_160_141 o_160 il_6_28 (by decide) rfl rfl rfl rfl (lay_le n_161 rfl) ?_
        refine sp_putL (l29 e2 e4 e6) (l30 e2 e4 e6) (l31 e2 e4 e6) (l32 e2 e4 e6) ?_
        show Rn _ _ _ _ _ [vI (((a + (iAnd (iShr b 1) 3)) + 1) + 1)] _ _
        refine r_stI (m := 8) (L' := [some (vR 0), some (vI w), some (vI m), some (vR 77), some (vI n), some (vR 78), some (vI b), some (vI o), some (vI (((a + (iAnd (iShr b 1) 3)) + 1) + 1)), some (vI t), some (vI e), some (vI k), z12]) F_160_144 rfl rfl ?_
        refine r_ldR_n (m := 0) F_160_146 rfl ?_
        refine r_ldI (m := 8) F_160_147 rfl ?_
        refine r_bipush F_160_149 bi_48 ?_
        refine r_ldR_n (m := 3) F_160_151 rfl ?_
        refine r_iconst F_160_152 ?_
        refine r_ldI (m := 11) F_160_153 rfl ?_
        refine r_imul F_160_155 rfl ?_
        refine r_iconst F_160_156 ?_
        refine r_iadd F_160_157 rfl ?_
        refine r_ialdU (c := 0) (len := 12) (e := ((m_upd (m_upd s 13 (a + (iAnd (iShr b 1) 3)) (i2B 102)) 13 ((a + (iAnd (iShr b 1) 3)) + 1) (i2B (48 + ((m_upd s 13 (a + (iAnd (iShr b 1) 3)) (i2B 102)) 77 (2 * k))))) 77 ((2 * k) + 1))) F_160_158 rfl rfl (Nat.lt_of_lt_of_le (by decide) hU) (by decide) (by decide) (l33 e2 e4 e6) (l34 e2 e4 e6) rfl ?_
        refine r_iadd F_160_159 rfl ?_
        refine r_stat2 (A := [vR 0, vI (((a + (iAnd (iShr b 1) 3)) + 1) + 1), vI (48 + ((m_upd (m_upd s 13 (a + (iAnd (iShr b 1) 3)) (i2B 102)) 13 ((a + (iAnd (iShr b 1) 3)) + 1) (i2B (48 + ((m_upd s 13 (a + (iAnd (iShr b 1) 3)) (i2B 102)) 77 (2 * k))))) 77 ((2 * k) + 1)))]) (r := []) (n := 3) F_160_160 o_160 il_6_28 (by decide) rfl rfl rfl rfl (lay_le n_161 rfl) ?_
        refine sp_putL (l35 e2 e4 e6) (l36 e2 e4 e6) (l37 e2 e4 e6) (l38 e2 e4 e6) ?_
        show Rn _ _ _ _ _ [vI ((((a + (iAnd (iShr b 1) 3)) + 1) + 1) + 1)] _ _
        refine r_stI (m := 8) (L' := [some (vR 0), some (vI w), some (vI m), some (vR 77), some (vI n), some (vR 78), some (vI b), some (vI o), some (vI ((((a + (iAnd (iShr b 1) 3)) + 1) + 1) + 1)), some (vI t), some (vI e), some (vI k), z12]) F_160_163 rfl rfl ?_
        refine r_iinc (m := 11) (e := (k + 1)) (L' := [some (vR 0), some (vI w), some (vI m), some (vR 77), some (vI n), some (vR 78), some (vI b), some (vI o), some (vI ((((a + (iAnd (iShr b 1) 3)) + 1) + 1) + 1)), some (vI t), some (vI e), some (vI (k + 1)), z12]) F_160_165 rfl rfl rfl rfl ?_
        refine r_goto (t := 92) F_160_168 rfl ?_
        exact (l39 e2 e4 e6)
theorem t_L_makes_299 {X : m_X} {d : Nat} {s : m_St} {P : Option Value → m_St → Prop} {w m n b o a t rv : Int} {z10 z11 z12 : Option Value} (hU : 2 ≤ X.2)
    (l1 : inR rv)
    (l2 : inR n)
    (l3 : ¬ rv = n → P (some (vI 0)) s)
    (l4 : rv = n → P (some (vI 1)) s)
    : Rn X (d + 8) 160 299 [some (vR 0), some (vI w), some (vI m), some (vR 77), some (vI n), some (vR 78), some (vI b), some (vI o), some (vI a), some (vI t), z10, z11, z12] [vI rv] s P := by
  refine r_ldI (m := 4) F_160_299 rfl ?_
  refine r_icmp (t := 308) F_160_301 rfl l1 l2 ?_ ?_
  · intro e1
    replace e1 : ¬ rv = n := e1
    refine r_iconst F_160_308 ?_
    refine r_zreturn F_160_309 rt_160 (Or.inl rfl) ?_
    exact (l3 e1)
  · intro e2
    replace e2 : rv = n := (Classical.not_not.mp e2)
    refine r_iconst F_160_304 ?_
    refine r_goto (t := 309) F_160_305 rfl ?_
    refine r_zreturn F_160_309 rt_160 (Or.inr rfl) ?_
    exact (l4 e2)
theorem t_L_makes_174 {X : m_X} {d : Nat} {s : m_St} {P : Option Value → m_St → Prop} {w m n b o a t e k : Int} {z12 : Option Value} (hU : 2 ≤ X.2)
    (l1 : inR k)
    (l2 : inR n)
    (l3 : n ≤ k → Rn X (d + 8) 160 64 [some (vR 0), some (vI w), some (vI m), some (vR 77), some (vI n), some (vR 78), some (vI b), some (vI o), some (vI a), some (vI (t + 1)), some (vI e), some (vI k), z12] [] s P)
    (l4 : k < n → inR e)
    (l5 : k < n → ¬ e = 0 → Rn X (d + 8) 160 64 [some (vR 0), some (vI w), some (vI m), some (vR 77), some (vI n), some (vR 78), some (vI b), some (vI o), some (vI a), some (vI (t + 1)), some (vI e), some (vI k), z12] [] s P)
    (l6 : k < n → e = 0 → 3 ≤ k → 0 ≤ (5 * k))
    (l7 : k < n → e = 0 → 3 ≤ k → (5 * k) < 30)
    (l8 : k < n → e = 0 → 3 ≤ k → inR (s 78 (5 * k)))
    (l9 : k < n → e = 0 → 3 ≤ k → s 11 0 = 60)
    (l10 : k < n → e = 0 → 3 ≤ k → 0 ≤ (a + (iAnd (iShr b (3 + k)) 0)))
    (l11 : k < n → e = 0 → 3 ≤ k → (a + (iAnd (iShr b (3 + k)) 0)) < 60)
    (l12 : k < n → e = 0 → 3 ≤ k → s 13 (a + (iAnd (iShr b (3 + k)) 0)) = 32)
    (l13 : k < n → e = 0 → 3 ≤ k → Rn X (d + 8) 160 227 [some (vR 0), some (vI w), some (vI m), some (vR 77), some (vI n), some (vR 78), some (vI b), some (vI o), some (vI ((a + (iAnd (iShr b (3 + k)) 0)) + 1)), some (vI t), some (vI e), some (vI k), some (vI 0)] [] (m_upd s 13 (a + (iAnd (iShr b (3 + k)) 0)) (i2B (ltr (s 78 (5 * k))))) P)
    (l14 : k < n → e = 0 → k < 3 → 0 ≤ (5 * k))
    (l15 : k < n → e = 0 → k < 3 → (5 * k) < 30)
    (l16 : k < n → e = 0 → k < 3 → inR (s 78 (5 * k)))
    (l17 : k < n → e = 0 → k < 3 → s 11 0 = 60)
    (l18 : k < n → e = 0 → k < 3 → 0 ≤ (a + (iAnd (iShr b (3 + k)) 1)))
    (l19 : k < n → e = 0 → k < 3 → (a + (iAnd (iShr b (3 + k)) 1)) < 60)
    (l20 : k < n → e = 0 → k < 3 → s 13 (a + (iAnd (iShr b (3 + k)) 1)) = 32)
    (l21 : k < n → e = 0 → k < 3 → Rn X (d + 8) 160 227 [some (vR 0), some (vI w), some (vI m), some (vR 77), some (vI n), some (vR 78), some (vI b), some (vI o), some (vI ((a + (iAnd (iShr b (3 + k)) 1)) + 1)), some (vI t), some (vI e), some (vI k), some (vI 0)] [] (m_upd s 13 (a + (iAnd (iShr b (3 + k)) 1)) (i2B (ltr (s 78 (5 * k))))) P)
    : Rn X (d + 8) 160 174 [some (vR 0), some (vI w), some (vI m), some (vR 77), some (vI n), some (vR 78), some (vI b), some (vI o), some (vI a), some (vI t), some (vI e), some (vI k), z12] [] s P := by
  refine r_ldI (m := 11) F_160_174 rfl ?_
  refine r_ldI (m := 4) F_160_176 rfl ?_
  refine r_icmp (t := 268) F_160_178 rfl l1 l2 ?_ ?_
  · intro e1
    replace e1 : n ≤ k := e1
    refine r_iinc (m := 9) (e := (t + 1)) (L' := [some (vR 0), some (vI w), some (vI m), some (vR 77), some (vI n), some (vR 78), some (vI b), some (vI o), some (vI a), some (vI (t + 1)), some (vI e), some (vI k), z12]) F_160_268 rfl rfl rfl rfl ?_
    refine r_goto (t := 64) F_160_271 rfl ?_
    exact (l3 e1)
  · intro e2
    replace e2 : k < n := (Int.not_le.mp e2)
    refine r_ldI (m := 10) F_160_181 rfl ?_
    refine r_if (t := 268) F_160_183 rfl (l4 e2) ?_ ?_
    · intro e3
      replace e3 : ¬ e = 0 := e3
      refine r_iinc (m := 9) (e := (t + 1)) (L' := [some (vR 0), some (vI w), some (vI m), some (vR 77), some (vI n), some (vR 78), some (vI b), some (vI o), some (vI a), some (vI (t + 1)), some (vI e), some (vI k), z12]) F_160_268 rfl rfl rfl rfl ?_
      refine r_goto (t := 64) F_160_271 rfl ?_
      exact (l5 e2 e3)
    · intro e4
      replace e4 : e = 0 := (Classical.not_not.mp e4)
      refine r_ldR_n (m := 0) F_160_186 rfl ?_
      refine r_ldI (m := 8) F_160_187 rfl ?_
      refine r_ldI (m := 6) F_160_189 rfl ?_
      refine r_iconst F_160_191 ?_
      refine r_ldI (m := 11) F_160_192 rfl ?_
      refine r_iadd F_160_194 rfl ?_
      refine r_ishr F_160_195 rfl ?_
      refine r_ldI (m := 11) F_160_196 rfl ?_
      refine r_iconst F_160_198 ?_
      refine r_icmp (t := 206) F_160_199 rfl l1 (by decide) ?_ ?_
      · intro e5
        replace e5 : 3 ≤ k := e5
        refine r_iconst F_160_206 ?_
        refine r_iand F_160_207 rfl ?_
        refine r_iadd F_160_208 rfl ?_
        refine r_ldR (m := 5) F_160_209 rfl ?_
        refine r_iconst F_160_211 ?_
        refine r_ldI (m := 11) F_160_212 rfl ?_
        refine r_imul F_160_214 rfl ?_
        refine r_ialdU (c := 1) (len := 30) (e := (s 78 (5 * k))) F_160_215 rfl rfl (Nat.lt_of_lt_of_le (by decide) hU) (by decide) (by decide) (l6 e2 e4 e5) (l7 e2 e4 e5) rfl ?_
        refine r_stat2 (A := [vI (s 78 (5 * k))]) (r := [vI (a + (iAnd (iShr b (3 + k)) 0)), vR 0]) (n := 1) F_160_216 o_160 il_6_31 (by decide) rfl rfl rfl rfl (lay_le n_162 rfl) ?_
        refine sp_letter (l8 e2 e4 e5) ?_
        show Rn _ _ _ _ _ [vI (ltr (s 78 (5 * k))), vI (a + (iAnd (iShr b (3 + k)) 0)), vR 0] _ _
        refine r_stat2 (A := [vR 0, vI (a + (iAnd (iShr b (3 + k)) 0)), vI (ltr (s 78 (5 * k)))]) (r := []) (n := 3) F_160_219 o_160 il_6_28 (by decide) rfl rfl rfl rfl (lay_le n_161 rfl) ?_
        refine sp_putL (l9 e2 e4 e5) (l10 e2 e4 e5) (l11 e2 e4 e5) (l12 e2 e4 e5) ?_
        show Rn _ _ _ _ _ [vI ((a + (iAnd (iShr b (3 + k)) 0)) + 1)] _ _
        refine r_stI (m := 8) (L' := [some (vR 0), some (vI w), some (vI m), some (vR 77), some (vI n), some (vR 78), some (vI b), some (vI o), some (vI ((a + (iAnd (iShr b (3 + k)) 0)) + 1)), some (vI t), some (vI e), some (vI k), z12]) F_160_222 rfl rfl ?_
        refine r_iconst F_160_224 ?_
        refine r_stI (m := 12) (L' := [some (vR 0), some (vI w), some (vI m), some (vR 77), some (vI n), some (vR 78), some (vI b), some (vI o), some (vI ((a + (iAnd (iShr b (3 + k)) 0)) + 1)), some (vI t), some (vI e), some (vI k), some (vI 0)]) F_160_225 rfl rfl ?_
        exact (l13 e2 e4 e5)
      · intro e6
        replace e6 : k < 3 := (Int.not_le.mp e6)
        refine r_iconst F_160_202 ?_
        refine r_goto (t := 207) F_160_203 rfl ?_
        refine r_iand F_160_207 rfl ?_
        refine r_iadd F_160_208 rfl ?_
        refine r_ldR (m := 5) F_160_209 rfl ?_
        refine r_iconst F_160_211 ?_
        refine r_ldI (m := 11) F_160_212 rfl ?_
        refine r_imul F_160_214 rfl ?_
        refine r_ialdU (c := 1) (len := 30) (e := (s 78 (5 * k))) F_160_215 rfl rfl (Nat.lt_of_lt_of_le (by decide) hU) (by decide) (by decide) (l14 e2 e4 e6) (l15 e2 e4 e6) rfl ?_
        refine r_stat2 (A := [vI (s 78 (5 * k))]) (r := [vI (a + (iAnd (iShr b (3 + k)) 1)), vR 0]) (n := 1) F_160_216 o_160 il_6_31 (by decide) rfl rfl rfl rfl (lay_le n_162 rfl) ?_
        refine sp_letter (l16 e2 e4 e6) ?_
        show Rn _ _ _ _ _ [vI (ltr (s 78 (5 * k))), vI (a + (iAnd (iShr b (3 + k)) 1)), vR 0] _ _
        refine r_stat2 (A := [vR 0, vI (a + (iAnd (iShr b (3 + k)) 1)), vI (ltr (s 78 (5 * k)))]) (r := []) (n := 3) F_160_219 o_160 il_6_28 (by decide) rfl rfl rfl rfl (lay_le n_161 rfl) ?_
        refine sp_putL (l17 e2 e4 e6) (l18 e2 e4 e6) (l19 e2 e4 e6) (l20 e2 e4 e6) ?_
        show Rn _ _ _ _ _ [vI ((a + (iAnd (iShr b (3 + k)) 1)) + 1)] _ _
        refine r_stI (m := 8) (L' := [some (vR 0), some (vI w), some (vI m), some (vR 77), some (vI n), some (vR 78), some (vI b), some (vI o), some (vI ((a + (iAnd (iShr b (3 + k)) 1)) + 1)), some (vI t), some (vI e), some (vI k), z12]) F_160_222 rfl rfl ?_
        refine r_iconst F_160_224 ?_
        refine r_stI (m := 12) (L' := [some (vR 0), some (vI w), some (vI m), some (vR 77), some (vI n), some (vR 78), some (vI b), some (vI o), some (vI ((a + (iAnd (iShr b (3 + k)) 1)) + 1)), some (vI t), some (vI e), some (vI k), some (vI 0)]) F_160_225 rfl rfl ?_
        exact (l21 e2 e4 e6)
theorem t_L_makes_227 {X : m_X} {d : Nat} {s : m_St} {P : Option Value → m_St → Prop} {w m n b o a t e k c : Int} (hU : 2 ≤ X.2)
    (l1 : inR c)
    (l2 : 4 ≤ c → Rn X (d + 8) 160 174 [some (vR 0), some (vI w), some (vI m), some (vR 77), some (vI n), some (vR 78), some (vI b), some (vI o), some (vI a), some (vI t), some (vI e), some (vI (k + 1)), some (vI c)] [] s P)
    (l3 : c < 4 → 0 ≤ (((5 * k) + 1) + c))
    (l4 : c < 4 → (((5 * k) + 1) + c) < 30)
    (l5 : c < 4 → s 11 0 = 60)
    (l6 : c < 4 → 0 ≤ a)
    (l7 : c < 4 → a < 60)
    (l8 : c < 4 → s 13 a = 32)
    (l9 : c < 4 → Rn X (d + 8) 160 227 [some (vR 0), some (vI w), some (vI m), some (vR 77), some (vI n), some (vR 78), some (vI b), some (vI o), some (vI (a + 1)), some (vI t), some (vI e), some (vI k), some (vI (c + 1))] [] (m_upd s 13 a (i2B (48 + (s 78 (((5 * k) + 1) + c))))) P)
    : Rn X (d + 8) 160 227 [some (vR 0), some (vI w), some (vI m), some (vR 77), some (vI n), some (vR 78), some (vI b), some (vI o), some (vI a), some (vI t), some (vI e), some (vI k), some (vI c)] [] s P := by
  refine r_ldI (m := 12) F_160_227 rfl ?_
  refine r_iconst F_160_229 ?_
  refine r_icmp (t := 262) F_160_230 rfl l1 (by decide) ?_ ?_
  · intro e1
    replace e1 : 4 ≤ c := e1
    refine r_iinc (m := 11) (e := (k + 1)) (L' := [some (vR 0), some (vI w), some (vI m), some (vR 77), some (vI n), some (vR 78), some (vI b), some (vI o), some (vI a), some (vI t), some (vI e), some (vI (k + 1)), some (vI c)]) F_160_262 rfl rfl rfl rfl ?_
    refine r_goto (t := 174) F_160_265 rfl ?_
    exact (l2 e1)
  · intro e2
    replace e2 : c < 4 := (Int.not_le.mp e2)
    refine r_ldR_n (m := 0) F_160_233 rfl ?_
    refine r_ldI (m := 8) F_160_234 rfl ?_
    refine r_bipush F_160_236 bi_48 ?_
    refine r_ldR (m := 5) F_160_238 rfl ?_
    refine r_iconst F_160_240 ?_
    refine r_ldI (m := 11) F_160_241 rfl ?_
    refine r_imul F_160_243 rfl ?_
    refine r_iconst F_160_244 ?_
    refine r_iadd F_160_245 rfl ?_
    refine r_ldI (m := 12) F_160_246 rfl ?_
    refine r_iadd F_160_248 rfl ?_
    refine r_ialdU (c := 1) (len := 30) (e := (s 78 (((5 * k) + 1) + c))) F_160_249 rfl rfl (Nat.lt_of_lt_of_le (by decide) hU) (by decide) (by decide) (l3 e2) (l4 e2) rfl ?_
    refine r_iadd F_160_250 rfl ?_
    refine r_stat2 (A := [vR 0, vI a, vI (48 + (s 78 (((5 * k) + 1) + c)))]) (r := []) (n := 3) F_160_251 o_160 il_6_28 (by decide) rfl rfl rfl rfl (lay_le n_161 rfl) ?_
    refine sp_putL (l5 e2) (l6 e2) (l7 e2) (l8 e2) ?_
    show Rn _ _ _ _ _ [vI (a + 1)] _ _
    refine r_stI (m := 8) (L' := [some (vR 0), some (vI w), some (vI m), some (vR 77), some (vI n), some (vR 78), some (vI b), some (vI o), some (vI (a + 1)), some (vI t), some (vI e), some (vI k), some (vI c)]) F_160_254 rfl rfl ?_
    refine r_iinc (m := 12) (e := (c + 1)) (L' := [some (vR 0), some (vI w), some (vI m), some (vR 77), some (vI n), some (vR 78), some (vI b), some (vI o), some (vI (a + 1)), some (vI t), some (vI e), some (vI k), some (vI (c + 1))]) F_160_256 rfl rfl rfl rfl ?_
    refine r_goto (t := 227) F_160_259 rfl ?_
    exact (l9 e2)
