/-! walks: the calls of the reference, huts -/
theorem n_183 : m_n 183 = 3 := by decide +kernel
theorem F_183_0 : F 183 0 (.aload_n 0) 1 := ⟨1, by decide +kernel, rfl, rfl⟩
theorem F_183_1 : F 183 1 (.iload_n 1) 2 := ⟨1, by decide +kernel, rfl, rfl⟩
theorem F_183_2 : F 183 2 (.invokevirtual 150) 5 := ⟨3, by decide +kernel, rfl, rfl⟩
theorem o_183 : m_o 183 = 6 := by decide +kernel
theorem il_6_150 : ilq 6 150 0 184 1 = true := by decide +kernel
theorem vy_184 : (m_cls 6).1 = (m_y 184).cls ∧ 6 < m_cl.length := by decide +kernel
theorem n_184 : m_n 184 = 2 := by decide +kernel
theorem F_184_0 : F 184 0 (.iload_n 1) 1 := ⟨1, by decide +kernel, rfl, rfl⟩
theorem F_184_1 : F 184 1 (.iconst 0) 2 := ⟨1, by decide +kernel, rfl, rfl⟩
theorem F_184_2 : F 184 2 (.aload_n 0) 3 := ⟨1, by decide +kernel, rfl, rfl⟩
theorem F_184_3 : F 184 3 (.getfield 25) 6 := ⟨3, by decide +kernel, rfl, rfl⟩
theorem o_184 : m_o 184 = 6 := by decide +kernel
theorem F_184_6 : F 184 6 (.iconst 0) 7 := ⟨1, by decide +kernel, rfl, rfl⟩
theorem F_184_7 : F 184 7 (.iaload) 8 := ⟨1, by decide +kernel, rfl, rfl⟩
theorem F_184_8 : F 184 8 (.iconst 1) 9 := ⟨1, by decide +kernel, rfl, rfl⟩
theorem F_184_9 : F 184 9 (.isub) 10 := ⟨1, by decide +kernel, rfl, rfl⟩
theorem F_184_10 : F 184 10 (.invokestatic 67) 13 := ⟨3, by decide +kernel, rfl, rfl⟩
theorem F_184_13 : F 184 13 (.ireturn) 14 := ⟨1, by decide +kernel, rfl, rfl⟩
theorem rt_184 : m_r 184 = (some .boolean) := by decide +kernel
theorem F_183_5 : F 183 5 (.ifCond .eq 27) 8 := ⟨3, by decide +kernel, rfl, rfl⟩
theorem F_183_32 : F 183 32 (.iconst (-1)) 33 := ⟨1, by decide +kernel, rfl, rfl⟩
theorem F_183_33 : F 183 33 (.ireturn) 34 := ⟨1, by decide +kernel, rfl, rfl⟩
theorem rt_183 : m_r 183 = (some .int) := by decide +kernel
theorem F_183_8 : F 183 8 (.iload_n 2) 9 := ⟨1, by decide +kernel, rfl, rfl⟩
theorem F_183_9 : F 183 9 (.iconst 0) 10 := ⟨1, by decide +kernel, rfl, rfl⟩
theorem F_183_10 : F 183 10 (.bipush 6) 12 := ⟨2, by decide +kernel, rfl, rfl⟩
theorem F_183_12 : F 183 12 (.invokestatic 67) 15 := ⟨3, by decide +kernel, rfl, rfl⟩
theorem F_183_15 : F 183 15 (.ifCond .eq 17) 18 := ⟨3, by decide +kernel, rfl, rfl⟩
theorem F_183_18 : F 183 18 (.aload_n 0) 19 := ⟨1, by decide +kernel, rfl, rfl⟩
theorem F_183_19 : F 183 19 (.iconst 1) 20 := ⟨1, by decide +kernel, rfl, rfl⟩
theorem F_183_20 : F 183 20 (.aload_n 0) 21 := ⟨1, by decide +kernel, rfl, rfl⟩
theorem F_183_21 : F 183 21 (.iload_n 1) 22 := ⟨1, by decide +kernel, rfl, rfl⟩
theorem F_183_22 : F 183 22 (.iload_n 2) 23 := ⟨1, by decide +kernel, rfl, rfl⟩
theorem F_183_23 : F 183 23 (.invokevirtual 153) 26 := ⟨3, by decide +kernel, rfl, rfl⟩
theorem il_6_153 : ilq 6 153 0 185 2 = true := by decide +kernel
theorem vy_185 : (m_cls 6).1 = (m_y 185).cls ∧ 6 < m_cl.length := by decide +kernel
theorem n_185 : m_n 185 = 3 := by decide +kernel
theorem F_185_0 : F 185 0 (.iload_n 2) 1 := ⟨1, by decide +kernel, rfl, rfl⟩
theorem F_185_1 : F 185 1 (.iconst 5) 2 := ⟨1, by decide +kernel, rfl, rfl⟩
theorem F_185_2 : F 185 2 (.if_icmp .ne 9) 5 := ⟨3, by decide +kernel, rfl, rfl⟩
theorem F_185_11 : F 185 11 (.iload_n 2) 12 := ⟨1, by decide +kernel, rfl, rfl⟩
theorem F_185_12 : F 185 12 (.bipush 6) 14 := ⟨2, by decide +kernel, rfl, rfl⟩
theorem F_185_14 : F 185 14 (.if_icmp .ne 38) 17 := ⟨3, by decide +kernel, rfl, rfl⟩
theorem F_185_52 : F 185 52 (.aload_n 0) 53 := ⟨1, by decide +kernel, rfl, rfl⟩
theorem F_185_53 : F 185 53 (.getfield 25) 56 := ⟨3, by decide +kernel, rfl, rfl⟩
theorem o_185 : m_o 185 = 6 := by decide +kernel
theorem F_185_56 : F 185 56 (.bipush 8) 58 := ⟨2, by decide +kernel, rfl, rfl⟩
theorem F_185_58 : F 185 58 (.iconst 5) 59 := ⟨1, by decide +kernel, rfl, rfl⟩
theorem F_185_59 : F 185 59 (.iload_n 1) 60 := ⟨1, by decide +kernel, rfl, rfl⟩
theorem F_185_60 : F 185 60 (.imul) 61 := ⟨1, by decide +kernel, rfl, rfl⟩
theorem F_185_61 : F 185 61 (.iadd) 62 := ⟨1, by decide +kernel, rfl, rfl⟩
theorem F_185_62 : F 185 62 (.iload_n 2) 63 := ⟨1, by decide +kernel, rfl, rfl⟩
theorem F_185_63 : F 185 63 (.iadd) 64 := ⟨1, by decide +kernel, rfl, rfl⟩
theorem F_185_64 : F 185 64 (.iaload) 65 := ⟨1, by decide +kernel, rfl, rfl⟩
theorem F_185_65 : F 185 65 (.ireturn) 66 := ⟨1, by decide +kernel, rfl, rfl⟩
theorem rt_185 : m_r 185 = (some .int) := by decide +kernel
theorem F_183_26 : F 183 26 (.invokevirtual 87) 29 := ⟨3, by decide +kernel, rfl, rfl⟩
theorem F_183_29 : F 183 29 (.goto 4) 32 := ⟨3, by decide +kernel, rfl, rfl⟩
theorem F_185_17 : F 185 17 (.aload_n 0) 18 := ⟨1, by decide +kernel, rfl, rfl⟩
theorem F_185_18 : F 185 18 (.getfield 25) 21 := ⟨3, by decide +kernel, rfl, rfl⟩
theorem F_185_21 : F 185 21 (.iconst 5) 22 := ⟨1, by decide +kernel, rfl, rfl⟩
theorem F_185_22 : F 185 22 (.iaload) 23 := ⟨1, by decide +kernel, rfl, rfl⟩
theorem F_185_23 : F 185 23 (.iload_n 1) 24 := ⟨1, by decide +kernel, rfl, rfl⟩
theorem F_185_24 : F 185 24 (.iconst 1) 25 := ⟨1, by decide +kernel, rfl, rfl⟩
theorem F_185_25 : F 185 25 (.iadd) 26 := ⟨1, by decide +kernel, rfl, rfl⟩
theorem F_185_26 : F 185 26 (.if_icmp .ne 7) 29 := ⟨3, by decide +kernel, rfl, rfl⟩
theorem F_185_33 : F 185 33 (.aload_n 0) 34 := ⟨1, by decide +kernel, rfl, rfl⟩
theorem F_185_34 : F 185 34 (.getfield 25) 37 := ⟨3, by decide +kernel, rfl, rfl⟩
theorem F_185_37 : F 185 37 (.bipush 6) 39 := ⟨2, by decide +kernel, rfl, rfl⟩
theorem F_185_39 : F 185 39 (.iaload) 40 := ⟨1, by decide +kernel, rfl, rfl⟩
theorem F_185_40 : F 185 40 (.iload_n 1) 41 := ⟨1, by decide +kernel, rfl, rfl⟩
theorem F_185_41 : F 185 41 (.iconst 1) 42 := ⟨1, by decide +kernel, rfl, rfl⟩
theorem F_185_42 : F 185 42 (.iadd) 43 := ⟨1, by decide +kernel, rfl, rfl⟩
theorem F_185_43 : F 185 43 (.if_icmp .ne 7) 46 := ⟨3, by decide +kernel, rfl, rfl⟩
theorem F_185_50 : F 185 50 (.iconst 0) 51 := ⟨1, by decide +kernel, rfl, rfl⟩
theorem F_185_51 : F 185 51 (.ireturn) 52 := ⟨1, by decide +kernel, rfl, rfl⟩
theorem F_185_46 : F 185 46 (.iconst 2) 47 := ⟨1, by decide +kernel, rfl, rfl⟩
theorem F_185_47 : F 185 47 (.goto 4) 50 := ⟨3, by decide +kernel, rfl, rfl⟩
theorem F_185_29 : F 185 29 (.iconst 1) 30 := ⟨1, by decide +kernel, rfl, rfl⟩
theorem F_185_30 : F 185 30 (.goto 21) 33 := ⟨3, by decide +kernel, rfl, rfl⟩
theorem F_185_5 : F 185 5 (.aload_n 0) 6 := ⟨1, by decide +kernel, rfl, rfl⟩
theorem F_185_6 : F 185 6 (.iload_n 1) 7 := ⟨1, by decide +kernel, rfl, rfl⟩
theorem F_185_7 : F 185 7 (.invokevirtual 143) 10 := ⟨3, by decide +kernel, rfl, rfl⟩
theorem F_185_10 : F 185 10 (.ireturn) 11 := ⟨1, by decide +kernel, rfl, rfl⟩
theorem n_197 : m_n 197 = 3 := by decide +kernel
theorem F_197_0 : F 197 0 (.aload_n 0) 1 := ⟨1, by decide +kernel, rfl, rfl⟩
theorem F_197_1 : F 197 1 (.iload_n 1) 2 := ⟨1, by decide +kernel, rfl, rfl⟩
theorem F_197_2 : F 197 2 (.invokevirtual 150) 5 := ⟨3, by decide +kernel, rfl, rfl⟩
theorem o_197 : m_o 197 = 6 := by decide +kernel
theorem F_197_5 : F 197 5 (.ifCond .eq 22) 8 := ⟨3, by decide +kernel, rfl, rfl⟩
theorem F_197_27 : F 197 27 (.iconst (-1)) 28 := ⟨1, by decide +kernel, rfl, rfl⟩
theorem F_197_28 : F 197 28 (.ireturn) 29 := ⟨1, by decide +kernel, rfl, rfl⟩
theorem rt_197 : m_r 197 = (some .int) := by decide +kernel
theorem F_197_8 : F 197 8 (.iload_n 2) 9 := ⟨1, by decide +kernel, rfl, rfl⟩
theorem F_197_9 : F 197 9 (.invokestatic 165) 12 := ⟨3, by decide +kernel, rfl, rfl⟩
theorem il_6_165 : ilq 6 165 1 198 1 = true := by decide +kernel
theorem n_198 : m_n 198 = 1 := by decide +kernel
theorem F_198_0 : F 198 0 (.iload_n 0) 1 := ⟨1, by decide +kernel, rfl, rfl⟩
theorem F_198_1 : F 198 1 (.iconst 0) 2 := ⟨1, by decide +kernel, rfl, rfl⟩
theorem F_198_2 : F 198 2 (.iconst 3) 3 := ⟨1, by decide +kernel, rfl, rfl⟩
theorem F_198_3 : F 198 3 (.invokestatic 67) 6 := ⟨3, by decide +kernel, rfl, rfl⟩
theorem o_198 : m_o 198 = 6 := by decide +kernel
theorem F_198_6 : F 198 6 (.ireturn) 7 := ⟨1, by decide +kernel, rfl, rfl⟩
theorem rt_198 : m_r 198 = (some .boolean) := by decide +kernel
theorem F_197_12 : F 197 12 (.ifCond .eq 15) 15 := ⟨3, by decide +kernel, rfl, rfl⟩
theorem F_197_15 : F 197 15 (.aload_n 0) 16 := ⟨1, by decide +kernel, rfl, rfl⟩
theorem F_197_16 : F 197 16 (.iload_n 1) 17 := ⟨1, by decide +kernel, rfl, rfl⟩
theorem F_197_17 : F 197 17 (.iload_n 2) 18 := ⟨1, by decide +kernel, rfl, rfl⟩
theorem F_197_18 : F 197 18 (.invokevirtual 159) 21 := ⟨3, by decide +kernel, rfl, rfl⟩
theorem il_6_159 : ilq 6 159 0 192 2 = true := by decide +kernel
theorem vy_192 : (m_cls 6).1 = (m_y 192).cls ∧ 6 < m_cl.length := by decide +kernel
theorem F_197_21 : F 197 21 (.bipush 10) 23 := ⟨2, by decide +kernel, rfl, rfl⟩
theorem F_197_23 : F 197 23 (.iadd) 24 := ⟨1, by decide +kernel, rfl, rfl⟩
theorem F_197_24 : F 197 24 (.goto 4) 27 := ⟨3, by decide +kernel, rfl, rfl⟩
theorem n_215 : m_n 215 = 1 := by decide +kernel
theorem F_215_0 : F 215 0 (.aload_n 0) 1 := ⟨1, by decide +kernel, rfl, rfl⟩
theorem F_215_1 : F 215 1 (.invokevirtual 182) 4 := ⟨3, by decide +kernel, rfl, rfl⟩
theorem o_215 : m_o 215 = 6 := by decide +kernel
theorem il_6_182 : ilq 6 182 0 204 0 = true := by decide +kernel
theorem vy_204 : (m_cls 6).1 = (m_y 204).cls ∧ 6 < m_cl.length := by decide +kernel
theorem n_204 : m_n 204 = 1 := by decide +kernel
theorem F_204_0 : F 204 0 (.aload_n 0) 1 := ⟨1, by decide +kernel, rfl, rfl⟩
theorem F_204_1 : F 204 1 (.getfield 25) 4 := ⟨3, by decide +kernel, rfl, rfl⟩
theorem o_204 : m_o 204 = 6 := by decide +kernel
theorem F_204_4 : F 204 4 (.iconst 5) 5 := ⟨1, by decide +kernel, rfl, rfl⟩
theorem F_204_5 : F 204 5 (.iaload) 6 := ⟨1, by decide +kernel, rfl, rfl⟩
theorem F_204_6 : F 204 6 (.ifCond .le 7) 9 := ⟨3, by decide +kernel, rfl, rfl⟩
theorem F_204_13 : F 204 13 (.iconst 0) 14 := ⟨1, by decide +kernel, rfl, rfl⟩
theorem F_204_14 : F 204 14 (.ireturn) 15 := ⟨1, by decide +kernel, rfl, rfl⟩
theorem rt_204 : m_r 204 = (some .boolean) := by decide +kernel
theorem F_215_4 : F 215 4 (.ifCond .eq 25) 7 := ⟨3, by decide +kernel, rfl, rfl⟩
theorem F_215_29 : F 215 29 (.bipush (-4)) 31 := ⟨2, by decide +kernel, rfl, rfl⟩
theorem F_215_31 : F 215 31 (.ireturn) 32 := ⟨1, by decide +kernel, rfl, rfl⟩
theorem rt_215 : m_r 215 = (some .int) := by decide +kernel
theorem F_204_9 : F 204 9 (.iconst 1) 10 := ⟨1, by decide +kernel, rfl, rfl⟩
theorem F_204_10 : F 204 10 (.goto 4) 13 := ⟨3, by decide +kernel, rfl, rfl⟩
theorem F_215_7 : F 215 7 (.aload_n 0) 8 := ⟨1, by decide +kernel, rfl, rfl⟩
theorem F_215_8 : F 215 8 (.aload_n 0) 9 := ⟨1, by decide +kernel, rfl, rfl⟩
theorem F_215_9 : F 215 9 (.invokevirtual 175) 12 := ⟨3, by decide +kernel, rfl, rfl⟩
theorem il_6_175 : ilq 6 175 0 201 0 = true := by decide +kernel
theorem vy_201 : (m_cls 6).1 = (m_y 201).cls ∧ 6 < m_cl.length := by decide +kernel
theorem n_201 : m_n 201 = 1 := by decide +kernel
theorem F_201_0 : F 201 0 (.aload_n 0) 1 := ⟨1, by decide +kernel, rfl, rfl⟩
theorem F_201_1 : F 201 1 (.iconst 0) 2 := ⟨1, by decide +kernel, rfl, rfl⟩
theorem F_201_2 : F 201 2 (.invokevirtual 168) 5 := ⟨3, by decide +kernel, rfl, rfl⟩
theorem o_201 : m_o 201 = 6 := by decide +kernel
theorem F_201_5 : F 201 5 (.aload_n 0) 6 := ⟨1, by decide +kernel, rfl, rfl⟩
theorem F_201_6 : F 201 6 (.iconst 1) 7 := ⟨1, by decide +kernel, rfl, rfl⟩
theorem F_201_7 : F 201 7 (.invokevirtual 168) 10 := ⟨3, by decide +kernel, rfl, rfl⟩
theorem F_201_10 : F 201 10 (.iand) 11 := ⟨1, by decide +kernel, rfl, rfl⟩
theorem F_201_11 : F 201 11 (.ireturn) 12 := ⟨1, by decide +kernel, rfl, rfl⟩
theorem rt_201 : m_r 201 = (some .int) := by decide +kernel
theorem F_215_12 : F 215 12 (.aload_n 0) 13 := ⟨1, by decide +kernel, rfl, rfl⟩
theorem F_215_13 : F 215 13 (.iconst 0) 14 := ⟨1, by decide +kernel, rfl, rfl⟩
theorem F_215_14 : F 215 14 (.invokevirtual 168) 17 := ⟨3, by decide +kernel, rfl, rfl⟩
theorem F_215_17 : F 215 17 (.aload_n 0) 18 := ⟨1, by decide +kernel, rfl, rfl⟩
theorem F_215_18 : F 215 18 (.iconst 1) 19 := ⟨1, by decide +kernel, rfl, rfl⟩
theorem F_215_19 : F 215 19 (.invokevirtual 168) 22 := ⟨3, by decide +kernel, rfl, rfl⟩
theorem F_215_22 : F 215 22 (.ixor) 23 := ⟨1, by decide +kernel, rfl, rfl⟩
theorem F_215_23 : F 215 23 (.invokevirtual 87) 26 := ⟨3, by decide +kernel, rfl, rfl⟩
theorem F_215_26 : F 215 26 (.goto 5) 29 := ⟨3, by decide +kernel, rfl, rfl⟩
theorem n_216 : m_n 216 = 1 := by decide +kernel
theorem F_216_0 : F 216 0 (.aload_n 0) 1 := ⟨1, by decide +kernel, rfl, rfl⟩
theorem F_216_1 : F 216 1 (.invokevirtual 182) 4 := ⟨3, by decide +kernel, rfl, rfl⟩
theorem o_216 : m_o 216 = 6 := by decide +kernel
theorem F_216_4 : F 216 4 (.ifCond .eq 19) 7 := ⟨3, by decide +kernel, rfl, rfl⟩
theorem F_216_23 : F 216 23 (.bipush (-4)) 25 := ⟨2, by decide +kernel, rfl, rfl⟩
theorem F_216_25 : F 216 25 (.ireturn) 26 := ⟨1, by decide +kernel, rfl, rfl⟩
theorem rt_216 : m_r 216 = (some .int) := by decide +kernel
theorem F_216_7 : F 216 7 (.aload_n 0) 8 := ⟨1, by decide +kernel, rfl, rfl⟩
theorem F_216_8 : F 216 8 (.iconst 0) 9 := ⟨1, by decide +kernel, rfl, rfl⟩
theorem F_216_9 : F 216 9 (.invokevirtual 168) 12 := ⟨3, by decide +kernel, rfl, rfl⟩
theorem F_216_12 : F 216 12 (.aload_n 0) 13 := ⟨1, by decide +kernel, rfl, rfl⟩
theorem F_216_13 : F 216 13 (.iconst 1) 14 := ⟨1, by decide +kernel, rfl, rfl⟩
theorem F_216_14 : F 216 14 (.invokevirtual 168) 17 := ⟨3, by decide +kernel, rfl, rfl⟩
theorem F_216_17 : F 216 17 (.iconst 4) 18 := ⟨1, by decide +kernel, rfl, rfl⟩
theorem F_216_18 : F 216 18 (.ishl) 19 := ⟨1, by decide +kernel, rfl, rfl⟩
theorem F_216_19 : F 216 19 (.ior) 20 := ⟨1, by decide +kernel, rfl, rfl⟩
theorem F_216_20 : F 216 20 (.goto 5) 23 := ⟨3, by decide +kernel, rfl, rfl⟩
theorem n_190 : m_n 190 = 7 := by decide +kernel
theorem F_190_0 : F 190 0 (.aload_n 0) 1 := ⟨1, by decide +kernel, rfl, rfl⟩
theorem F_190_1 : F 190 1 (.iload_n 1) 2 := ⟨1, by decide +kernel, rfl, rfl⟩
theorem F_190_2 : F 190 2 (.invokevirtual 150) 5 := ⟨3, by decide +kernel, rfl, rfl⟩
theorem o_190 : m_o 190 = 6 := by decide +kernel
theorem F_190_5 : F 190 5 (.ifCond .eq 12) 8 := ⟨3, by decide +kernel, rfl, rfl⟩
theorem F_190_17 : F 190 17 (.iconst (-1)) 18 := ⟨1, by decide +kernel, rfl, rfl⟩
theorem F_190_18 : F 190 18 (.ireturn) 19 := ⟨1, by decide +kernel, rfl, rfl⟩
theorem rt_190 : m_r 190 = (some .int) := by decide +kernel
theorem F_190_8 : F 190 8 (.iload_n 2) 9 := ⟨1, by decide +kernel, rfl, rfl⟩
theorem F_190_9 : F 190 9 (.iconst 1) 10 := ⟨1, by decide +kernel, rfl, rfl⟩
theorem F_190_10 : F 190 10 (.iconst 5) 11 := ⟨1, by decide +kernel, rfl, rfl⟩
theorem F_190_11 : F 190 11 (.invokestatic 67) 14 := ⟨3, by decide +kernel, rfl, rfl⟩
theorem F_190_14 : F 190 14 (.ifCond .ne 5) 17 := ⟨3, by decide +kernel, rfl, rfl⟩
theorem F_190_19 : F 190 19 (.aload_n 0) 20 := ⟨1, by decide +kernel, rfl, rfl⟩
theorem F_190_20 : F 190 20 (.iload_n 1) 21 := ⟨1, by decide +kernel, rfl, rfl⟩
theorem F_190_21 : F 190 21 (.invokevirtual 136) 24 := ⟨3, by decide +kernel, rfl, rfl⟩
theorem F_190_24 : F 190 24 (.iload_n 2) 25 := ⟨1, by decide +kernel, rfl, rfl⟩
theorem F_190_25 : F 190 25 (.invokestatic 156) 28 := ⟨3, by decide +kernel, rfl, rfl⟩
theorem il_6_156 : ilq 6 156 1 191 2 = true := by decide +kernel
theorem n_191 : m_n 191 = 2 := by decide +kernel
theorem F_191_0 : F 191 0 (.iload_n 0) 1 := ⟨1, by decide +kernel, rfl, rfl⟩
theorem F_191_1 : F 191 1 (.iload_n 1) 2 := ⟨1, by decide +kernel, rfl, rfl⟩
theorem F_191_2 : F 191 2 (.if_icmp .eq 23) 5 := ⟨3, by decide +kernel, rfl, rfl⟩
theorem F_191_25 : F 191 25 (.iconst 1) 26 := ⟨1, by decide +kernel, rfl, rfl⟩
theorem F_191_26 : F 191 26 (.goto 4) 29 := ⟨3, by decide +kernel, rfl, rfl⟩
theorem F_191_30 : F 191 30 (.ireturn) 31 := ⟨1, by decide +kernel, rfl, rfl⟩
theorem rt_191 : m_r 191 = (some .boolean) := by decide +kernel
theorem F_190_28 : F 190 28 (.ifCond .ne 9) 31 := ⟨3, by decide +kernel, rfl, rfl⟩
theorem F_190_37 : F 190 37 (.iconst 0) 38 := ⟨1, by decide +kernel, rfl, rfl⟩
theorem F_190_38 : F 190 38 (.istore_n 3) 39 := ⟨1, by decide +kernel, rfl, rfl⟩
theorem F_190_39 : F 190 39 (.iconst 0) 40 := ⟨1, by decide +kernel, rfl, rfl⟩
theorem F_190_40 : F 190 40 (.istore 4) 42 := ⟨2, by decide +kernel, rfl, rfl⟩
theorem F_191_5 : F 191 5 (.iload_n 0) 6 := ⟨1, by decide +kernel, rfl, rfl⟩
theorem F_191_6 : F 191 6 (.iconst 4) 7 := ⟨1, by decide +kernel, rfl, rfl⟩
theorem F_191_7 : F 191 7 (.if_icmp .ne 8) 10 := ⟨3, by decide +kernel, rfl, rfl⟩
theorem F_191_15 : F 191 15 (.iload_n 0) 16 := ⟨1, by decide +kernel, rfl, rfl⟩
theorem F_191_16 : F 191 16 (.iconst 5) 17 := ⟨1, by decide +kernel, rfl, rfl⟩
theorem F_191_17 : F 191 17 (.if_icmp .ne 12) 20 := ⟨3, by decide +kernel, rfl, rfl⟩
theorem F_191_29 : F 191 29 (.iconst 0) 30 := ⟨1, by decide +kernel, rfl, rfl⟩
theorem F_190_31 : F 190 31 (.aload_n 0) 32 := ⟨1, by decide +kernel, rfl, rfl⟩
theorem F_190_32 : F 190 32 (.iconst 3) 33 := ⟨1, by decide +kernel, rfl, rfl⟩
theorem F_190_33 : F 190 33 (.invokevirtual 75) 36 := ⟨3, by decide +kernel, rfl, rfl⟩
theorem F_190_36 : F 190 36 (.ireturn) 37 := ⟨1, by decide +kernel, rfl, rfl⟩
theorem F_191_20 : F 191 20 (.iload_n 1) 21 := ⟨1, by decide +kernel, rfl, rfl⟩
theorem F_191_21 : F 191 21 (.iconst 2) 22 := ⟨1, by decide +kernel, rfl, rfl⟩
theorem F_191_22 : F 191 22 (.if_icmp .ne 7) 25 := ⟨3, by decide +kernel, rfl, rfl⟩
theorem F_191_10 : F 191 10 (.iload_n 1) 11 := ⟨1, by decide +kernel, rfl, rfl⟩
theorem F_191_11 : F 191 11 (.iconst 1) 12 := ⟨1, by decide +kernel, rfl, rfl⟩
theorem F_191_12 : F 191 12 (.if_icmp .eq 13) 15 := ⟨3, by decide +kernel, rfl, rfl⟩
theorem F_190_42 : F 190 42 (.iload 4) 44 := ⟨2, by decide +kernel, rfl, rfl⟩
theorem F_190_44 : F 190 44 (.iconst 4) 45 := ⟨1, by decide +kernel, rfl, rfl⟩
theorem F_190_45 : F 190 45 (.if_icmp .ge 157) 48 := ⟨3, by decide +kernel, rfl, rfl⟩
theorem F_190_202 : F 190 202 (.iload_n 3) 203 := ⟨1, by decide +kernel, rfl, rfl⟩
theorem F_190_203 : F 190 203 (.ireturn) 204 := ⟨1, by decide +kernel, rfl, rfl⟩
theorem F_190_48 : F 190 48 (.aload_n 0) 49 := ⟨1, by decide +kernel, rfl, rfl⟩
theorem F_190_49 : F 190 49 (.iload_n 1) 50 := ⟨1, by decide +kernel, rfl, rfl⟩
theorem F_190_50 : F 190 50 (.iload 4) 52 := ⟨2, by decide +kernel, rfl, rfl⟩
theorem F_190_52 : F 190 52 (.invokevirtual 159) 55 := ⟨3, by decide +kernel, rfl, rfl⟩
theorem F_190_55 : F 190 55 (.istore 5) 57 := ⟨2, by decide +kernel, rfl, rfl⟩
theorem F_190_57 : F 190 57 (.aload_n 0) 58 := ⟨1, by decide +kernel, rfl, rfl⟩
theorem F_190_58 : F 190 58 (.getfield 25) 61 := ⟨3, by decide +kernel, rfl, rfl⟩
theorem F_190_61 : F 190 61 (.bipush 8) 63 := ⟨2, by decide +kernel, rfl, rfl⟩
theorem F_190_63 : F 190 63 (.iconst 5) 64 := ⟨1, by decide +kernel, rfl, rfl⟩
theorem F_190_64 : F 190 64 (.iload_n 1) 65 := ⟨1, by decide +kernel, rfl, rfl⟩
theorem F_190_65 : F 190 65 (.imul) 66 := ⟨1, by decide +kernel, rfl, rfl⟩
theorem F_190_66 : F 190 66 (.iadd) 67 := ⟨1, by decide +kernel, rfl, rfl⟩
theorem F_190_67 : F 190 67 (.iconst 1) 68 := ⟨1, by decide +kernel, rfl, rfl⟩
theorem F_190_68 : F 190 68 (.iadd) 69 := ⟨1, by decide +kernel, rfl, rfl⟩
theorem F_190_69 : F 190 69 (.iload 4) 71 := ⟨2, by decide +kernel, rfl, rfl⟩
theorem F_190_71 : F 190 71 (.iadd) 72 := ⟨1, by decide +kernel, rfl, rfl⟩
theorem F_190_72 : F 190 72 (.iaload) 73 := ⟨1, by decide +kernel, rfl, rfl⟩
theorem F_190_73 : F 190 73 (.istore 6) 75 := ⟨2, by decide +kernel, rfl, rfl⟩
theorem F_190_75 : F 190 75 (.iload_n 2) 76 := ⟨1, by decide +kernel, rfl, rfl⟩
theorem F_190_76 : F 190 76 (.tableswitch 102 1 4 #[32, 48, 56, 80]) 108 := ⟨32, by decide +kernel, rfl, rfl⟩
theorem F_190_108 : F 190 108 (.iload_n 3) 109 := ⟨1, by decide +kernel, rfl, rfl⟩
theorem F_190_109 : F 190 109 (.iload 5) 111 := ⟨2, by decide +kernel, rfl, rfl⟩
theorem F_190_111 : F 190 111 (.ifCond .ne 7) 114 := ⟨3, by decide +kernel, rfl, rfl⟩
theorem F_190_118 : F 190 118 (.iconst 0) 119 := ⟨1, by decide +kernel, rfl, rfl⟩
theorem F_190_119 : F 190 119 (.iadd) 120 := ⟨1, by decide +kernel, rfl, rfl⟩
theorem F_190_120 : F 190 120 (.istore_n 3) 121 := ⟨1, by decide +kernel, rfl, rfl⟩
theorem F_190_121 : F 190 121 (.goto 75) 124 := ⟨3, by decide +kernel, rfl, rfl⟩
theorem F_190_196 : F 190 196 (.iinc 4 1) 199 := ⟨3, by decide +kernel, rfl, rfl⟩
theorem F_190_199 : F 190 199 (.goto (-157)) 202 := ⟨3, by decide +kernel, rfl, rfl⟩
theorem F_190_114 : F 190 114 (.iconst 1) 115 := ⟨1, by decide +kernel, rfl, rfl⟩
theorem F_190_115 : F 190 115 (.goto 4) 118 := ⟨3, by decide +kernel, rfl, rfl⟩
theorem F_190_124 : F 190 124 (.iload_n 3) 125 := ⟨1, by decide +kernel, rfl, rfl⟩
theorem F_190_125 : F 190 125 (.iload 5) 127 := ⟨2, by decide +kernel, rfl, rfl⟩
theorem F_190_127 : F 190 127 (.iadd) 128 := ⟨1, by decide +kernel, rfl, rfl⟩
theorem F_190_128 : F 190 128 (.istore_n 3) 129 := ⟨1, by decide +kernel, rfl, rfl⟩
theorem F_190_129 : F 190 129 (.goto 67) 132 := ⟨3, by decide +kernel, rfl, rfl⟩
theorem F_190_132 : F 190 132 (.iload_n 3) 133 := ⟨1, by decide +kernel, rfl, rfl⟩
theorem F_190_133 : F 190 133 (.aload_n 0) 134 := ⟨1, by decide +kernel, rfl, rfl⟩
theorem F_190_134 : F 190 134 (.iload_n 1) 135 := ⟨1, by decide +kernel, rfl, rfl⟩
theorem F_190_135 : F 190 135 (.invokevirtual 143) 138 := ⟨3, by decide +kernel, rfl, rfl⟩
theorem F_190_138 : F 190 138 (.iload 4) 140 := ⟨2, by decide +kernel, rfl, rfl⟩
theorem F_190_140 : F 190 140 (.invokestatic 132) 143 := ⟨3, by decide +kernel, rfl, rfl⟩
theorem F_190_143 : F 190 143 (.ifCond .eq 7) 146 := ⟨3, by decide +kernel, rfl, rfl⟩
theorem F_190_150 : F 190 150 (.iconst 1) 151 := ⟨1, by decide +kernel, rfl, rfl⟩
theorem F_190_151 : F 190 151 (.iadd) 152 := ⟨1, by decide +kernel, rfl, rfl⟩
theorem F_190_152 : F 190 152 (.istore_n 3) 153 := ⟨1, by decide +kernel, rfl, rfl⟩
theorem F_190_153 : F 190 153 (.goto 43) 156 := ⟨3, by decide +kernel, rfl, rfl⟩
theorem F_190_146 : F 190 146 (.iconst 0) 147 := ⟨1, by decide +kernel, rfl, rfl⟩
theorem F_190_147 : F 190 147 (.goto 4) 150 := ⟨3, by decide +kernel, rfl, rfl⟩
theorem F_190_156 : F 190 156 (.iload_n 3) 157 := ⟨1, by decide +kernel, rfl, rfl⟩
theorem F_190_157 : F 190 157 (.iload 6) 159 := ⟨2, by decide +kernel, rfl, rfl⟩
theorem F_190_159 : F 190 159 (.iconst 5) 160 := ⟨1, by decide +kernel, rfl, rfl⟩
theorem F_190_160 : F 190 160 (.bipush 6) 162 := ⟨2, by decide +kernel, rfl, rfl⟩
theorem F_190_162 : F 190 162 (.invokestatic 67) 165 := ⟨3, by decide +kernel, rfl, rfl⟩
theorem F_190_165 : F 190 165 (.ifCond .eq 7) 168 := ⟨3, by decide +kernel, rfl, rfl⟩
theorem F_190_172 : F 190 172 (.iconst 0) 173 := ⟨1, by decide +kernel, rfl, rfl⟩
theorem F_190_173 : F 190 173 (.iadd) 174 := ⟨1, by decide +kernel, rfl, rfl⟩
theorem F_190_174 : F 190 174 (.istore_n 3) 175 := ⟨1, by decide +kernel, rfl, rfl⟩
theorem F_190_175 : F 190 175 (.goto 21) 178 := ⟨3, by decide +kernel, rfl, rfl⟩
theorem F_190_168 : F 190 168 (.iconst 1) 169 := ⟨1, by decide +kernel, rfl, rfl⟩
theorem F_190_169 : F 190 169 (.goto 4) 172 := ⟨3, by decide +kernel, rfl, rfl⟩
theorem F_190_178 : F 190 178 (.iload_n 3) 179 := ⟨1, by decide +kernel, rfl, rfl⟩
theorem F_190_179 : F 190 179 (.iload 6) 181 := ⟨2, by decide +kernel, rfl, rfl⟩
theorem F_190_181 : F 190 181 (.iconst 3) 182 := ⟨1, by decide +kernel, rfl, rfl⟩
theorem F_190_182 : F 190 182 (.iconst 4) 183 := ⟨1, by decide +kernel, rfl, rfl⟩
theorem F_190_183 : F 190 183 (.invokestatic 67) 186 := ⟨3, by decide +kernel, rfl, rfl⟩
theorem F_190_186 : F 190 186 (.ifCond .eq 7) 189 := ⟨3, by decide +kernel, rfl, rfl⟩
theorem F_190_193 : F 190 193 (.iconst 0) 194 := ⟨1, by decide +kernel, rfl, rfl⟩
theorem F_190_194 : F 190 194 (.iadd) 195 := ⟨1, by decide +kernel, rfl, rfl⟩
theorem F_190_195 : F 190 195 (.istore_n 3) 196 := ⟨1, by decide +kernel, rfl, rfl⟩
theorem F_190_189 : F 190 189 (.iconst 1) 190 := ⟨1, by decide +kernel, rfl, rfl⟩
theorem F_190_190 : F 190 190 (.goto 4) 193 := ⟨3, by decide +kernel, rfl, rfl⟩
theorem n_230 : m_n 230 = 5 := by decide +kernel
theorem F_230_0 : F 230 0 (.aload_n 0) 1 := ⟨1, by decide +kernel, rfl, rfl⟩
theorem F_230_1 : F 230 1 (.invokevirtual 192) 4 := ⟨3, by decide +kernel, rfl, rfl⟩
theorem o_230 : m_o 230 = 6 := by decide +kernel
theorem il_6_192 : ilq 6 192 0 209 0 = true := by decide +kernel
theorem vy_209 : (m_cls 6).1 = (m_y 209).cls ∧ 6 < m_cl.length := by decide +kernel
theorem n_209 : m_n 209 = 1 := by decide +kernel
theorem F_209_0 : F 209 0 (.aload_n 0) 1 := ⟨1, by decide +kernel, rfl, rfl⟩
theorem F_209_1 : F 209 1 (.getfield 25) 4 := ⟨3, by decide +kernel, rfl, rfl⟩
theorem o_209 : m_o 209 = 6 := by decide +kernel
theorem F_209_4 : F 209 4 (.iconst 0) 5 := ⟨1, by decide +kernel, rfl, rfl⟩
theorem F_209_5 : F 209 5 (.iaload) 6 := ⟨1, by decide +kernel, rfl, rfl⟩
theorem F_209_6 : F 209 6 (.ifCond .le 7) 9 := ⟨3, by decide +kernel, rfl, rfl⟩
theorem F_209_13 : F 209 13 (.iconst 0) 14 := ⟨1, by decide +kernel, rfl, rfl⟩
theorem F_209_14 : F 209 14 (.ireturn) 15 := ⟨1, by decide +kernel, rfl, rfl⟩
theorem rt_209 : m_r 209 = (some .boolean) := by decide +kernel
theorem F_230_4 : F 230 4 (.ifCond .ne 6) 7 := ⟨3, by decide +kernel, rfl, rfl⟩
theorem F_230_7 : F 230 7 (.bipush (-4)) 9 := ⟨2, by decide +kernel, rfl, rfl⟩
theorem F_230_9 : F 230 9 (.ireturn) 10 := ⟨1, by decide +kernel, rfl, rfl⟩
theorem rt_230 : m_r 230 = (some .int) := by decide +kernel
theorem F_209_9 : F 209 9 (.iconst 1) 10 := ⟨1, by decide +kernel, rfl, rfl⟩
theorem F_209_10 : F 209 10 (.goto 4) 13 := ⟨3, by decide +kernel, rfl, rfl⟩
theorem F_230_10 : F 230 10 (.iconst 0) 11 := ⟨1, by decide +kernel, rfl, rfl⟩
theorem F_230_11 : F 230 11 (.istore_n 1) 12 := ⟨1, by decide +kernel, rfl, rfl⟩
theorem F_230_12 : F 230 12 (.bipush 15) 14 := ⟨2, by decide +kernel, rfl, rfl⟩
theorem F_230_14 : F 230 14 (.istore_n 2) 15 := ⟨1, by decide +kernel, rfl, rfl⟩
theorem F_230_15 : F 230 15 (.iconst 0) 16 := ⟨1, by decide +kernel, rfl, rfl⟩
theorem F_230_16 : F 230 16 (.istore_n 3) 17 := ⟨1, by decide +kernel, rfl, rfl⟩
theorem F_230_17 : F 230 17 (.iload_n 3) 18 := ⟨1, by decide +kernel, rfl, rfl⟩
theorem F_230_18 : F 230 18 (.bipush 16) 20 := ⟨2, by decide +kernel, rfl, rfl⟩
theorem F_230_20 : F 230 20 (.if_icmp .ge 56) 23 := ⟨3, by decide +kernel, rfl, rfl⟩
theorem F_230_76 : F 230 76 (.aload_n 0) 77 := ⟨1, by decide +kernel, rfl, rfl⟩
theorem F_230_77 : F 230 77 (.iload_n 1) 78 := ⟨1, by decide +kernel, rfl, rfl⟩
theorem F_230_78 : F 230 78 (.iload_n 2) 79 := ⟨1, by decide +kernel, rfl, rfl⟩
theorem F_230_79 : F 230 79 (.invokevirtual 87) 82 := ⟨3, by decide +kernel, rfl, rfl⟩
theorem F_230_82 : F 230 82 (.ireturn) 83 := ⟨1, by decide +kernel, rfl, rfl⟩
theorem F_230_23 : F 230 23 (.aload_n 0) 24 := ⟨1, by decide +kernel, rfl, rfl⟩
theorem F_230_24 : F 230 24 (.iload_n 3) 25 := ⟨1, by decide +kernel, rfl, rfl⟩
theorem F_230_25 : F 230 25 (.invokevirtual 162) 28 := ⟨3, by decide +kernel, rfl, rfl⟩
theorem F_230_28 : F 230 28 (.iload_n 3) 29 := ⟨1, by decide +kernel, rfl, rfl⟩
theorem F_230_29 : F 230 29 (.if_icmp .ne 7) 32 := ⟨3, by decide +kernel, rfl, rfl⟩
theorem F_230_36 : F 230 36 (.iconst 0) 37 := ⟨1, by decide +kernel, rfl, rfl⟩
theorem F_230_37 : F 230 37 (.istore 4) 39 := ⟨2, by decide +kernel, rfl, rfl⟩
theorem F_230_39 : F 230 39 (.iload_n 1) 40 := ⟨1, by decide +kernel, rfl, rfl⟩
theorem F_230_40 : F 230 40 (.iload 4) 42 := ⟨2, by decide +kernel, rfl, rfl⟩
theorem F_230_42 : F 230 42 (.ifCond .eq 7) 45 := ⟨3, by decide +kernel, rfl, rfl⟩
theorem F_230_49 : F 230 49 (.iconst 0) 50 := ⟨1, by decide +kernel, rfl, rfl⟩
theorem F_230_50 : F 230 50 (.iadd) 51 := ⟨1, by decide +kernel, rfl, rfl⟩
theorem F_230_51 : F 230 51 (.istore_n 1) 52 := ⟨1, by decide +kernel, rfl, rfl⟩
theorem F_230_52 : F 230 52 (.iload_n 2) 53 := ⟨1, by decide +kernel, rfl, rfl⟩
theorem F_230_53 : F 230 53 (.iload 4) 55 := ⟨2, by decide +kernel, rfl, rfl⟩
theorem F_230_55 : F 230 55 (.ifCond .eq 11) 58 := ⟨3, by decide +kernel, rfl, rfl⟩
theorem F_230_66 : F 230 66 (.bipush 15) 68 := ⟨2, by decide +kernel, rfl, rfl⟩
theorem F_230_68 : F 230 68 (.iand) 69 := ⟨1, by decide +kernel, rfl, rfl⟩
theorem F_230_69 : F 230 69 (.istore_n 2) 70 := ⟨1, by decide +kernel, rfl, rfl⟩
theorem F_230_70 : F 230 70 (.iinc 3 1) 73 := ⟨3, by decide +kernel, rfl, rfl⟩
theorem F_230_73 : F 230 73 (.goto (-56)) 76 := ⟨3, by decide +kernel, rfl, rfl⟩
theorem F_230_32 : F 230 32 (.iconst 1) 33 := ⟨1, by decide +kernel, rfl, rfl⟩
theorem F_230_33 : F 230 33 (.goto 4) 36 := ⟨3, by decide +kernel, rfl, rfl⟩
theorem F_230_45 : F 230 45 (.iconst 1) 46 := ⟨1, by decide +kernel, rfl, rfl⟩
theorem F_230_46 : F 230 46 (.goto 4) 49 := ⟨3, by decide +kernel, rfl, rfl⟩
theorem F_230_58 : F 230 58 (.iload_n 3) 59 := ⟨1, by decide +kernel, rfl, rfl⟩
theorem F_230_59 : F 230 59 (.ifCond .le 7) 62 := ⟨3, by decide +kernel, rfl, rfl⟩
theorem F_230_62 : F 230 62 (.iload_n 3) 63 := ⟨1, by decide +kernel, rfl, rfl⟩
theorem F_230_63 : F 230 63 (.goto 5) 66 := ⟨3, by decide +kernel, rfl, rfl⟩
theorem t_X6_guest {X : List Int32} {d : Nat} {s : m_St} {P : Option Value → m_St → Prop} {i w : Int}
    (l1 : inR i)
    (l2 : i < 0 → P (some (vI (-1))) s)
    (l3 : 0 ≤ i → inR ((s 83 0) - 1))
    (l4 : 0 ≤ i → ((s 83 0) - 1) < i → P (some (vI (-1))) s)
    (l5 : 0 ≤ i → i ≤ ((s 83 0) - 1) → inR w)
    (l6 : 0 ≤ i → i ≤ ((s 83 0) - 1) → w < 0 → P (some (vI (-1))) s)
    (l7 : 0 ≤ i → i ≤ ((s 83 0) - 1) → 0 ≤ w → 6 < w → P (some (vI (-1))) s)
    (l8 : 0 ≤ i → i ≤ ((s 83 0) - 1) → 0 ≤ w → w ≤ 6 → ¬ w = 5 → ¬ w = 6 → 0 ≤ ((8 + (5 * i)) + w))
    (l9 : 0 ≤ i → i ≤ ((s 83 0) - 1) → 0 ≤ w → w ≤ 6 → ¬ w = 5 → ¬ w = 6 → ((8 + (5 * i)) + w) < 198)
    (l10 : 0 ≤ i → i ≤ ((s 83 0) - 1) → 0 ≤ w → w ≤ 6 → ¬ w = 5 → ¬ w = 6 → P (some (vI 1)) (m_upd s 77 11 (s 83 ((8 + (5 * i)) + w))))
    (l11 : 0 ≤ i → i ≤ ((s 83 0) - 1) → 0 ≤ w → w ≤ 6 → ¬ w = 5 → w = 6 → inR (s 83 5))
    (l12 : 0 ≤ i → i ≤ ((s 83 0) - 1) → 0 ≤ w → w ≤ 6 → ¬ w = 5 → w = 6 → inR (i + 1))
    (l13 : 0 ≤ i → i ≤ ((s 83 0) - 1) → 0 ≤ w → w ≤ 6 → ¬ w = 5 → w = 6 → ¬ (s 83 5) = (i + 1) → inR (s 83 6))
    (l14 : 0 ≤ i → i ≤ ((s 83 0) - 1) → 0 ≤ w → w ≤ 6 → ¬ w = 5 → w = 6 → ¬ (s 83 5) = (i + 1) → ¬ (s 83 6) = (i + 1) → P (some (vI 1)) (m_upd s 77 11 0))
    (l15 : 0 ≤ i → i ≤ ((s 83 0) - 1) → 0 ≤ w → w ≤ 6 → ¬ w = 5 → w = 6 → ¬ (s 83 5) = (i + 1) → (s 83 6) = (i + 1) → P (some (vI 1)) (m_upd s 77 11 2))
    (l16 : 0 ≤ i → i ≤ ((s 83 0) - 1) → 0 ≤ w → w ≤ 6 → ¬ w = 5 → w = 6 → (s 83 5) = (i + 1) → P (some (vI 1)) (m_upd s 77 11 1))
    (l17 : 0 ≤ i → i ≤ ((s 83 0) - 1) → 0 ≤ w → w ≤ 6 → w = 5 → mok s)
    (l18 : 0 ≤ i → i ≤ ((s 83 0) - 1) → 0 ≤ w → w ≤ 6 → w = 5 → i < (s 83 0))
    (l19 : 0 ≤ i → i ≤ ((s 83 0) - 1) → 0 ≤ w → w ≤ 6 → w = 5 → P (some (vI 1)) (m_upd s 77 11 (hld (s 83) i)))
    : Cl X (d + 4) 183 [vR 77, vI i, vI w] s P := by
  refine Cl_of n_183 rfl ?_
  show Rn _ _ _ _ [some (vR 77), some (vI i), some (vI w)] [] _ _
  refine r_ldR_n (m := 0) F_183_0 rfl ?_
  refine r_ldI_n (m := 1) F_183_1 rfl ?_
  refine r_virt2 (A := [vI i]) (r := []) (n := 1) F_183_2 o_183 il_6_150 rfl rfl rfl rfl ty_77 vy_184 (lay_le n_184 rfl) ?_
  refine Cl_of n_184 rfl ?_
  show Rn _ _ _ _ [some (vR 77), some (vI i)] [] _ _
  refine r_ldI_n (m := 1) F_184_0 rfl ?_
  refine r_iconst F_184_1 ?_
  refine r_ldR_n (m := 0) F_184_2 rfl ?_
  refine r_getR (J := 5) F_184_3 o_184 fl_6_25 ty_77 (by decide) rfl (kd2 kd_77_5 (by decide)) (kd9 kd_77_5 (by decide)) rf_77_5 ?_
  refine r_iconst F_184_6 ?_
  refine r_iald (e := (s 83 0)) F_184_7 ty_83 (by decide) (lt_ln ln_83 (by decide)) rfl ?_
  refine r_iconst F_184_8 ?_
  refine r_isub F_184_9 rfl ?_
  refine r_stat2 (A := [vI i, vI 0, vI ((s 83 0) - 1)]) (r := []) (n := 3) F_184_10 o_184 il_6_67 (by decide) rfl rfl rfl rfl (lay_le n_160 rfl) ?_
  refine Cl_of n_160 rfl ?_
  show Rn _ _ _ _ [some (vI i), some (vI 0), some (vI ((s 83 0) - 1))] [] _ _
  refine r_ldI_n (m := 0) F_160_0 rfl ?_
  refine r_ldI_n (m := 1) F_160_1 rfl ?_
  refine r_icmp (t := 14) F_160_2 rfl l1 (by decide) ?_ ?_
  · intro e1
    replace e1 : i < 0 := e1
    refine r_iconst F_160_14 ?_
    refine r_zreturn F_160_15 rt_160 (Or.inl rfl) ?_
    show Rn _ _ _ _ _ [vI 0] _ _
    refine r_zreturn F_184_13 rt_184 (Or.inl rfl) ?_
    show Rn _ _ _ _ _ [vI 0] _ _
    refine r_ifT (t := 32) F_183_5 rfl (by decide) (by show (0 : Int) = 0; decide) ?_
    refine r_iconst F_183_32 ?_
    refine r_ireturn F_183_33 rt_183 ?_
    exact (l2 e1)
  · intro e2
    replace e2 : 0 ≤ i := (Int.not_lt.mp e2)
    refine r_ldI_n (m := 0) F_160_5 rfl ?_
    refine r_ldI_n (m := 2) F_160_6 rfl ?_
    refine r_icmp (t := 14) F_160_7 rfl l1 (l3 e2) ?_ ?_
    · intro e3
      replace e3 : ((s 83 0) - 1) < i := e3
      refine r_iconst F_160_14 ?_
      refine r_zreturn F_160_15 rt_160 (Or.inl rfl) ?_
      show Rn _ _ _ _ _ [vI 0] _ _
      refine r_zreturn F_184_13 rt_184 (Or.inl rfl) ?_
      show Rn _ _ _ _ _ [vI 0] _ _
      refine r_ifT (t := 32) F_183_5 rfl (by decide) (by show (0 : Int) = 0; decide) ?_
      refine r_iconst F_183_32 ?_
      refine r_ireturn F_183_33 rt_183 ?_
      exact (l4 e2 e3)
    · intro e4
      replace e4 : i ≤ ((s 83 0) - 1) := (Int.not_lt.mp e4)
      refine r_iconst F_160_10 ?_
      refine r_goto (t := 15) F_160_11 rfl ?_
      refine r_zreturn F_160_15 rt_160 (Or.inr rfl) ?_
      show Rn _ _ _ _ _ [vI 1] _ _
      refine r_zreturn F_184_13 rt_184 (Or.inr rfl) ?_
      show Rn _ _ _ _ _ [vI 1] _ _
      refine r_ifF (t := 32) F_183_5 rfl (by decide) (by show ¬ ((1 : Int) = 0); decide) ?_
      refine r_ldI_n (m := 2) F_183_8 rfl ?_
      refine r_iconst F_183_9 ?_
      refine r_bipush F_183_10 bi_6 ?_
      refine r_stat2 (A := [vI w, vI 0, vI 6]) (r := []) (n := 3) F_183_12 o_183 il_6_67 (by decide) rfl rfl rfl rfl (lay_le n_160 rfl) ?_
      refine Cl_of n_160 rfl ?_
      show Rn _ _ _ _ [some (vI w), some (vI 0), some (vI 6)] [] _ _
      refine r_ldI_n (m := 0) F_160_0 rfl ?_
      refine r_ldI_n (m := 1) F_160_1 rfl ?_
      refine r_icmp (t := 14) F_160_2 rfl (l5 e2 e4) (by decide) ?_ ?_
      · intro e5
        replace e5 : w < 0 := e5
        refine r_iconst F_160_14 ?_
        refine r_zreturn F_160_15 rt_160 (Or.inl rfl) ?_
        show Rn _ _ _ _ _ [vI 0] _ _
        refine r_ifT (t := 32) F_183_15 rfl (by decide) (by show (0 : Int) = 0; decide) ?_
        refine r_iconst F_183_32 ?_
        refine r_ireturn F_183_33 rt_183 ?_
        exact (l6 e2 e4 e5)
      · intro e6
        replace e6 : 0 ≤ w := (Int.not_lt.mp e6)
        refine r_ldI_n (m := 0) F_160_5 rfl ?_
        refine r_ldI_n (m := 2) F_160_6 rfl ?_
        refine r_icmp (t := 14) F_160_7 rfl (l5 e2 e4) (by decide) ?_ ?_
        · intro e7
          replace e7 : 6 < w := e7
          refine r_iconst F_160_14 ?_
          refine r_zreturn F_160_15 rt_160 (Or.inl rfl) ?_
          show Rn _ _ _ _ _ [vI 0] _ _
          refine r_ifT (t := 32) F_183_15 rfl (by decide) (by show (0 : Int) = 0; decide) ?_
          refine r_iconst F_183_32 ?_
          refine r_ireturn F_183_33 rt_183 ?_
          exact (l7 e2 e4 e6 e7)
        · intro e8
          replace e8 : w ≤ 6 := (Int.not_lt.mp e8)
          refine r_iconst F_160_10 ?_
          refine r_goto (t := 15) F_160_11 rfl ?_
          refine r_zreturn F_160_15 rt_160 (Or.inr rfl) ?_
          show Rn _ _ _ _ _ [vI 1] _ _
          refine r_ifF (t := 32) F_183_15 rfl (by decide) (by show ¬ ((1 : Int) = 0); decide) ?_
          refine r_ldR_n (m := 0) F_183_18 rfl ?_
          refine r_iconst F_183_19 ?_
          refine r_ldR_n (m := 0) F_183_20 rfl ?_
          refine r_ldI_n (m := 1) F_183_21 rfl ?_
          refine r_ldI_n (m := 2) F_183_22 rfl ?_
          refine r_virt2 (A := [vI i, vI w]) (r := [vI 1, vR 77]) (n := 2) F_183_23 o_183 il_6_153 rfl rfl rfl rfl ty_77 vy_185 (lay_le n_185 rfl) ?_
          refine Cl_of n_185 rfl ?_
          show Rn _ _ _ _ [some (vR 77), some (vI i), some (vI w)] [] _ _
          refine r_ldI_n (m := 2) F_185_0 rfl ?_
          refine r_iconst F_185_1 ?_
          refine r_icmp (t := 11) F_185_2 rfl (l5 e2 e4) (by decide) ?_ ?_
          · intro e9
            replace e9 : ¬ w = 5 := e9
            refine r_ldI_n (m := 2) F_185_11 rfl ?_
            refine r_bipush F_185_12 bi_6 ?_
            refine r_icmp (t := 52) F_185_14 rfl (l5 e2 e4) (by decide) ?_ ?_
            · intro e10
              replace e10 : ¬ w = 6 := e10
              refine r_ldR_n (m := 0) F_185_52 rfl ?_
              refine r_getR (J := 5) F_185_53 o_185 fl_6_25 ty_77 (by decide) rfl (kd2 kd_77_5 (by decide)) (kd9 kd_77_5 (by decide)) rf_77_5 ?_
              refine r_bipush F_185_56 bi_8 ?_
              refine r_iconst F_185_58 ?_
              refine r_ldI_n (m := 1) F_185_59 rfl ?_
              refine r_imul F_185_60 rfl ?_
              refine r_iadd F_185_61 rfl ?_
              refine r_ldI_n (m := 2) F_185_62 rfl ?_
              refine r_iadd F_185_63 rfl ?_
              refine r_iald (e := (s 83 ((8 + (5 * i)) + w))) F_185_64 ty_83 (l8 e2 e4 e6 e8 e9 e10) (lt_ln ln_83 (l9 e2 e4 e6 e8 e9 e10)) rfl ?_
              refine r_ireturn F_185_65 rt_185 ?_
              show Rn _ _ _ _ _ [vI (s 83 ((8 + (5 * i)) + w)), vI 1, vR 77] _ _
              refine r_virt2 (A := [vI 1, vI (s 83 ((8 + (5 * i)) + w))]) (r := []) (n := 2) F_183_26 o_183 il_6_87 rfl rfl rfl rfl ty_77 vy_165 (lay_le n_165 rfl) ?_
              refine Cl_of n_165 rfl ?_
              show Rn _ _ _ _ [some (vR 77), some (vI 1), some (vI (s 83 ((8 + (5 * i)) + w)))] [] _ _
              refine r_ldR_n (m := 0) F_165_0 rfl ?_
              refine r_ldI_n (m := 2) F_165_1 rfl ?_
              refine r_putI (J := 11) F_165_2 o_165 fl_6_61 ty_77 (by decide) rfl kd_77_11 pf_6_11 ?_
              refine r_ldI_n (m := 1) F_165_5 rfl ?_
              refine r_ireturn F_165_6 rt_165 ?_
              show Rn _ _ _ _ _ [vI 1] _ _
              refine r_goto (t := 33) F_183_29 rfl ?_
              refine r_ireturn F_183_33 rt_183 ?_
              exact (l10 e2 e4 e6 e8 e9 e10)
            · intro e11
              replace e11 : w = 6 := (Classical.not_not.mp e11)
              refine r_ldR_n (m := 0) F_185_17 rfl ?_
              refine r_getR (J := 5) F_185_18 o_185 fl_6_25 ty_77 (by decide) rfl (kd2 kd_77_5 (by decide)) (kd9 kd_77_5 (by decide)) rf_77_5 ?_
              refine r_iconst F_185_21 ?_
              refine r_iald (e := (s 83 5)) F_185_22 ty_83 (by decide) (lt_ln ln_83 (by decide)) rfl ?_
              refine r_ldI_n (m := 1) F_185_23 rfl ?_
              refine r_iconst F_185_24 ?_
              refine r_iadd F_185_25 rfl ?_
              refine r_icmp (t := 33) F_185_26 rfl (l11 e2 e4 e6 e8 e9 e11) (l12 e2 e4 e6 e8 e9 e11) ?_ ?_
              · intro e12
                replace e12 : ¬ (s 83 5) = (i + 1) := e12
                refine r_ldR_n (m := 0) F_185_33 rfl ?_
                refine r_getR (J := 5) F_185_34 o_185 fl_6_25 ty_77 (by decide) rfl (kd2 kd_77_5 (by decide)) (kd9 kd_77_5 (by decide)) rf_77_5 ?_
                refine r_bipush F_185_37 bi_6 ?_
                refine r_iald (e := (s 83 6)) F_185_39 ty_83 (by decide) (lt_ln ln_83 (by decide)) rfl ?_
                refine r_ldI_n (m := 1) F_185_40 rfl ?_
                refine r_iconst F_185_41 ?_
                refine r_iadd F_185_42 rfl ?_
                refine r_icmp (t := 50) F_185_43 rfl (l13 e2 e4 e6 e8 e9 e11 e12) (l12 e2 e4 e6 e8 e9 e11) ?_ ?_
                · intro e13
                  replace e13 : ¬ (s 83 6) = (i + 1) := e13
                  refine r_iconst F_185_50 ?_
                  refine r_ireturn F_185_51 rt_185 ?_
                  show Rn _ _ _ _ _ [vI 0, vI 1, vR 77] _ _
                  refine r_virt2 (A := [vI 1, vI 0]) (r := []) (n := 2) F_183_26 o_183 il_6_87 rfl rfl rfl rfl ty_77 vy_165 (lay_le n_165 rfl) ?_
                  refine Cl_of n_165 rfl ?_
                  show Rn _ _ _ _ [some (vR 77), some (vI 1), some (vI 0)] [] _ _
                  refine r_ldR_n (m := 0) F_165_0 rfl ?_
                  refine r_ldI_n (m := 2) F_165_1 rfl ?_
                  refine r_putI (J := 11) F_165_2 o_165 fl_6_61 ty_77 (by decide) rfl kd_77_11 pf_6_11 ?_
                  refine r_ldI_n (m := 1) F_165_5 rfl ?_
                  refine r_ireturn F_165_6 rt_165 ?_
                  show Rn _ _ _ _ _ [vI 1] _ _
                  refine r_goto (t := 33) F_183_29 rfl ?_
                  refine r_ireturn F_183_33 rt_183 ?_
                  exact (l14 e2 e4 e6 e8 e9 e11 e12 e13)
                · intro e14
                  replace e14 : (s 83 6) = (i + 1) := (Classical.not_not.mp e14)
                  refine r_iconst F_185_46 ?_
                  refine r_goto (t := 51) F_185_47 rfl ?_
                  refine r_ireturn F_185_51 rt_185 ?_
                  show Rn _ _ _ _ _ [vI 2, vI 1, vR 77] _ _
                  refine r_virt2 (A := [vI 1, vI 2]) (r := []) (n := 2) F_183_26 o_183 il_6_87 rfl rfl rfl rfl ty_77 vy_165 (lay_le n_165 rfl) ?_
                  refine Cl_of n_165 rfl ?_
                  show Rn _ _ _ _ [some (vR 77), some (vI 1), some (vI 2)] [] _ _
                  refine r_ldR_n (m := 0) F_165_0 rfl ?_
                  refine r_ldI_n (m := 2) F_165_1 rfl ?_
                  refine r_putI (J := 11) F_165_2 o_165 fl_6_61 ty_77 (by decide) rfl kd_77_11 pf_6_11 ?_
                  refine r_ldI_n (m := 1) F_165_5 rfl ?_
                  refine r_ireturn F_165_6 rt_165 ?_
                  show Rn _ _ _ _ _ [vI 1] _ _
                  refine r_goto (t := 33) F_183_29 rfl ?_
                  refine r_ireturn F_183_33 rt_183 ?_
                  exact (l15 e2 e4 e6 e8 e9 e11 e12 e14)
              · intro e15
                replace e15 : (s 83 5) = (i + 1) := (Classical.not_not.mp e15)
                refine r_iconst F_185_29 ?_
                refine r_goto (t := 51) F_185_30 rfl ?_
                refine r_ireturn F_185_51 rt_185 ?_
                show Rn _ _ _ _ _ [vI 1, vI 1, vR 77] _ _
                refine r_virt2 (A := [vI 1, vI 1]) (r := []) (n := 2) F_183_26 o_183 il_6_87 rfl rfl rfl rfl ty_77 vy_165 (lay_le n_165 rfl) ?_
                refine Cl_of n_165 rfl ?_
                show Rn _ _ _ _ [some (vR 77), some (vI 1), some (vI 1)] [] _ _
                refine r_ldR_n (m := 0) F_165_0 rfl ?_
                refine r_ldI_n (m := 2) F_165_1 rfl ?_
                refine r_putI (J := 11) F_165_2 o_165 fl_6_61 ty_77 (by decide) rfl kd_77_11 pf_6_11 ?_
                refine r_ldI_n (m := 1) F_165_5 rfl ?_
                refine r_ireturn F_165_6 rt_165 ?_
                show Rn _ _ _ _ _ [vI 1] _ _
                refine r_goto (t := 33) F_183_29 rfl ?_
                refine r_ireturn F_183_33 rt_183 ?_
                exact (l16 e2 e4 e6 e8 e9 e11 e15)
          · intro e16
            replace e16 : w = 5 := (Classical.not_not.mp e16)
            refine r_ldR_n (m := 0) F_185_5 rfl ?_
            refine r_ldI_n (m := 1) F_185_6 rfl ?_
            refine r_virt2 (A := [vI i]) (r := []) (n := 1) F_185_7 o_185 il_6_143 rfl rfl rfl rfl ty_77 vy_186 (lay_le n_186 rfl) ?_
            refine sp_holdsM (l17 e2 e4 e6 e8 e16) e2 (l18 e2 e4 e6 e8 e16) ?_
            show Rn _ _ _ _ _ [vI (hld (s 83) i)] _ _
            refine r_ireturn F_185_10 rt_185 ?_
            show Rn _ _ _ _ _ [vI (hld (s 83) i), vI 1, vR 77] _ _
            refine r_virt2 (A := [vI 1, vI (hld (s 83) i)]) (r := []) (n := 2) F_183_26 o_183 il_6_87 rfl rfl rfl rfl ty_77 vy_165 (lay_le n_165 rfl) ?_
            refine Cl_of n_165 rfl ?_
            show Rn _ _ _ _ [some (vR 77), some (vI 1), some (vI (hld (s 83) i))] [] _ _
            refine r_ldR_n (m := 0) F_165_0 rfl ?_
            refine r_ldI_n (m := 2) F_165_1 rfl ?_
            refine r_putI (J := 11) F_165_2 o_165 fl_6_61 ty_77 (by decide) rfl kd_77_11 pf_6_11 ?_
            refine r_ldI_n (m := 1) F_165_5 rfl ?_
            refine r_ireturn F_165_6 rt_165 ?_
            show Rn _ _ _ _ _ [vI 1] _ _
            refine r_goto (t := 33) F_183_29 rfl ?_
            refine r_ireturn F_183_33 rt_183 ?_
            exact (l19 e2 e4 e6 e8 e16)
theorem t_X6_moved {X : List Int32} {d : Nat} {s : m_St} {P : Option Value → m_St → Prop} {i c : Int}
    (l1 : inR i)
    (l2 : i < 0 → P (some (vI (-1))) s)
    (l3 : 0 ≤ i → inR ((s 83 0) - 1))
    (l4 : 0 ≤ i → ((s 83 0) - 1) < i → P (some (vI (-1))) s)
    (l5 : 0 ≤ i → i ≤ ((s 83 0) - 1) → inR c)
    (l6 : 0 ≤ i → i ≤ ((s 83 0) - 1) → c < 0 → P (some (vI (-1))) s)
    (l7 : 0 ≤ i → i ≤ ((s 83 0) - 1) → 0 ≤ c → 3 < c → P (some (vI (-1))) s)
    (l8 : 0 ≤ i → i ≤ ((s 83 0) - 1) → 0 ≤ c → c ≤ 3 → mok s)
    (l9 : 0 ≤ i → i ≤ ((s 83 0) - 1) → 0 ≤ c → c ≤ 3 → i < (s 83 0))
    (l10 : 0 ≤ i → i ≤ ((s 83 0) - 1) → 0 ≤ c → c ≤ 3 → c < 4)
    (l11 : 0 ≤ i → i ≤ ((s 83 0) - 1) → 0 ≤ c → c ≤ 3 → P (some (vI ((mv (s 83 (8 + 5 * i)) (hld (s 83) i) (s 38 5) c) + 10))) s)
    : Cl X (d + 4) 197 [vR 77, vI i, vI c] s P := by
  refine Cl_of n_197 rfl ?_
  show Rn _ _ _ _ [some (vR 77), some (vI i), some (vI c)] [] _ _
  refine r_ldR_n (m := 0) F_197_0 rfl ?_
  refine r_ldI_n (m := 1) F_197_1 rfl ?_
  refine r_virt2 (A := [vI i]) (r := []) (n := 1) F_197_2 o_197 il_6_150 rfl rfl rfl rfl ty_77 vy_184 (lay_le n_184 rfl) ?_
  refine Cl_of n_184 rfl ?_
  show Rn _ _ _ _ [some (vR 77), some (vI i)] [] _ _
  refine r_ldI_n (m := 1) F_184_0 rfl ?_
  refine r_iconst F_184_1 ?_
  refine r_ldR_n (m := 0) F_184_2 rfl ?_
  refine r_getR (J := 5) F_184_3 o_184 fl_6_25 ty_77 (by decide) rfl (kd2 kd_77_5 (by decide)) (kd9 kd_77_5 (by decide)) rf_77_5 ?_
  refine r_iconst F_184_6 ?_
  refine r_iald (e := (s 83 0)) F_184_7 ty_83 (by decide) (lt_ln ln_83 (by decide)) rfl ?_
  refine r_iconst F_184_8 ?_
  refine r_isub F_184_9 rfl ?_
  refine r_stat2 (A := [vI i, vI 0, vI ((s 83 0) - 1)]) (r := []) (n := 3) F_184_10 o_184 il_6_67 (by decide) rfl rfl rfl rfl (lay_le n_160 rfl) ?_
  refine Cl_of n_160 rfl ?_
  show Rn _ _ _ _ [some (vI i), some (vI 0), some (vI ((s 83 0) - 1))] [] _ _
  refine r_ldI_n (m := 0) F_160_0 rfl ?_
  refine r_ldI_n (m := 1) F_160_1 rfl ?_
  refine r_icmp (t := 14) F_160_2 rfl l1 (by decide) ?_ ?_
  · intro e1
    replace e1 : i < 0 := e1
    refine r_iconst F_160_14 ?_
    refine r_zreturn F_160_15 rt_160 (Or.inl rfl) ?_
    show Rn _ _ _ _ _ [vI 0] _ _
    refine r_zreturn F_184_13 rt_184 (Or.inl rfl) ?_
    show Rn _ _ _ _ _ [vI 0] _ _
    refine r_ifT (t := 27) F_197_5 rfl (by decide) (by show (0 : Int) = 0; decide) ?_
    refine r_iconst F_197_27 ?_
    refine r_ireturn F_197_28 rt_197 ?_
    exact (l2 e1)
  · intro e2
    replace e2 : 0 ≤ i := (Int.not_lt.mp e2)
    refine r_ldI_n (m := 0) F_160_5 rfl ?_
    refine r_ldI_n (m := 2) F_160_6 rfl ?_
    refine r_icmp (t := 14) F_160_7 rfl l1 (l3 e2) ?_ ?_
    · intro e3
      replace e3 : ((s 83 0) - 1) < i := e3
      refine r_iconst F_160_14 ?_
      refine r_zreturn F_160_15 rt_160 (Or.inl rfl) ?_
      show Rn _ _ _ _ _ [vI 0] _ _
      refine r_zreturn F_184_13 rt_184 (Or.inl rfl) ?_
      show Rn _ _ _ _ _ [vI 0] _ _
      refine r_ifT (t := 27) F_197_5 rfl (by decide) (by show (0 : Int) = 0; decide) ?_
      refine r_iconst F_197_27 ?_
      refine r_ireturn F_197_28 rt_197 ?_
      exact (l4 e2 e3)
    · intro e4
      replace e4 : i ≤ ((s 83 0) - 1) := (Int.not_lt.mp e4)
      refine r_iconst F_160_10 ?_
      refine r_goto (t := 15) F_160_11 rfl ?_
      refine r_zreturn F_160_15 rt_160 (Or.inr rfl) ?_
      show Rn _ _ _ _ _ [vI 1] _ _
      refine r_zreturn F_184_13 rt_184 (Or.inr rfl) ?_
      show Rn _ _ _ _ _ [vI 1] _ _
      refine r_ifF (t := 27) F_197_5 rfl (by decide) (by show ¬ ((1 : Int) = 0); decide) ?_
      refine r_ldI_n (m := 2) F_197_8 rfl ?_
      refine r_stat2 (A := [vI c]) (r := []) (n := 1) F_197_9 o_197 il_6_165 (by decide) rfl rfl rfl rfl (lay_le n_198 rfl) ?_
      refine Cl_of n_198 rfl ?_
      show Rn _ _ _ _ [some (vI c)] [] _ _
      refine r_ldI_n (m := 0) F_198_0 rfl ?_
      refine r_iconst F_198_1 ?_
      refine r_iconst F_198_2 ?_
      refine r_stat2 (A := [vI c, vI 0, vI 3]) (r := []) (n := 3) F_198_3 o_198 il_6_67 (by decide) rfl rfl rfl rfl (lay_le n_160 rfl) ?_
      refine Cl_of n_160 rfl ?_
      show Rn _ _ _ _ [some (vI c), some (vI 0), some (vI 3)] [] _ _
      refine r_ldI_n (m := 0) F_160_0 rfl ?_
      refine r_ldI_n (m := 1) F_160_1 rfl ?_
      refine r_icmp (t := 14) F_160_2 rfl (l5 e2 e4) (by decide) ?_ ?_
      · intro e5
        replace e5 : c < 0 := e5
        refine r_iconst F_160_14 ?_
        refine r_zreturn F_160_15 rt_160 (Or.inl rfl) ?_
        show Rn _ _ _ _ _ [vI 0] _ _
        refine r_zreturn F_198_6 rt_198 (Or.inl rfl) ?_
        show Rn _ _ _ _ _ [vI 0] _ _
        refine r_ifT (t := 27) F_197_12 rfl (by decide) (by show (0 : Int) = 0; decide) ?_
        refine r_iconst F_197_27 ?_
        refine r_ireturn F_197_28 rt_197 ?_
        exact (l6 e2 e4 e5)
      · intro e6
        replace e6 : 0 ≤ c := (Int.not_lt.mp e6)
        refine r_ldI_n (m := 0) F_160_5 rfl ?_
        refine r_ldI_n (m := 2) F_160_6 rfl ?_
        refine r_icmp (t := 14) F_160_7 rfl (l5 e2 e4) (by decide) ?_ ?_
        · intro e7
          replace e7 : 3 < c := e7
          refine r_iconst F_160_14 ?_
          refine r_zreturn F_160_15 rt_160 (Or.inl rfl) ?_
          show Rn _ _ _ _ _ [vI 0] _ _
          refine r_zreturn F_198_6 rt_198 (Or.inl rfl) ?_
          show Rn _ _ _ _ _ [vI 0] _ _
          refine r_ifT (t := 27) F_197_12 rfl (by decide) (by show (0 : Int) = 0; decide) ?_
          refine r_iconst F_197_27 ?_
          refine r_ireturn F_197_28 rt_197 ?_
          exact (l7 e2 e4 e6 e7)
        · intro e8
          replace e8 : c ≤ 3 := (Int.not_lt.mp e8)
          refine r_iconst F_160_10 ?_
          refine r_goto (t := 15) F_160_11 rfl ?_
          refine r_zreturn F_160_15 rt_160 (Or.inr rfl) ?_
          show Rn _ _ _ _ _ [vI 1] _ _
          refine r_zreturn F_198_6 rt_198 (Or.inr rfl) ?_
          show Rn _ _ _ _ _ [vI 1] _ _
          refine r_ifF (t := 27) F_197_12 rfl (by decide) (by show ¬ ((1 : Int) = 0); decide) ?_
          refine r_ldR_n (m := 0) F_197_15 rfl ?_
          refine r_ldI_n (m := 1) F_197_16 rfl ?_
          refine r_ldI_n (m := 2) F_197_17 rfl ?_
          refine r_virt2 (A := [vI i, vI c]) (r := []) (n := 2) F_197_18 o_197 il_6_159 rfl rfl rfl rfl ty_77 vy_192 (lay_le n_192 rfl) ?_
          refine sp_movedOf (l8 e2 e4 e6 e8) e2 (l9 e2 e4 e6 e8) e6 (l10 e2 e4 e6 e8) ?_
          show Rn _ _ _ _ _ [vI (mv (s 83 (8 + 5 * i)) (hld (s 83) i) (s 38 5) c)] _ _
          refine r_bipush F_197_21 bi_10 ?_
          refine r_iadd F_197_23 rfl ?_
          refine r_goto (t := 28) F_197_24 rfl ?_
          refine r_ireturn F_197_28 rt_197 ?_
          exact (l11 e2 e4 e6 e8)
theorem t_X6_both {X : List Int32} {d : Nat} {s : m_St} {P : Option Value → m_St → Prop}
    (l1 : inR (s 83 5))
    (l2 : (s 83 5) ≤ 0 → P (some (vI (-4))) s)
    (l3 : 0 < (s 83 5) → uok s)
    (l4 : 0 < (s 83 5) → P (some (vI (iAnd (hld (s 83) (s 83 (5 + 0) - 1)) (hld (s 83) (s 83 (5 + 1) - 1))))) (m_upd s 77 11 (iXor (hld (s 83) (s 83 (5 + 0) - 1)) (hld (s 83) (s 83 (5 + 1) - 1)))))
    : Cl X (d + 5) 215 [vR 77] s P := by
  refine Cl_of n_215 rfl ?_
  show Rn _ _ _ _ [some (vR 77)] [] _ _
  refine r_ldR_n (m := 0) F_215_0 rfl ?_
  refine r_virt2 (A := []) (r := []) (n := 0) F_215_1 o_215 il_6_182 rfl rfl rfl rfl ty_77 vy_204 (lay_le n_204 rfl) ?_
  refine Cl_of n_204 rfl ?_
  show Rn _ _ _ _ [some (vR 77)] [] _ _
  refine r_ldR_n (m := 0) F_204_0 rfl ?_
  refine r_getR (J := 5) F_204_1 o_204 fl_6_25 ty_77 (by decide) rfl (kd2 kd_77_5 (by decide)) (kd9 kd_77_5 (by decide)) rf_77_5 ?_
  refine r_iconst F_204_4 ?_
  refine r_iald (e := (s 83 5)) F_204_5 ty_83 (by decide) (lt_ln ln_83 (by decide)) rfl ?_
  refine r_if (t := 13) F_204_6 rfl l1 ?_ ?_
  · intro e1
    replace e1 : (s 83 5) ≤ 0 := e1
    refine r_iconst F_204_13 ?_
    refine r_zreturn F_204_14 rt_204 (Or.inl rfl) ?_
    show Rn _ _ _ _ _ [vI 0] _ _
    refine r_ifT (t := 29) F_215_4 rfl (by decide) (by show (0 : Int) = 0; decide) ?_
    refine r_bipush F_215_29 bi__4 ?_
    refine r_ireturn F_215_31 rt_215 ?_
    exact (l2 e1)
  · intro e2
    replace e2 : 0 < (s 83 5) := (Int.not_le.mp e2)
    refine r_iconst F_204_9 ?_
    refine r_goto (t := 14) F_204_10 rfl ?_
    refine r_zreturn F_204_14 rt_204 (Or.inr rfl) ?_
    show Rn _ _ _ _ _ [vI 1] _ _
    refine r_ifF (t := 29) F_215_4 rfl (by decide) (by show ¬ ((1 : Int) = 0); decide) ?_
    refine r_ldR_n (m := 0) F_215_7 rfl ?_
    refine r_ldR_n (m := 0) F_215_8 rfl ?_
    refine r_virt2 (A := []) (r := [vR 77]) (n := 0) F_215_9 o_215 il_6_175 rfl rfl rfl rfl ty_77 vy_201 (lay_le n_201 rfl) ?_
    refine Cl_of n_201 rfl ?_
    show Rn _ _ _ _ [some (vR 77)] [] _ _
    refine r_ldR_n (m := 0) F_201_0 rfl ?_
    refine r_iconst F_201_1 ?_
    refine r_virt2 (A := [vI 0]) (r := []) (n := 1) F_201_2 o_201 il_6_168 rfl rfl rfl rfl ty_77 vy_202 (lay_le n_202 rfl) ?_
    refine sp_upHolds (l3 e2) (by decide) (by decide) ?_
    show Rn _ _ _ _ _ [vI (hld (s 83) (s 83 (5 + 0) - 1))] _ _
    refine r_ldR_n (m := 0) F_201_5 rfl ?_
    refine r_iconst F_201_6 ?_
    refine r_virt2 (A := [vI 1]) (r := [vI (hld (s 83) (s 83 (5 + 0) - 1))]) (n := 1) F_201_7 o_201 il_6_168 rfl rfl rfl rfl ty_77 vy_202 (lay_le n_202 rfl) ?_
    refine sp_upHolds (l3 e2) (by decide) (by decide) ?_
    show Rn _ _ _ _ _ [vI (hld (s 83) (s 83 (5 + 1) - 1)), vI (hld (s 83) (s 83 (5 + 0) - 1))] _ _
    refine r_iand F_201_10 rfl ?_
    refine r_ireturn F_201_11 rt_201 ?_
    show Rn _ _ _ _ _ [vI (iAnd (hld (s 83) (s 83 (5 + 0) - 1)) (hld (s 83) (s 83 (5 + 1) - 1))), vR 77] _ _
    refine r_ldR_n (m := 0) F_215_12 rfl ?_
    refine r_iconst F_215_13 ?_
    refine r_virt2 (A := [vI 0]) (r := [vI (iAnd (hld (s 83) (s 83 (5 + 0) - 1)) (hld (s 83) (s 83 (5 + 1) - 1))), vR 77]) (n := 1) F_215_14 o_215 il_6_168 rfl rfl rfl rfl ty_77 vy_202 (lay_le n_202 rfl) ?_
    refine sp_upHolds (l3 e2) (by decide) (by decide) ?_
    show Rn _ _ _ _ _ [vI (hld (s 83) (s 83 (5 + 0) - 1)), vI (iAnd (hld (s 83) (s 83 (5 + 0) - 1)) (hld (s 83) (s 83 (5 + 1) - 1))), vR 77] _ _
    refine r_ldR_n (m := 0) F_215_17 rfl ?_
    refine r_iconst F_215_18 ?_
    refine r_virt2 (A := [vI 1]) (r := [vI (hld (s 83) (s 83 (5 + 0) - 1)), vI (iAnd (hld (s 83) (s 83 (5 + 0) - 1)) (hld (s 83) (s 83 (5 + 1) - 1))), vR 77]) (n := 1) F_215_19 o_215 il_6_168 rfl rfl rfl rfl ty_77 vy_202 (lay_le n_202 rfl) ?_
    refine sp_upHolds (l3 e2) (by decide) (by decide) ?_
    show Rn _ _ _ _ _ [vI (hld (s 83) (s 83 (5 + 1) - 1)), vI (hld (s 83) (s 83 (5 + 0) - 1)), vI (iAnd (hld (s 83) (s 83 (5 + 0) - 1)) (hld (s 83) (s 83 (5 + 1) - 1))), vR 77] _ _
    refine r_ixor F_215_22 rfl ?_
    refine r_virt2 (A := [vI (iAnd (hld (s 83) (s 83 (5 + 0) - 1)) (hld (s 83) (s 83 (5 + 1) - 1))), vI (iXor (hld (s 83) (s 83 (5 + 0) - 1)) (hld (s 83) (s 83 (5 + 1) - 1)))]) (r := []) (n := 2) F_215_23 o_215 il_6_87 rfl rfl rfl rfl ty_77 vy_165 (lay_le n_165 rfl) ?_
    refine Cl_of n_165 rfl ?_
    show Rn _ _ _ _ [some (vR 77), some (vI (iAnd (hld (s 83) (s 83 (5 + 0) - 1)) (hld (s 83) (s 83 (5 + 1) - 1)))), some (vI (iXor (hld (s 83) (s 83 (5 + 0) - 1)) (hld (s 83) (s 83 (5 + 1) - 1))))] [] _ _
    refine r_ldR_n (m := 0) F_165_0 rfl ?_
    refine r_ldI_n (m := 2) F_165_1 rfl ?_
    refine r_putI (J := 11) F_165_2 o_165 fl_6_61 ty_77 (by decide) rfl kd_77_11 pf_6_11 ?_
    refine r_ldI_n (m := 1) F_165_5 rfl ?_
    refine r_ireturn F_165_6 rt_165 ?_
    show Rn _ _ _ _ _ [vI (iAnd (hld (s 83) (s 83 (5 + 0) - 1)) (hld (s 83) (s 83 (5 + 1) - 1)))] _ _
    refine r_goto (t := 31) F_215_26 rfl ?_
    refine r_ireturn F_215_31 rt_215 ?_
    exact (l4 e2)
theorem t_X6_can {X : List Int32} {d : Nat} {s : m_St} {P : Option Value → m_St → Prop}
    (l1 : inR (s 83 5))
    (l2 : (s 83 5) ≤ 0 → P (some (vI (-4))) s)
    (l3 : 0 < (s 83 5) → uok s)
    (l4 : 0 < (s 83 5) → P (some (vI (iOr (hld (s 83) (s 83 (5 + 0) - 1)) (iShl (hld (s 83) (s 83 (5 + 1) - 1)) 4)))) s)
    : Cl X (d + 4) 216 [vR 77] s P := by
  refine Cl_of n_216 rfl ?_
  show Rn _ _ _ _ [some (vR 77)] [] _ _
  refine r_ldR_n (m := 0) F_216_0 rfl ?_
  refine r_virt2 (A := []) (r := []) (n := 0) F_216_1 o_216 il_6_182 rfl rfl rfl rfl ty_77 vy_204 (lay_le n_204 rfl) ?_
  refine Cl_of n_204 rfl ?_
  show Rn _ _ _ _ [some (vR 77)] [] _ _
  refine r_ldR_n (m := 0) F_204_0 rfl ?_
  refine r_getR (J := 5) F_204_1 o_204 fl_6_25 ty_77 (by decide) rfl (kd2 kd_77_5 (by decide)) (kd9 kd_77_5 (by decide)) rf_77_5 ?_
  refine r_iconst F_204_4 ?_
  refine r_iald (e := (s 83 5)) F_204_5 ty_83 (by decide) (lt_ln ln_83 (by decide)) rfl ?_
  refine r_if (t := 13) F_204_6 rfl l1 ?_ ?_
  · intro e1
    replace e1 : (s 83 5) ≤ 0 := e1
    refine r_iconst F_204_13 ?_
    refine r_zreturn F_204_14 rt_204 (Or.inl rfl) ?_
    show Rn _ _ _ _ _ [vI 0] _ _
    refine r_ifT (t := 23) F_216_4 rfl (by decide) (by show (0 : Int) = 0; decide) ?_
    refine r_bipush F_216_23 bi__4 ?_
    refine r_ireturn F_216_25 rt_216 ?_
    exact (l2 e1)
  · intro e2
    replace e2 : 0 < (s 83 5) := (Int.not_le.mp e2)
    refine r_iconst F_204_9 ?_
    refine r_goto (t := 14) F_204_10 rfl ?_
    refine r_zreturn F_204_14 rt_204 (Or.inr rfl) ?_
    show Rn _ _ _ _ _ [vI 1] _ _
    refine r_ifF (t := 23) F_216_4 rfl (by decide) (by show ¬ ((1 : Int) = 0); decide) ?_
    refine r_ldR_n (m := 0) F_216_7 rfl ?_
    refine r_iconst F_216_8 ?_
    refine r_virt2 (A := [vI 0]) (r := []) (n := 1) F_216_9 o_216 il_6_168 rfl rfl rfl rfl ty_77 vy_202 (lay_le n_202 rfl) ?_
    refine sp_upHolds (l3 e2) (by decide) (by decide) ?_
    show Rn _ _ _ _ _ [vI (hld (s 83) (s 83 (5 + 0) - 1))] _ _
    refine r_ldR_n (m := 0) F_216_12 rfl ?_
    refine r_iconst F_216_13 ?_
    refine r_virt2 (A := [vI 1]) (r := [vI (hld (s 83) (s 83 (5 + 0) - 1))]) (n := 1) F_216_14 o_216 il_6_168 rfl rfl rfl rfl ty_77 vy_202 (lay_le n_202 rfl) ?_
    refine sp_upHolds (l3 e2) (by decide) (by decide) ?_
    show Rn _ _ _ _ _ [vI (hld (s 83) (s 83 (5 + 1) - 1)), vI (hld (s 83) (s 83 (5 + 0) - 1))] _ _
    refine r_iconst F_216_17 ?_
    refine r_ishl F_216_18 rfl ?_
    refine r_ior F_216_19 rfl ?_
    refine r_goto (t := 25) F_216_20 rfl ?_
    refine r_ireturn F_216_25 rt_216 ?_
    exact (l4 e2)
theorem t_X6_mark {X : List Int32} {d : Nat} {s : m_St} {P : Option Value → m_St → Prop} {i k : Int}
    (l1 : inR i)
    (l2 : i < 0 → P (some (vI (-1))) s)
    (l3 : 0 ≤ i → inR ((s 83 0) - 1))
    (l4 : 0 ≤ i → ((s 83 0) - 1) < i → P (some (vI (-1))) s)
    (l5 : 0 ≤ i → i ≤ ((s 83 0) - 1) → inR k)
    (l6 : 0 ≤ i → i ≤ ((s 83 0) - 1) → k < 1 → P (some (vI (-1))) s)
    (l7 : 0 ≤ i → i ≤ ((s 83 0) - 1) → 1 ≤ k → 5 < k → P (some (vI (-1))) s)
    (l8 : 0 ≤ i → i ≤ ((s 83 0) - 1) → 1 ≤ k → k ≤ 5 → 0 ≤ (8 + (5 * i)))
    (l9 : 0 ≤ i → i ≤ ((s 83 0) - 1) → 1 ≤ k → k ≤ 5 → (8 + (5 * i)) < 198)
    (l10 : 0 ≤ i → i ≤ ((s 83 0) - 1) → 1 ≤ k → k ≤ 5 → inR (s 83 (8 + (5 * i))))
    (l11 : 0 ≤ i → i ≤ ((s 83 0) - 1) → 1 ≤ k → k ≤ 5 → (s 83 (8 + (5 * i))) = k → Rn X (d + 4) 190 42 [some (vR 77), some (vI i), some (vI k), some (vI 0), some (vI 0), none, none] [] s P)
    (l12 : 0 ≤ i → i ≤ ((s 83 0) - 1) → 1 ≤ k → k ≤ 5 → ¬ (s 83 (8 + (5 * i))) = k → ¬ (s 83 (8 + (5 * i))) = 4 → ¬ (s 83 (8 + (5 * i))) = 5 → P (some (vI (-3))) (m_upd (m_upd s 77 10 3) 87 3 ((s 87 3) + 1)))
    (l13 : 0 ≤ i → i ≤ ((s 83 0) - 1) → 1 ≤ k → k ≤ 5 → ¬ (s 83 (8 + (5 * i))) = k → ¬ (s 83 (8 + (5 * i))) = 4 → (s 83 (8 + (5 * i))) = 5 → ¬ k = 2 → P (some (vI (-3))) (m_upd (m_upd s 77 10 3) 87 3 ((s 87 3) + 1)))
    (l14 : 0 ≤ i → i ≤ ((s 83 0) - 1) → 1 ≤ k → k ≤ 5 → ¬ (s 83 (8 + (5 * i))) = k → ¬ (s 83 (8 + (5 * i))) = 4 → (s 83 (8 + (5 * i))) = 5 → k = 2 → Rn X (d + 4) 190 42 [some (vR 77), some (vI i), some (vI k), some (vI 0), some (vI 0), none, none] [] s P)
    (l15 : 0 ≤ i → i ≤ ((s 83 0) - 1) → 1 ≤ k → k ≤ 5 → ¬ (s 83 (8 + (5 * i))) = k → (s 83 (8 + (5 * i))) = 4 → k = 1 → Rn X (d + 4) 190 42 [some (vR 77), some (vI i), some (vI k), some (vI 0), some (vI 0), none, none] [] s P)
    (l16 : 0 ≤ i → i ≤ ((s 83 0) - 1) → 1 ≤ k → k ≤ 5 → ¬ (s 83 (8 + (5 * i))) = k → (s 83 (8 + (5 * i))) = 4 → ¬ k = 1 → ¬ (s 83 (8 + (5 * i))) = 5 → P (some (vI (-3))) (m_upd (m_upd s 77 10 3) 87 3 ((s 87 3) + 1)))
    (l17 : 0 ≤ i → i ≤ ((s 83 0) - 1) → 1 ≤ k → k ≤ 5 → ¬ (s 83 (8 + (5 * i))) = k → (s 83 (8 + (5 * i))) = 4 → ¬ k = 1 → (s 83 (8 + (5 * i))) = 5 → ¬ k = 2 → P (some (vI (-3))) (m_upd (m_upd s 77 10 3) 87 3 ((s 87 3) + 1)))
    (l18 : 0 ≤ i → i ≤ ((s 83 0) - 1) → 1 ≤ k → k ≤ 5 → ¬ (s 83 (8 + (5 * i))) = k → (s 83 (8 + (5 * i))) = 4 → ¬ k = 1 → (s 83 (8 + (5 * i))) = 5 → k = 2 → Rn X (d + 4) 190 42 [some (vR 77), some (vI i), some (vI k), some (vI 0), some (vI 0), none, none] [] s P)
    : Cl X (d + 4) 190 [vR 77, vI i, vI k] s P := by
  refine Cl_of n_190 rfl ?_
  show Rn _ _ _ _ [some (vR 77), some (vI i), some (vI k), none, none, none, none] [] _ _
  refine r_ldR_n (m := 0) F_190_0 rfl ?_
  refine r_ldI_n (m := 1) F_190_1 rfl ?_
  refine r_virt2 (A := [vI i]) (r := []) (n := 1) F_190_2 o_190 il_6_150 rfl rfl rfl rfl ty_77 vy_184 (lay_le n_184 rfl) ?_
  refine Cl_of n_184 rfl ?_
  show Rn _ _ _ _ [some (vR 77), some (vI i)] [] _ _
  refine r_ldI_n (m := 1) F_184_0 rfl ?_
  refine r_iconst F_184_1 ?_
  refine r_ldR_n (m := 0) F_184_2 rfl ?_
  refine r_getR (J := 5) F_184_3 o_184 fl_6_25 ty_77 (by decide) rfl (kd2 kd_77_5 (by decide)) (kd9 kd_77_5 (by decide)) rf_77_5 ?_
  refine r_iconst F_184_6 ?_
  refine r_iald (e := (s 83 0)) F_184_7 ty_83 (by decide) (lt_ln ln_83 (by decide)) rfl ?_
  refine r_iconst F_184_8 ?_
  refine r_isub F_184_9 rfl ?_
  refine r_stat2 (A := [vI i, vI 0, vI ((s 83 0) - 1)]) (r := []) (n := 3) F_184_10 o_184 il_6_67 (by decide) rfl rfl rfl rfl (lay_le n_160 rfl) ?_
  refine Cl_of n_160 rfl ?_
  show Rn _ _ _ _ [some (vI i), some (vI 0), some (vI ((s 83 0) - 1))] [] _ _
  refine r_ldI_n (m := 0) F_160_0 rfl ?_
  refine r_ldI_n (m := 1) F_160_1 rfl ?_
  refine r_icmp (t := 14) F_160_2 rfl l1 (by decide) ?_ ?_
  · intro e1
    replace e1 : i < 0 := e1
    refine r_iconst F_160_14 ?_
    refine r_zreturn F_160_15 rt_160 (Or.inl rfl) ?_
    show Rn _ _ _ _ _ [vI 0] _ _
    refine r_zreturn F_184_13 rt_184 (Or.inl rfl) ?_
    show Rn _ _ _ _ _ [vI 0] _ _
    refine r_ifT (t := 17) F_190_5 rfl (by decide) (by show (0 : Int) = 0; decide) ?_
    refine r_iconst F_190_17 ?_
    refine r_ireturn F_190_18 rt_190 ?_
    exact (l2 e1)
  · intro e2
    replace e2 : 0 ≤ i := (Int.not_lt.mp e2)
    refine r_ldI_n (m := 0) F_160_5 rfl ?_
    refine r_ldI_n (m := 2) F_160_6 rfl ?_
    refine r_icmp (t := 14) F_160_7 rfl l1 (l3 e2) ?_ ?_
    · intro e3
      replace e3 : ((s 83 0) - 1) < i := e3
      refine r_iconst F_160_14 ?_
      refine r_zreturn F_160_15 rt_160 (Or.inl rfl) ?_
      show Rn _ _ _ _ _ [vI 0] _ _
      refine r_zreturn F_184_13 rt_184 (Or.inl rfl) ?_
      show Rn _ _ _ _ _ [vI 0] _ _
      refine r_ifT (t := 17) F_190_5 rfl (by decide) (by show (0 : Int) = 0; decide) ?_
      refine r_iconst F_190_17 ?_
      refine r_ireturn F_190_18 rt_190 ?_
      exact (l4 e2 e3)
    · intro e4
      replace e4 : i ≤ ((s 83 0) - 1) := (Int.not_lt.mp e4)
      refine r_iconst F_160_10 ?_
      refine r_goto (t := 15) F_160_11 rfl ?_
      refine r_zreturn F_160_15 rt_160 (Or.inr rfl) ?_
      show Rn _ _ _ _ _ [vI 1] _ _
      refine r_zreturn F_184_13 rt_184 (Or.inr rfl) ?_
      show Rn _ _ _ _ _ [vI 1] _ _
      refine r_ifF (t := 17) F_190_5 rfl (by decide) (by show ¬ ((1 : Int) = 0); decide) ?_
      refine r_ldI_n (m := 2) F_190_8 rfl ?_
      refine r_iconst F_190_9 ?_
      refine r_iconst F_190_10 ?_
      refine r_stat2 (A := [vI k, vI 1, vI 5]) (r := []) (n := 3) F_190_11 o_190 il_6_67 (by decide) rfl rfl rfl rfl (lay_le n_160 rfl) ?_
      refine Cl_of n_160 rfl ?_
      show Rn _ _ _ _ [some (vI k), some (vI 1), some (vI 5)] [] _ _
      refine r_ldI_n (m := 0) F_160_0 rfl ?_
      refine r_ldI_n (m := 1) F_160_1 rfl ?_
      refine r_icmp (t := 14) F_160_2 rfl (l5 e2 e4) (by decide) ?_ ?_
      · intro e5
        replace e5 : k < 1 := e5
        refine r_iconst F_160_14 ?_
        refine r_zreturn F_160_15 rt_160 (Or.inl rfl) ?_
        show Rn _ _ _ _ _ [vI 0] _ _
        refine r_ifF (t := 19) F_190_14 rfl (by decide) (by show ¬ (¬ (0 : Int) = 0); decide) ?_
        refine r_iconst F_190_17 ?_
        refine r_ireturn F_190_18 rt_190 ?_
        exact (l6 e2 e4 e5)
      · intro e6
        replace e6 : 1 ≤ k := (Int.not_lt.mp e6)
        refine r_ldI_n (m := 0) F_160_5 rfl ?_
        refine r_ldI_n (m := 2) F_160_6 rfl ?_
        refine r_icmp (t := 14) F_160_7 rfl (l5 e2 e4) (by decide) ?_ ?_
        · intro e7
          replace e7 : 5 < k := e7
          refine r_iconst F_160_14 ?_
          refine r_zreturn F_160_15 rt_160 (Or.inl rfl) ?_
          show Rn _ _ _ _ _ [vI 0] _ _
          refine r_ifF (t := 19) F_190_14 rfl (by decide) (by show ¬ (¬ (0 : Int) = 0); decide) ?_
          refine r_iconst F_190_17 ?_
          refine r_ireturn F_190_18 rt_190 ?_
          exact (l7 e2 e4 e6 e7)
        · intro e8
          replace e8 : k ≤ 5 := (Int.not_lt.mp e8)
          refine r_iconst F_160_10 ?_
          refine r_goto (t := 15) F_160_11 rfl ?_
          refine r_zreturn F_160_15 rt_160 (Or.inr rfl) ?_
          show Rn _ _ _ _ _ [vI 1] _ _
          refine r_ifT (t := 19) F_190_14 rfl (by decide) (by show ¬ (1 : Int) = 0; decide) ?_
          refine r_ldR_n (m := 0) F_190_19 rfl ?_
          refine r_ldI_n (m := 1) F_190_20 rfl ?_
          refine r_virt2 (A := [vI i]) (r := []) (n := 1) F_190_21 o_190 il_6_136 rfl rfl rfl rfl ty_77 vy_187 (lay_le n_187 rfl) ?_
          refine Cl_of n_187 rfl ?_
          show Rn _ _ _ _ [some (vR 77), some (vI i)] [] _ _
          refine r_ldR_n (m := 0) F_187_0 rfl ?_
          refine r_getR (J := 5) F_187_1 o_187 fl_6_25 ty_77 (by decide) rfl (kd2 kd_77_5 (by decide)) (kd9 kd_77_5 (by decide)) rf_77_5 ?_
          refine r_bipush F_187_4 bi_8 ?_
          refine r_iconst F_187_6 ?_
          refine r_ldI_n (m := 1) F_187_7 rfl ?_
          refine r_imul F_187_8 rfl ?_
          refine r_iadd F_187_9 rfl ?_
          refine r_iald (e := (s 83 (8 + (5 * i)))) F_187_10 ty_83 (l8 e2 e4 e6 e8) (lt_ln ln_83 (l9 e2 e4 e6 e8)) rfl ?_
          refine r_ireturn F_187_11 rt_187 ?_
          show Rn _ _ _ _ _ [vI (s 83 (8 + (5 * i)))] _ _
          refine r_ldI_n (m := 2) F_190_24 rfl ?_
          refine r_stat2 (A := [vI (s 83 (8 + (5 * i))), vI k]) (r := []) (n := 2) F_190_25 o_190 il_6_156 (by decide) rfl rfl rfl rfl (lay_le n_191 rfl) ?_
          refine Cl_of n_191 rfl ?_
          show Rn _ _ _ _ [some (vI (s 83 (8 + (5 * i)))), some (vI k)] [] _ _
          refine r_ldI_n (m := 0) F_191_0 rfl ?_
          refine r_ldI_n (m := 1) F_191_1 rfl ?_
          refine r_icmp (t := 25) F_191_2 rfl (l10 e2 e4 e6 e8) (l5 e2 e4) ?_ ?_
          · intro e9
            replace e9 : (s 83 (8 + (5 * i))) = k := e9
            refine r_iconst F_191_25 ?_
            refine r_goto (t := 30) F_191_26 rfl ?_
            refine r_zreturn F_191_30 rt_191 (Or.inr rfl) ?_
            show Rn _ _ _ _ _ [vI 1] _ _
            refine r_ifT (t := 37) F_190_28 rfl (by decide) (by show ¬ (1 : Int) = 0; decide) ?_
            refine r_iconst F_190_37 ?_
            refine r_stI_n (m := 3) (L' := [some (vR 77), some (vI i), some (vI k), some (vI 0), none, none, none]) F_190_38 rfl rfl ?_
            refine r_iconst F_190_39 ?_
            refine r_stI (m := 4) (L' := [some (vR 77), some (vI i), some (vI k), some (vI 0), some (vI 0), none, none]) F_190_40 rfl rfl ?_
            exact (l11 e2 e4 e6 e8 e9)
          · intro e10
            replace e10 : ¬ (s 83 (8 + (5 * i))) = k := e10
            refine r_ldI_n (m := 0) F_191_5 rfl ?_
            refine r_iconst F_191_6 ?_
            refine r_icmp (t := 15) F_191_7 rfl (l10 e2 e4 e6 e8) (by decide) ?_ ?_
            · intro e11
              replace e11 : ¬ (s 83 (8 + (5 * i))) = 4 := e11
              refine r_ldI_n (m := 0) F_191_15 rfl ?_
              refine r_iconst F_191_16 ?_
              refine r_icmp (t := 29) F_191_17 rfl (l10 e2 e4 e6 e8) (by decide) ?_ ?_
              · intro e12
                replace e12 : ¬ (s 83 (8 + (5 * i))) = 5 := e12
                refine r_iconst F_191_29 ?_
                refine r_zreturn F_191_30 rt_191 (Or.inl rfl) ?_
                show Rn _ _ _ _ _ [vI 0] _ _
                refine r_ifF (t := 37) F_190_28 rfl (by decide) (by show ¬ (¬ (0 : Int) = 0); decide) ?_
                refine r_ldR_n (m := 0) F_190_31 rfl ?_
                refine r_iconst F_190_32 ?_
                refine r_virt2 (A := [vI 3]) (r := []) (n := 1) F_190_33 o_190 il_6_75 rfl rfl rfl rfl ty_77 vy_161 (lay_le n_161 rfl) ?_
                refine Cl_of n_161 rfl ?_
                show Rn _ _ _ _ [some (vR 77), some (vI 3)] [] _ _
                refine r_ldR_n (m := 0) F_161_0 rfl ?_
                refine r_ldI_n (m := 1) F_161_1 rfl ?_
                refine r_putI (J := 10) F_161_2 o_161 fl_6_57 ty_77 (by decide) rfl kd_77_10 pf_6_10 ?_
                refine r_ldR_n (m := 0) F_161_5 rfl ?_
                refine r_getR (J := 9) F_161_6 o_161 fl_6_38 ty_77 (by decide) rfl (kd2 kd_77_9 (by decide)) (kd9 kd_77_9 (by decide)) rf_77_9 ?_
                refine r_ldI_n (m := 1) F_161_9 rfl ?_
                refine r_dup2 F_161_10 ?_
                refine r_iald (e := (s 87 3)) F_161_11 ty_87 (by decide) (lt_ln ln_87 (by decide)) (upd_nc (by decide)) ?_
                refine r_iconst F_161_12 ?_
                refine r_iadd F_161_13 rfl ?_
                refine r_iast F_161_14 ty_87 (by decide) (lt_ln ln_87 (by decide)) ?_
                refine r_bipush F_161_15 bi__3 ?_
                refine r_ireturn F_161_17 rt_161 ?_
                show Rn _ _ _ _ _ [vI (-3)] _ _
                refine r_ireturn F_190_36 rt_190 ?_
                exact (l12 e2 e4 e6 e8 e10 e11 e12)
              · intro e13
                replace e13 : (s 83 (8 + (5 * i))) = 5 := (Classical.not_not.mp e13)
                refine r_ldI_n (m := 1) F_191_20 rfl ?_
                refine r_iconst F_191_21 ?_
                refine r_icmp (t := 29) F_191_22 rfl (l5 e2 e4) (by decide) ?_ ?_
                · intro e14
                  replace e14 : ¬ k = 2 := e14
                  refine r_iconst F_191_29 ?_
                  refine r_zreturn F_191_30 rt_191 (Or.inl rfl) ?_
                  show Rn _ _ _ _ _ [vI 0] _ _
                  refine r_ifF (t := 37) F_190_28 rfl (by decide) (by show ¬ (¬ (0 : Int) = 0); decide) ?_
                  refine r_ldR_n (m := 0) F_190_31 rfl ?_
                  refine r_iconst F_190_32 ?_
                  refine r_virt2 (A := [vI 3]) (r := []) (n := 1) F_190_33 o_190 il_6_75 rfl rfl rfl rfl ty_77 vy_161 (lay_le n_161 rfl) ?_
                  refine Cl_of n_161 rfl ?_
                  show Rn _ _ _ _ [some (vR 77), some (vI 3)] [] _ _
                  refine r_ldR_n (m := 0) F_161_0 rfl ?_
                  refine r_ldI_n (m := 1) F_161_1 rfl ?_
                  refine r_putI (J := 10) F_161_2 o_161 fl_6_57 ty_77 (by decide) rfl kd_77_10 pf_6_10 ?_
                  refine r_ldR_n (m := 0) F_161_5 rfl ?_
                  refine r_getR (J := 9) F_161_6 o_161 fl_6_38 ty_77 (by decide) rfl (kd2 kd_77_9 (by decide)) (kd9 kd_77_9 (by decide)) rf_77_9 ?_
                  refine r_ldI_n (m := 1) F_161_9 rfl ?_
                  refine r_dup2 F_161_10 ?_
                  refine r_iald (e := (s 87 3)) F_161_11 ty_87 (by decide) (lt_ln ln_87 (by decide)) (upd_nc (by decide)) ?_
                  refine r_iconst F_161_12 ?_
                  refine r_iadd F_161_13 rfl ?_
                  refine r_iast F_161_14 ty_87 (by decide) (lt_ln ln_87 (by decide)) ?_
                  refine r_bipush F_161_15 bi__3 ?_
                  refine r_ireturn F_161_17 rt_161 ?_
                  show Rn _ _ _ _ _ [vI (-3)] _ _
                  refine r_ireturn F_190_36 rt_190 ?_
                  exact (l13 e2 e4 e6 e8 e10 e11 e13 e14)
                · intro e15
                  replace e15 : k = 2 := (Classical.not_not.mp e15)
                  refine r_iconst F_191_25 ?_
                  refine r_goto (t := 30) F_191_26 rfl ?_
                  refine r_zreturn F_191_30 rt_191 (Or.inr rfl) ?_
                  show Rn _ _ _ _ _ [vI 1] _ _
                  refine r_ifT (t := 37) F_190_28 rfl (by decide) (by show ¬ (1 : Int) = 0; decide) ?_
                  refine r_iconst F_190_37 ?_
                  refine r_stI_n (m := 3) (L' := [some (vR 77), some (vI i), some (vI k), some (vI 0), none, none, none]) F_190_38 rfl rfl ?_
                  refine r_iconst F_190_39 ?_
                  refine r_stI (m := 4) (L' := [some (vR 77), some (vI i), some (vI k), some (vI 0), some (vI 0), none, none]) F_190_40 rfl rfl ?_
                  exact (l14 e2 e4 e6 e8 e10 e11 e13 e15)
            · intro e16
              replace e16 : (s 83 (8 + (5 * i))) = 4 := (Classical.not_not.mp e16)
              refine r_ldI_n (m := 1) F_191_10 rfl ?_
              refine r_iconst F_191_11 ?_
              refine r_icmp (t := 25) F_191_12 rfl (l5 e2 e4) (by decide) ?_ ?_
              · intro e17
                replace e17 : k = 1 := e17
                refine r_iconst F_191_25 ?_
                refine r_goto (t := 30) F_191_26 rfl ?_
                refine r_zreturn F_191_30 rt_191 (Or.inr rfl) ?_
                show Rn _ _ _ _ _ [vI 1] _ _
                refine r_ifT (t := 37) F_190_28 rfl (by decide) (by show ¬ (1 : Int) = 0; decide) ?_
                refine r_iconst F_190_37 ?_
                refine r_stI_n (m := 3) (L' := [some (vR 77), some (vI i), some (vI k), some (vI 0), none, none, none]) F_190_38 rfl rfl ?_
                refine r_iconst F_190_39 ?_
                refine r_stI (m := 4) (L' := [some (vR 77), some (vI i), some (vI k), some (vI 0), some (vI 0), none, none]) F_190_40 rfl rfl ?_
                exact (l15 e2 e4 e6 e8 e10 e16 e17)
              · intro e18
                replace e18 : ¬ k = 1 := e18
                refine r_ldI_n (m := 0) F_191_15 rfl ?_
                refine r_iconst F_191_16 ?_
                refine r_icmp (t := 29) F_191_17 rfl (l10 e2 e4 e6 e8) (by decide) ?_ ?_
                · intro e19
                  replace e19 : ¬ (s 83 (8 + (5 * i))) = 5 := e19
                  refine r_iconst F_191_29 ?_
                  refine r_zreturn F_191_30 rt_191 (Or.inl rfl) ?_
                  show Rn _ _ _ _ _ [vI 0] _ _
                  refine r_ifF (t := 37) F_190_28 rfl (by decide) (by show ¬ (¬ (0 : Int) = 0); decide) ?_
                  refine r_ldR_n (m := 0) F_190_31 rfl ?_
                  refine r_iconst F_190_32 ?_
                  refine r_virt2 (A := [vI 3]) (r := []) (n := 1) F_190_33 o_190 il_6_75 rfl rfl rfl rfl ty_77 vy_161 (lay_le n_161 rfl) ?_
                  refine Cl_of n_161 rfl ?_
                  show Rn _ _ _ _ [some (vR 77), some (vI 3)] [] _ _
                  refine r_ldR_n (m := 0) F_161_0 rfl ?_
                  refine r_ldI_n (m := 1) F_161_1 rfl ?_
                  refine r_putI (J := 10) F_161_2 o_161 fl_6_57 ty_77 (by decide) rfl kd_77_10 pf_6_10 ?_
                  refine r_ldR_n (m := 0) F_161_5 rfl ?_
                  refine r_getR (J := 9) F_161_6 o_161 fl_6_38 ty_77 (by decide) rfl (kd2 kd_77_9 (by decide)) (kd9 kd_77_9 (by decide)) rf_77_9 ?_
                  refine r_ldI_n (m := 1) F_161_9 rfl ?_
                  refine r_dup2 F_161_10 ?_
                  refine r_iald (e := (s 87 3)) F_161_11 ty_87 (by decide) (lt_ln ln_87 (by decide)) (upd_nc (by decide)) ?_
                  refine r_iconst F_161_12 ?_
                  refine r_iadd F_161_13 rfl ?_
                  refine r_iast F_161_14 ty_87 (by decide) (lt_ln ln_87 (by decide)) ?_
                  refine r_bipush F_161_15 bi__3 ?_
                  refine r_ireturn F_161_17 rt_161 ?_
                  show Rn _ _ _ _ _ [vI (-3)] _ _
                  refine r_ireturn F_190_36 rt_190 ?_
                  exact (l16 e2 e4 e6 e8 e10 e16 e18 e19)
                · intro e20
                  replace e20 : (s 83 (8 + (5 * i))) = 5 := (Classical.not_not.mp e20)
                  refine r_ldI_n (m := 1) F_191_20 rfl ?_
                  refine r_iconst F_191_21 ?_
                  refine r_icmp (t := 29) F_191_22 rfl (l5 e2 e4) (by decide) ?_ ?_
                  · intro e21
                    replace e21 : ¬ k = 2 := e21
                    refine r_iconst F_191_29 ?_
                    refine r_zreturn F_191_30 rt_191 (Or.inl rfl) ?_
                    show Rn _ _ _ _ _ [vI 0] _ _
                    refine r_ifF (t := 37) F_190_28 rfl (by decide) (by show ¬ (¬ (0 : Int) = 0); decide) ?_
                    refine r_ldR_n (m := 0) F_190_31 rfl ?_
                    refine r_iconst F_190_32 ?_
                    refine r_virt2 (A := [vI 3]) (r := []) (n := 1) F_190_33 o_190 il_6_75 rfl rfl rfl rfl ty_77 vy_161 (lay_le n_161 rfl) ?_
                    refine Cl_of n_161 rfl ?_
                    show Rn _ _ _ _ [some (vR 77), some (vI 3)] [] _ _
                    refine r_ldR_n (m := 0) F_161_0 rfl ?_
                    refine r_ldI_n (m := 1) F_161_1 rfl ?_
                    refine r_putI (J := 10) F_161_2 o_161 fl_6_57 ty_77 (by decide) rfl kd_77_10 pf_6_10 ?_
                    refine r_ldR_n (m := 0) F_161_5 rfl ?_
                    refine r_getR (J := 9) F_161_6 o_161 fl_6_38 ty_77 (by decide) rfl (kd2 kd_77_9 (by decide)) (kd9 kd_77_9 (by decide)) rf_77_9 ?_
                    refine r_ldI_n (m := 1) F_161_9 rfl ?_
                    refine r_dup2 F_161_10 ?_
                    refine r_iald (e := (s 87 3)) F_161_11 ty_87 (by decide) (lt_ln ln_87 (by decide)) (upd_nc (by decide)) ?_
                    refine r_iconst F_161_12 ?_
                    refine r_iadd F_161_13 rfl ?_
                    refine r_iast F_161_14 ty_87 (by decide) (lt_ln ln_87 (by decide)) ?_
                    refine r_bipush F_161_15 bi__3 ?_
                    refine r_ireturn F_161_17 rt_161 ?_
                    show Rn _ _ _ _ _ [vI (-3)] _ _
                    refine r_ireturn F_190_36 rt_190 ?_
                    exact (l17 e2 e4 e6 e8 e10 e16 e18 e20 e21)
                  · intro e22
                    replace e22 : k = 2 := (Classical.not_not.mp e22)
                    refine r_iconst F_191_25 ?_
                    refine r_goto (t := 30) F_191_26 rfl ?_
                    refine r_zreturn F_191_30 rt_191 (Or.inr rfl) ?_
                    show Rn _ _ _ _ _ [vI 1] _ _
                    refine r_ifT (t := 37) F_190_28 rfl (by decide) (by show ¬ (1 : Int) = 0; decide) ?_
                    refine r_iconst F_190_37 ?_
                    refine r_stI_n (m := 3) (L' := [some (vR 77), some (vI i), some (vI k), some (vI 0), none, none, none]) F_190_38 rfl rfl ?_
                    refine r_iconst F_190_39 ?_
                    refine r_stI (m := 4) (L' := [some (vR 77), some (vI i), some (vI k), some (vI 0), some (vI 0), none, none]) F_190_40 rfl rfl ?_
                    exact (l18 e2 e4 e6 e8 e10 e16 e18 e20 e22)
theorem t_X6_mark_42 {X : List Int32} {d : Nat} {s : m_St} {P : Option Value → m_St → Prop} {i k n c : Int} {z5 z6 : Option Value} (i0 : 0 ≤ i) (i6 : i < 6) (c0 : 0 ≤ c)
    (l1 : inR c)
    (l2 : 4 ≤ c → P (some (vI n)) s)
    (l3 : c < 4 → mok s)
    (l4 : c < 4 → i < (s 83 0))
    (l5 : c < 4 → 0 ≤ (((8 + (5 * i)) + 1) + c))
    (l6 : c < 4 → (((8 + (5 * i)) + 1) + c) < 198)
    (l7 : c < 4 → inR k)
    (l8 : c < 4 → k = 1 → ¬ (mv (s 83 (8 + 5 * i)) (hld (s 83) i) (s 38 5) c) = 0 → Rn X (d + 4) 190 42 [some (vR 77), some (vI i), some (vI k), some (vI n), some (vI (c + 1)), some (vI (mv (s 83 (8 + 5 * i)) (hld (s 83) i) (s 38 5) c)), some (vI (s 83 (((8 + (5 * i)) + 1) + c)))] [] s P)
    (l9 : c < 4 → k = 1 → (mv (s 83 (8 + 5 * i)) (hld (s 83) i) (s 38 5) c) = 0 → Rn X (d + 4) 190 42 [some (vR 77), some (vI i), some (vI k), some (vI (n + 1)), some (vI (c + 1)), some (vI (mv (s 83 (8 + 5 * i)) (hld (s 83) i) (s 38 5) c)), some (vI (s 83 (((8 + (5 * i)) + 1) + c)))] [] s P)
    (l10 : c < 4 → k = 2 → Rn X (d + 4) 190 42 [some (vR 77), some (vI i), some (vI k), some (vI (n + (mv (s 83 (8 + 5 * i)) (hld (s 83) i) (s 38 5) c))), some (vI (c + 1)), some (vI (mv (s 83 (8 + 5 * i)) (hld (s 83) i) (s 38 5) c)), some (vI (s 83 (((8 + (5 * i)) + 1) + c)))] [] s P)
    (l11 : c < 4 → k = 3 → ¬ (iAnd (iShr (hld (s 83) i) c) 1) = 1 → Rn X (d + 4) 190 42 [some (vR 77), some (vI i), some (vI k), some (vI (n + 1)), some (vI (c + 1)), some (vI (mv (s 83 (8 + 5 * i)) (hld (s 83) i) (s 38 5) c)), some (vI (s 83 (((8 + (5 * i)) + 1) + c)))] [] s P)
    (l12 : c < 4 → k = 3 → (iAnd (iShr (hld (s 83) i) c) 1) = 1 → Rn X (d + 4) 190 42 [some (vR 77), some (vI i), some (vI k), some (vI n), some (vI (c + 1)), some (vI (mv (s 83 (8 + 5 * i)) (hld (s 83) i) (s 38 5) c)), some (vI (s 83 (((8 + (5 * i)) + 1) + c)))] [] s P)
    (l13 : c < 4 → k = 4 → inR (s 83 (((8 + (5 * i)) + 1) + c)))
    (l14 : c < 4 → k = 4 → (s 83 (((8 + (5 * i)) + 1) + c)) < 5 → Rn X (d + 4) 190 42 [some (vR 77), some (vI i), some (vI k), some (vI n), some (vI (c + 1)), some (vI (mv (s 83 (8 + 5 * i)) (hld (s 83) i) (s 38 5) c)), some (vI (s 83 (((8 + (5 * i)) + 1) + c)))] [] s P)
    (l15 : c < 4 → k = 4 → 5 ≤ (s 83 (((8 + (5 * i)) + 1) + c)) → 6 < (s 83 (((8 + (5 * i)) + 1) + c)) → Rn X (d + 4) 190 42 [some (vR 77), some (vI i), some (vI k), some (vI n), some (vI (c + 1)), some (vI (mv (s 83 (8 + 5 * i)) (hld (s 83) i) (s 38 5) c)), some (vI (s 83 (((8 + (5 * i)) + 1) + c)))] [] s P)
    (l16 : c < 4 → k = 4 → 5 ≤ (s 83 (((8 + (5 * i)) + 1) + c)) → (s 83 (((8 + (5 * i)) + 1) + c)) ≤ 6 → Rn X (d + 4) 190 42 [some (vR 77), some (vI i), some (vI k), some (vI (n + 1)), some (vI (c + 1)), some (vI (mv (s 83 (8 + 5 * i)) (hld (s 83) i) (s 38 5) c)), some (vI (s 83 (((8 + (5 * i)) + 1) + c)))] [] s P)
    (l17 : c < 4 → (k < 1 ∨ 4 < k) → inR (s 83 (((8 + (5 * i)) + 1) + c)))
    (l18 : c < 4 → (k < 1 ∨ 4 < k) → (s 83 (((8 + (5 * i)) + 1) + c)) < 3 → Rn X (d + 4) 190 42 [some (vR 77), some (vI i), some (vI k), some (vI n), some (vI (c + 1)), some (vI (mv (s 83 (8 + 5 * i)) (hld (s 83) i) (s 38 5) c)), some (vI (s 83 (((8 + (5 * i)) + 1) + c)))] [] s P)
    (l19 : c < 4 → (k < 1 ∨ 4 < k) → 3 ≤ (s 83 (((8 + (5 * i)) + 1) + c)) → 4 < (s 83 (((8 + (5 * i)) + 1) + c)) → Rn X (d + 4) 190 42 [some (vR 77), some (vI i), some (vI k), some (vI n), some (vI (c + 1)), some (vI (mv (s 83 (8 + 5 * i)) (hld (s 83) i) (s 38 5) c)), some (vI (s 83 (((8 + (5 * i)) + 1) + c)))] [] s P)
    (l20 : c < 4 → (k < 1 ∨ 4 < k) → 3 ≤ (s 83 (((8 + (5 * i)) + 1) + c)) → (s 83 (((8 + (5 * i)) + 1) + c)) ≤ 4 → Rn X (d + 4) 190 42 [some (vR 77), some (vI i), some (vI k), some (vI (n + 1)), some (vI (c + 1)), some (vI (mv (s 83 (8 + 5 * i)) (hld (s 83) i) (s 38 5) c)), some (vI (s 83 (((8 + (5 * i)) + 1) + c)))] [] s P)
    : Rn X (d + 4) 190 42 [some (vR 77), some (vI i), some (vI k), some (vI n), some (vI c), z5, z6] [] s P := by
  refine r_ldI (m := 4) F_190_42 rfl ?_
  refine r_iconst F_190_44 ?_
  refine r_icmp (t := 202) F_190_45 rfl l1 (by decide) ?_ ?_
  · intro e1
    replace e1 : 4 ≤ c := e1
    refine r_ldI_n (m := 3) F_190_202 rfl ?_
    refine r_ireturn F_190_203 rt_190 ?_
    exact (l2 e1)
  · intro e2
    replace e2 : c < 4 := (Int.not_le.mp e2)
    refine r_ldR_n (m := 0) F_190_48 rfl ?_
    refine r_ldI_n (m := 1) F_190_49 rfl ?_
    refine r_ldI (m := 4) F_190_50 rfl ?_
    refine r_virt2 (A := [vI i, vI c]) (r := []) (n := 2) F_190_52 o_190 il_6_159 rfl rfl rfl rfl ty_77 vy_192 (lay_le n_192 rfl) ?_
    refine sp_movedOf (l3 e2) i0 (l4 e2) c0 e2 ?_
    show Rn _ _ _ _ _ [vI (mv (s 83 (8 + 5 * i)) (hld (s 83) i) (s 38 5) c)] _ _
    refine r_stI (m := 5) (L' := [some (vR 77), some (vI i), some (vI k), some (vI n), some (vI c), some (vI (mv (s 83 (8 + 5 * i)) (hld (s 83) i) (s 38 5) c)), z6]) F_190_55 rfl rfl ?_
    refine r_ldR_n (m := 0) F_190_57 rfl ?_
    refine r_getR (J := 5) F_190_58 o_190 fl_6_25 ty_77 (by decide) rfl (kd2 kd_77_5 (by decide)) (kd9 kd_77_5 (by decide)) rf_77_5 ?_
    refine r_bipush F_190_61 bi_8 ?_
    refine r_iconst F_190_63 ?_
    refine r_ldI_n (m := 1) F_190_64 rfl ?_
    refine r_imul F_190_65 rfl ?_
    refine r_iadd F_190_66 rfl ?_
    refine r_iconst F_190_67 ?_
    refine r_iadd F_190_68 rfl ?_
    refine r_ldI (m := 4) F_190_69 rfl ?_
    refine r_iadd F_190_71 rfl ?_
    refine r_iald (e := (s 83 (((8 + (5 * i)) + 1) + c))) F_190_72 ty_83 (l5 e2) (lt_ln ln_83 (l6 e2)) rfl ?_
    refine r_stI (m := 6) (L' := [some (vR 77), some (vI i), some (vI k), some (vI n), some (vI c), some (vI (mv (s 83 (8 + 5 * i)) (hld (s 83) i) (s 38 5) c)), some (vI (s 83 (((8 + (5 * i)) + 1) + c)))]) F_190_73 rfl rfl ?_
    refine r_ldI_n (m := 2) F_190_75 rfl ?_
    rcases (show k = 1 ∨ k = 2 ∨ k = 3 ∨ k = 4 ∨ (k < 1 ∨ 4 < k) by omega) with hh | hh | hh | hh | hh
    · have e3 := hh
      refine r_tswI (t := 108) (z := 32) (i := 0) F_190_76 (l7 e2) rfl rfl (by omega) (by decide) ?_
      refine r_ldI_n (m := 3) F_190_108 rfl ?_
      refine r_ldI (m := 5) F_190_109 rfl ?_
      refine r_if (t := 118) F_190_111 rfl (inR_mv _ _ _ _) ?_ ?_
      · intro e4
        replace e4 : ¬ (mv (s 83 (8 + 5 * i)) (hld (s 83) i) (s 38 5) c) = 0 := e4
        refine r_iconst F_190_118 ?_
        refine r_iadd (e := n) F_190_119 (Int.add_zero _) ?_
        refine r_stI_n (m := 3) (L' := [some (vR 77), some (vI i), some (vI k), some (vI n), some (vI c), some (vI (mv (s 83 (8 + 5 * i)) (hld (s 83) i) (s 38 5) c)), some (vI (s 83 (((8 + (5 * i)) + 1) + c)))]) F_190_120 rfl rfl ?_
        refine r_goto (t := 196) F_190_121 rfl ?_
        refine r_iinc (m := 4) (e := (c + 1)) (L' := [some (vR 77), some (vI i), some (vI k), some (vI n), some (vI (c + 1)), some (vI (mv (s 83 (8 + 5 * i)) (hld (s 83) i) (s 38 5) c)), some (vI (s 83 (((8 + (5 * i)) + 1) + c)))]) F_190_196 rfl rfl rfl rfl ?_
        refine r_goto (t := 42) F_190_199 rfl ?_
        exact (l8 e2 e3 e4)
      · intro e5
        replace e5 : (mv (s 83 (8 + 5 * i)) (hld (s 83) i) (s 38 5) c) = 0 := (Classical.not_not.mp e5)
        refine r_iconst F_190_114 ?_
        refine r_goto (t := 119) F_190_115 rfl ?_
        refine r_iadd F_190_119 rfl ?_
        refine r_stI_n (m := 3) (L' := [some (vR 77), some (vI i), some (vI k), some (vI (n + 1)), some (vI c), some (vI (mv (s 83 (8 + 5 * i)) (hld (s 83) i) (s 38 5) c)), some (vI (s 83 (((8 + (5 * i)) + 1) + c)))]) F_190_120 rfl rfl ?_
        refine r_goto (t := 196) F_190_121 rfl ?_
        refine r_iinc (m := 4) (e := (c + 1)) (L' := [some (vR 77), some (vI i), some (vI k), some (vI (n + 1)), some (vI (c + 1)), some (vI (mv (s 83 (8 + 5 * i)) (hld (s 83) i) (s 38 5) c)), some (vI (s 83 (((8 + (5 * i)) + 1) + c)))]) F_190_196 rfl rfl rfl rfl ?_
        refine r_goto (t := 42) F_190_199 rfl ?_
        exact (l9 e2 e3 e5)
    · have e6 := hh
      refine r_tswI (t := 124) (z := 48) (i := 1) F_190_76 (l7 e2) rfl rfl (by omega) (by decide) ?_
      refine r_ldI_n (m := 3) F_190_124 rfl ?_
      refine r_ldI (m := 5) F_190_125 rfl ?_
      refine r_iadd F_190_127 rfl ?_
      refine r_stI_n (m := 3) (L' := [some (vR 77), some (vI i), some (vI k), some (vI (n + (mv (s 83 (8 + 5 * i)) (hld (s 83) i) (s 38 5) c))), some (vI c), some (vI (mv (s 83 (8 + 5 * i)) (hld (s 83) i) (s 38 5) c)), some (vI (s 83 (((8 + (5 * i)) + 1) + c)))]) F_190_128 rfl rfl ?_
      refine r_goto (t := 196) F_190_129 rfl ?_
      refine r_iinc (m := 4) (e := (c + 1)) (L' := [some (vR 77), some (vI i), some (vI k), some (vI (n + (mv (s 83 (8 + 5 * i)) (hld (s 83) i) (s 38 5) c))), some (vI (c + 1)), some (vI (mv (s 83 (8 + 5 * i)) (hld (s 83) i) (s 38 5) c)), some (vI (s 83 (((8 + (5 * i)) + 1) + c)))]) F_190_196 rfl rfl rfl rfl ?_
      refine r_goto (t := 42) F_190_199 rfl ?_
      exact (l10 e2 e6)
    · have e7 := hh
      refine r_tswI (t := 132) (z := 56) (i := 2) F_190_76 (l7 e2) rfl rfl (by omega) (by decide) ?_
      refine r_ldI_n (m := 3) F_190_132 rfl ?_
      refine r_ldR_n (m := 0) F_190_133 rfl ?_
      refine r_ldI_n (m := 1) F_190_134 rfl ?_
      refine r_virt2 (A := [vI i]) (r := [vI n]) (n := 1) F_190_135 o_190 il_6_143 rfl rfl rfl rfl ty_77 vy_186 (lay_le n_186 rfl) ?_
      refine sp_holdsM (l3 e2) i0 (l4 e2) ?_
      show Rn _ _ _ _ _ [vI (hld (s 83) i), vI n] _ _
      refine r_ldI (m := 4) F_190_138 rfl ?_
      refine r_stat2 (A := [vI (hld (s 83) i), vI c]) (r := [vI n]) (n := 2) F_190_140 o_190 il_6_132 (by decide) rfl rfl rfl rfl (lay_le n_194 rfl) ?_
      refine Cl_of n_194 rfl ?_
      show Rn _ _ _ _ [some (vI (hld (s 83) i)), some (vI c)] [] _ _
      refine r_ldI_n (m := 0) F_194_0 rfl ?_
      refine r_ldI_n (m := 1) F_194_1 rfl ?_
      refine r_ishr F_194_2 rfl ?_
      refine r_iconst F_194_3 ?_
      refine r_iand F_194_4 rfl ?_
      refine r_iconst F_194_5 ?_
      refine r_icmp (t := 13) F_194_6 rfl (inR_iAnd _ _) (by decide) ?_ ?_
      · intro e8
        replace e8 : ¬ (iAnd (iShr (hld (s 83) i) c) 1) = 1 := e8
        refine r_iconst F_194_13 ?_
        refine r_zreturn F_194_14 rt_194 (Or.inl rfl) ?_
        show Rn _ _ _ _ _ [vI 0, vI n] _ _
        refine r_ifT (t := 150) F_190_143 rfl (by decide) (by show (0 : Int) = 0; decide) ?_
        refine r_iconst F_190_150 ?_
        refine r_iadd F_190_151 rfl ?_
        refine r_stI_n (m := 3) (L' := [some (vR 77), some (vI i), some (vI k), some (vI (n + 1)), some (vI c), some (vI (mv (s 83 (8 + 5 * i)) (hld (s 83) i) (s 38 5) c)), some (vI (s 83 (((8 + (5 * i)) + 1) + c)))]) F_190_152 rfl rfl ?_
        refine r_goto (t := 196) F_190_153 rfl ?_
        refine r_iinc (m := 4) (e := (c + 1)) (L' := [some (vR 77), some (vI i), some (vI k), some (vI (n + 1)), some (vI (c + 1)), some (vI (mv (s 83 (8 + 5 * i)) (hld (s 83) i) (s 38 5) c)), some (vI (s 83 (((8 + (5 * i)) + 1) + c)))]) F_190_196 rfl rfl rfl rfl ?_
        refine r_goto (t := 42) F_190_199 rfl ?_
        exact (l11 e2 e7 e8)
      · intro e9
        replace e9 : (iAnd (iShr (hld (s 83) i) c) 1) = 1 := (Classical.not_not.mp e9)
        refine r_iconst F_194_9 ?_
        refine r_goto (t := 14) F_194_10 rfl ?_
        refine r_zreturn F_194_14 rt_194 (Or.inr rfl) ?_
        show Rn _ _ _ _ _ [vI 1, vI n] _ _
        refine r_ifF (t := 150) F_190_143 rfl (by decide) (by show ¬ ((1 : Int) = 0); decide) ?_
        refine r_iconst F_190_146 ?_
        refine r_goto (t := 151) F_190_147 rfl ?_
        refine r_iadd (e := n) F_190_151 (Int.add_zero _) ?_
        refine r_stI_n (m := 3) (L' := [some (vR 77), some (vI i), some (vI k), some (vI n), some (vI c), some (vI (mv (s 83 (8 + 5 * i)) (hld (s 83) i) (s 38 5) c)), some (vI (s 83 (((8 + (5 * i)) + 1) + c)))]) F_190_152 rfl rfl ?_
        refine r_goto (t := 196) F_190_153 rfl ?_
        refine r_iinc (m := 4) (e := (c + 1)) (L' := [some (vR 77), some (vI i), some (vI k), some (vI n), some (vI (c + 1)), some (vI (mv (s 83 (8 + 5 * i)) (hld (s 83) i) (s 38 5) c)), some (vI (s 83 (((8 + (5 * i)) + 1) + c)))]) F_190_196 rfl rfl rfl rfl ?_
        refine r_goto (t := 42) F_190_199 rfl ?_
        exact (l12 e2 e7 e9)
    · have e10 := hh
      refine r_tswI (t := 156) (z := 80) (i := 3) F_190_76 (l7 e2) rfl rfl (by omega) (by decide) ?_
      refine r_ldI_n (m := 3) F_190_156 rfl ?_
      refine r_ldI (m := 6) F_190_157 rfl ?_
      refine r_iconst F_190_159 ?_
      refine r_bipush F_190_160 bi_6 ?_
      refine r_stat2 (A := [vI (s 83 (((8 + (5 * i)) + 1) + c)), vI 5, vI 6]) (r := [vI n]) (n := 3) F_190_162 o_190 il_6_67 (by decide) rfl rfl rfl rfl (lay_le n_160 rfl) ?_
      refine Cl_of n_160 rfl ?_
      show Rn _ _ _ _ [some (vI (s 83 (((8 + (5 * i)) + 1) + c))), some (vI 5), some (vI 6)] [] _ _
      refine r_ldI_n (m := 0) F_160_0 rfl ?_
      refine r_ldI_n (m := 1) F_160_1 rfl ?_
      refine r_icmp (t := 14) F_160_2 rfl (l13 e2 e10) (by decide) ?_ ?_
      · intro e11
        replace e11 : (s 83 (((8 + (5 * i)) + 1) + c)) < 5 := e11
        refine r_iconst F_160_14 ?_
        refine r_zreturn F_160_15 rt_160 (Or.inl rfl) ?_
        show Rn _ _ _ _ _ [vI 0, vI n] _ _
        refine r_ifT (t := 172) F_190_165 rfl (by decide) (by show (0 : Int) = 0; decide) ?_
        refine r_iconst F_190_172 ?_
        refine r_iadd (e := n) F_190_173 (Int.add_zero _) ?_
        refine r_stI_n (m := 3) (L' := [some (vR 77), some (vI i), some (vI k), some (vI n), some (vI c), some (vI (mv (s 83 (8 + 5 * i)) (hld (s 83) i) (s 38 5) c)), some (vI (s 83 (((8 + (5 * i)) + 1) + c)))]) F_190_174 rfl rfl ?_
        refine r_goto (t := 196) F_190_175 rfl ?_
        refine r_iinc (m := 4) (e := (c + 1)) (L' := [some (vR 77), some (vI i), some (vI k), some (vI n), some (vI (c + 1)), some (vI (mv (s 83 (8 + 5 * i)) (hld (s 83) i) (s 38 5) c)), some (vI (s 83 (((8 + (5 * i)) + 1) + c)))]) F_190_196 rfl rfl rfl rfl ?_
        refine r_goto (t := 42) F_190_199 rfl ?_
        exact (l14 e2 e10 e11)
      · intro e12
        replace e12 : 5 ≤ (s 83 (((8 + (5 * i)) + 1) + c)) := (Int.not_lt.mp e12)
        refine r_ldI_n (m := 0) F_160_5 rfl ?_
        refine r_ldI_n (m := 2) F_160_6 rfl ?_
        refine r_icmp (t := 14) F_160_7 rfl (l13 e2 e10) (by decide) ?_ ?_
        · intro e13
          replace e13 : 6 < (s 83 (((8 + (5 * i)) + 1) + c)) := e13
          refine r_iconst F_160_14 ?_
          refine r_zreturn F_160_15 rt_160 (Or.inl rfl) ?_
          show Rn _ _ _ _ _ [vI 0, vI n] _ _
          refine r_ifT (t := 172) F_190_165 rfl (by decide) (by show (0 : Int) = 0; decide) ?_
          refine r_iconst F_190_172 ?_
          refine r_iadd (e := n) F_190_173 (Int.add_zero _) ?_
          refine r_stI_n (m := 3) (L' := [some (vR 77), some (vI i), some (vI k), some (vI n), some (vI c), some (vI (mv (s 83 (8 + 5 * i)) (hld (s 83) i) (s 38 5) c)), some (vI (s 83 (((8 + (5 * i)) + 1) + c)))]) F_190_174 rfl rfl ?_
          refine r_goto (t := 196) F_190_175 rfl ?_
          refine r_iinc (m := 4) (e := (c + 1)) (L' := [some (vR 77), some (vI i), some (vI k), some (vI n), some (vI (c + 1)), some (vI (mv (s 83 (8 + 5 * i)) (hld (s 83) i) (s 38 5) c)), some (vI (s 83 (((8 + (5 * i)) + 1) + c)))]) F_190_196 rfl rfl rfl rfl ?_
          refine r_goto (t := 42) F_190_199 rfl ?_
          exact (l15 e2 e10 e12 e13)
        · intro e14
          replace e14 : (s 83 (((8 + (5 * i)) + 1) + c)) ≤ 6 := (Int.not_lt.mp e14)
          refine r_iconst F_160_10 ?_
          refine r_goto (t := 15) F_160_11 rfl ?_
          refine r_zreturn F_160_15 rt_160 (Or.inr rfl) ?_
          show Rn _ _ _ _ _ [vI 1, vI n] _ _
          refine r_ifF (t := 172) F_190_165 rfl (by decide) (by show ¬ ((1 : Int) = 0); decide) ?_
          refine r_iconst F_190_168 ?_
          refine r_goto (t := 173) F_190_169 rfl ?_
          refine r_iadd F_190_173 rfl ?_
          refine r_stI_n (m := 3) (L' := [some (vR 77), some (vI i), some (vI k), some (vI (n + 1)), some (vI c), some (vI (mv (s 83 (8 + 5 * i)) (hld (s 83) i) (s 38 5) c)), some (vI (s 83 (((8 + (5 * i)) + 1) + c)))]) F_190_174 rfl rfl ?_
          refine r_goto (t := 196) F_190_175 rfl ?_
          refine r_iinc (m := 4) (e := (c + 1)) (L' := [some (vR 77), some (vI i), some (vI k), some (vI (n + 1)), some (vI (c + 1)), some (vI (mv (s 83 (8 + 5 * i)) (hld (s 83) i) (s 38 5) c)), some (vI (s 83 (((8 + (5 * i)) + 1) + c)))]) F_190_196 rfl rfl rfl rfl ?_
          refine r_goto (t := 42) F_190_199 rfl ?_
          exact (l16 e2 e10 e12 e14)
    · have e15 := hh
      refine r_tswD (t := 178) F_190_76 (l7 e2) rfl e15 ?_
      refine r_ldI_n (m := 3) F_190_178 rfl ?_
      refine r_ldI (m := 6) F_190_179 rfl ?_
      refine r_iconst F_190_181 ?_
      refine r_iconst F_190_182 ?_
      refine r_stat2 (A := [vI (s 83 (((8 + (5 * i)) + 1) + c)), vI 3, vI 4]) (r := [vI n]) (n := 3) F_190_183 o_190 il_6_67 (by decide) rfl rfl rfl rfl (lay_le n_160 rfl) ?_
      refine Cl_of n_160 rfl ?_
      show Rn _ _ _ _ [some (vI (s 83 (((8 + (5 * i)) + 1) + c))), some (vI 3), some (vI 4)] [] _ _
      refine r_ldI_n (m := 0) F_160_0 rfl ?_
      refine r_ldI_n (m := 1) F_160_1 rfl ?_
      refine r_icmp (t := 14) F_160_2 rfl (l17 e2 e15) (by decide) ?_ ?_
      · intro e16
        replace e16 : (s 83 (((8 + (5 * i)) + 1) + c)) < 3 := e16
        refine r_iconst F_160_14 ?_
        refine r_zreturn F_160_15 rt_160 (Or.inl rfl) ?_
        show Rn _ _ _ _ _ [vI 0, vI n] _ _
        refine r_ifT (t := 193) F_190_186 rfl (by decide) (by show (0 : Int) = 0; decide) ?_
        refine r_iconst F_190_193 ?_
        refine r_iadd (e := n) F_190_194 (Int.add_zero _) ?_
        refine r_stI_n (m := 3) (L' := [some (vR 77), some (vI i), some (vI k), some (vI n), some (vI c), some (vI (mv (s 83 (8 + 5 * i)) (hld (s 83) i) (s 38 5) c)), some (vI (s 83 (((8 + (5 * i)) + 1) + c)))]) F_190_195 rfl rfl ?_
        refine r_iinc (m := 4) (e := (c + 1)) (L' := [some (vR 77), some (vI i), some (vI k), some (vI n), some (vI (c + 1)), some (vI (mv (s 83 (8 + 5 * i)) (hld (s 83) i) (s 38 5) c)), some (vI (s 83 (((8 + (5 * i)) + 1) + c)))]) F_190_196 rfl rfl rfl rfl ?_
        refine r_goto (t := 42) F_190_199 rfl ?_
        exact (l18 e2 e15 e16)
      · intro e17
        replace e17 : 3 ≤ (s 83 (((8 + (5 * i)) + 1) + c)) := (Int.not_lt.mp e17)
        refine r_ldI_n (m := 0) F_160_5 rfl ?_
        refine r_ldI_n (m := 2) F_160_6 rfl ?_
        refine r_icmp (t := 14) F_160_7 rfl (l17 e2 e15) (by decide) ?_ ?_
        · intro e18
          replace e18 : 4 < (s 83 (((8 + (5 * i)) + 1) + c)) := e18
          refine r_iconst F_160_14 ?_
          refine r_zreturn F_160_15 rt_160 (Or.inl rfl) ?_
          show Rn _ _ _ _ _ [vI 0, vI n] _ _
          refine r_ifT (t := 193) F_190_186 rfl (by decide) (by show (0 : Int) = 0; decide) ?_
          refine r_iconst F_190_193 ?_
          refine r_iadd (e := n) F_190_194 (Int.add_zero _) ?_
          refine r_stI_n (m := 3) (L' := [some (vR 77), some (vI i), some (vI k), some (vI n), some (vI c), some (vI (mv (s 83 (8 + 5 * i)) (hld (s 83) i) (s 38 5) c)), some (vI (s 83 (((8 + (5 * i)) + 1) + c)))]) F_190_195 rfl rfl ?_
          refine r_iinc (m := 4) (e := (c + 1)) (L' := [some (vR 77), some (vI i), some (vI k), some (vI n), some (vI (c + 1)), some (vI (mv (s 83 (8 + 5 * i)) (hld (s 83) i) (s 38 5) c)), some (vI (s 83 (((8 + (5 * i)) + 1) + c)))]) F_190_196 rfl rfl rfl rfl ?_
          refine r_goto (t := 42) F_190_199 rfl ?_
          exact (l19 e2 e15 e17 e18)
        · intro e19
          replace e19 : (s 83 (((8 + (5 * i)) + 1) + c)) ≤ 4 := (Int.not_lt.mp e19)
          refine r_iconst F_160_10 ?_
          refine r_goto (t := 15) F_160_11 rfl ?_
          refine r_zreturn F_160_15 rt_160 (Or.inr rfl) ?_
          show Rn _ _ _ _ _ [vI 1, vI n] _ _
          refine r_ifF (t := 193) F_190_186 rfl (by decide) (by show ¬ ((1 : Int) = 0); decide) ?_
          refine r_iconst F_190_189 ?_
          refine r_goto (t := 194) F_190_190 rfl ?_
          refine r_iadd F_190_194 rfl ?_
          refine r_stI_n (m := 3) (L' := [some (vR 77), some (vI i), some (vI k), some (vI (n + 1)), some (vI c), some (vI (mv (s 83 (8 + 5 * i)) (hld (s 83) i) (s 38 5) c)), some (vI (s 83 (((8 + (5 * i)) + 1) + c)))]) F_190_195 rfl rfl ?_
          refine r_iinc (m := 4) (e := (c + 1)) (L' := [some (vR 77), some (vI i), some (vI k), some (vI (n + 1)), some (vI (c + 1)), some (vI (mv (s 83 (8 + 5 * i)) (hld (s 83) i) (s 38 5) c)), some (vI (s 83 (((8 + (5 * i)) + 1) + c)))]) F_190_196 rfl rfl rfl rfl ?_
          refine r_goto (t := 42) F_190_199 rfl ?_
          exact (l20 e2 e15 e17 e19)
theorem t_X6_sets {X : List Int32} {d : Nat} {s : m_St} {P : Option Value → m_St → Prop}
    (l1 : inR (s 83 0))
    (l2 : (s 83 0) ≤ 0 → P (some (vI (-4))) s)
    (l3 : 0 < (s 83 0) → Rn X (d + 2) 230 17 [some (vR 77), some (vI 0), some (vI 15), some (vI 0), none] [] s P)
    : Cl X (d + 2) 230 [vR 77] s P := by
  refine Cl_of n_230 rfl ?_
  show Rn _ _ _ _ [some (vR 77), none, none, none, none] [] _ _
  refine r_ldR_n (m := 0) F_230_0 rfl ?_
  refine r_virt2 (A := []) (r := []) (n := 0) F_230_1 o_230 il_6_192 rfl rfl rfl rfl ty_77 vy_209 (lay_le n_209 rfl) ?_
  refine Cl_of n_209 rfl ?_
  show Rn _ _ _ _ [some (vR 77)] [] _ _
  refine r_ldR_n (m := 0) F_209_0 rfl ?_
  refine r_getR (J := 5) F_209_1 o_209 fl_6_25 ty_77 (by decide) rfl (kd2 kd_77_5 (by decide)) (kd9 kd_77_5 (by decide)) rf_77_5 ?_
  refine r_iconst F_209_4 ?_
  refine r_iald (e := (s 83 0)) F_209_5 ty_83 (by decide) (lt_ln ln_83 (by decide)) rfl ?_
  refine r_if (t := 13) F_209_6 rfl l1 ?_ ?_
  · intro e1
    replace e1 : (s 83 0) ≤ 0 := e1
    refine r_iconst F_209_13 ?_
    refine r_zreturn F_209_14 rt_209 (Or.inl rfl) ?_
    show Rn _ _ _ _ _ [vI 0] _ _
    refine r_ifF (t := 10) F_230_4 rfl (by decide) (by show ¬ (¬ (0 : Int) = 0); decide) ?_
    refine r_bipush F_230_7 bi__4 ?_
    refine r_ireturn F_230_9 rt_230 ?_
    exact (l2 e1)
  · intro e2
    replace e2 : 0 < (s 83 0) := (Int.not_le.mp e2)
    refine r_iconst F_209_9 ?_
    refine r_goto (t := 14) F_209_10 rfl ?_
    refine r_zreturn F_209_14 rt_209 (Or.inr rfl) ?_
    show Rn _ _ _ _ _ [vI 1] _ _
    refine r_ifT (t := 10) F_230_4 rfl (by decide) (by show ¬ (1 : Int) = 0; decide) ?_
    refine r_iconst F_230_10 ?_
    refine r_stI_n (m := 1) (L' := [some (vR 77), some (vI 0), none, none, none]) F_230_11 rfl rfl ?_
    refine r_bipush F_230_12 bi_15 ?_
    refine r_stI_n (m := 2) (L' := [some (vR 77), some (vI 0), some (vI 15), none, none]) F_230_14 rfl rfl ?_
    refine r_iconst F_230_15 ?_
    refine r_stI_n (m := 3) (L' := [some (vR 77), some (vI 0), some (vI 15), some (vI 0), none]) F_230_16 rfl rfl ?_
    exact (l3 e2)
theorem t_X6_sets_17 {X : List Int32} {d : Nat} {s : m_St} {P : Option Value → m_St → Prop} {n a z : Int} {z4 : Option Value} (z0 : 0 ≤ z)
    (l1 : inR z)
    (l2 : 16 ≤ z → P (some (vI n)) (m_upd s 77 11 a))
    (l3 : z < 16 → tr (s 38 5) (s 83 7))
    (l4 : z < 16 → r16 z)
    (l5 : z < 16 → inR (clo (s 38 5) z))
    (l6 : z < 16 → ¬ (clo (s 38 5) z) = z → Rn X (d + 2) 230 17 [some (vR 77), some (vI n), some (vI (iAnd a 15)), some (vI (z + 1)), some (vI 0)] [] s P)
    (l7 : z < 16 → (clo (s 38 5) z) = z → z ≤ 0 → Rn X (d + 2) 230 17 [some (vR 77), some (vI (n + 1)), some (vI (iAnd a 15)), some (vI (z + 1)), some (vI 1)] [] s P)
    (l8 : z < 16 → (clo (s 38 5) z) = z → 0 < z → Rn X (d + 2) 230 17 [some (vR 77), some (vI (n + 1)), some (vI (iAnd a z)), some (vI (z + 1)), some (vI 1)] [] s P)
    : Rn X (d + 2) 230 17 [some (vR 77), some (vI n), some (vI a), some (vI z), z4] [] s P := by
  refine r_ldI_n (m := 3) F_230_17 rfl ?_
  refine r_bipush F_230_18 bi_16 ?_
  refine r_icmp (t := 76) F_230_20 rfl l1 (by decide) ?_ ?_
  · intro e1
    replace e1 : 16 ≤ z := e1
    refine r_ldR_n (m := 0) F_230_76 rfl ?_
    refine r_ldI_n (m := 1) F_230_77 rfl ?_
    refine r_ldI_n (m := 2) F_230_78 rfl ?_
    refine r_virt2 (A := [vI n, vI a]) (r := []) (n := 2) F_230_79 o_230 il_6_87 rfl rfl rfl rfl ty_77 vy_165 (lay_le n_165 rfl) ?_
    refine Cl_of n_165 rfl ?_
    show Rn _ _ _ _ [some (vR 77), some (vI n), some (vI a)] [] _ _
    refine r_ldR_n (m := 0) F_165_0 rfl ?_
    refine r_ldI_n (m := 2) F_165_1 rfl ?_
    refine r_putI (J := 11) F_165_2 o_165 fl_6_61 ty_77 (by decide) rfl kd_77_11 pf_6_11 ?_
    refine r_ldI_n (m := 1) F_165_5 rfl ?_
    refine r_ireturn F_165_6 rt_165 ?_
    show Rn _ _ _ _ _ [vI n] _ _
    refine r_ireturn F_230_82 rt_230 ?_
    exact (l2 e1)
  · intro e2
    replace e2 : z < 16 := (Int.not_le.mp e2)
    refine r_ldR_n (m := 0) F_230_23 rfl ?_
    refine r_ldI_n (m := 3) F_230_24 rfl ?_
    refine r_virt2 (A := [vI z]) (r := []) (n := 1) F_230_25 o_230 il_6_162 rfl rfl rfl rfl ty_77 vy_196 (lay_le n_196 rfl) ?_
    refine sp_closedM (l3 e2) (l4 e2) ?_
    show Rn _ _ _ _ _ [vI (clo (s 38 5) z)] _ _
    refine r_ldI_n (m := 3) F_230_28 rfl ?_
    refine r_icmp (t := 36) F_230_29 rfl (l5 e2) l1 ?_ ?_
    · intro e3
      replace e3 : ¬ (clo (s 38 5) z) = z := e3
      refine r_iconst F_230_36 ?_
      refine r_stI (m := 4) (L' := [some (vR 77), some (vI n), some (vI a), some (vI z), some (vI 0)]) F_230_37 rfl rfl ?_
      refine r_ldI_n (m := 1) F_230_39 rfl ?_
      refine r_ldI (m := 4) F_230_40 rfl ?_
      refine r_ifT (t := 49) F_230_42 rfl (by decide) (by show (0 : Int) = 0; decide) ?_
      refine r_iconst F_230_49 ?_
      refine r_iadd (e := n) F_230_50 (Int.add_zero _) ?_
      refine r_stI_n (m := 1) (L' := [some (vR 77), some (vI n), some (vI a), some (vI z), some (vI 0)]) F_230_51 rfl rfl ?_
      refine r_ldI_n (m := 2) F_230_52 rfl ?_
      refine r_ldI (m := 4) F_230_53 rfl ?_
      refine r_ifT (t := 66) F_230_55 rfl (by decide) (by show (0 : Int) = 0; decide) ?_
      refine r_bipush F_230_66 bi_15 ?_
      refine r_iand F_230_68 rfl ?_
      refine r_stI_n (m := 2) (L' := [some (vR 77), some (vI n), some (vI (iAnd a 15)), some (vI z), some (vI 0)]) F_230_69 rfl rfl ?_
      refine r_iinc (m := 3) (e := (z + 1)) (L' := [some (vR 77), some (vI n), some (vI (iAnd a 15)), some (vI (z + 1)), some (vI 0)]) F_230_70 rfl rfl rfl rfl ?_
      refine r_goto (t := 17) F_230_73 rfl ?_
      exact (l6 e2 e3)
    · intro e4
      replace e4 : (clo (s 38 5) z) = z := (Classical.not_not.mp e4)
      refine r_iconst F_230_32 ?_
      refine r_goto (t := 37) F_230_33 rfl ?_
      refine r_stI (m := 4) (L' := [some (vR 77), some (vI n), some (vI a), some (vI z), some (vI 1)]) F_230_37 rfl rfl ?_
      refine r_ldI_n (m := 1) F_230_39 rfl ?_
      refine r_ldI (m := 4) F_230_40 rfl ?_
      refine r_ifF (t := 49) F_230_42 rfl (by decide) (by show ¬ ((1 : Int) = 0); decide) ?_
      refine r_iconst F_230_45 ?_
      refine r_goto (t := 50) F_230_46 rfl ?_
      refine r_iadd F_230_50 rfl ?_
      refine r_stI_n (m := 1) (L' := [some (vR 77), some (vI (n + 1)), some (vI a), some (vI z), some (vI 1)]) F_230_51 rfl rfl ?_
      refine r_ldI_n (m := 2) F_230_52 rfl ?_
      refine r_ldI (m := 4) F_230_53 rfl ?_
      refine r_ifF (t := 66) F_230_55 rfl (by decide) (by show ¬ ((1 : Int) = 0); decide) ?_
      refine r_ldI_n (m := 3) F_230_58 rfl ?_
      refine r_if (t := 66) F_230_59 rfl l1 ?_ ?_
      · intro e5
        replace e5 : z ≤ 0 := e5
        refine r_bipush F_230_66 bi_15 ?_
        refine r_iand F_230_68 rfl ?_
        refine r_stI_n (m := 2) (L' := [some (vR 77), some (vI (n + 1)), some (vI (iAnd a 15)), some (vI z), some (vI 1)]) F_230_69 rfl rfl ?_
        refine r_iinc (m := 3) (e := (z + 1)) (L' := [some (vR 77), some (vI (n + 1)), some (vI (iAnd a 15)), some (vI (z + 1)), some (vI 1)]) F_230_70 rfl rfl rfl rfl ?_
        refine r_goto (t := 17) F_230_73 rfl ?_
        exact (l7 e2 e4 e5)
      · intro e6
        replace e6 : 0 < z := (Int.not_le.mp e6)
        refine r_ldI_n (m := 3) F_230_62 rfl ?_
        refine r_goto (t := 68) F_230_63 rfl ?_
        refine r_iand F_230_68 rfl ?_
        refine r_stI_n (m := 2) (L' := [some (vR 77), some (vI (n + 1)), some (vI (iAnd a z)), some (vI z), some (vI 1)]) F_230_69 rfl rfl ?_
        refine r_iinc (m := 3) (e := (z + 1)) (L' := [some (vR 77), some (vI (n + 1)), some (vI (iAnd a z)), some (vI (z + 1)), some (vI 1)]) F_230_70 rfl rfl rfl rfl ?_
        refine r_goto (t := 17) F_230_73 rfl ?_
        exact (l8 e2 e4 e6)
