/-! walks: the calls of the reference, rows and texts -/
theorem n_158 : m_n 158 = 3 := by decide +kernel
theorem F_158_0 : F 158 0 (.iload_n 1) 1 := ⟨1, by decide +kernel, rfl, rfl⟩
theorem F_158_1 : F 158 1 (.invokestatic 71) 4 := ⟨3, by decide +kernel, rfl, rfl⟩
theorem o_158 : m_o 158 = 6 := by decide +kernel
theorem il_6_71 : ilq 6 71 1 159 1 = true := by decide +kernel
theorem n_159 : m_n 159 = 1 := by decide +kernel
theorem F_159_0 : F 159 0 (.iload_n 0) 1 := ⟨1, by decide +kernel, rfl, rfl⟩
theorem F_159_1 : F 159 1 (.iconst 0) 2 := ⟨1, by decide +kernel, rfl, rfl⟩
theorem F_159_2 : F 159 2 (.iconst 5) 3 := ⟨1, by decide +kernel, rfl, rfl⟩
theorem F_159_3 : F 159 3 (.invokestatic 67) 6 := ⟨3, by decide +kernel, rfl, rfl⟩
theorem o_159 : m_o 159 = 6 := by decide +kernel
theorem il_6_67 : ilq 6 67 1 160 3 = true := by decide +kernel
theorem n_160 : m_n 160 = 3 := by decide +kernel
theorem F_160_0 : F 160 0 (.iload_n 0) 1 := ⟨1, by decide +kernel, rfl, rfl⟩
theorem F_160_1 : F 160 1 (.iload_n 1) 2 := ⟨1, by decide +kernel, rfl, rfl⟩
theorem F_160_2 : F 160 2 (.if_icmp .lt 12) 5 := ⟨3, by decide +kernel, rfl, rfl⟩
theorem F_160_14 : F 160 14 (.iconst 0) 15 := ⟨1, by decide +kernel, rfl, rfl⟩
theorem F_160_15 : F 160 15 (.ireturn) 16 := ⟨1, by decide +kernel, rfl, rfl⟩
theorem rt_160 : m_r 160 = (some .boolean) := by decide +kernel
theorem F_159_6 : F 159 6 (.ireturn) 7 := ⟨1, by decide +kernel, rfl, rfl⟩
theorem rt_159 : m_r 159 = (some .boolean) := by decide +kernel
theorem F_158_4 : F 158 4 (.ifCond .eq 9) 7 := ⟨3, by decide +kernel, rfl, rfl⟩
theorem F_158_13 : F 158 13 (.iconst (-1)) 14 := ⟨1, by decide +kernel, rfl, rfl⟩
theorem F_158_14 : F 158 14 (.ireturn) 15 := ⟨1, by decide +kernel, rfl, rfl⟩
theorem rt_158 : m_r 158 = (some .int) := by decide +kernel
theorem F_160_5 : F 160 5 (.iload_n 0) 6 := ⟨1, by decide +kernel, rfl, rfl⟩
theorem F_160_6 : F 160 6 (.iload_n 2) 7 := ⟨1, by decide +kernel, rfl, rfl⟩
theorem F_160_7 : F 160 7 (.if_icmp .gt 7) 10 := ⟨3, by decide +kernel, rfl, rfl⟩
theorem F_160_10 : F 160 10 (.iconst 1) 11 := ⟨1, by decide +kernel, rfl, rfl⟩
theorem F_160_11 : F 160 11 (.goto 4) 14 := ⟨3, by decide +kernel, rfl, rfl⟩
theorem F_158_7 : F 158 7 (.iload_n 2) 8 := ⟨1, by decide +kernel, rfl, rfl⟩
theorem F_158_8 : F 158 8 (.bipush 40) 10 := ⟨2, by decide +kernel, rfl, rfl⟩
theorem F_158_10 : F 158 10 (.if_icmp .le 5) 13 := ⟨3, by decide +kernel, rfl, rfl⟩
theorem F_158_15 : F 158 15 (.iload_n 2) 16 := ⟨1, by decide +kernel, rfl, rfl⟩
theorem F_158_16 : F 158 16 (.ifCond .ge 9) 19 := ⟨3, by decide +kernel, rfl, rfl⟩
theorem F_158_25 : F 158 25 (.aload_n 0) 26 := ⟨1, by decide +kernel, rfl, rfl⟩
theorem F_158_26 : F 158 26 (.iload_n 1) 27 := ⟨1, by decide +kernel, rfl, rfl⟩
theorem F_158_27 : F 158 27 (.iload_n 2) 28 := ⟨1, by decide +kernel, rfl, rfl⟩
theorem F_158_28 : F 158 28 (.invokevirtual 79) 31 := ⟨3, by decide +kernel, rfl, rfl⟩
theorem il_6_79 : ilq 6 79 0 162 2 = true := by decide +kernel
theorem vy_162 : (m_cls 6).1 = (m_y 162).cls ∧ 6 < m_cl.length := by decide +kernel
theorem F_158_31 : F 158 31 (.iload_n 2) 32 := ⟨1, by decide +kernel, rfl, rfl⟩
theorem F_158_32 : F 158 32 (.ireturn) 33 := ⟨1, by decide +kernel, rfl, rfl⟩
theorem F_158_19 : F 158 19 (.aload_n 0) 20 := ⟨1, by decide +kernel, rfl, rfl⟩
theorem F_158_20 : F 158 20 (.iconst 5) 21 := ⟨1, by decide +kernel, rfl, rfl⟩
theorem F_158_21 : F 158 21 (.invokevirtual 75) 24 := ⟨3, by decide +kernel, rfl, rfl⟩
theorem il_6_75 : ilq 6 75 0 161 1 = true := by decide +kernel
theorem vy_161 : (m_cls 6).1 = (m_y 161).cls ∧ 6 < m_cl.length := by decide +kernel
theorem n_161 : m_n 161 = 2 := by decide +kernel
theorem F_161_0 : F 161 0 (.aload_n 0) 1 := ⟨1, by decide +kernel, rfl, rfl⟩
theorem F_161_1 : F 161 1 (.iload_n 1) 2 := ⟨1, by decide +kernel, rfl, rfl⟩
theorem F_161_2 : F 161 2 (.putfield 57) 5 := ⟨3, by decide +kernel, rfl, rfl⟩
theorem fl_6_57 : m_fl.lookup (6, 57) = some (6, 10, 4155) := by decide +kernel
theorem kd_77_10 : kd 77 10 = 0 := by decide +kernel
theorem pf_6_10 : pfT 6 10 .int = true := by decide +kernel
theorem o_161 : m_o 161 = 6 := by decide +kernel
theorem F_161_5 : F 161 5 (.aload_n 0) 6 := ⟨1, by decide +kernel, rfl, rfl⟩
theorem F_161_6 : F 161 6 (.getfield 38) 9 := ⟨3, by decide +kernel, rfl, rfl⟩
theorem fl_6_38 : m_fl.lookup (6, 38) = some (6, 9, 4154) := by decide +kernel
theorem kd_77_9 : kd 77 9 = 89 := by decide +kernel
theorem rf_77_9 : rf 77 9 = 87 := by decide +kernel
theorem F_161_9 : F 161 9 (.iload_n 1) 10 := ⟨1, by decide +kernel, rfl, rfl⟩
theorem F_161_10 : F 161 10 (.dup2) 11 := ⟨1, by decide +kernel, rfl, rfl⟩
theorem F_161_11 : F 161 11 (.iaload) 12 := ⟨1, by decide +kernel, rfl, rfl⟩
theorem ln_87 : ln 87 = 6 := by decide +kernel
theorem ty_87 : ty 87 = 20 := by decide +kernel
theorem F_161_12 : F 161 12 (.iconst 1) 13 := ⟨1, by decide +kernel, rfl, rfl⟩
theorem F_161_13 : F 161 13 (.iadd) 14 := ⟨1, by decide +kernel, rfl, rfl⟩
theorem F_161_14 : F 161 14 (.iastore) 15 := ⟨1, by decide +kernel, rfl, rfl⟩
theorem F_161_15 : F 161 15 (.bipush (-3)) 17 := ⟨2, by decide +kernel, rfl, rfl⟩
theorem F_161_17 : F 161 17 (.ireturn) 18 := ⟨1, by decide +kernel, rfl, rfl⟩
theorem rt_161 : m_r 161 = (some .int) := by decide +kernel
theorem F_158_24 : F 158 24 (.ireturn) 25 := ⟨1, by decide +kernel, rfl, rfl⟩
theorem n_163 : m_n 163 = 5 := by decide +kernel
theorem F_163_0 : F 163 0 (.aload_n 0) 1 := ⟨1, by decide +kernel, rfl, rfl⟩
theorem F_163_1 : F 163 1 (.iload_n 1) 2 := ⟨1, by decide +kernel, rfl, rfl⟩
theorem F_163_2 : F 163 2 (.iload_n 2) 3 := ⟨1, by decide +kernel, rfl, rfl⟩
theorem F_163_3 : F 163 3 (.invokevirtual 83) 6 := ⟨3, by decide +kernel, rfl, rfl⟩
theorem o_163 : m_o 163 = 6 := by decide +kernel
theorem il_6_83 : ilq 6 83 0 164 2 = true := by decide +kernel
theorem vy_164 : (m_cls 6).1 = (m_y 164).cls ∧ 6 < m_cl.length := by decide +kernel
theorem n_164 : m_n 164 = 3 := by decide +kernel
theorem F_164_0 : F 164 0 (.iload_n 1) 1 := ⟨1, by decide +kernel, rfl, rfl⟩
theorem F_164_1 : F 164 1 (.invokestatic 71) 4 := ⟨3, by decide +kernel, rfl, rfl⟩
theorem o_164 : m_o 164 = 6 := by decide +kernel
theorem F_164_4 : F 164 4 (.ifCond .ne 5) 7 := ⟨3, by decide +kernel, rfl, rfl⟩
theorem F_164_7 : F 164 7 (.iconst (-1)) 8 := ⟨1, by decide +kernel, rfl, rfl⟩
theorem F_164_8 : F 164 8 (.ireturn) 9 := ⟨1, by decide +kernel, rfl, rfl⟩
theorem rt_164 : m_r 164 = (some .int) := by decide +kernel
theorem F_163_6 : F 163 6 (.istore 4) 8 := ⟨2, by decide +kernel, rfl, rfl⟩
theorem F_163_8 : F 163 8 (.iload 4) 10 := ⟨2, by decide +kernel, rfl, rfl⟩
theorem F_163_10 : F 163 10 (.iconst 1) 11 := ⟨1, by decide +kernel, rfl, rfl⟩
theorem F_163_11 : F 163 11 (.if_icmp .ne 15) 14 := ⟨3, by decide +kernel, rfl, rfl⟩
theorem F_163_26 : F 163 26 (.iload 4) 28 := ⟨2, by decide +kernel, rfl, rfl⟩
theorem F_163_28 : F 163 28 (.ireturn) 29 := ⟨1, by decide +kernel, rfl, rfl⟩
theorem rt_163 : m_r 163 = (some .int) := by decide +kernel
theorem F_164_9 : F 164 9 (.aload_n 0) 10 := ⟨1, by decide +kernel, rfl, rfl⟩
theorem F_164_10 : F 164 10 (.getfield 7) 13 := ⟨3, by decide +kernel, rfl, rfl⟩
theorem F_164_13 : F 164 13 (.iload_n 1) 14 := ⟨1, by decide +kernel, rfl, rfl⟩
theorem F_164_14 : F 164 14 (.iaload) 15 := ⟨1, by decide +kernel, rfl, rfl⟩
theorem F_164_15 : F 164 15 (.ifCond .ge 9) 18 := ⟨3, by decide +kernel, rfl, rfl⟩
theorem F_164_24 : F 164 24 (.iload_n 2) 25 := ⟨1, by decide +kernel, rfl, rfl⟩
theorem F_164_25 : F 164 25 (.iconst 0) 26 := ⟨1, by decide +kernel, rfl, rfl⟩
theorem F_164_26 : F 164 26 (.aload_n 0) 27 := ⟨1, by decide +kernel, rfl, rfl⟩
theorem F_164_27 : F 164 27 (.getfield 7) 30 := ⟨3, by decide +kernel, rfl, rfl⟩
theorem F_164_30 : F 164 30 (.iload_n 1) 31 := ⟨1, by decide +kernel, rfl, rfl⟩
theorem F_164_31 : F 164 31 (.iaload) 32 := ⟨1, by decide +kernel, rfl, rfl⟩
theorem F_164_32 : F 164 32 (.iconst 1) 33 := ⟨1, by decide +kernel, rfl, rfl⟩
theorem F_164_33 : F 164 33 (.isub) 34 := ⟨1, by decide +kernel, rfl, rfl⟩
theorem F_164_34 : F 164 34 (.invokestatic 67) 37 := ⟨3, by decide +kernel, rfl, rfl⟩
theorem F_164_37 : F 164 37 (.ifCond .eq 22) 40 := ⟨3, by decide +kernel, rfl, rfl⟩
theorem F_164_59 : F 164 59 (.aload_n 0) 60 := ⟨1, by decide +kernel, rfl, rfl⟩
theorem F_164_60 : F 164 60 (.iconst 2) 61 := ⟨1, by decide +kernel, rfl, rfl⟩
theorem F_164_61 : F 164 61 (.invokevirtual 75) 64 := ⟨3, by decide +kernel, rfl, rfl⟩
theorem F_164_64 : F 164 64 (.ireturn) 65 := ⟨1, by decide +kernel, rfl, rfl⟩
theorem F_164_40 : F 164 40 (.aload_n 0) 41 := ⟨1, by decide +kernel, rfl, rfl⟩
theorem F_164_41 : F 164 41 (.iconst 1) 42 := ⟨1, by decide +kernel, rfl, rfl⟩
theorem F_164_42 : F 164 42 (.aload_n 0) 43 := ⟨1, by decide +kernel, rfl, rfl⟩
theorem F_164_43 : F 164 43 (.getfield 13) 46 := ⟨3, by decide +kernel, rfl, rfl⟩
theorem F_164_46 : F 164 46 (.bipush 40) 48 := ⟨2, by decide +kernel, rfl, rfl⟩
theorem F_164_48 : F 164 48 (.iload_n 1) 49 := ⟨1, by decide +kernel, rfl, rfl⟩
theorem F_164_49 : F 164 49 (.imul) 50 := ⟨1, by decide +kernel, rfl, rfl⟩
theorem F_164_50 : F 164 50 (.iload_n 2) 51 := ⟨1, by decide +kernel, rfl, rfl⟩
theorem F_164_51 : F 164 51 (.iadd) 52 := ⟨1, by decide +kernel, rfl, rfl⟩
theorem F_164_52 : F 164 52 (.iaload) 53 := ⟨1, by decide +kernel, rfl, rfl⟩
theorem F_164_53 : F 164 53 (.invokevirtual 87) 56 := ⟨3, by decide +kernel, rfl, rfl⟩
theorem il_6_87 : ilq 6 87 0 165 2 = true := by decide +kernel
theorem vy_165 : (m_cls 6).1 = (m_y 165).cls ∧ 6 < m_cl.length := by decide +kernel
theorem n_165 : m_n 165 = 3 := by decide +kernel
theorem F_165_0 : F 165 0 (.aload_n 0) 1 := ⟨1, by decide +kernel, rfl, rfl⟩
theorem F_165_1 : F 165 1 (.iload_n 2) 2 := ⟨1, by decide +kernel, rfl, rfl⟩
theorem F_165_2 : F 165 2 (.putfield 61) 5 := ⟨3, by decide +kernel, rfl, rfl⟩
theorem fl_6_61 : m_fl.lookup (6, 61) = some (6, 11, 4156) := by decide +kernel
theorem kd_77_11 : kd 77 11 = 0 := by decide +kernel
theorem pf_6_11 : pfT 6 11 .int = true := by decide +kernel
theorem o_165 : m_o 165 = 6 := by decide +kernel
theorem F_165_5 : F 165 5 (.iload_n 1) 6 := ⟨1, by decide +kernel, rfl, rfl⟩
theorem F_165_6 : F 165 6 (.ireturn) 7 := ⟨1, by decide +kernel, rfl, rfl⟩
theorem rt_165 : m_r 165 = (some .int) := by decide +kernel
theorem F_164_56 : F 164 56 (.goto 8) 59 := ⟨3, by decide +kernel, rfl, rfl⟩
theorem F_163_14 : F 163 14 (.aload_n 0) 15 := ⟨1, by decide +kernel, rfl, rfl⟩
theorem F_163_15 : F 163 15 (.getfield 13) 18 := ⟨3, by decide +kernel, rfl, rfl⟩
theorem F_163_18 : F 163 18 (.bipush 40) 20 := ⟨2, by decide +kernel, rfl, rfl⟩
theorem F_163_20 : F 163 20 (.iload_n 1) 21 := ⟨1, by decide +kernel, rfl, rfl⟩
theorem F_163_21 : F 163 21 (.imul) 22 := ⟨1, by decide +kernel, rfl, rfl⟩
theorem F_163_22 : F 163 22 (.iload_n 2) 23 := ⟨1, by decide +kernel, rfl, rfl⟩
theorem F_163_23 : F 163 23 (.iadd) 24 := ⟨1, by decide +kernel, rfl, rfl⟩
theorem F_163_24 : F 163 24 (.iload_n 3) 25 := ⟨1, by decide +kernel, rfl, rfl⟩
theorem F_163_25 : F 163 25 (.iastore) 26 := ⟨1, by decide +kernel, rfl, rfl⟩
theorem F_164_18 : F 164 18 (.aload_n 0) 19 := ⟨1, by decide +kernel, rfl, rfl⟩
theorem F_164_19 : F 164 19 (.iconst 1) 20 := ⟨1, by decide +kernel, rfl, rfl⟩
theorem F_164_20 : F 164 20 (.invokevirtual 75) 23 := ⟨3, by decide +kernel, rfl, rfl⟩
theorem F_164_23 : F 164 23 (.ireturn) 24 := ⟨1, by decide +kernel, rfl, rfl⟩
theorem n_166 : m_n 166 = 2 := by decide +kernel
theorem F_166_0 : F 166 0 (.iload_n 1) 1 := ⟨1, by decide +kernel, rfl, rfl⟩
theorem F_166_1 : F 166 1 (.invokestatic 71) 4 := ⟨3, by decide +kernel, rfl, rfl⟩
theorem o_166 : m_o 166 = 6 := by decide +kernel
theorem F_166_4 : F 166 4 (.ifCond .ne 5) 7 := ⟨3, by decide +kernel, rfl, rfl⟩
theorem F_166_7 : F 166 7 (.iconst (-1)) 8 := ⟨1, by decide +kernel, rfl, rfl⟩
theorem F_166_8 : F 166 8 (.ireturn) 9 := ⟨1, by decide +kernel, rfl, rfl⟩
theorem rt_166 : m_r 166 = (some .int) := by decide +kernel
theorem F_166_9 : F 166 9 (.aload_n 0) 10 := ⟨1, by decide +kernel, rfl, rfl⟩
theorem F_166_10 : F 166 10 (.getfield 7) 13 := ⟨3, by decide +kernel, rfl, rfl⟩
theorem F_166_13 : F 166 13 (.iload_n 1) 14 := ⟨1, by decide +kernel, rfl, rfl⟩
theorem F_166_14 : F 166 14 (.iaload) 15 := ⟨1, by decide +kernel, rfl, rfl⟩
theorem F_166_15 : F 166 15 (.ifCond .ge 9) 18 := ⟨3, by decide +kernel, rfl, rfl⟩
theorem F_166_24 : F 166 24 (.aload_n 0) 25 := ⟨1, by decide +kernel, rfl, rfl⟩
theorem F_166_25 : F 166 25 (.getfield 7) 28 := ⟨3, by decide +kernel, rfl, rfl⟩
theorem F_166_28 : F 166 28 (.iload_n 1) 29 := ⟨1, by decide +kernel, rfl, rfl⟩
theorem F_166_29 : F 166 29 (.iconst (-1)) 30 := ⟨1, by decide +kernel, rfl, rfl⟩
theorem F_166_30 : F 166 30 (.iastore) 31 := ⟨1, by decide +kernel, rfl, rfl⟩
theorem F_166_31 : F 166 31 (.iconst 1) 32 := ⟨1, by decide +kernel, rfl, rfl⟩
theorem F_166_32 : F 166 32 (.ireturn) 33 := ⟨1, by decide +kernel, rfl, rfl⟩
theorem F_166_18 : F 166 18 (.aload_n 0) 19 := ⟨1, by decide +kernel, rfl, rfl⟩
theorem F_166_19 : F 166 19 (.iconst 1) 20 := ⟨1, by decide +kernel, rfl, rfl⟩
theorem F_166_20 : F 166 20 (.invokevirtual 75) 23 := ⟨3, by decide +kernel, rfl, rfl⟩
theorem F_166_23 : F 166 23 (.ireturn) 24 := ⟨1, by decide +kernel, rfl, rfl⟩
theorem n_167 : m_n 167 = 7 := by decide +kernel
theorem F_167_0 : F 167 0 (.iload_n 1) 1 := ⟨1, by decide +kernel, rfl, rfl⟩
theorem F_167_1 : F 167 1 (.invokestatic 71) 4 := ⟨3, by decide +kernel, rfl, rfl⟩
theorem o_167 : m_o 167 = 6 := by decide +kernel
theorem F_167_4 : F 167 4 (.ifCond .eq 10) 7 := ⟨3, by decide +kernel, rfl, rfl⟩
theorem F_167_14 : F 167 14 (.iconst (-1)) 15 := ⟨1, by decide +kernel, rfl, rfl⟩
theorem F_167_15 : F 167 15 (.ireturn) 16 := ⟨1, by decide +kernel, rfl, rfl⟩
theorem rt_167 : m_r 167 = (some .int) := by decide +kernel
theorem F_167_7 : F 167 7 (.iload_n 3) 8 := ⟨1, by decide +kernel, rfl, rfl⟩
theorem F_167_8 : F 167 8 (.invokestatic 71) 11 := ⟨3, by decide +kernel, rfl, rfl⟩
theorem F_167_11 : F 167 11 (.ifCond .ne 5) 14 := ⟨3, by decide +kernel, rfl, rfl⟩
theorem F_167_16 : F 167 16 (.iload 5) 18 := ⟨2, by decide +kernel, rfl, rfl⟩
theorem F_167_18 : F 167 18 (.ifCond .ge 9) 21 := ⟨3, by decide +kernel, rfl, rfl⟩
theorem F_167_27 : F 167 27 (.aload_n 0) 28 := ⟨1, by decide +kernel, rfl, rfl⟩
theorem F_167_28 : F 167 28 (.getfield 7) 31 := ⟨3, by decide +kernel, rfl, rfl⟩
theorem F_167_31 : F 167 31 (.iload_n 1) 32 := ⟨1, by decide +kernel, rfl, rfl⟩
theorem F_167_32 : F 167 32 (.iaload) 33 := ⟨1, by decide +kernel, rfl, rfl⟩
theorem F_167_33 : F 167 33 (.ifCond .lt 12) 36 := ⟨3, by decide +kernel, rfl, rfl⟩
theorem F_167_45 : F 167 45 (.aload_n 0) 46 := ⟨1, by decide +kernel, rfl, rfl⟩
theorem F_167_46 : F 167 46 (.iconst 1) 47 := ⟨1, by decide +kernel, rfl, rfl⟩
theorem F_167_47 : F 167 47 (.invokevirtual 75) 50 := ⟨3, by decide +kernel, rfl, rfl⟩
theorem F_167_50 : F 167 50 (.ireturn) 51 := ⟨1, by decide +kernel, rfl, rfl⟩
theorem F_167_36 : F 167 36 (.aload_n 0) 37 := ⟨1, by decide +kernel, rfl, rfl⟩
theorem F_167_37 : F 167 37 (.getfield 7) 40 := ⟨3, by decide +kernel, rfl, rfl⟩
theorem F_167_40 : F 167 40 (.iload_n 3) 41 := ⟨1, by decide +kernel, rfl, rfl⟩
theorem F_167_41 : F 167 41 (.iaload) 42 := ⟨1, by decide +kernel, rfl, rfl⟩
theorem F_167_42 : F 167 42 (.ifCond .ge 9) 45 := ⟨3, by decide +kernel, rfl, rfl⟩
theorem F_167_51 : F 167 51 (.iload_n 2) 52 := ⟨1, by decide +kernel, rfl, rfl⟩
theorem F_167_52 : F 167 52 (.ifCond .lt 43) 55 := ⟨3, by decide +kernel, rfl, rfl⟩
theorem F_167_95 : F 167 95 (.aload_n 0) 96 := ⟨1, by decide +kernel, rfl, rfl⟩
theorem F_167_96 : F 167 96 (.iconst 2) 97 := ⟨1, by decide +kernel, rfl, rfl⟩
theorem F_167_97 : F 167 97 (.invokevirtual 75) 100 := ⟨3, by decide +kernel, rfl, rfl⟩
theorem F_167_100 : F 167 100 (.ireturn) 101 := ⟨1, by decide +kernel, rfl, rfl⟩
theorem F_167_55 : F 167 55 (.iload 4) 57 := ⟨2, by decide +kernel, rfl, rfl⟩
theorem F_167_57 : F 167 57 (.ifCond .lt 38) 60 := ⟨3, by decide +kernel, rfl, rfl⟩
theorem F_167_60 : F 167 60 (.iload_n 2) 61 := ⟨1, by decide +kernel, rfl, rfl⟩
theorem F_167_61 : F 167 61 (.i2l) 62 := ⟨1, by decide +kernel, rfl, rfl⟩
theorem F_167_62 : F 167 62 (.iload 5) 64 := ⟨2, by decide +kernel, rfl, rfl⟩
theorem F_167_64 : F 167 64 (.i2l) 65 := ⟨1, by decide +kernel, rfl, rfl⟩
theorem F_167_65 : F 167 65 (.ladd) 66 := ⟨1, by decide +kernel, rfl, rfl⟩
theorem F_167_66 : F 167 66 (.aload_n 0) 67 := ⟨1, by decide +kernel, rfl, rfl⟩
theorem F_167_67 : F 167 67 (.getfield 7) 70 := ⟨3, by decide +kernel, rfl, rfl⟩
theorem F_167_70 : F 167 70 (.iload_n 1) 71 := ⟨1, by decide +kernel, rfl, rfl⟩
theorem F_167_71 : F 167 71 (.iaload) 72 := ⟨1, by decide +kernel, rfl, rfl⟩
theorem F_167_72 : F 167 72 (.i2l) 73 := ⟨1, by decide +kernel, rfl, rfl⟩
theorem F_167_73 : F 167 73 (.lcmp) 74 := ⟨1, by decide +kernel, rfl, rfl⟩
theorem F_167_74 : F 167 74 (.ifCond .gt 21) 77 := ⟨3, by decide +kernel, rfl, rfl⟩
theorem F_167_77 : F 167 77 (.iload 4) 79 := ⟨2, by decide +kernel, rfl, rfl⟩
theorem F_167_79 : F 167 79 (.i2l) 80 := ⟨1, by decide +kernel, rfl, rfl⟩
theorem F_167_80 : F 167 80 (.iload 5) 82 := ⟨2, by decide +kernel, rfl, rfl⟩
theorem F_167_82 : F 167 82 (.i2l) 83 := ⟨1, by decide +kernel, rfl, rfl⟩
theorem F_167_83 : F 167 83 (.ladd) 84 := ⟨1, by decide +kernel, rfl, rfl⟩
theorem F_167_84 : F 167 84 (.aload_n 0) 85 := ⟨1, by decide +kernel, rfl, rfl⟩
theorem F_167_85 : F 167 85 (.getfield 7) 88 := ⟨3, by decide +kernel, rfl, rfl⟩
theorem F_167_88 : F 167 88 (.iload_n 3) 89 := ⟨1, by decide +kernel, rfl, rfl⟩
theorem F_167_89 : F 167 89 (.iaload) 90 := ⟨1, by decide +kernel, rfl, rfl⟩
theorem F_167_90 : F 167 90 (.i2l) 91 := ⟨1, by decide +kernel, rfl, rfl⟩
theorem F_167_91 : F 167 91 (.lcmp) 92 := ⟨1, by decide +kernel, rfl, rfl⟩
theorem F_167_92 : F 167 92 (.ifCond .le 9) 95 := ⟨3, by decide +kernel, rfl, rfl⟩
theorem F_167_101 : F 167 101 (.iconst 0) 102 := ⟨1, by decide +kernel, rfl, rfl⟩
theorem F_167_102 : F 167 102 (.istore 6) 104 := ⟨2, by decide +kernel, rfl, rfl⟩
theorem F_167_21 : F 167 21 (.aload_n 0) 22 := ⟨1, by decide +kernel, rfl, rfl⟩
theorem F_167_22 : F 167 22 (.iconst 5) 23 := ⟨1, by decide +kernel, rfl, rfl⟩
theorem F_167_23 : F 167 23 (.invokevirtual 75) 26 := ⟨3, by decide +kernel, rfl, rfl⟩
theorem F_167_26 : F 167 26 (.ireturn) 27 := ⟨1, by decide +kernel, rfl, rfl⟩
theorem F_167_104 : F 167 104 (.iload 6) 106 := ⟨2, by decide +kernel, rfl, rfl⟩
theorem F_167_106 : F 167 106 (.iload 5) 108 := ⟨2, by decide +kernel, rfl, rfl⟩
theorem F_167_108 : F 167 108 (.if_icmp .ge 30) 111 := ⟨3, by decide +kernel, rfl, rfl⟩
theorem F_167_138 : F 167 138 (.iconst 0) 139 := ⟨1, by decide +kernel, rfl, rfl⟩
theorem F_167_139 : F 167 139 (.istore 6) 141 := ⟨2, by decide +kernel, rfl, rfl⟩
theorem F_167_111 : F 167 111 (.aload_n 0) 112 := ⟨1, by decide +kernel, rfl, rfl⟩
theorem F_167_112 : F 167 112 (.getfield 16) 115 := ⟨3, by decide +kernel, rfl, rfl⟩
theorem fl_6_16 : m_fl.lookup (6, 16) = some (6, 2, 4147) := by decide +kernel
theorem kd_77_2 : kd 77 2 = 82 := by decide +kernel
theorem rf_77_2 : rf 77 2 = 80 := by decide +kernel
theorem F_167_115 : F 167 115 (.iload 6) 117 := ⟨2, by decide +kernel, rfl, rfl⟩
theorem F_167_117 : F 167 117 (.aload_n 0) 118 := ⟨1, by decide +kernel, rfl, rfl⟩
theorem F_167_118 : F 167 118 (.getfield 13) 121 := ⟨3, by decide +kernel, rfl, rfl⟩
theorem F_167_121 : F 167 121 (.bipush 40) 123 := ⟨2, by decide +kernel, rfl, rfl⟩
theorem F_167_123 : F 167 123 (.iload_n 1) 124 := ⟨1, by decide +kernel, rfl, rfl⟩
theorem F_167_124 : F 167 124 (.imul) 125 := ⟨1, by decide +kernel, rfl, rfl⟩
theorem F_167_125 : F 167 125 (.iload_n 2) 126 := ⟨1, by decide +kernel, rfl, rfl⟩
theorem F_167_126 : F 167 126 (.iadd) 127 := ⟨1, by decide +kernel, rfl, rfl⟩
theorem F_167_127 : F 167 127 (.iload 6) 129 := ⟨2, by decide +kernel, rfl, rfl⟩
theorem F_167_129 : F 167 129 (.iadd) 130 := ⟨1, by decide +kernel, rfl, rfl⟩
theorem F_167_130 : F 167 130 (.iaload) 131 := ⟨1, by decide +kernel, rfl, rfl⟩
theorem F_167_131 : F 167 131 (.iastore) 132 := ⟨1, by decide +kernel, rfl, rfl⟩
theorem F_167_132 : F 167 132 (.iinc 6 1) 135 := ⟨3, by decide +kernel, rfl, rfl⟩
theorem F_167_135 : F 167 135 (.goto (-31)) 138 := ⟨3, by decide +kernel, rfl, rfl⟩
theorem F_167_141 : F 167 141 (.iload 6) 143 := ⟨2, by decide +kernel, rfl, rfl⟩
theorem F_167_143 : F 167 143 (.iload 5) 145 := ⟨2, by decide +kernel, rfl, rfl⟩
theorem F_167_145 : F 167 145 (.if_icmp .ge 31) 148 := ⟨3, by decide +kernel, rfl, rfl⟩
theorem F_167_176 : F 167 176 (.iconst 1) 177 := ⟨1, by decide +kernel, rfl, rfl⟩
theorem F_167_177 : F 167 177 (.ireturn) 178 := ⟨1, by decide +kernel, rfl, rfl⟩
theorem F_167_148 : F 167 148 (.aload_n 0) 149 := ⟨1, by decide +kernel, rfl, rfl⟩
theorem F_167_149 : F 167 149 (.getfield 13) 152 := ⟨3, by decide +kernel, rfl, rfl⟩
theorem F_167_152 : F 167 152 (.bipush 40) 154 := ⟨2, by decide +kernel, rfl, rfl⟩
theorem F_167_154 : F 167 154 (.iload_n 3) 155 := ⟨1, by decide +kernel, rfl, rfl⟩
theorem F_167_155 : F 167 155 (.imul) 156 := ⟨1, by decide +kernel, rfl, rfl⟩
theorem F_167_156 : F 167 156 (.iload 4) 158 := ⟨2, by decide +kernel, rfl, rfl⟩
theorem F_167_158 : F 167 158 (.iadd) 159 := ⟨1, by decide +kernel, rfl, rfl⟩
theorem F_167_159 : F 167 159 (.iload 6) 161 := ⟨2, by decide +kernel, rfl, rfl⟩
theorem F_167_161 : F 167 161 (.iadd) 162 := ⟨1, by decide +kernel, rfl, rfl⟩
theorem F_167_162 : F 167 162 (.aload_n 0) 163 := ⟨1, by decide +kernel, rfl, rfl⟩
theorem F_167_163 : F 167 163 (.getfield 16) 166 := ⟨3, by decide +kernel, rfl, rfl⟩
theorem F_167_166 : F 167 166 (.iload 6) 168 := ⟨2, by decide +kernel, rfl, rfl⟩
theorem F_167_168 : F 167 168 (.iaload) 169 := ⟨1, by decide +kernel, rfl, rfl⟩
theorem F_167_169 : F 167 169 (.iastore) 170 := ⟨1, by decide +kernel, rfl, rfl⟩
theorem F_167_170 : F 167 170 (.iinc 6 1) 173 := ⟨3, by decide +kernel, rfl, rfl⟩
theorem F_167_173 : F 167 173 (.goto (-32)) 176 := ⟨3, by decide +kernel, rfl, rfl⟩
theorem n_168 : m_n 168 = 5 := by decide +kernel
theorem F_168_0 : F 168 0 (.iload_n 1) 1 := ⟨1, by decide +kernel, rfl, rfl⟩
theorem F_168_1 : F 168 1 (.invokestatic 71) 4 := ⟨3, by decide +kernel, rfl, rfl⟩
theorem o_168 : m_o 168 = 6 := by decide +kernel
theorem F_168_4 : F 168 4 (.ifCond .ne 5) 7 := ⟨3, by decide +kernel, rfl, rfl⟩
theorem F_168_7 : F 168 7 (.iconst (-1)) 8 := ⟨1, by decide +kernel, rfl, rfl⟩
theorem F_168_8 : F 168 8 (.ireturn) 9 := ⟨1, by decide +kernel, rfl, rfl⟩
theorem rt_168 : m_r 168 = (some .int) := by decide +kernel
theorem F_168_9 : F 168 9 (.aload_n 0) 10 := ⟨1, by decide +kernel, rfl, rfl⟩
theorem F_168_10 : F 168 10 (.getfield 7) 13 := ⟨3, by decide +kernel, rfl, rfl⟩
theorem F_168_13 : F 168 13 (.iload_n 1) 14 := ⟨1, by decide +kernel, rfl, rfl⟩
theorem F_168_14 : F 168 14 (.iaload) 15 := ⟨1, by decide +kernel, rfl, rfl⟩
theorem F_168_15 : F 168 15 (.ifCond .ge 9) 18 := ⟨3, by decide +kernel, rfl, rfl⟩
theorem F_168_24 : F 168 24 (.aload_n 0) 25 := ⟨1, by decide +kernel, rfl, rfl⟩
theorem F_168_25 : F 168 25 (.getfield 7) 28 := ⟨3, by decide +kernel, rfl, rfl⟩
theorem F_168_28 : F 168 28 (.iload_n 1) 29 := ⟨1, by decide +kernel, rfl, rfl⟩
theorem F_168_29 : F 168 29 (.iaload) 30 := ⟨1, by decide +kernel, rfl, rfl⟩
theorem F_168_30 : F 168 30 (.ifCond .ne 9) 33 := ⟨3, by decide +kernel, rfl, rfl⟩
theorem F_168_39 : F 168 39 (.lconst 0) 40 := ⟨1, by decide +kernel, rfl, rfl⟩
theorem F_168_40 : F 168 40 (.lstore_n 2) 41 := ⟨1, by decide +kernel, rfl, rfl⟩
theorem F_168_41 : F 168 41 (.iconst 0) 42 := ⟨1, by decide +kernel, rfl, rfl⟩
theorem F_168_42 : F 168 42 (.istore 4) 44 := ⟨2, by decide +kernel, rfl, rfl⟩
theorem F_168_33 : F 168 33 (.aload_n 0) 34 := ⟨1, by decide +kernel, rfl, rfl⟩
theorem F_168_34 : F 168 34 (.iconst 4) 35 := ⟨1, by decide +kernel, rfl, rfl⟩
theorem F_168_35 : F 168 35 (.invokevirtual 75) 38 := ⟨3, by decide +kernel, rfl, rfl⟩
theorem F_168_38 : F 168 38 (.ireturn) 39 := ⟨1, by decide +kernel, rfl, rfl⟩
theorem F_168_18 : F 168 18 (.aload_n 0) 19 := ⟨1, by decide +kernel, rfl, rfl⟩
theorem F_168_19 : F 168 19 (.iconst 1) 20 := ⟨1, by decide +kernel, rfl, rfl⟩
theorem F_168_20 : F 168 20 (.invokevirtual 75) 23 := ⟨3, by decide +kernel, rfl, rfl⟩
theorem F_168_23 : F 168 23 (.ireturn) 24 := ⟨1, by decide +kernel, rfl, rfl⟩
theorem F_168_44 : F 168 44 (.iload 4) 46 := ⟨2, by decide +kernel, rfl, rfl⟩
theorem F_168_46 : F 168 46 (.aload_n 0) 47 := ⟨1, by decide +kernel, rfl, rfl⟩
theorem F_168_47 : F 168 47 (.getfield 7) 50 := ⟨3, by decide +kernel, rfl, rfl⟩
theorem F_168_50 : F 168 50 (.iload_n 1) 51 := ⟨1, by decide +kernel, rfl, rfl⟩
theorem F_168_51 : F 168 51 (.iaload) 52 := ⟨1, by decide +kernel, rfl, rfl⟩
theorem F_168_52 : F 168 52 (.if_icmp .ge 25) 55 := ⟨3, by decide +kernel, rfl, rfl⟩
theorem F_168_77 : F 168 77 (.aload_n 0) 78 := ⟨1, by decide +kernel, rfl, rfl⟩
theorem F_168_78 : F 168 78 (.iconst 1) 79 := ⟨1, by decide +kernel, rfl, rfl⟩
theorem F_168_79 : F 168 79 (.lload_n 2) 80 := ⟨1, by decide +kernel, rfl, rfl⟩
theorem F_168_80 : F 168 80 (.aload_n 0) 81 := ⟨1, by decide +kernel, rfl, rfl⟩
theorem F_168_81 : F 168 81 (.getfield 7) 84 := ⟨3, by decide +kernel, rfl, rfl⟩
theorem F_168_84 : F 168 84 (.iload_n 1) 85 := ⟨1, by decide +kernel, rfl, rfl⟩
theorem F_168_85 : F 168 85 (.iaload) 86 := ⟨1, by decide +kernel, rfl, rfl⟩
theorem F_168_86 : F 168 86 (.i2l) 87 := ⟨1, by decide +kernel, rfl, rfl⟩
theorem F_168_87 : F 168 87 (.ldiv) 88 := ⟨1, by decide +kernel, rfl, rfl⟩
theorem F_168_88 : F 168 88 (.l2i) 89 := ⟨1, by decide +kernel, rfl, rfl⟩
theorem F_168_89 : F 168 89 (.invokevirtual 87) 92 := ⟨3, by decide +kernel, rfl, rfl⟩
theorem F_168_92 : F 168 92 (.ireturn) 93 := ⟨1, by decide +kernel, rfl, rfl⟩
theorem F_168_55 : F 168 55 (.lload_n 2) 56 := ⟨1, by decide +kernel, rfl, rfl⟩
theorem F_168_56 : F 168 56 (.aload_n 0) 57 := ⟨1, by decide +kernel, rfl, rfl⟩
theorem F_168_57 : F 168 57 (.getfield 13) 60 := ⟨3, by decide +kernel, rfl, rfl⟩
theorem F_168_60 : F 168 60 (.bipush 40) 62 := ⟨2, by decide +kernel, rfl, rfl⟩
theorem F_168_62 : F 168 62 (.iload_n 1) 63 := ⟨1, by decide +kernel, rfl, rfl⟩
theorem F_168_63 : F 168 63 (.imul) 64 := ⟨1, by decide +kernel, rfl, rfl⟩
theorem F_168_64 : F 168 64 (.iload 4) 66 := ⟨2, by decide +kernel, rfl, rfl⟩
theorem F_168_66 : F 168 66 (.iadd) 67 := ⟨1, by decide +kernel, rfl, rfl⟩
theorem F_168_67 : F 168 67 (.iaload) 68 := ⟨1, by decide +kernel, rfl, rfl⟩
theorem F_168_68 : F 168 68 (.i2l) 69 := ⟨1, by decide +kernel, rfl, rfl⟩
theorem F_168_69 : F 168 69 (.ladd) 70 := ⟨1, by decide +kernel, rfl, rfl⟩
theorem F_168_70 : F 168 70 (.lstore_n 2) 71 := ⟨1, by decide +kernel, rfl, rfl⟩
theorem F_168_71 : F 168 71 (.iinc 4 1) 74 := ⟨3, by decide +kernel, rfl, rfl⟩
theorem F_168_74 : F 168 74 (.goto (-30)) 77 := ⟨3, by decide +kernel, rfl, rfl⟩
theorem n_169 : m_n 169 = 4 := by decide +kernel
theorem F_169_0 : F 169 0 (.iload_n 1) 1 := ⟨1, by decide +kernel, rfl, rfl⟩
theorem F_169_1 : F 169 1 (.invokestatic 90) 4 := ⟨3, by decide +kernel, rfl, rfl⟩
theorem o_169 : m_o 169 = 6 := by decide +kernel
theorem il_6_90 : ilq 6 90 1 170 1 = true := by decide +kernel
theorem n_170 : m_n 170 = 1 := by decide +kernel
theorem F_170_0 : F 170 0 (.iload_n 0) 1 := ⟨1, by decide +kernel, rfl, rfl⟩
theorem F_170_1 : F 170 1 (.iconst 0) 2 := ⟨1, by decide +kernel, rfl, rfl⟩
theorem F_170_2 : F 170 2 (.iconst 3) 3 := ⟨1, by decide +kernel, rfl, rfl⟩
theorem F_170_3 : F 170 3 (.invokestatic 67) 6 := ⟨3, by decide +kernel, rfl, rfl⟩
theorem o_170 : m_o 170 = 6 := by decide +kernel
theorem F_170_6 : F 170 6 (.ireturn) 7 := ⟨1, by decide +kernel, rfl, rfl⟩
theorem rt_170 : m_r 170 = (some .boolean) := by decide +kernel
theorem F_169_4 : F 169 4 (.ifCond .eq 9) 7 := ⟨3, by decide +kernel, rfl, rfl⟩
theorem F_169_13 : F 169 13 (.iconst (-1)) 14 := ⟨1, by decide +kernel, rfl, rfl⟩
theorem F_169_14 : F 169 14 (.ireturn) 15 := ⟨1, by decide +kernel, rfl, rfl⟩
theorem rt_169 : m_r 169 = (some .int) := by decide +kernel
theorem F_169_7 : F 169 7 (.iload_n 2) 8 := ⟨1, by decide +kernel, rfl, rfl⟩
theorem F_169_8 : F 169 8 (.bipush 60) 10 := ⟨2, by decide +kernel, rfl, rfl⟩
theorem F_169_10 : F 169 10 (.if_icmp .le 5) 13 := ⟨3, by decide +kernel, rfl, rfl⟩
theorem F_169_15 : F 169 15 (.iload_n 2) 16 := ⟨1, by decide +kernel, rfl, rfl⟩
theorem F_169_16 : F 169 16 (.ifCond .ge 9) 19 := ⟨3, by decide +kernel, rfl, rfl⟩
theorem F_169_25 : F 169 25 (.aload_n 0) 26 := ⟨1, by decide +kernel, rfl, rfl⟩
theorem F_169_26 : F 169 26 (.getfield 19) 29 := ⟨3, by decide +kernel, rfl, rfl⟩
theorem fl_6_19 : m_fl.lookup (6, 19) = some (6, 3, 4148) := by decide +kernel
theorem kd_77_3 : kd 77 3 = 83 := by decide +kernel
theorem rf_77_3 : rf 77 3 = 81 := by decide +kernel
theorem F_169_29 : F 169 29 (.iload_n 1) 30 := ⟨1, by decide +kernel, rfl, rfl⟩
theorem F_169_30 : F 169 30 (.iload_n 2) 31 := ⟨1, by decide +kernel, rfl, rfl⟩
theorem F_169_31 : F 169 31 (.iastore) 32 := ⟨1, by decide +kernel, rfl, rfl⟩
theorem ln_81 : ln 81 = 4 := by decide +kernel
theorem ty_81 : ty 81 = 20 := by decide +kernel
theorem F_169_32 : F 169 32 (.iconst 0) 33 := ⟨1, by decide +kernel, rfl, rfl⟩
theorem F_169_33 : F 169 33 (.istore_n 3) 34 := ⟨1, by decide +kernel, rfl, rfl⟩
theorem F_169_19 : F 169 19 (.aload_n 0) 20 := ⟨1, by decide +kernel, rfl, rfl⟩
theorem F_169_20 : F 169 20 (.iconst 5) 21 := ⟨1, by decide +kernel, rfl, rfl⟩
theorem F_169_21 : F 169 21 (.invokevirtual 75) 24 := ⟨3, by decide +kernel, rfl, rfl⟩
theorem F_169_24 : F 169 24 (.ireturn) 25 := ⟨1, by decide +kernel, rfl, rfl⟩
theorem F_169_34 : F 169 34 (.iload_n 3) 35 := ⟨1, by decide +kernel, rfl, rfl⟩
theorem F_169_35 : F 169 35 (.bipush 60) 37 := ⟨2, by decide +kernel, rfl, rfl⟩
theorem F_169_37 : F 169 37 (.if_icmp .ge 22) 40 := ⟨3, by decide +kernel, rfl, rfl⟩
theorem F_169_59 : F 169 59 (.iload_n 2) 60 := ⟨1, by decide +kernel, rfl, rfl⟩
theorem F_169_60 : F 169 60 (.ireturn) 61 := ⟨1, by decide +kernel, rfl, rfl⟩
theorem F_169_40 : F 169 40 (.aload_n 0) 41 := ⟨1, by decide +kernel, rfl, rfl⟩
theorem F_169_41 : F 169 41 (.getfield 22) 44 := ⟨3, by decide +kernel, rfl, rfl⟩
theorem fl_6_22 : m_fl.lookup (6, 22) = some (6, 4, 4149) := by decide +kernel
theorem kd_77_4 : kd 77 4 = 84 := by decide +kernel
theorem rf_77_4 : rf 77 4 = 82 := by decide +kernel
theorem F_169_44 : F 169 44 (.bipush 60) 46 := ⟨2, by decide +kernel, rfl, rfl⟩
theorem F_169_46 : F 169 46 (.iload_n 1) 47 := ⟨1, by decide +kernel, rfl, rfl⟩
theorem F_169_47 : F 169 47 (.imul) 48 := ⟨1, by decide +kernel, rfl, rfl⟩
theorem F_169_48 : F 169 48 (.iload_n 3) 49 := ⟨1, by decide +kernel, rfl, rfl⟩
theorem F_169_49 : F 169 49 (.iadd) 50 := ⟨1, by decide +kernel, rfl, rfl⟩
theorem F_169_50 : F 169 50 (.bipush 32) 52 := ⟨2, by decide +kernel, rfl, rfl⟩
theorem F_169_52 : F 169 52 (.iastore) 53 := ⟨1, by decide +kernel, rfl, rfl⟩
theorem ln_82 : ln 82 = 240 := by decide +kernel
theorem ty_82 : ty 82 = 20 := by decide +kernel
theorem F_169_53 : F 169 53 (.iinc 3 1) 56 := ⟨3, by decide +kernel, rfl, rfl⟩
theorem F_169_56 : F 169 56 (.goto (-22)) 59 := ⟨3, by decide +kernel, rfl, rfl⟩
theorem n_171 : m_n 171 = 5 := by decide +kernel
theorem F_171_0 : F 171 0 (.iload_n 1) 1 := ⟨1, by decide +kernel, rfl, rfl⟩
theorem F_171_1 : F 171 1 (.invokestatic 90) 4 := ⟨3, by decide +kernel, rfl, rfl⟩
theorem o_171 : m_o 171 = 6 := by decide +kernel
theorem F_171_4 : F 171 4 (.ifCond .ne 5) 7 := ⟨3, by decide +kernel, rfl, rfl⟩
theorem F_171_7 : F 171 7 (.iconst (-1)) 8 := ⟨1, by decide +kernel, rfl, rfl⟩
theorem F_171_8 : F 171 8 (.ireturn) 9 := ⟨1, by decide +kernel, rfl, rfl⟩
theorem rt_171 : m_r 171 = (some .int) := by decide +kernel
theorem F_171_9 : F 171 9 (.aload_n 0) 10 := ⟨1, by decide +kernel, rfl, rfl⟩
theorem F_171_10 : F 171 10 (.getfield 19) 13 := ⟨3, by decide +kernel, rfl, rfl⟩
theorem F_171_13 : F 171 13 (.iload_n 1) 14 := ⟨1, by decide +kernel, rfl, rfl⟩
theorem F_171_14 : F 171 14 (.iaload) 15 := ⟨1, by decide +kernel, rfl, rfl⟩
theorem F_171_15 : F 171 15 (.ifCond .ge 9) 18 := ⟨3, by decide +kernel, rfl, rfl⟩
theorem F_171_24 : F 171 24 (.iload_n 2) 25 := ⟨1, by decide +kernel, rfl, rfl⟩
theorem F_171_25 : F 171 25 (.iconst 0) 26 := ⟨1, by decide +kernel, rfl, rfl⟩
theorem F_171_26 : F 171 26 (.aload_n 0) 27 := ⟨1, by decide +kernel, rfl, rfl⟩
theorem F_171_27 : F 171 27 (.getfield 19) 30 := ⟨3, by decide +kernel, rfl, rfl⟩
theorem F_171_30 : F 171 30 (.iload_n 1) 31 := ⟨1, by decide +kernel, rfl, rfl⟩
theorem F_171_31 : F 171 31 (.iaload) 32 := ⟨1, by decide +kernel, rfl, rfl⟩
theorem F_171_32 : F 171 32 (.iconst 1) 33 := ⟨1, by decide +kernel, rfl, rfl⟩
theorem F_171_33 : F 171 33 (.isub) 34 := ⟨1, by decide +kernel, rfl, rfl⟩
theorem F_171_34 : F 171 34 (.invokestatic 67) 37 := ⟨3, by decide +kernel, rfl, rfl⟩
theorem F_171_37 : F 171 37 (.ifCond .ne 9) 40 := ⟨3, by decide +kernel, rfl, rfl⟩
theorem F_171_40 : F 171 40 (.aload_n 0) 41 := ⟨1, by decide +kernel, rfl, rfl⟩
theorem F_171_41 : F 171 41 (.iconst 2) 42 := ⟨1, by decide +kernel, rfl, rfl⟩
theorem F_171_42 : F 171 42 (.invokevirtual 75) 45 := ⟨3, by decide +kernel, rfl, rfl⟩
theorem F_171_45 : F 171 45 (.ireturn) 46 := ⟨1, by decide +kernel, rfl, rfl⟩
theorem F_171_46 : F 171 46 (.aload_n 0) 47 := ⟨1, by decide +kernel, rfl, rfl⟩
theorem F_171_47 : F 171 47 (.getfield 22) 50 := ⟨3, by decide +kernel, rfl, rfl⟩
theorem F_171_50 : F 171 50 (.bipush 60) 52 := ⟨2, by decide +kernel, rfl, rfl⟩
theorem F_171_52 : F 171 52 (.iload_n 1) 53 := ⟨1, by decide +kernel, rfl, rfl⟩
theorem F_171_53 : F 171 53 (.imul) 54 := ⟨1, by decide +kernel, rfl, rfl⟩
theorem F_171_54 : F 171 54 (.iload_n 2) 55 := ⟨1, by decide +kernel, rfl, rfl⟩
theorem F_171_55 : F 171 55 (.iadd) 56 := ⟨1, by decide +kernel, rfl, rfl⟩
theorem F_171_56 : F 171 56 (.iaload) 57 := ⟨1, by decide +kernel, rfl, rfl⟩
theorem F_171_57 : F 171 57 (.istore 4) 59 := ⟨2, by decide +kernel, rfl, rfl⟩
theorem F_171_59 : F 171 59 (.aload_n 0) 60 := ⟨1, by decide +kernel, rfl, rfl⟩
theorem F_171_60 : F 171 60 (.getfield 22) 63 := ⟨3, by decide +kernel, rfl, rfl⟩
theorem F_171_63 : F 171 63 (.bipush 60) 65 := ⟨2, by decide +kernel, rfl, rfl⟩
theorem F_171_65 : F 171 65 (.iload_n 1) 66 := ⟨1, by decide +kernel, rfl, rfl⟩
theorem F_171_66 : F 171 66 (.imul) 67 := ⟨1, by decide +kernel, rfl, rfl⟩
theorem F_171_67 : F 171 67 (.iload_n 2) 68 := ⟨1, by decide +kernel, rfl, rfl⟩
theorem F_171_68 : F 171 68 (.iadd) 69 := ⟨1, by decide +kernel, rfl, rfl⟩
theorem F_171_69 : F 171 69 (.iload_n 3) 70 := ⟨1, by decide +kernel, rfl, rfl⟩
theorem F_171_70 : F 171 70 (.i2b) 71 := ⟨1, by decide +kernel, rfl, rfl⟩
theorem F_171_71 : F 171 71 (.iastore) 72 := ⟨1, by decide +kernel, rfl, rfl⟩
theorem F_171_72 : F 171 72 (.iload 4) 74 := ⟨2, by decide +kernel, rfl, rfl⟩
theorem F_171_74 : F 171 74 (.sipush 1000) 77 := ⟨3, by decide +kernel, rfl, rfl⟩
theorem F_171_77 : F 171 77 (.iadd) 78 := ⟨1, by decide +kernel, rfl, rfl⟩
theorem F_171_78 : F 171 78 (.ireturn) 79 := ⟨1, by decide +kernel, rfl, rfl⟩
theorem F_171_18 : F 171 18 (.aload_n 0) 19 := ⟨1, by decide +kernel, rfl, rfl⟩
theorem F_171_19 : F 171 19 (.iconst 1) 20 := ⟨1, by decide +kernel, rfl, rfl⟩
theorem F_171_20 : F 171 20 (.invokevirtual 75) 23 := ⟨3, by decide +kernel, rfl, rfl⟩
theorem F_171_23 : F 171 23 (.ireturn) 24 := ⟨1, by decide +kernel, rfl, rfl⟩
theorem n_247 : m_n 247 = 1 := by decide +kernel
theorem F_247_0 : F 247 0 (.aload_n 0) 1 := ⟨1, by decide +kernel, rfl, rfl⟩
theorem F_247_1 : F 247 1 (.getfield 61) 4 := ⟨3, by decide +kernel, rfl, rfl⟩
theorem o_247 : m_o 247 = 6 := by decide +kernel
theorem F_247_4 : F 247 4 (.ireturn) 5 := ⟨1, by decide +kernel, rfl, rfl⟩
theorem rt_247 : m_r 247 = (some .int) := by decide +kernel
theorem n_248 : m_n 248 = 1 := by decide +kernel
theorem F_248_0 : F 248 0 (.aload_n 0) 1 := ⟨1, by decide +kernel, rfl, rfl⟩
theorem F_248_1 : F 248 1 (.getfield 64) 4 := ⟨3, by decide +kernel, rfl, rfl⟩
theorem fl_6_64 : m_fl.lookup (6, 64) = some (6, 12, 4157) := by decide +kernel
theorem kd_77_12 : kd 77 12 = 1 := by decide +kernel
theorem o_248 : m_o 248 = 6 := by decide +kernel
theorem F_248_4 : F 248 4 (.lreturn) 5 := ⟨1, by decide +kernel, rfl, rfl⟩
theorem rt_248 : m_r 248 = (some .long) := by decide +kernel
theorem n_249 : m_n 249 = 1 := by decide +kernel
theorem F_249_0 : F 249 0 (.aload_n 0) 1 := ⟨1, by decide +kernel, rfl, rfl⟩
theorem F_249_1 : F 249 1 (.getfield 53) 4 := ⟨3, by decide +kernel, rfl, rfl⟩
theorem fl_6_53 : m_fl.lookup (6, 53) = some (6, 13, 4158) := by decide +kernel
theorem kd_77_13 : kd 77 13 = 1 := by decide +kernel
theorem o_249 : m_o 249 = 6 := by decide +kernel
theorem F_249_4 : F 249 4 (.lreturn) 5 := ⟨1, by decide +kernel, rfl, rfl⟩
theorem rt_249 : m_r 249 = (some .long) := by decide +kernel
theorem n_252 : m_n 252 = 1 := by decide +kernel
theorem F_252_0 : F 252 0 (.aload_n 0) 1 := ⟨1, by decide +kernel, rfl, rfl⟩
theorem F_252_1 : F 252 1 (.getfield 57) 4 := ⟨3, by decide +kernel, rfl, rfl⟩
theorem o_252 : m_o 252 = 6 := by decide +kernel
theorem F_252_4 : F 252 4 (.ireturn) 5 := ⟨1, by decide +kernel, rfl, rfl⟩
theorem rt_252 : m_r 252 = (some .int) := by decide +kernel
theorem n_253 : m_n 253 = 2 := by decide +kernel
theorem F_253_0 : F 253 0 (.iload_n 1) 1 := ⟨1, by decide +kernel, rfl, rfl⟩
theorem F_253_1 : F 253 1 (.iconst 1) 2 := ⟨1, by decide +kernel, rfl, rfl⟩
theorem F_253_2 : F 253 2 (.iconst 5) 3 := ⟨1, by decide +kernel, rfl, rfl⟩
theorem F_253_3 : F 253 3 (.invokestatic 67) 6 := ⟨3, by decide +kernel, rfl, rfl⟩
theorem o_253 : m_o 253 = 6 := by decide +kernel
theorem F_253_6 : F 253 6 (.ifCond .eq 12) 9 := ⟨3, by decide +kernel, rfl, rfl⟩
theorem F_253_18 : F 253 18 (.iconst (-1)) 19 := ⟨1, by decide +kernel, rfl, rfl⟩
theorem F_253_19 : F 253 19 (.ireturn) 20 := ⟨1, by decide +kernel, rfl, rfl⟩
theorem rt_253 : m_r 253 = (some .int) := by decide +kernel
theorem F_253_9 : F 253 9 (.aload_n 0) 10 := ⟨1, by decide +kernel, rfl, rfl⟩
theorem F_253_10 : F 253 10 (.getfield 38) 13 := ⟨3, by decide +kernel, rfl, rfl⟩
theorem F_253_13 : F 253 13 (.iload_n 1) 14 := ⟨1, by decide +kernel, rfl, rfl⟩
theorem F_253_14 : F 253 14 (.iaload) 15 := ⟨1, by decide +kernel, rfl, rfl⟩
theorem F_253_15 : F 253 15 (.goto 4) 18 := ⟨3, by decide +kernel, rfl, rfl⟩
theorem n_195 : m_n 195 = 2 := by decide +kernel
theorem F_195_0 : F 195 0 (.iload_n 1) 1 := ⟨1, by decide +kernel, rfl, rfl⟩
theorem F_195_1 : F 195 1 (.iconst 0) 2 := ⟨1, by decide +kernel, rfl, rfl⟩
theorem F_195_2 : F 195 2 (.bipush 15) 4 := ⟨2, by decide +kernel, rfl, rfl⟩
theorem F_195_4 : F 195 4 (.invokestatic 67) 7 := ⟨3, by decide +kernel, rfl, rfl⟩
theorem o_195 : m_o 195 = 6 := by decide +kernel
theorem F_195_7 : F 195 7 (.ifCond .eq 11) 10 := ⟨3, by decide +kernel, rfl, rfl⟩
theorem F_195_18 : F 195 18 (.iconst (-1)) 19 := ⟨1, by decide +kernel, rfl, rfl⟩
theorem F_195_19 : F 195 19 (.ireturn) 20 := ⟨1, by decide +kernel, rfl, rfl⟩
theorem rt_195 : m_r 195 = (some .int) := by decide +kernel
theorem F_195_10 : F 195 10 (.aload_n 0) 11 := ⟨1, by decide +kernel, rfl, rfl⟩
theorem F_195_11 : F 195 11 (.iload_n 1) 12 := ⟨1, by decide +kernel, rfl, rfl⟩
theorem F_195_12 : F 195 12 (.invokevirtual 162) 15 := ⟨3, by decide +kernel, rfl, rfl⟩
theorem il_6_162 : ilq 6 162 0 196 1 = true := by decide +kernel
theorem vy_196 : (m_cls 6).1 = (m_y 196).cls ∧ 6 < m_cl.length := by decide +kernel
theorem F_195_15 : F 195 15 (.goto 4) 18 := ⟨3, by decide +kernel, rfl, rfl⟩
theorem t_X6_row {X : List Int32} {d : Nat} {s : m_St} {P : Option Value → m_St → Prop} {r n : Int}
    (l1 : inR r)
    (l2 : r < 0 → P (some (vI (-1))) s)
    (l3 : 0 ≤ r → 5 < r → P (some (vI (-1))) s)
    (l4 : 0 ≤ r → r ≤ 5 → inR n)
    (l5 : 0 ≤ r → r ≤ 5 → n ≤ 40 → 0 ≤ n → r < 6)
    (l6 : 0 ≤ r → r ≤ 5 → n ≤ 40 → 0 ≤ n → P (some (vI n)) (rwr (m_upd s 78 r n) 79 (40 * r) 40 (fun _ => 0)))
    (l7 : 0 ≤ r → r ≤ 5 → n ≤ 40 → n < 0 → P (some (vI (-3))) (m_upd (m_upd s 77 10 5) 87 5 ((s 87 5) + 1)))
    (l8 : 0 ≤ r → r ≤ 5 → 40 < n → P (some (vI (-1))) s)
    : Cl X (d + 2) 158 [vR 77, vI r, vI n] s P := by
  refine Cl_of n_158 rfl ?_
  show Rn _ _ _ _ [some (vR 77), some (vI r), some (vI n)] [] _ _
  refine r_ldI_n (m := 1) F_158_0 rfl ?_
  refine r_stat2 (A := [vI r]) (r := []) (n := 1) F_158_1 o_158 il_6_71 (by decide) rfl rfl rfl rfl (lay_le n_159 rfl) ?_
  refine Cl_of n_159 rfl ?_
  show Rn _ _ _ _ [some (vI r)] [] _ _
  refine r_ldI_n (m := 0) F_159_0 rfl ?_
  refine r_iconst F_159_1 ?_
  refine r_iconst F_159_2 ?_
  refine r_stat2 (A := [vI r, vI 0, vI 5]) (r := []) (n := 3) F_159_3 o_159 il_6_67 (by decide) rfl rfl rfl rfl (lay_le n_160 rfl) ?_
  refine Cl_of n_160 rfl ?_
  show Rn _ _ _ _ [some (vI r), some (vI 0), some (vI 5)] [] _ _
  refine r_ldI_n (m := 0) F_160_0 rfl ?_
  refine r_ldI_n (m := 1) F_160_1 rfl ?_
  refine r_icmp (t := 14) F_160_2 rfl l1 (by decide) ?_ ?_
  · intro e1
    replace e1 : r < 0 := e1
    refine r_iconst F_160_14 ?_
    refine r_zreturn F_160_15 rt_160 (Or.inl rfl) ?_
    show Rn _ _ _ _ _ [vI 0] _ _
    refine r_zreturn F_159_6 rt_159 (Or.inl rfl) ?_
    show Rn _ _ _ _ _ [vI 0] _ _
    refine r_ifT (t := 13) F_158_4 rfl (by decide) (by show (0 : Int) = 0; decide) ?_
    refine r_iconst F_158_13 ?_
    refine r_ireturn F_158_14 rt_158 ?_
    exact (l2 e1)
  · intro e2
    replace e2 : 0 ≤ r := (Int.not_lt.mp e2)
    refine r_ldI_n (m := 0) F_160_5 rfl ?_
    refine r_ldI_n (m := 2) F_160_6 rfl ?_
    refine r_icmp (t := 14) F_160_7 rfl l1 (by decide) ?_ ?_
    · intro e3
      replace e3 : 5 < r := e3
      refine r_iconst F_160_14 ?_
      refine r_zreturn F_160_15 rt_160 (Or.inl rfl) ?_
      show Rn _ _ _ _ _ [vI 0] _ _
      refine r_zreturn F_159_6 rt_159 (Or.inl rfl) ?_
      show Rn _ _ _ _ _ [vI 0] _ _
      refine r_ifT (t := 13) F_158_4 rfl (by decide) (by show (0 : Int) = 0; decide) ?_
      refine r_iconst F_158_13 ?_
      refine r_ireturn F_158_14 rt_158 ?_
      exact (l3 e2 e3)
    · intro e4
      replace e4 : r ≤ 5 := (Int.not_lt.mp e4)
      refine r_iconst F_160_10 ?_
      refine r_goto (t := 15) F_160_11 rfl ?_
      refine r_zreturn F_160_15 rt_160 (Or.inr rfl) ?_
      show Rn _ _ _ _ _ [vI 1] _ _
      refine r_zreturn F_159_6 rt_159 (Or.inr rfl) ?_
      show Rn _ _ _ _ _ [vI 1] _ _
      refine r_ifF (t := 13) F_158_4 rfl (by decide) (by show ¬ ((1 : Int) = 0); decide) ?_
      refine r_ldI_n (m := 2) F_158_7 rfl ?_
      refine r_bipush F_158_8 bi_40 ?_
      refine r_icmp (t := 15) F_158_10 rfl (l4 e2 e4) (by decide) ?_ ?_
      · intro e5
        replace e5 : n ≤ 40 := e5
        refine r_ldI_n (m := 2) F_158_15 rfl ?_
        refine r_if (t := 25) F_158_16 rfl (l4 e2 e4) ?_ ?_
        · intro e6
          replace e6 : 0 ≤ n := e6
          refine r_ldR_n (m := 0) F_158_25 rfl ?_
          refine r_ldI_n (m := 1) F_158_26 rfl ?_
          refine r_ldI_n (m := 2) F_158_27 rfl ?_
          refine r_virt2 (A := [vI r, vI n]) (r := []) (n := 2) F_158_28 o_158 il_6_79 rfl rfl rfl rfl ty_77 vy_162 (lay_le n_162 rfl) ?_
          refine sp_lays e2 (l5 e2 e4 e5 e6) ?_
          show Rn _ _ _ _ _ [] _ _
          refine r_ldI_n (m := 2) F_158_31 rfl ?_
          refine r_ireturn F_158_32 rt_158 ?_
          exact (l6 e2 e4 e5 e6)
        · intro e7
          replace e7 : n < 0 := (Int.not_le.mp e7)
          refine r_ldR_n (m := 0) F_158_19 rfl ?_
          refine r_iconst F_158_20 ?_
          refine r_virt2 (A := [vI 5]) (r := []) (n := 1) F_158_21 o_158 il_6_75 rfl rfl rfl rfl ty_77 vy_161 (lay_le n_161 rfl) ?_
          refine Cl_of n_161 rfl ?_
          show Rn _ _ _ _ [some (vR 77), some (vI 5)] [] _ _
          refine r_ldR_n (m := 0) F_161_0 rfl ?_
          refine r_ldI_n (m := 1) F_161_1 rfl ?_
          refine r_putI (J := 10) F_161_2 o_161 fl_6_57 ty_77 (by decide) rfl kd_77_10 pf_6_10 ?_
          refine r_ldR_n (m := 0) F_161_5 rfl ?_
          refine r_getR (J := 9) F_161_6 o_161 fl_6_38 ty_77 (by decide) rfl (kd2 kd_77_9 (by decide)) (kd9 kd_77_9 (by decide)) rf_77_9 ?_
          refine r_ldI_n (m := 1) F_161_9 rfl ?_
          refine r_dup2 F_161_10 ?_
          refine r_iald (e := (s 87 5)) F_161_11 ty_87 (by decide) (lt_ln ln_87 (by decide)) (upd_nc (by decide)) ?_
          refine r_iconst F_161_12 ?_
          refine r_iadd F_161_13 rfl ?_
          refine r_iast F_161_14 ty_87 (by decide) (lt_ln ln_87 (by decide)) ?_
          refine r_bipush F_161_15 bi__3 ?_
          refine r_ireturn F_161_17 rt_161 ?_
          show Rn _ _ _ _ _ [vI (-3)] _ _
          refine r_ireturn F_158_24 rt_158 ?_
          exact (l7 e2 e4 e5 e7)
      · intro e8
        replace e8 : 40 < n := (Int.not_le.mp e8)
        refine r_iconst F_158_13 ?_
        refine r_ireturn F_158_14 rt_158 ?_
        exact (l8 e2 e4 e8)
theorem t_X6_lay {X : List Int32} {d : Nat} {s : m_St} {P : Option Value → m_St → Prop} {r j v : Int}
    (l1 : inR r)
    (l2 : r < 0 → P (some (vI (-1))) s)
    (l3 : 0 ≤ r → 5 < r → P (some (vI (-1))) s)
    (l4 : 0 ≤ r → r ≤ 5 → r < 6)
    (l5 : 0 ≤ r → r ≤ 5 → inR (s 78 r))
    (l6 : 0 ≤ r → r ≤ 5 → 0 ≤ (s 78 r) → inR j)
    (l7 : 0 ≤ r → r ≤ 5 → 0 ≤ (s 78 r) → j < 0 → P (some (vI (-3))) (m_upd (m_upd s 77 10 2) 87 2 ((s 87 2) + 1)))
    (l8 : 0 ≤ r → r ≤ 5 → 0 ≤ (s 78 r) → 0 ≤ j → inR ((s 78 r) - 1))
    (l9 : 0 ≤ r → r ≤ 5 → 0 ≤ (s 78 r) → 0 ≤ j → ((s 78 r) - 1) < j → P (some (vI (-3))) (m_upd (m_upd s 77 10 2) 87 2 ((s 87 2) + 1)))
    (l10 : 0 ≤ r → r ≤ 5 → 0 ≤ (s 78 r) → 0 ≤ j → j ≤ ((s 78 r) - 1) → 0 ≤ ((40 * r) + j))
    (l11 : 0 ≤ r → r ≤ 5 → 0 ≤ (s 78 r) → 0 ≤ j → j ≤ ((s 78 r) - 1) → ((40 * r) + j) < 240)
    (l12 : 0 ≤ r → r ≤ 5 → 0 ≤ (s 78 r) → 0 ≤ j → j ≤ ((s 78 r) - 1) → P (some (vI 1)) (m_upd (m_upd s 77 11 (s 79 ((40 * r) + j))) 79 ((40 * r) + j) v))
    (l13 : 0 ≤ r → r ≤ 5 → (s 78 r) < 0 → P (some (vI (-3))) (m_upd (m_upd s 77 10 1) 87 1 ((s 87 1) + 1)))
    : Cl X (d + 3) 163 [vR 77, vI r, vI j, vI v] s P := by
  refine Cl_of n_163 rfl ?_
  show Rn _ _ _ _ [some (vR 77), some (vI r), some (vI j), some (vI v), none] [] _ _
  refine r_ldR_n (m := 0) F_163_0 rfl ?_
  refine r_ldI_n (m := 1) F_163_1 rfl ?_
  refine r_ldI_n (m := 2) F_163_2 rfl ?_
  refine r_virt2 (A := [vI r, vI j]) (r := []) (n := 2) F_163_3 o_163 il_6_83 rfl rfl rfl rfl ty_77 vy_164 (lay_le n_164 rfl) ?_
  refine Cl_of n_164 rfl ?_
  show Rn _ _ _ _ [some (vR 77), some (vI r), some (vI j)] [] _ _
  refine r_ldI_n (m := 1) F_164_0 rfl ?_
  refine r_stat2 (A := [vI r]) (r := []) (n := 1) F_164_1 o_164 il_6_71 (by decide) rfl rfl rfl rfl (lay_le n_159 rfl) ?_
  refine Cl_of n_159 rfl ?_
  show Rn _ _ _ _ [some (vI r)] [] _ _
  refine r_ldI_n (m := 0) F_159_0 rfl ?_
  refine r_iconst F_159_1 ?_
  refine r_iconst F_159_2 ?_
  refine r_stat2 (A := [vI r, vI 0, vI 5]) (r := []) (n := 3) F_159_3 o_159 il_6_67 (by decide) rfl rfl rfl rfl (lay_le n_160 rfl) ?_
  refine Cl_of n_160 rfl ?_
  show Rn _ _ _ _ [some (vI r), some (vI 0), some (vI 5)] [] _ _
  refine r_ldI_n (m := 0) F_160_0 rfl ?_
  refine r_ldI_n (m := 1) F_160_1 rfl ?_
  refine r_icmp (t := 14) F_160_2 rfl l1 (by decide) ?_ ?_
  · intro e1
    replace e1 : r < 0 := e1
    refine r_iconst F_160_14 ?_
    refine r_zreturn F_160_15 rt_160 (Or.inl rfl) ?_
    show Rn _ _ _ _ _ [vI 0] _ _
    refine r_zreturn F_159_6 rt_159 (Or.inl rfl) ?_
    show Rn _ _ _ _ _ [vI 0] _ _
    refine r_ifF (t := 9) F_164_4 rfl (by decide) (by show ¬ (¬ (0 : Int) = 0); decide) ?_
    refine r_iconst F_164_7 ?_
    refine r_ireturn F_164_8 rt_164 ?_
    show Rn _ _ _ _ _ [vI (-1)] _ _
    refine r_stI (m := 4) (L' := [some (vR 77), some (vI r), some (vI j), some (vI v), some (vI (-1))]) F_163_6 rfl rfl ?_
    refine r_ldI (m := 4) F_163_8 rfl ?_
    refine r_iconst F_163_10 ?_
    refine r_icmpT (t := 26) F_163_11 rfl (by decide) (by decide) (by show ¬ ((-1) : Int) = 1; decide) ?_
    refine r_ldI (m := 4) F_163_26 rfl ?_
    refine r_ireturn F_163_28 rt_163 ?_
    exact (l2 e1)
  · intro e2
    replace e2 : 0 ≤ r := (Int.not_lt.mp e2)
    refine r_ldI_n (m := 0) F_160_5 rfl ?_
    refine r_ldI_n (m := 2) F_160_6 rfl ?_
    refine r_icmp (t := 14) F_160_7 rfl l1 (by decide) ?_ ?_
    · intro e3
      replace e3 : 5 < r := e3
      refine r_iconst F_160_14 ?_
      refine r_zreturn F_160_15 rt_160 (Or.inl rfl) ?_
      show Rn _ _ _ _ _ [vI 0] _ _
      refine r_zreturn F_159_6 rt_159 (Or.inl rfl) ?_
      show Rn _ _ _ _ _ [vI 0] _ _
      refine r_ifF (t := 9) F_164_4 rfl (by decide) (by show ¬ (¬ (0 : Int) = 0); decide) ?_
      refine r_iconst F_164_7 ?_
      refine r_ireturn F_164_8 rt_164 ?_
      show Rn _ _ _ _ _ [vI (-1)] _ _
      refine r_stI (m := 4) (L' := [some (vR 77), some (vI r), some (vI j), some (vI v), some (vI (-1))]) F_163_6 rfl rfl ?_
      refine r_ldI (m := 4) F_163_8 rfl ?_
      refine r_iconst F_163_10 ?_
      refine r_icmpT (t := 26) F_163_11 rfl (by decide) (by decide) (by show ¬ ((-1) : Int) = 1; decide) ?_
      refine r_ldI (m := 4) F_163_26 rfl ?_
      refine r_ireturn F_163_28 rt_163 ?_
      exact (l3 e2 e3)
    · intro e4
      replace e4 : r ≤ 5 := (Int.not_lt.mp e4)
      refine r_iconst F_160_10 ?_
      refine r_goto (t := 15) F_160_11 rfl ?_
      refine r_zreturn F_160_15 rt_160 (Or.inr rfl) ?_
      show Rn _ _ _ _ _ [vI 1] _ _
      refine r_zreturn F_159_6 rt_159 (Or.inr rfl) ?_
      show Rn _ _ _ _ _ [vI 1] _ _
      refine r_ifT (t := 9) F_164_4 rfl (by decide) (by show ¬ (1 : Int) = 0; decide) ?_
      refine r_ldR_n (m := 0) F_164_9 rfl ?_
      refine r_getR (J := 0) F_164_10 o_164 fl_6_7 ty_77 (by decide) rfl (kd2 kd_77_0 (by decide)) (kd9 kd_77_0 (by decide)) rf_77_0 ?_
      refine r_ldI_n (m := 1) F_164_13 rfl ?_
      refine r_iald (e := (s 78 r)) F_164_14 ty_78 e2 (lt_ln ln_78 (l4 e2 e4)) rfl ?_
      refine r_if (t := 24) F_164_15 rfl (l5 e2 e4) ?_ ?_
      · intro e5
        replace e5 : 0 ≤ (s 78 r) := e5
        refine r_ldI_n (m := 2) F_164_24 rfl ?_
        refine r_iconst F_164_25 ?_
        refine r_ldR_n (m := 0) F_164_26 rfl ?_
        refine r_getR (J := 0) F_164_27 o_164 fl_6_7 ty_77 (by decide) rfl (kd2 kd_77_0 (by decide)) (kd9 kd_77_0 (by decide)) rf_77_0 ?_
        refine r_ldI_n (m := 1) F_164_30 rfl ?_
        refine r_iald (e := (s 78 r)) F_164_31 ty_78 e2 (lt_ln ln_78 (l4 e2 e4)) rfl ?_
        refine r_iconst F_164_32 ?_
        refine r_isub F_164_33 rfl ?_
        refine r_stat2 (A := [vI j, vI 0, vI ((s 78 r) - 1)]) (r := []) (n := 3) F_164_34 o_164 il_6_67 (by decide) rfl rfl rfl rfl (lay_le n_160 rfl) ?_
        refine Cl_of n_160 rfl ?_
        show Rn _ _ _ _ [some (vI j), some (vI 0), some (vI ((s 78 r) - 1))] [] _ _
        refine r_ldI_n (m := 0) F_160_0 rfl ?_
        refine r_ldI_n (m := 1) F_160_1 rfl ?_
        refine r_icmp (t := 14) F_160_2 rfl (l6 e2 e4 e5) (by decide) ?_ ?_
        · intro e6
          replace e6 : j < 0 := e6
          refine r_iconst F_160_14 ?_
          refine r_zreturn F_160_15 rt_160 (Or.inl rfl) ?_
          show Rn _ _ _ _ _ [vI 0] _ _
          refine r_ifT (t := 59) F_164_37 rfl (by decide) (by show (0 : Int) = 0; decide) ?_
          refine r_ldR_n (m := 0) F_164_59 rfl ?_
          refine r_iconst F_164_60 ?_
          refine r_virt2 (A := [vI 2]) (r := []) (n := 1) F_164_61 o_164 il_6_75 rfl rfl rfl rfl ty_77 vy_161 (lay_le n_161 rfl) ?_
          refine Cl_of n_161 rfl ?_
          show Rn _ _ _ _ [some (vR 77), some (vI 2)] [] _ _
          refine r_ldR_n (m := 0) F_161_0 rfl ?_
          refine r_ldI_n (m := 1) F_161_1 rfl ?_
          refine r_putI (J := 10) F_161_2 o_161 fl_6_57 ty_77 (by decide) rfl kd_77_10 pf_6_10 ?_
          refine r_ldR_n (m := 0) F_161_5 rfl ?_
          refine r_getR (J := 9) F_161_6 o_161 fl_6_38 ty_77 (by decide) rfl (kd2 kd_77_9 (by decide)) (kd9 kd_77_9 (by decide)) rf_77_9 ?_
          refine r_ldI_n (m := 1) F_161_9 rfl ?_
          refine r_dup2 F_161_10 ?_
          refine r_iald (e := (s 87 2)) F_161_11 ty_87 (by decide) (lt_ln ln_87 (by decide)) (upd_nc (by decide)) ?_
          refine r_iconst F_161_12 ?_
          refine r_iadd F_161_13 rfl ?_
          refine r_iast F_161_14 ty_87 (by decide) (lt_ln ln_87 (by decide)) ?_
          refine r_bipush F_161_15 bi__3 ?_
          refine r_ireturn F_161_17 rt_161 ?_
          show Rn _ _ _ _ _ [vI (-3)] _ _
          refine r_ireturn F_164_64 rt_164 ?_
          show Rn _ _ _ _ _ [vI (-3)] _ _
          refine r_stI (m := 4) (L' := [some (vR 77), some (vI r), some (vI j), some (vI v), some (vI (-3))]) F_163_6 rfl rfl ?_
          refine r_ldI (m := 4) F_163_8 rfl ?_
          refine r_iconst F_163_10 ?_
          refine r_icmpT (t := 26) F_163_11 rfl (by decide) (by decide) (by show ¬ ((-3) : Int) = 1; decide) ?_
          refine r_ldI (m := 4) F_163_26 rfl ?_
          refine r_ireturn F_163_28 rt_163 ?_
          exact (l7 e2 e4 e5 e6)
        · intro e7
          replace e7 : 0 ≤ j := (Int.not_lt.mp e7)
          refine r_ldI_n (m := 0) F_160_5 rfl ?_
          refine r_ldI_n (m := 2) F_160_6 rfl ?_
          refine r_icmp (t := 14) F_160_7 rfl (l6 e2 e4 e5) (l8 e2 e4 e5 e7) ?_ ?_
          · intro e8
            replace e8 : ((s 78 r) - 1) < j := e8
            refine r_iconst F_160_14 ?_
            refine r_zreturn F_160_15 rt_160 (Or.inl rfl) ?_
            show Rn _ _ _ _ _ [vI 0] _ _
            refine r_ifT (t := 59) F_164_37 rfl (by decide) (by show (0 : Int) = 0; decide) ?_
            refine r_ldR_n (m := 0) F_164_59 rfl ?_
            refine r_iconst F_164_60 ?_
            refine r_virt2 (A := [vI 2]) (r := []) (n := 1) F_164_61 o_164 il_6_75 rfl rfl rfl rfl ty_77 vy_161 (lay_le n_161 rfl) ?_
            refine Cl_of n_161 rfl ?_
            show Rn _ _ _ _ [some (vR 77), some (vI 2)] [] _ _
            refine r_ldR_n (m := 0) F_161_0 rfl ?_
            refine r_ldI_n (m := 1) F_161_1 rfl ?_
            refine r_putI (J := 10) F_161_2 o_161 fl_6_57 ty_77 (by decide) rfl kd_77_10 pf_6_10 ?_
            refine r_ldR_n (m := 0) F_161_5 rfl ?_
            refine r_getR (J := 9) F_161_6 o_161 fl_6_38 ty_77 (by decide) rfl (kd2 kd_77_9 (by decide)) (kd9 kd_77_9 (by decide)) rf_77_9 ?_
            refine r_ldI_n (m := 1) F_161_9 rfl ?_
            refine r_dup2 F_161_10 ?_
            refine r_iald (e := (s 87 2)) F_161_11 ty_87 (by decide) (lt_ln ln_87 (by decide)) (upd_nc (by decide)) ?_
            refine r_iconst F_161_12 ?_
            refine r_iadd F_161_13 rfl ?_
            refine r_iast F_161_14 ty_87 (by decide) (lt_ln ln_87 (by decide)) ?_
            refine r_bipush F_161_15 bi__3 ?_
            refine r_ireturn F_161_17 rt_161 ?_
            show Rn _ _ _ _ _ [vI (-3)] _ _
            refine r_ireturn F_164_64 rt_164 ?_
            show Rn _ _ _ _ _ [vI (-3)] _ _
            refine r_stI (m := 4) (L' := [some (vR 77), some (vI r), some (vI j), some (vI v), some (vI (-3))]) F_163_6 rfl rfl ?_
            refine r_ldI (m := 4) F_163_8 rfl ?_
            refine r_iconst F_163_10 ?_
            refine r_icmpT (t := 26) F_163_11 rfl (by decide) (by decide) (by show ¬ ((-3) : Int) = 1; decide) ?_
            refine r_ldI (m := 4) F_163_26 rfl ?_
            refine r_ireturn F_163_28 rt_163 ?_
            exact (l9 e2 e4 e5 e7 e8)
          · intro e9
            replace e9 : j ≤ ((s 78 r) - 1) := (Int.not_lt.mp e9)
            refine r_iconst F_160_10 ?_
            refine r_goto (t := 15) F_160_11 rfl ?_
            refine r_zreturn F_160_15 rt_160 (Or.inr rfl) ?_
            show Rn _ _ _ _ _ [vI 1] _ _
            refine r_ifF (t := 59) F_164_37 rfl (by decide) (by show ¬ ((1 : Int) = 0); decide) ?_
            refine r_ldR_n (m := 0) F_164_40 rfl ?_
            refine r_iconst F_164_41 ?_
            refine r_ldR_n (m := 0) F_164_42 rfl ?_
            refine r_getR (J := 1) F_164_43 o_164 fl_6_13 ty_77 (by decide) rfl (kd2 kd_77_1 (by decide)) (kd9 kd_77_1 (by decide)) rf_77_1 ?_
            refine r_bipush F_164_46 bi_40 ?_
            refine r_ldI_n (m := 1) F_164_48 rfl ?_
            refine r_imul F_164_49 rfl ?_
            refine r_ldI_n (m := 2) F_164_50 rfl ?_
            refine r_iadd F_164_51 rfl ?_
            refine r_iald (e := (s 79 ((40 * r) + j))) F_164_52 ty_79 (l10 e2 e4 e5 e7 e9) (lt_ln ln_79 (l11 e2 e4 e5 e7 e9)) rfl ?_
            refine r_virt2 (A := [vI 1, vI (s 79 ((40 * r) + j))]) (r := []) (n := 2) F_164_53 o_164 il_6_87 rfl rfl rfl rfl ty_77 vy_165 (lay_le n_165 rfl) ?_
            refine Cl_of n_165 rfl ?_
            show Rn _ _ _ _ [some (vR 77), some (vI 1), some (vI (s 79 ((40 * r) + j)))] [] _ _
            refine r_ldR_n (m := 0) F_165_0 rfl ?_
            refine r_ldI_n (m := 2) F_165_1 rfl ?_
            refine r_putI (J := 11) F_165_2 o_165 fl_6_61 ty_77 (by decide) rfl kd_77_11 pf_6_11 ?_
            refine r_ldI_n (m := 1) F_165_5 rfl ?_
            refine r_ireturn F_165_6 rt_165 ?_
            show Rn _ _ _ _ _ [vI 1] _ _
            refine r_goto (t := 64) F_164_56 rfl ?_
            refine r_ireturn F_164_64 rt_164 ?_
            show Rn _ _ _ _ _ [vI 1] _ _
            refine r_stI (m := 4) (L' := [some (vR 77), some (vI r), some (vI j), some (vI v), some (vI 1)]) F_163_6 rfl rfl ?_
            refine r_ldI (m := 4) F_163_8 rfl ?_
            refine r_iconst F_163_10 ?_
            refine r_icmpF (t := 26) F_163_11 rfl (by decide) (by decide) (by show ¬ (¬ (1 : Int) = 1); decide) ?_
            refine r_ldR_n (m := 0) F_163_14 rfl ?_
            refine r_getR (J := 1) F_163_15 o_163 fl_6_13 ty_77 (by decide) rfl (kd2 kd_77_1 (by decide)) (kd9 kd_77_1 (by decide)) rf_77_1 ?_
            refine r_bipush F_163_18 bi_40 ?_
            refine r_ldI_n (m := 1) F_163_20 rfl ?_
            refine r_imul F_163_21 rfl ?_
            refine r_ldI_n (m := 2) F_163_22 rfl ?_
            refine r_iadd F_163_23 rfl ?_
            refine r_ldI_n (m := 3) F_163_24 rfl ?_
            refine r_iast F_163_25 ty_79 (l10 e2 e4 e5 e7 e9) (lt_ln ln_79 (l11 e2 e4 e5 e7 e9)) ?_
            refine r_ldI (m := 4) F_163_26 rfl ?_
            refine r_ireturn F_163_28 rt_163 ?_
            exact (l12 e2 e4 e5 e7 e9)
      · intro e10
        replace e10 : (s 78 r) < 0 := (Int.not_le.mp e10)
        refine r_ldR_n (m := 0) F_164_18 rfl ?_
        refine r_iconst F_164_19 ?_
        refine r_virt2 (A := [vI 1]) (r := []) (n := 1) F_164_20 o_164 il_6_75 rfl rfl rfl rfl ty_77 vy_161 (lay_le n_161 rfl) ?_
        refine Cl_of n_161 rfl ?_
        show Rn _ _ _ _ [some (vR 77), some (vI 1)] [] _ _
        refine r_ldR_n (m := 0) F_161_0 rfl ?_
        refine r_ldI_n (m := 1) F_161_1 rfl ?_
        refine r_putI (J := 10) F_161_2 o_161 fl_6_57 ty_77 (by decide) rfl kd_77_10 pf_6_10 ?_
        refine r_ldR_n (m := 0) F_161_5 rfl ?_
        refine r_getR (J := 9) F_161_6 o_161 fl_6_38 ty_77 (by decide) rfl (kd2 kd_77_9 (by decide)) (kd9 kd_77_9 (by decide)) rf_77_9 ?_
        refine r_ldI_n (m := 1) F_161_9 rfl ?_
        refine r_dup2 F_161_10 ?_
        refine r_iald (e := (s 87 1)) F_161_11 ty_87 (by decide) (lt_ln ln_87 (by decide)) (upd_nc (by decide)) ?_
        refine r_iconst F_161_12 ?_
        refine r_iadd F_161_13 rfl ?_
        refine r_iast F_161_14 ty_87 (by decide) (lt_ln ln_87 (by decide)) ?_
        refine r_bipush F_161_15 bi__3 ?_
        refine r_ireturn F_161_17 rt_161 ?_
        show Rn _ _ _ _ _ [vI (-3)] _ _
        refine r_ireturn F_164_23 rt_164 ?_
        show Rn _ _ _ _ _ [vI (-3)] _ _
        refine r_stI (m := 4) (L' := [some (vR 77), some (vI r), some (vI j), some (vI v), some (vI (-3))]) F_163_6 rfl rfl ?_
        refine r_ldI (m := 4) F_163_8 rfl ?_
        refine r_iconst F_163_10 ?_
        refine r_icmpT (t := 26) F_163_11 rfl (by decide) (by decide) (by show ¬ ((-3) : Int) = 1; decide) ?_
        refine r_ldI (m := 4) F_163_26 rfl ?_
        refine r_ireturn F_163_28 rt_163 ?_
        exact (l13 e2 e4 e10)
theorem t_X6_at {X : List Int32} {d : Nat} {s : m_St} {P : Option Value → m_St → Prop} {r j : Int}
    (l1 : inR r)
    (l2 : r < 0 → P (some (vI (-1))) s)
    (l3 : 0 ≤ r → 5 < r → P (some (vI (-1))) s)
    (l4 : 0 ≤ r → r ≤ 5 → r < 6)
    (l5 : 0 ≤ r → r ≤ 5 → inR (s 78 r))
    (l6 : 0 ≤ r → r ≤ 5 → 0 ≤ (s 78 r) → inR j)
    (l7 : 0 ≤ r → r ≤ 5 → 0 ≤ (s 78 r) → j < 0 → P (some (vI (-3))) (m_upd (m_upd s 77 10 2) 87 2 ((s 87 2) + 1)))
    (l8 : 0 ≤ r → r ≤ 5 → 0 ≤ (s 78 r) → 0 ≤ j → inR ((s 78 r) - 1))
    (l9 : 0 ≤ r → r ≤ 5 → 0 ≤ (s 78 r) → 0 ≤ j → ((s 78 r) - 1) < j → P (some (vI (-3))) (m_upd (m_upd s 77 10 2) 87 2 ((s 87 2) + 1)))
    (l10 : 0 ≤ r → r ≤ 5 → 0 ≤ (s 78 r) → 0 ≤ j → j ≤ ((s 78 r) - 1) → 0 ≤ ((40 * r) + j))
    (l11 : 0 ≤ r → r ≤ 5 → 0 ≤ (s 78 r) → 0 ≤ j → j ≤ ((s 78 r) - 1) → ((40 * r) + j) < 240)
    (l12 : 0 ≤ r → r ≤ 5 → 0 ≤ (s 78 r) → 0 ≤ j → j ≤ ((s 78 r) - 1) → P (some (vI 1)) (m_upd s 77 11 (s 79 ((40 * r) + j))))
    (l13 : 0 ≤ r → r ≤ 5 → (s 78 r) < 0 → P (some (vI (-3))) (m_upd (m_upd s 77 10 1) 87 1 ((s 87 1) + 1)))
    : Cl X (d + 2) 164 [vR 77, vI r, vI j] s P := by
  refine Cl_of n_164 rfl ?_
  show Rn _ _ _ _ [some (vR 77), some (vI r), some (vI j)] [] _ _
  refine r_ldI_n (m := 1) F_164_0 rfl ?_
  refine r_stat2 (A := [vI r]) (r := []) (n := 1) F_164_1 o_164 il_6_71 (by decide) rfl rfl rfl rfl (lay_le n_159 rfl) ?_
  refine Cl_of n_159 rfl ?_
  show Rn _ _ _ _ [some (vI r)] [] _ _
  refine r_ldI_n (m := 0) F_159_0 rfl ?_
  refine r_iconst F_159_1 ?_
  refine r_iconst F_159_2 ?_
  refine r_stat2 (A := [vI r, vI 0, vI 5]) (r := []) (n := 3) F_159_3 o_159 il_6_67 (by decide) rfl rfl rfl rfl (lay_le n_160 rfl) ?_
  refine Cl_of n_160 rfl ?_
  show Rn _ _ _ _ [some (vI r), some (vI 0), some (vI 5)] [] _ _
  refine r_ldI_n (m := 0) F_160_0 rfl ?_
  refine r_ldI_n (m := 1) F_160_1 rfl ?_
  refine r_icmp (t := 14) F_160_2 rfl l1 (by decide) ?_ ?_
  · intro e1
    replace e1 : r < 0 := e1
    refine r_iconst F_160_14 ?_
    refine r_zreturn F_160_15 rt_160 (Or.inl rfl) ?_
    show Rn _ _ _ _ _ [vI 0] _ _
    refine r_zreturn F_159_6 rt_159 (Or.inl rfl) ?_
    show Rn _ _ _ _ _ [vI 0] _ _
    refine r_ifF (t := 9) F_164_4 rfl (by decide) (by show ¬ (¬ (0 : Int) = 0); decide) ?_
    refine r_iconst F_164_7 ?_
    refine r_ireturn F_164_8 rt_164 ?_
    exact (l2 e1)
  · intro e2
    replace e2 : 0 ≤ r := (Int.not_lt.mp e2)
    refine r_ldI_n (m := 0) F_160_5 rfl ?_
    refine r_ldI_n (m := 2) F_160_6 rfl ?_
    refine r_icmp (t := 14) F_160_7 rfl l1 (by decide) ?_ ?_
    · intro e3
      replace e3 : 5 < r := e3
      refine r_iconst F_160_14 ?_
      refine r_zreturn F_160_15 rt_160 (Or.inl rfl) ?_
      show Rn _ _ _ _ _ [vI 0] _ _
      refine r_zreturn F_159_6 rt_159 (Or.inl rfl) ?_
      show Rn _ _ _ _ _ [vI 0] _ _
      refine r_ifF (t := 9) F_164_4 rfl (by decide) (by show ¬ (¬ (0 : Int) = 0); decide) ?_
      refine r_iconst F_164_7 ?_
      refine r_ireturn F_164_8 rt_164 ?_
      exact (l3 e2 e3)
    · intro e4
      replace e4 : r ≤ 5 := (Int.not_lt.mp e4)
      refine r_iconst F_160_10 ?_
      refine r_goto (t := 15) F_160_11 rfl ?_
      refine r_zreturn F_160_15 rt_160 (Or.inr rfl) ?_
      show Rn _ _ _ _ _ [vI 1] _ _
      refine r_zreturn F_159_6 rt_159 (Or.inr rfl) ?_
      show Rn _ _ _ _ _ [vI 1] _ _
      refine r_ifT (t := 9) F_164_4 rfl (by decide) (by show ¬ (1 : Int) = 0; decide) ?_
      refine r_ldR_n (m := 0) F_164_9 rfl ?_
      refine r_getR (J := 0) F_164_10 o_164 fl_6_7 ty_77 (by decide) rfl (kd2 kd_77_0 (by decide)) (kd9 kd_77_0 (by decide)) rf_77_0 ?_
      refine r_ldI_n (m := 1) F_164_13 rfl ?_
      refine r_iald (e := (s 78 r)) F_164_14 ty_78 e2 (lt_ln ln_78 (l4 e2 e4)) rfl ?_
      refine r_if (t := 24) F_164_15 rfl (l5 e2 e4) ?_ ?_
      · intro e5
        replace e5 : 0 ≤ (s 78 r) := e5
        refine r_ldI_n (m := 2) F_164_24 rfl ?_
        refine r_iconst F_164_25 ?_
        refine r_ldR_n (m := 0) F_164_26 rfl ?_
        refine r_getR (J := 0) F_164_27 o_164 fl_6_7 ty_77 (by decide) rfl (kd2 kd_77_0 (by decide)) (kd9 kd_77_0 (by decide)) rf_77_0 ?_
        refine r_ldI_n (m := 1) F_164_30 rfl ?_
        refine r_iald (e := (s 78 r)) F_164_31 ty_78 e2 (lt_ln ln_78 (l4 e2 e4)) rfl ?_
        refine r_iconst F_164_32 ?_
        refine r_isub F_164_33 rfl ?_
        refine r_stat2 (A := [vI j, vI 0, vI ((s 78 r) - 1)]) (r := []) (n := 3) F_164_34 o_164 il_6_67 (by decide) rfl rfl rfl rfl (lay_le n_160 rfl) ?_
        refine Cl_of n_160 rfl ?_
        show Rn _ _ _ _ [some (vI j), some (vI 0), some (vI ((s 78 r) - 1))] [] _ _
        refine r_ldI_n (m := 0) F_160_0 rfl ?_
        refine r_ldI_n (m := 1) F_160_1 rfl ?_
        refine r_icmp (t := 14) F_160_2 rfl (l6 e2 e4 e5) (by decide) ?_ ?_
        · intro e6
          replace e6 : j < 0 := e6
          refine r_iconst F_160_14 ?_
          refine r_zreturn F_160_15 rt_160 (Or.inl rfl) ?_
          show Rn _ _ _ _ _ [vI 0] _ _
          refine r_ifT (t := 59) F_164_37 rfl (by decide) (by show (0 : Int) = 0; decide) ?_
          refine r_ldR_n (m := 0) F_164_59 rfl ?_
          refine r_iconst F_164_60 ?_
          refine r_virt2 (A := [vI 2]) (r := []) (n := 1) F_164_61 o_164 il_6_75 rfl rfl rfl rfl ty_77 vy_161 (lay_le n_161 rfl) ?_
          refine Cl_of n_161 rfl ?_
          show Rn _ _ _ _ [some (vR 77), some (vI 2)] [] _ _
          refine r_ldR_n (m := 0) F_161_0 rfl ?_
          refine r_ldI_n (m := 1) F_161_1 rfl ?_
          refine r_putI (J := 10) F_161_2 o_161 fl_6_57 ty_77 (by decide) rfl kd_77_10 pf_6_10 ?_
          refine r_ldR_n (m := 0) F_161_5 rfl ?_
          refine r_getR (J := 9) F_161_6 o_161 fl_6_38 ty_77 (by decide) rfl (kd2 kd_77_9 (by decide)) (kd9 kd_77_9 (by decide)) rf_77_9 ?_
          refine r_ldI_n (m := 1) F_161_9 rfl ?_
          refine r_dup2 F_161_10 ?_
          refine r_iald (e := (s 87 2)) F_161_11 ty_87 (by decide) (lt_ln ln_87 (by decide)) (upd_nc (by decide)) ?_
          refine r_iconst F_161_12 ?_
          refine r_iadd F_161_13 rfl ?_
          refine r_iast F_161_14 ty_87 (by decide) (lt_ln ln_87 (by decide)) ?_
          refine r_bipush F_161_15 bi__3 ?_
          refine r_ireturn F_161_17 rt_161 ?_
          show Rn _ _ _ _ _ [vI (-3)] _ _
          refine r_ireturn F_164_64 rt_164 ?_
          exact (l7 e2 e4 e5 e6)
        · intro e7
          replace e7 : 0 ≤ j := (Int.not_lt.mp e7)
          refine r_ldI_n (m := 0) F_160_5 rfl ?_
          refine r_ldI_n (m := 2) F_160_6 rfl ?_
          refine r_icmp (t := 14) F_160_7 rfl (l6 e2 e4 e5) (l8 e2 e4 e5 e7) ?_ ?_
          · intro e8
            replace e8 : ((s 78 r) - 1) < j := e8
            refine r_iconst F_160_14 ?_
            refine r_zreturn F_160_15 rt_160 (Or.inl rfl) ?_
            show Rn _ _ _ _ _ [vI 0] _ _
            refine r_ifT (t := 59) F_164_37 rfl (by decide) (by show (0 : Int) = 0; decide) ?_
            refine r_ldR_n (m := 0) F_164_59 rfl ?_
            refine r_iconst F_164_60 ?_
            refine r_virt2 (A := [vI 2]) (r := []) (n := 1) F_164_61 o_164 il_6_75 rfl rfl rfl rfl ty_77 vy_161 (lay_le n_161 rfl) ?_
            refine Cl_of n_161 rfl ?_
            show Rn _ _ _ _ [some (vR 77), some (vI 2)] [] _ _
            refine r_ldR_n (m := 0) F_161_0 rfl ?_
            refine r_ldI_n (m := 1) F_161_1 rfl ?_
            refine r_putI (J := 10) F_161_2 o_161 fl_6_57 ty_77 (by decide) rfl kd_77_10 pf_6_10 ?_
            refine r_ldR_n (m := 0) F_161_5 rfl ?_
            refine r_getR (J := 9) F_161_6 o_161 fl_6_38 ty_77 (by decide) rfl (kd2 kd_77_9 (by decide)) (kd9 kd_77_9 (by decide)) rf_77_9 ?_
            refine r_ldI_n (m := 1) F_161_9 rfl ?_
            refine r_dup2 F_161_10 ?_
            refine r_iald (e := (s 87 2)) F_161_11 ty_87 (by decide) (lt_ln ln_87 (by decide)) (upd_nc (by decide)) ?_
            refine r_iconst F_161_12 ?_
            refine r_iadd F_161_13 rfl ?_
            refine r_iast F_161_14 ty_87 (by decide) (lt_ln ln_87 (by decide)) ?_
            refine r_bipush F_161_15 bi__3 ?_
            refine r_ireturn F_161_17 rt_161 ?_
            show Rn _ _ _ _ _ [vI (-3)] _ _
            refine r_ireturn F_164_64 rt_164 ?_
            exact (l9 e2 e4 e5 e7 e8)
          · intro e9
            replace e9 : j ≤ ((s 78 r) - 1) := (Int.not_lt.mp e9)
            refine r_iconst F_160_10 ?_
            refine r_goto (t := 15) F_160_11 rfl ?_
            refine r_zreturn F_160_15 rt_160 (Or.inr rfl) ?_
            show Rn _ _ _ _ _ [vI 1] _ _
            refine r_ifF (t := 59) F_164_37 rfl (by decide) (by show ¬ ((1 : Int) = 0); decide) ?_
            refine r_ldR_n (m := 0) F_164_40 rfl ?_
            refine r_iconst F_164_41 ?_
            refine r_ldR_n (m := 0) F_164_42 rfl ?_
            refine r_getR (J := 1) F_164_43 o_164 fl_6_13 ty_77 (by decide) rfl (kd2 kd_77_1 (by decide)) (kd9 kd_77_1 (by decide)) rf_77_1 ?_
            refine r_bipush F_164_46 bi_40 ?_
            refine r_ldI_n (m := 1) F_164_48 rfl ?_
            refine r_imul F_164_49 rfl ?_
            refine r_ldI_n (m := 2) F_164_50 rfl ?_
            refine r_iadd F_164_51 rfl ?_
            refine r_iald (e := (s 79 ((40 * r) + j))) F_164_52 ty_79 (l10 e2 e4 e5 e7 e9) (lt_ln ln_79 (l11 e2 e4 e5 e7 e9)) rfl ?_
            refine r_virt2 (A := [vI 1, vI (s 79 ((40 * r) + j))]) (r := []) (n := 2) F_164_53 o_164 il_6_87 rfl rfl rfl rfl ty_77 vy_165 (lay_le n_165 rfl) ?_
            refine Cl_of n_165 rfl ?_
            show Rn _ _ _ _ [some (vR 77), some (vI 1), some (vI (s 79 ((40 * r) + j)))] [] _ _
            refine r_ldR_n (m := 0) F_165_0 rfl ?_
            refine r_ldI_n (m := 2) F_165_1 rfl ?_
            refine r_putI (J := 11) F_165_2 o_165 fl_6_61 ty_77 (by decide) rfl kd_77_11 pf_6_11 ?_
            refine r_ldI_n (m := 1) F_165_5 rfl ?_
            refine r_ireturn F_165_6 rt_165 ?_
            show Rn _ _ _ _ _ [vI 1] _ _
            refine r_goto (t := 64) F_164_56 rfl ?_
            refine r_ireturn F_164_64 rt_164 ?_
            exact (l12 e2 e4 e5 e7 e9)
      · intro e10
        replace e10 : (s 78 r) < 0 := (Int.not_le.mp e10)
        refine r_ldR_n (m := 0) F_164_18 rfl ?_
        refine r_iconst F_164_19 ?_
        refine r_virt2 (A := [vI 1]) (r := []) (n := 1) F_164_20 o_164 il_6_75 rfl rfl rfl rfl ty_77 vy_161 (lay_le n_161 rfl) ?_
        refine Cl_of n_161 rfl ?_
        show Rn _ _ _ _ [some (vR 77), some (vI 1)] [] _ _
        refine r_ldR_n (m := 0) F_161_0 rfl ?_
        refine r_ldI_n (m := 1) F_161_1 rfl ?_
        refine r_putI (J := 10) F_161_2 o_161 fl_6_57 ty_77 (by decide) rfl kd_77_10 pf_6_10 ?_
        refine r_ldR_n (m := 0) F_161_5 rfl ?_
        refine r_getR (J := 9) F_161_6 o_161 fl_6_38 ty_77 (by decide) rfl (kd2 kd_77_9 (by decide)) (kd9 kd_77_9 (by decide)) rf_77_9 ?_
        refine r_ldI_n (m := 1) F_161_9 rfl ?_
        refine r_dup2 F_161_10 ?_
        refine r_iald (e := (s 87 1)) F_161_11 ty_87 (by decide) (lt_ln ln_87 (by decide)) (upd_nc (by decide)) ?_
        refine r_iconst F_161_12 ?_
        refine r_iadd F_161_13 rfl ?_
        refine r_iast F_161_14 ty_87 (by decide) (lt_ln ln_87 (by decide)) ?_
        refine r_bipush F_161_15 bi__3 ?_
        refine r_ireturn F_161_17 rt_161 ?_
        show Rn _ _ _ _ _ [vI (-3)] _ _
        refine r_ireturn F_164_23 rt_164 ?_
        exact (l13 e2 e4 e10)
theorem t_X6_tear {X : List Int32} {d : Nat} {s : m_St} {P : Option Value → m_St → Prop} {r : Int}
    (l1 : inR r)
    (l2 : r < 0 → P (some (vI (-1))) s)
    (l3 : 0 ≤ r → 5 < r → P (some (vI (-1))) s)
    (l4 : 0 ≤ r → r ≤ 5 → r < 6)
    (l5 : 0 ≤ r → r ≤ 5 → inR (s 78 r))
    (l6 : 0 ≤ r → r ≤ 5 → 0 ≤ (s 78 r) → P (some (vI 1)) (m_upd s 78 r (-1)))
    (l7 : 0 ≤ r → r ≤ 5 → (s 78 r) < 0 → P (some (vI (-3))) (m_upd (m_upd s 77 10 1) 87 1 ((s 87 1) + 1)))
    : Cl X (d + 2) 166 [vR 77, vI r] s P := by
  refine Cl_of n_166 rfl ?_
  show Rn _ _ _ _ [some (vR 77), some (vI r)] [] _ _
  refine r_ldI_n (m := 1) F_166_0 rfl ?_
  refine r_stat2 (A := [vI r]) (r := []) (n := 1) F_166_1 o_166 il_6_71 (by decide) rfl rfl rfl rfl (lay_le n_159 rfl) ?_
  refine Cl_of n_159 rfl ?_
  show Rn _ _ _ _ [some (vI r)] [] _ _
  refine r_ldI_n (m := 0) F_159_0 rfl ?_
  refine r_iconst F_159_1 ?_
  refine r_iconst F_159_2 ?_
  refine r_stat2 (A := [vI r, vI 0, vI 5]) (r := []) (n := 3) F_159_3 o_159 il_6_67 (by decide) rfl rfl rfl rfl (lay_le n_160 rfl) ?_
  refine Cl_of n_160 rfl ?_
  show Rn _ _ _ _ [some (vI r), some (vI 0), some (vI 5)] [] _ _
  refine r_ldI_n (m := 0) F_160_0 rfl ?_
  refine r_ldI_n (m := 1) F_160_1 rfl ?_
  refine r_icmp (t := 14) F_160_2 rfl l1 (by decide) ?_ ?_
  · intro e1
    replace e1 : r < 0 := e1
    refine r_iconst F_160_14 ?_
    refine r_zreturn F_160_15 rt_160 (Or.inl rfl) ?_
    show Rn _ _ _ _ _ [vI 0] _ _
    refine r_zreturn F_159_6 rt_159 (Or.inl rfl) ?_
    show Rn _ _ _ _ _ [vI 0] _ _
    refine r_ifF (t := 9) F_166_4 rfl (by decide) (by show ¬ (¬ (0 : Int) = 0); decide) ?_
    refine r_iconst F_166_7 ?_
    refine r_ireturn F_166_8 rt_166 ?_
    exact (l2 e1)
  · intro e2
    replace e2 : 0 ≤ r := (Int.not_lt.mp e2)
    refine r_ldI_n (m := 0) F_160_5 rfl ?_
    refine r_ldI_n (m := 2) F_160_6 rfl ?_
    refine r_icmp (t := 14) F_160_7 rfl l1 (by decide) ?_ ?_
    · intro e3
      replace e3 : 5 < r := e3
      refine r_iconst F_160_14 ?_
      refine r_zreturn F_160_15 rt_160 (Or.inl rfl) ?_
      show Rn _ _ _ _ _ [vI 0] _ _
      refine r_zreturn F_159_6 rt_159 (Or.inl rfl) ?_
      show Rn _ _ _ _ _ [vI 0] _ _
      refine r_ifF (t := 9) F_166_4 rfl (by decide) (by show ¬ (¬ (0 : Int) = 0); decide) ?_
      refine r_iconst F_166_7 ?_
      refine r_ireturn F_166_8 rt_166 ?_
      exact (l3 e2 e3)
    · intro e4
      replace e4 : r ≤ 5 := (Int.not_lt.mp e4)
      refine r_iconst F_160_10 ?_
      refine r_goto (t := 15) F_160_11 rfl ?_
      refine r_zreturn F_160_15 rt_160 (Or.inr rfl) ?_
      show Rn _ _ _ _ _ [vI 1] _ _
      refine r_zreturn F_159_6 rt_159 (Or.inr rfl) ?_
      show Rn _ _ _ _ _ [vI 1] _ _
      refine r_ifT (t := 9) F_166_4 rfl (by decide) (by show ¬ (1 : Int) = 0; decide) ?_
      refine r_ldR_n (m := 0) F_166_9 rfl ?_
      refine r_getR (J := 0) F_166_10 o_166 fl_6_7 ty_77 (by decide) rfl (kd2 kd_77_0 (by decide)) (kd9 kd_77_0 (by decide)) rf_77_0 ?_
      refine r_ldI_n (m := 1) F_166_13 rfl ?_
      refine r_iald (e := (s 78 r)) F_166_14 ty_78 e2 (lt_ln ln_78 (l4 e2 e4)) rfl ?_
      refine r_if (t := 24) F_166_15 rfl (l5 e2 e4) ?_ ?_
      · intro e5
        replace e5 : 0 ≤ (s 78 r) := e5
        refine r_ldR_n (m := 0) F_166_24 rfl ?_
        refine r_getR (J := 0) F_166_25 o_166 fl_6_7 ty_77 (by decide) rfl (kd2 kd_77_0 (by decide)) (kd9 kd_77_0 (by decide)) rf_77_0 ?_
        refine r_ldI_n (m := 1) F_166_28 rfl ?_
        refine r_iconst F_166_29 ?_
        refine r_iast F_166_30 ty_78 e2 (lt_ln ln_78 (l4 e2 e4)) ?_
        refine r_iconst F_166_31 ?_
        refine r_ireturn F_166_32 rt_166 ?_
        exact (l6 e2 e4 e5)
      · intro e6
        replace e6 : (s 78 r) < 0 := (Int.not_le.mp e6)
        refine r_ldR_n (m := 0) F_166_18 rfl ?_
        refine r_iconst F_166_19 ?_
        refine r_virt2 (A := [vI 1]) (r := []) (n := 1) F_166_20 o_166 il_6_75 rfl rfl rfl rfl ty_77 vy_161 (lay_le n_161 rfl) ?_
        refine Cl_of n_161 rfl ?_
        show Rn _ _ _ _ [some (vR 77), some (vI 1)] [] _ _
        refine r_ldR_n (m := 0) F_161_0 rfl ?_
        refine r_ldI_n (m := 1) F_161_1 rfl ?_
        refine r_putI (J := 10) F_161_2 o_161 fl_6_57 ty_77 (by decide) rfl kd_77_10 pf_6_10 ?_
        refine r_ldR_n (m := 0) F_161_5 rfl ?_
        refine r_getR (J := 9) F_161_6 o_161 fl_6_38 ty_77 (by decide) rfl (kd2 kd_77_9 (by decide)) (kd9 kd_77_9 (by decide)) rf_77_9 ?_
        refine r_ldI_n (m := 1) F_161_9 rfl ?_
        refine r_dup2 F_161_10 ?_
        refine r_iald (e := (s 87 1)) F_161_11 ty_87 (by decide) (lt_ln ln_87 (by decide)) (upd_nc (by decide)) ?_
        refine r_iconst F_161_12 ?_
        refine r_iadd F_161_13 rfl ?_
        refine r_iast F_161_14 ty_87 (by decide) (lt_ln ln_87 (by decide)) ?_
        refine r_bipush F_161_15 bi__3 ?_
        refine r_ireturn F_161_17 rt_161 ?_
        show Rn _ _ _ _ _ [vI (-3)] _ _
        refine r_ireturn F_166_23 rt_166 ?_
        exact (l7 e2 e4 e6)
theorem t_X6_copy {X : List Int32} {d : Nat} {s : m_St} {P : Option Value → m_St → Prop} {r j t k n : Int}
    (l1 : inR r)
    (l2 : r < 0 → P (some (vI (-1))) s)
    (l3 : 0 ≤ r → 5 < r → P (some (vI (-1))) s)
    (l4 : 0 ≤ r → r ≤ 5 → inR t)
    (l5 : 0 ≤ r → r ≤ 5 → t < 0 → P (some (vI (-1))) s)
    (l6 : 0 ≤ r → r ≤ 5 → 0 ≤ t → 5 < t → P (some (vI (-1))) s)
    (l7 : 0 ≤ r → r ≤ 5 → 0 ≤ t → t ≤ 5 → inR n)
    (l8 : 0 ≤ r → r ≤ 5 → 0 ≤ t → t ≤ 5 → 0 ≤ n → r < 6)
    (l9 : 0 ≤ r → r ≤ 5 → 0 ≤ t → t ≤ 5 → 0 ≤ n → inR (s 78 r))
    (l10 : 0 ≤ r → r ≤ 5 → 0 ≤ t → t ≤ 5 → 0 ≤ n → (s 78 r) < 0 → P (some (vI (-3))) (m_upd (m_upd s 77 10 1) 87 1 ((s 87 1) + 1)))
    (l11 : 0 ≤ r → r ≤ 5 → 0 ≤ t → t ≤ 5 → 0 ≤ n → 0 ≤ (s 78 r) → t < 6)
    (l12 : 0 ≤ r → r ≤ 5 → 0 ≤ t → t ≤ 5 → 0 ≤ n → 0 ≤ (s 78 r) → inR (s 78 t))
    (l13 : 0 ≤ r → r ≤ 5 → 0 ≤ t → t ≤ 5 → 0 ≤ n → 0 ≤ (s 78 r) → 0 ≤ (s 78 t) → inR j)
    (l14 : 0 ≤ r → r ≤ 5 → 0 ≤ t → t ≤ 5 → 0 ≤ n → 0 ≤ (s 78 r) → 0 ≤ (s 78 t) → j < 0 → P (some (vI (-3))) (m_upd (m_upd s 77 10 2) 87 2 ((s 87 2) + 1)))
    (l15 : 0 ≤ r → r ≤ 5 → 0 ≤ t → t ≤ 5 → 0 ≤ n → 0 ≤ (s 78 r) → 0 ≤ (s 78 t) → 0 ≤ j → inR k)
    (l16 : 0 ≤ r → r ≤ 5 → 0 ≤ t → t ≤ 5 → 0 ≤ n → 0 ≤ (s 78 r) → 0 ≤ (s 78 t) → 0 ≤ j → k < 0 → P (some (vI (-3))) (m_upd (m_upd s 77 10 2) 87 2 ((s 87 2) + 1)))
    (l17 : 0 ≤ r → r ≤ 5 → 0 ≤ t → t ≤ 5 → 0 ≤ n → 0 ≤ (s 78 r) → 0 ≤ (s 78 t) → 0 ≤ j → 0 ≤ k → 0 < (cmpJ (j + n) (s 78 r)) → P (some (vI (-3))) (m_upd (m_upd s 77 10 2) 87 2 ((s 87 2) + 1)))
    (l18 : 0 ≤ r → r ≤ 5 → 0 ≤ t → t ≤ 5 → 0 ≤ n → 0 ≤ (s 78 r) → 0 ≤ (s 78 t) → 0 ≤ j → 0 ≤ k → (cmpJ (j + n) (s 78 r)) ≤ 0 → (cmpJ (k + n) (s 78 t)) ≤ 0 → Rn X (d + 2) 167 104 [some (vR 77), some (vI r), some (vI j), some (vI t), some (vI k), some (vI n), some (vI 0)] [] s P)
    (l19 : 0 ≤ r → r ≤ 5 → 0 ≤ t → t ≤ 5 → 0 ≤ n → 0 ≤ (s 78 r) → 0 ≤ (s 78 t) → 0 ≤ j → 0 ≤ k → (cmpJ (j + n) (s 78 r)) ≤ 0 → 0 < (cmpJ (k + n) (s 78 t)) → P (some (vI (-3))) (m_upd (m_upd s 77 10 2) 87 2 ((s 87 2) + 1)))
    (l20 : 0 ≤ r → r ≤ 5 → 0 ≤ t → t ≤ 5 → 0 ≤ n → 0 ≤ (s 78 r) → (s 78 t) < 0 → P (some (vI (-3))) (m_upd (m_upd s 77 10 1) 87 1 ((s 87 1) + 1)))
    (l21 : 0 ≤ r → r ≤ 5 → 0 ≤ t → t ≤ 5 → n < 0 → P (some (vI (-3))) (m_upd (m_upd s 77 10 5) 87 5 ((s 87 5) + 1)))
    : Cl X (d + 2) 167 [vR 77, vI r, vI j, vI t, vI k, vI n] s P := by
  refine Cl_of n_167 rfl ?_
  show Rn _ _ _ _ [some (vR 77), some (vI r), some (vI j), some (vI t), some (vI k), some (vI n), none] [] _ _
  refine r_ldI_n (m := 1) F_167_0 rfl ?_
  refine r_stat2 (A := [vI r]) (r := []) (n := 1) F_167_1 o_167 il_6_71 (by decide) rfl rfl rfl rfl (lay_le n_159 rfl) ?_
  refine Cl_of n_159 rfl ?_
  show Rn _ _ _ _ [some (vI r)] [] _ _
  refine r_ldI_n (m := 0) F_159_0 rfl ?_
  refine r_iconst F_159_1 ?_
  refine r_iconst F_159_2 ?_
  refine r_stat2 (A := [vI r, vI 0, vI 5]) (r := []) (n := 3) F_159_3 o_159 il_6_67 (by decide) rfl rfl rfl rfl (lay_le n_160 rfl) ?_
  refine Cl_of n_160 rfl ?_
  show Rn _ _ _ _ [some (vI r), some (vI 0), some (vI 5)] [] _ _
  refine r_ldI_n (m := 0) F_160_0 rfl ?_
  refine r_ldI_n (m := 1) F_160_1 rfl ?_
  refine r_icmp (t := 14) F_160_2 rfl l1 (by decide) ?_ ?_
  · intro e1
    replace e1 : r < 0 := e1
    refine r_iconst F_160_14 ?_
    refine r_zreturn F_160_15 rt_160 (Or.inl rfl) ?_
    show Rn _ _ _ _ _ [vI 0] _ _
    refine r_zreturn F_159_6 rt_159 (Or.inl rfl) ?_
    show Rn _ _ _ _ _ [vI 0] _ _
    refine r_ifT (t := 14) F_167_4 rfl (by decide) (by show (0 : Int) = 0; decide) ?_
    refine r_iconst F_167_14 ?_
    refine r_ireturn F_167_15 rt_167 ?_
    exact (l2 e1)
  · intro e2
    replace e2 : 0 ≤ r := (Int.not_lt.mp e2)
    refine r_ldI_n (m := 0) F_160_5 rfl ?_
    refine r_ldI_n (m := 2) F_160_6 rfl ?_
    refine r_icmp (t := 14) F_160_7 rfl l1 (by decide) ?_ ?_
    · intro e3
      replace e3 : 5 < r := e3
      refine r_iconst F_160_14 ?_
      refine r_zreturn F_160_15 rt_160 (Or.inl rfl) ?_
      show Rn _ _ _ _ _ [vI 0] _ _
      refine r_zreturn F_159_6 rt_159 (Or.inl rfl) ?_
      show Rn _ _ _ _ _ [vI 0] _ _
      refine r_ifT (t := 14) F_167_4 rfl (by decide) (by show (0 : Int) = 0; decide) ?_
      refine r_iconst F_167_14 ?_
      refine r_ireturn F_167_15 rt_167 ?_
      exact (l3 e2 e3)
    · intro e4
      replace e4 : r ≤ 5 := (Int.not_lt.mp e4)
      refine r_iconst F_160_10 ?_
      refine r_goto (t := 15) F_160_11 rfl ?_
      refine r_zreturn F_160_15 rt_160 (Or.inr rfl) ?_
      show Rn _ _ _ _ _ [vI 1] _ _
      refine r_zreturn F_159_6 rt_159 (Or.inr rfl) ?_
      show Rn _ _ _ _ _ [vI 1] _ _
      refine r_ifF (t := 14) F_167_4 rfl (by decide) (by show ¬ ((1 : Int) = 0); decide) ?_
      refine r_ldI_n (m := 3) F_167_7 rfl ?_
      refine r_stat2 (A := [vI t]) (r := []) (n := 1) F_167_8 o_167 il_6_71 (by decide) rfl rfl rfl rfl (lay_le n_159 rfl) ?_
      refine Cl_of n_159 rfl ?_
      show Rn _ _ _ _ [some (vI t)] [] _ _
      refine r_ldI_n (m := 0) F_159_0 rfl ?_
      refine r_iconst F_159_1 ?_
      refine r_iconst F_159_2 ?_
      refine r_stat2 (A := [vI t, vI 0, vI 5]) (r := []) (n := 3) F_159_3 o_159 il_6_67 (by decide) rfl rfl rfl rfl (lay_le n_160 rfl) ?_
      refine Cl_of n_160 rfl ?_
      show Rn _ _ _ _ [some (vI t), some (vI 0), some (vI 5)] [] _ _
      refine r_ldI_n (m := 0) F_160_0 rfl ?_
      refine r_ldI_n (m := 1) F_160_1 rfl ?_
      refine r_icmp (t := 14) F_160_2 rfl (l4 e2 e4) (by decide) ?_ ?_
      · intro e5
        replace e5 : t < 0 := e5
        refine r_iconst F_160_14 ?_
        refine r_zreturn F_160_15 rt_160 (Or.inl rfl) ?_
        show Rn _ _ _ _ _ [vI 0] _ _
        refine r_zreturn F_159_6 rt_159 (Or.inl rfl) ?_
        show Rn _ _ _ _ _ [vI 0] _ _
        refine r_ifF (t := 16) F_167_11 rfl (by decide) (by show ¬ (¬ (0 : Int) = 0); decide) ?_
        refine r_iconst F_167_14 ?_
        refine r_ireturn F_167_15 rt_167 ?_
        exact (l5 e2 e4 e5)
      · intro e6
        replace e6 : 0 ≤ t := (Int.not_lt.mp e6)
        refine r_ldI_n (m := 0) F_160_5 rfl ?_
        refine r_ldI_n (m := 2) F_160_6 rfl ?_
        refine r_icmp (t := 14) F_160_7 rfl (l4 e2 e4) (by decide) ?_ ?_
        · intro e7
          replace e7 : 5 < t := e7
          refine r_iconst F_160_14 ?_
          refine r_zreturn F_160_15 rt_160 (Or.inl rfl) ?_
          show Rn _ _ _ _ _ [vI 0] _ _
          refine r_zreturn F_159_6 rt_159 (Or.inl rfl) ?_
          show Rn _ _ _ _ _ [vI 0] _ _
          refine r_ifF (t := 16) F_167_11 rfl (by decide) (by show ¬ (¬ (0 : Int) = 0); decide) ?_
          refine r_iconst F_167_14 ?_
          refine r_ireturn F_167_15 rt_167 ?_
          exact (l6 e2 e4 e6 e7)
        · intro e8
          replace e8 : t ≤ 5 := (Int.not_lt.mp e8)
          refine r_iconst F_160_10 ?_
          refine r_goto (t := 15) F_160_11 rfl ?_
          refine r_zreturn F_160_15 rt_160 (Or.inr rfl) ?_
          show Rn _ _ _ _ _ [vI 1] _ _
          refine r_zreturn F_159_6 rt_159 (Or.inr rfl) ?_
          show Rn _ _ _ _ _ [vI 1] _ _
          refine r_ifT (t := 16) F_167_11 rfl (by decide) (by show ¬ (1 : Int) = 0; decide) ?_
          refine r_ldI (m := 5) F_167_16 rfl ?_
          refine r_if (t := 27) F_167_18 rfl (l7 e2 e4 e6 e8) ?_ ?_
          · intro e9
            replace e9 : 0 ≤ n := e9
            refine r_ldR_n (m := 0) F_167_27 rfl ?_
            refine r_getR (J := 0) F_167_28 o_167 fl_6_7 ty_77 (by decide) rfl (kd2 kd_77_0 (by decide)) (kd9 kd_77_0 (by decide)) rf_77_0 ?_
            refine r_ldI_n (m := 1) F_167_31 rfl ?_
            refine r_iald (e := (s 78 r)) F_167_32 ty_78 e2 (lt_ln ln_78 (l8 e2 e4 e6 e8 e9)) rfl ?_
            refine r_if (t := 45) F_167_33 rfl (l9 e2 e4 e6 e8 e9) ?_ ?_
            · intro e10
              replace e10 : (s 78 r) < 0 := e10
              refine r_ldR_n (m := 0) F_167_45 rfl ?_
              refine r_iconst F_167_46 ?_
              refine r_virt2 (A := [vI 1]) (r := []) (n := 1) F_167_47 o_167 il_6_75 rfl rfl rfl rfl ty_77 vy_161 (lay_le n_161 rfl) ?_
              refine Cl_of n_161 rfl ?_
              show Rn _ _ _ _ [some (vR 77), some (vI 1)] [] _ _
              refine r_ldR_n (m := 0) F_161_0 rfl ?_
              refine r_ldI_n (m := 1) F_161_1 rfl ?_
              refine r_putI (J := 10) F_161_2 o_161 fl_6_57 ty_77 (by decide) rfl kd_77_10 pf_6_10 ?_
              refine r_ldR_n (m := 0) F_161_5 rfl ?_
              refine r_getR (J := 9) F_161_6 o_161 fl_6_38 ty_77 (by decide) rfl (kd2 kd_77_9 (by decide)) (kd9 kd_77_9 (by decide)) rf_77_9 ?_
              refine r_ldI_n (m := 1) F_161_9 rfl ?_
              refine r_dup2 F_161_10 ?_
              refine r_iald (e := (s 87 1)) F_161_11 ty_87 (by decide) (lt_ln ln_87 (by decide)) (upd_nc (by decide)) ?_
              refine r_iconst F_161_12 ?_
              refine r_iadd F_161_13 rfl ?_
              refine r_iast F_161_14 ty_87 (by decide) (lt_ln ln_87 (by decide)) ?_
              refine r_bipush F_161_15 bi__3 ?_
              refine r_ireturn F_161_17 rt_161 ?_
              show Rn _ _ _ _ _ [vI (-3)] _ _
              refine r_ireturn F_167_50 rt_167 ?_
              exact (l10 e2 e4 e6 e8 e9 e10)
            · intro e11
              replace e11 : 0 ≤ (s 78 r) := (Int.not_lt.mp e11)
              refine r_ldR_n (m := 0) F_167_36 rfl ?_
              refine r_getR (J := 0) F_167_37 o_167 fl_6_7 ty_77 (by decide) rfl (kd2 kd_77_0 (by decide)) (kd9 kd_77_0 (by decide)) rf_77_0 ?_
              refine r_ldI_n (m := 3) F_167_40 rfl ?_
              refine r_iald (e := (s 78 t)) F_167_41 ty_78 e6 (lt_ln ln_78 (l11 e2 e4 e6 e8 e9 e11)) rfl ?_
              refine r_if (t := 51) F_167_42 rfl (l12 e2 e4 e6 e8 e9 e11) ?_ ?_
              · intro e12
                replace e12 : 0 ≤ (s 78 t) := e12
                refine r_ldI_n (m := 2) F_167_51 rfl ?_
                refine r_if (t := 95) F_167_52 rfl (l13 e2 e4 e6 e8 e9 e11 e12) ?_ ?_
                · intro e13
                  replace e13 : j < 0 := e13
                  refine r_ldR_n (m := 0) F_167_95 rfl ?_
                  refine r_iconst F_167_96 ?_
                  refine r_virt2 (A := [vI 2]) (r := []) (n := 1) F_167_97 o_167 il_6_75 rfl rfl rfl rfl ty_77 vy_161 (lay_le n_161 rfl) ?_
                  refine Cl_of n_161 rfl ?_
                  show Rn _ _ _ _ [some (vR 77), some (vI 2)] [] _ _
                  refine r_ldR_n (m := 0) F_161_0 rfl ?_
                  refine r_ldI_n (m := 1) F_161_1 rfl ?_
                  refine r_putI (J := 10) F_161_2 o_161 fl_6_57 ty_77 (by decide) rfl kd_77_10 pf_6_10 ?_
                  refine r_ldR_n (m := 0) F_161_5 rfl ?_
                  refine r_getR (J := 9) F_161_6 o_161 fl_6_38 ty_77 (by decide) rfl (kd2 kd_77_9 (by decide)) (kd9 kd_77_9 (by decide)) rf_77_9 ?_
                  refine r_ldI_n (m := 1) F_161_9 rfl ?_
                  refine r_dup2 F_161_10 ?_
                  refine r_iald (e := (s 87 2)) F_161_11 ty_87 (by decide) (lt_ln ln_87 (by decide)) (upd_nc (by decide)) ?_
                  refine r_iconst F_161_12 ?_
                  refine r_iadd F_161_13 rfl ?_
                  refine r_iast F_161_14 ty_87 (by decide) (lt_ln ln_87 (by decide)) ?_
                  refine r_bipush F_161_15 bi__3 ?_
                  refine r_ireturn F_161_17 rt_161 ?_
                  show Rn _ _ _ _ _ [vI (-3)] _ _
                  refine r_ireturn F_167_100 rt_167 ?_
                  exact (l14 e2 e4 e6 e8 e9 e11 e12 e13)
                · intro e14
                  replace e14 : 0 ≤ j := (Int.not_lt.mp e14)
                  refine r_ldI (m := 4) F_167_55 rfl ?_
                  refine r_if (t := 95) F_167_57 rfl (l15 e2 e4 e6 e8 e9 e11 e12 e14) ?_ ?_
                  · intro e15
                    replace e15 : k < 0 := e15
                    refine r_ldR_n (m := 0) F_167_95 rfl ?_
                    refine r_iconst F_167_96 ?_
                    refine r_virt2 (A := [vI 2]) (r := []) (n := 1) F_167_97 o_167 il_6_75 rfl rfl rfl rfl ty_77 vy_161 (lay_le n_161 rfl) ?_
                    refine Cl_of n_161 rfl ?_
                    show Rn _ _ _ _ [some (vR 77), some (vI 2)] [] _ _
                    refine r_ldR_n (m := 0) F_161_0 rfl ?_
                    refine r_ldI_n (m := 1) F_161_1 rfl ?_
                    refine r_putI (J := 10) F_161_2 o_161 fl_6_57 ty_77 (by decide) rfl kd_77_10 pf_6_10 ?_
                    refine r_ldR_n (m := 0) F_161_5 rfl ?_
                    refine r_getR (J := 9) F_161_6 o_161 fl_6_38 ty_77 (by decide) rfl (kd2 kd_77_9 (by decide)) (kd9 kd_77_9 (by decide)) rf_77_9 ?_
                    refine r_ldI_n (m := 1) F_161_9 rfl ?_
                    refine r_dup2 F_161_10 ?_
                    refine r_iald (e := (s 87 2)) F_161_11 ty_87 (by decide) (lt_ln ln_87 (by decide)) (upd_nc (by decide)) ?_
                    refine r_iconst F_161_12 ?_
                    refine r_iadd F_161_13 rfl ?_
                    refine r_iast F_161_14 ty_87 (by decide) (lt_ln ln_87 (by decide)) ?_
                    refine r_bipush F_161_15 bi__3 ?_
                    refine r_ireturn F_161_17 rt_161 ?_
                    show Rn _ _ _ _ _ [vI (-3)] _ _
                    refine r_ireturn F_167_100 rt_167 ?_
                    exact (l16 e2 e4 e6 e8 e9 e11 e12 e14 e15)
                  · intro e16
                    replace e16 : 0 ≤ k := (Int.not_lt.mp e16)
                    refine r_ldI_n (m := 2) F_167_60 rfl ?_
                    refine r_i2l F_167_61 (l13 e2 e4 e6 e8 e9 e11 e12) ?_
                    refine r_ldI (m := 5) F_167_62 rfl ?_
                    refine r_i2l F_167_64 (l7 e2 e4 e6 e8) ?_
                    refine r_ladd F_167_65 rfl ?_
                    refine r_ldR_n (m := 0) F_167_66 rfl ?_
                    refine r_getR (J := 0) F_167_67 o_167 fl_6_7 ty_77 (by decide) rfl (kd2 kd_77_0 (by decide)) (kd9 kd_77_0 (by decide)) rf_77_0 ?_
                    refine r_ldI_n (m := 1) F_167_70 rfl ?_
                    refine r_iald (e := (s 78 r)) F_167_71 ty_78 e2 (lt_ln ln_78 (l8 e2 e4 e6 e8 e9)) rfl ?_
                    refine r_i2l F_167_72 (l9 e2 e4 e6 e8 e9) ?_
                    refine r_lcmp F_167_73 ?_
                    refine r_if (t := 95) F_167_74 rfl (inR_cmpJ _ _) ?_ ?_
                    · intro e17
                      replace e17 : 0 < (cmpJ (j + n) (s 78 r)) := e17
                      refine r_ldR_n (m := 0) F_167_95 rfl ?_
                      refine r_iconst F_167_96 ?_
                      refine r_virt2 (A := [vI 2]) (r := []) (n := 1) F_167_97 o_167 il_6_75 rfl rfl rfl rfl ty_77 vy_161 (lay_le n_161 rfl) ?_
                      refine Cl_of n_161 rfl ?_
                      show Rn _ _ _ _ [some (vR 77), some (vI 2)] [] _ _
                      refine r_ldR_n (m := 0) F_161_0 rfl ?_
                      refine r_ldI_n (m := 1) F_161_1 rfl ?_
                      refine r_putI (J := 10) F_161_2 o_161 fl_6_57 ty_77 (by decide) rfl kd_77_10 pf_6_10 ?_
                      refine r_ldR_n (m := 0) F_161_5 rfl ?_
                      refine r_getR (J := 9) F_161_6 o_161 fl_6_38 ty_77 (by decide) rfl (kd2 kd_77_9 (by decide)) (kd9 kd_77_9 (by decide)) rf_77_9 ?_
                      refine r_ldI_n (m := 1) F_161_9 rfl ?_
                      refine r_dup2 F_161_10 ?_
                      refine r_iald (e := (s 87 2)) F_161_11 ty_87 (by decide) (lt_ln ln_87 (by decide)) (upd_nc (by decide)) ?_
                      refine r_iconst F_161_12 ?_
                      refine r_iadd F_161_13 rfl ?_
                      refine r_iast F_161_14 ty_87 (by decide) (lt_ln ln_87 (by decide)) ?_
                      refine r_bipush F_161_15 bi__3 ?_
                      refine r_ireturn F_161_17 rt_161 ?_
                      show Rn _ _ _ _ _ [vI (-3)] _ _
                      refine r_ireturn F_167_100 rt_167 ?_
                      exact (l17 e2 e4 e6 e8 e9 e11 e12 e14 e16 e17)
                    · intro e18
                      replace e18 : (cmpJ (j + n) (s 78 r)) ≤ 0 := (Int.not_lt.mp e18)
                      refine r_ldI (m := 4) F_167_77 rfl ?_
                      refine r_i2l F_167_79 (l15 e2 e4 e6 e8 e9 e11 e12 e14) ?_
                      refine r_ldI (m := 5) F_167_80 rfl ?_
                      refine r_i2l F_167_82 (l7 e2 e4 e6 e8) ?_
                      refine r_ladd F_167_83 rfl ?_
                      refine r_ldR_n (m := 0) F_167_84 rfl ?_
                      refine r_getR (J := 0) F_167_85 o_167 fl_6_7 ty_77 (by decide) rfl (kd2 kd_77_0 (by decide)) (kd9 kd_77_0 (by decide)) rf_77_0 ?_
                      refine r_ldI_n (m := 3) F_167_88 rfl ?_
                      refine r_iald (e := (s 78 t)) F_167_89 ty_78 e6 (lt_ln ln_78 (l11 e2 e4 e6 e8 e9 e11)) rfl ?_
                      refine r_i2l F_167_90 (l12 e2 e4 e6 e8 e9 e11) ?_
                      refine r_lcmp F_167_91 ?_
                      refine r_if (t := 101) F_167_92 rfl (inR_cmpJ _ _) ?_ ?_
                      · intro e19
                        replace e19 : (cmpJ (k + n) (s 78 t)) ≤ 0 := e19
                        refine r_iconst F_167_101 ?_
                        refine r_stI (m := 6) (L' := [some (vR 77), some (vI r), some (vI j), some (vI t), some (vI k), some (vI n), some (vI 0)]) F_167_102 rfl rfl ?_
                        exact (l18 e2 e4 e6 e8 e9 e11 e12 e14 e16 e18 e19)
                      · intro e20
                        replace e20 : 0 < (cmpJ (k + n) (s 78 t)) := (Int.not_le.mp e20)
                        refine r_ldR_n (m := 0) F_167_95 rfl ?_
                        refine r_iconst F_167_96 ?_
                        refine r_virt2 (A := [vI 2]) (r := []) (n := 1) F_167_97 o_167 il_6_75 rfl rfl rfl rfl ty_77 vy_161 (lay_le n_161 rfl) ?_
                        refine Cl_of n_161 rfl ?_
                        show Rn _ _ _ _ [some (vR 77), some (vI 2)] [] _ _
                        refine r_ldR_n (m := 0) F_161_0 rfl ?_
                        refine r_ldI_n (m := 1) F_161_1 rfl ?_
                        refine r_putI (J := 10) F_161_2 o_161 fl_6_57 ty_77 (by decide) rfl kd_77_10 pf_6_10 ?_
                        refine r_ldR_n (m := 0) F_161_5 rfl ?_
                        refine r_getR (J := 9) F_161_6 o_161 fl_6_38 ty_77 (by decide) rfl (kd2 kd_77_9 (by decide)) (kd9 kd_77_9 (by decide)) rf_77_9 ?_
                        refine r_ldI_n (m := 1) F_161_9 rfl ?_
                        refine r_dup2 F_161_10 ?_
                        refine r_iald (e := (s 87 2)) F_161_11 ty_87 (by decide) (lt_ln ln_87 (by decide)) (upd_nc (by decide)) ?_
                        refine r_iconst F_161_12 ?_
                        refine r_iadd F_161_13 rfl ?_
                        refine r_iast F_161_14 ty_87 (by decide) (lt_ln ln_87 (by decide)) ?_
                        refine r_bipush F_161_15 bi__3 ?_
                        refine r_ireturn F_161_17 rt_161 ?_
                        show Rn _ _ _ _ _ [vI (-3)] _ _
                        refine r_ireturn F_167_100 rt_167 ?_
                        exact (l19 e2 e4 e6 e8 e9 e11 e12 e14 e16 e18 e20)
              · intro e21
                replace e21 : (s 78 t) < 0 := (Int.not_le.mp e21)
                refine r_ldR_n (m := 0) F_167_45 rfl ?_
                refine r_iconst F_167_46 ?_
                refine r_virt2 (A := [vI 1]) (r := []) (n := 1) F_167_47 o_167 il_6_75 rfl rfl rfl rfl ty_77 vy_161 (lay_le n_161 rfl) ?_
                refine Cl_of n_161 rfl ?_
                show Rn _ _ _ _ [some (vR 77), some (vI 1)] [] _ _
                refine r_ldR_n (m := 0) F_161_0 rfl ?_
                refine r_ldI_n (m := 1) F_161_1 rfl ?_
                refine r_putI (J := 10) F_161_2 o_161 fl_6_57 ty_77 (by decide) rfl kd_77_10 pf_6_10 ?_
                refine r_ldR_n (m := 0) F_161_5 rfl ?_
                refine r_getR (J := 9) F_161_6 o_161 fl_6_38 ty_77 (by decide) rfl (kd2 kd_77_9 (by decide)) (kd9 kd_77_9 (by decide)) rf_77_9 ?_
                refine r_ldI_n (m := 1) F_161_9 rfl ?_
                refine r_dup2 F_161_10 ?_
                refine r_iald (e := (s 87 1)) F_161_11 ty_87 (by decide) (lt_ln ln_87 (by decide)) (upd_nc (by decide)) ?_
                refine r_iconst F_161_12 ?_
                refine r_iadd F_161_13 rfl ?_
                refine r_iast F_161_14 ty_87 (by decide) (lt_ln ln_87 (by decide)) ?_
                refine r_bipush F_161_15 bi__3 ?_
                refine r_ireturn F_161_17 rt_161 ?_
                show Rn _ _ _ _ _ [vI (-3)] _ _
                refine r_ireturn F_167_50 rt_167 ?_
                exact (l20 e2 e4 e6 e8 e9 e11 e21)
          · intro e22
            replace e22 : n < 0 := (Int.not_le.mp e22)
            refine r_ldR_n (m := 0) F_167_21 rfl ?_
            refine r_iconst F_167_22 ?_
            refine r_virt2 (A := [vI 5]) (r := []) (n := 1) F_167_23 o_167 il_6_75 rfl rfl rfl rfl ty_77 vy_161 (lay_le n_161 rfl) ?_
            refine Cl_of n_161 rfl ?_
            show Rn _ _ _ _ [some (vR 77), some (vI 5)] [] _ _
            refine r_ldR_n (m := 0) F_161_0 rfl ?_
            refine r_ldI_n (m := 1) F_161_1 rfl ?_
            refine r_putI (J := 10) F_161_2 o_161 fl_6_57 ty_77 (by decide) rfl kd_77_10 pf_6_10 ?_
            refine r_ldR_n (m := 0) F_161_5 rfl ?_
            refine r_getR (J := 9) F_161_6 o_161 fl_6_38 ty_77 (by decide) rfl (kd2 kd_77_9 (by decide)) (kd9 kd_77_9 (by decide)) rf_77_9 ?_
            refine r_ldI_n (m := 1) F_161_9 rfl ?_
            refine r_dup2 F_161_10 ?_
            refine r_iald (e := (s 87 5)) F_161_11 ty_87 (by decide) (lt_ln ln_87 (by decide)) (upd_nc (by decide)) ?_
            refine r_iconst F_161_12 ?_
            refine r_iadd F_161_13 rfl ?_
            refine r_iast F_161_14 ty_87 (by decide) (lt_ln ln_87 (by decide)) ?_
            refine r_bipush F_161_15 bi__3 ?_
            refine r_ireturn F_161_17 rt_161 ?_
            show Rn _ _ _ _ _ [vI (-3)] _ _
            refine r_ireturn F_167_26 rt_167 ?_
            exact (l21 e2 e4 e6 e8 e22)
theorem t_X6_copy_104 {X : List Int32} {d : Nat} {s : m_St} {P : Option Value → m_St → Prop} {r j t k n z : Int} (z0 : 0 ≤ z) (h0 : 0 ≤ r) (h6 : r < 6) (t0 : 0 ≤ t) (t6 : t < 6)
    (l1 : inR z)
    (l2 : inR n)
    (l3 : n ≤ z → Rn X (d + 2) 167 141 [some (vR 77), some (vI r), some (vI j), some (vI t), some (vI k), some (vI n), some (vI 0)] [] s P)
    (l4 : z < n → 0 ≤ (((40 * r) + j) + z))
    (l5 : z < n → (((40 * r) + j) + z) < 240)
    (l6 : z < n → z < 40)
    (l7 : z < n → Rn X (d + 2) 167 104 [some (vR 77), some (vI r), some (vI j), some (vI t), some (vI k), some (vI n), some (vI (z + 1))] [] (m_upd s 80 z (s 79 (((40 * r) + j) + z))) P)
    : Rn X (d + 2) 167 104 [some (vR 77), some (vI r), some (vI j), some (vI t), some (vI k), some (vI n), some (vI z)] [] s P := by
  refine r_ldI (m := 6) F_167_104 rfl ?_
  refine r_ldI (m := 5) F_167_106 rfl ?_
  refine r_icmp (t := 138) F_167_108 rfl l1 l2 ?_ ?_
  · intro e1
    replace e1 : n ≤ z := e1
    refine r_iconst F_167_138 ?_
    refine r_stI (m := 6) (L' := [some (vR 77), some (vI r), some (vI j), some (vI t), some (vI k), some (vI n), some (vI 0)]) F_167_139 rfl rfl ?_
    exact (l3 e1)
  · intro e2
    replace e2 : z < n := (Int.not_le.mp e2)
    refine r_ldR_n (m := 0) F_167_111 rfl ?_
    refine r_getR (J := 2) F_167_112 o_167 fl_6_16 ty_77 (by decide) rfl (kd2 kd_77_2 (by decide)) (kd9 kd_77_2 (by decide)) rf_77_2 ?_
    refine r_ldI (m := 6) F_167_115 rfl ?_
    refine r_ldR_n (m := 0) F_167_117 rfl ?_
    refine r_getR (J := 1) F_167_118 o_167 fl_6_13 ty_77 (by decide) rfl (kd2 kd_77_1 (by decide)) (kd9 kd_77_1 (by decide)) rf_77_1 ?_
    refine r_bipush F_167_121 bi_40 ?_
    refine r_ldI_n (m := 1) F_167_123 rfl ?_
    refine r_imul F_167_124 rfl ?_
    refine r_ldI_n (m := 2) F_167_125 rfl ?_
    refine r_iadd F_167_126 rfl ?_
    refine r_ldI (m := 6) F_167_127 rfl ?_
    refine r_iadd F_167_129 rfl ?_
    refine r_iald (e := (s 79 (((40 * r) + j) + z))) F_167_130 ty_79 (l4 e2) (lt_ln ln_79 (l5 e2)) rfl ?_
    refine r_iast F_167_131 ty_80 z0 (lt_ln ln_80 (l6 e2)) ?_
    refine r_iinc (m := 6) (e := (z + 1)) (L' := [some (vR 77), some (vI r), some (vI j), some (vI t), some (vI k), some (vI n), some (vI (z + 1))]) F_167_132 rfl rfl rfl rfl ?_
    refine r_goto (t := 104) F_167_135 rfl ?_
    exact (l7 e2)
theorem t_X6_copy_141 {X : List Int32} {d : Nat} {s : m_St} {P : Option Value → m_St → Prop} {r j t k n z : Int} (z0 : 0 ≤ z) (h0 : 0 ≤ r) (h6 : r < 6) (t0 : 0 ≤ t) (t6 : t < 6)
    (l1 : inR z)
    (l2 : inR n)
    (l3 : n ≤ z → P (some (vI 1)) s)
    (l4 : z < n → z < 40)
    (l5 : z < n → 0 ≤ (((40 * t) + k) + z))
    (l6 : z < n → (((40 * t) + k) + z) < 240)
    (l7 : z < n → Rn X (d + 2) 167 141 [some (vR 77), some (vI r), some (vI j), some (vI t), some (vI k), some (vI n), some (vI (z + 1))] [] (m_upd s 79 (((40 * t) + k) + z) (s 80 z)) P)
    : Rn X (d + 2) 167 141 [some (vR 77), some (vI r), some (vI j), some (vI t), some (vI k), some (vI n), some (vI z)] [] s P := by
  refine r_ldI (m := 6) F_167_141 rfl ?_
  refine r_ldI (m := 5) F_167_143 rfl ?_
  refine r_icmp (t := 176) F_167_145 rfl l1 l2 ?_ ?_
  · intro e1
    replace e1 : n ≤ z := e1
    refine r_iconst F_167_176 ?_
    refine r_ireturn F_167_177 rt_167 ?_
    exact (l3 e1)
  · intro e2
    replace e2 : z < n := (Int.not_le.mp e2)
    refine r_ldR_n (m := 0) F_167_148 rfl ?_
    refine r_getR (J := 1) F_167_149 o_167 fl_6_13 ty_77 (by decide) rfl (kd2 kd_77_1 (by decide)) (kd9 kd_77_1 (by decide)) rf_77_1 ?_
    refine r_bipush F_167_152 bi_40 ?_
    refine r_ldI_n (m := 3) F_167_154 rfl ?_
    refine r_imul F_167_155 rfl ?_
    refine r_ldI (m := 4) F_167_156 rfl ?_
    refine r_iadd F_167_158 rfl ?_
    refine r_ldI (m := 6) F_167_159 rfl ?_
    refine r_iadd F_167_161 rfl ?_
    refine r_ldR_n (m := 0) F_167_162 rfl ?_
    refine r_getR (J := 2) F_167_163 o_167 fl_6_16 ty_77 (by decide) rfl (kd2 kd_77_2 (by decide)) (kd9 kd_77_2 (by decide)) rf_77_2 ?_
    refine r_ldI (m := 6) F_167_166 rfl ?_
    refine r_iald (e := (s 80 z)) F_167_168 ty_80 z0 (lt_ln ln_80 (l4 e2)) rfl ?_
    refine r_iast F_167_169 ty_79 (l5 e2) (lt_ln ln_79 (l6 e2)) ?_
    refine r_iinc (m := 6) (e := (z + 1)) (L' := [some (vR 77), some (vI r), some (vI j), some (vI t), some (vI k), some (vI n), some (vI (z + 1))]) F_167_170 rfl rfl rfl rfl ?_
    refine r_goto (t := 141) F_167_173 rfl ?_
    exact (l7 e2)
theorem t_X6_mean {X : List Int32} {d : Nat} {s : m_St} {P : Option Value → m_St → Prop} {r : Int}
    (l1 : inR r)
    (l2 : r < 0 → P (some (vI (-1))) s)
    (l3 : 0 ≤ r → 5 < r → P (some (vI (-1))) s)
    (l4 : 0 ≤ r → r ≤ 5 → r < 6)
    (l5 : 0 ≤ r → r ≤ 5 → inR (s 78 r))
    (l6 : 0 ≤ r → r ≤ 5 → 0 ≤ (s 78 r) → ¬ (s 78 r) = 0 → Rn X (d + 2) 168 44 [some (vR 77), some (vI r), some (vJ 0), none, some (vI 0)] [] s P)
    (l7 : 0 ≤ r → r ≤ 5 → 0 ≤ (s 78 r) → (s 78 r) = 0 → P (some (vI (-3))) (m_upd (m_upd s 77 10 4) 87 4 ((s 87 4) + 1)))
    (l8 : 0 ≤ r → r ≤ 5 → (s 78 r) < 0 → P (some (vI (-3))) (m_upd (m_upd s 77 10 1) 87 1 ((s 87 1) + 1)))
    : Cl X (d + 2) 168 [vR 77, vI r] s P := by
  refine Cl_of n_168 rfl ?_
  show Rn _ _ _ _ [some (vR 77), some (vI r), none, none, none] [] _ _
  refine r_ldI_n (m := 1) F_168_0 rfl ?_
  refine r_stat2 (A := [vI r]) (r := []) (n := 1) F_168_1 o_168 il_6_71 (by decide) rfl rfl rfl rfl (lay_le n_159 rfl) ?_
  refine Cl_of n_159 rfl ?_
  show Rn _ _ _ _ [some (vI r)] [] _ _
  refine r_ldI_n (m := 0) F_159_0 rfl ?_
  refine r_iconst F_159_1 ?_
  refine r_iconst F_159_2 ?_
  refine r_stat2 (A := [vI r, vI 0, vI 5]) (r := []) (n := 3) F_159_3 o_159 il_6_67 (by decide) rfl rfl rfl rfl (lay_le n_160 rfl) ?_
  refine Cl_of n_160 rfl ?_
  show Rn _ _ _ _ [some (vI r), some (vI 0), some (vI 5)] [] _ _
  refine r_ldI_n (m := 0) F_160_0 rfl ?_
  refine r_ldI_n (m := 1) F_160_1 rfl ?_
  refine r_icmp (t := 14) F_160_2 rfl l1 (by decide) ?_ ?_
  · intro e1
    replace e1 : r < 0 := e1
    refine r_iconst F_160_14 ?_
    refine r_zreturn F_160_15 rt_160 (Or.inl rfl) ?_
    show Rn _ _ _ _ _ [vI 0] _ _
    refine r_zreturn F_159_6 rt_159 (Or.inl rfl) ?_
    show Rn _ _ _ _ _ [vI 0] _ _
    refine r_ifF (t := 9) F_168_4 rfl (by decide) (by show ¬ (¬ (0 : Int) = 0); decide) ?_
    refine r_iconst F_168_7 ?_
    refine r_ireturn F_168_8 rt_168 ?_
    exact (l2 e1)
  · intro e2
    replace e2 : 0 ≤ r := (Int.not_lt.mp e2)
    refine r_ldI_n (m := 0) F_160_5 rfl ?_
    refine r_ldI_n (m := 2) F_160_6 rfl ?_
    refine r_icmp (t := 14) F_160_7 rfl l1 (by decide) ?_ ?_
    · intro e3
      replace e3 : 5 < r := e3
      refine r_iconst F_160_14 ?_
      refine r_zreturn F_160_15 rt_160 (Or.inl rfl) ?_
      show Rn _ _ _ _ _ [vI 0] _ _
      refine r_zreturn F_159_6 rt_159 (Or.inl rfl) ?_
      show Rn _ _ _ _ _ [vI 0] _ _
      refine r_ifF (t := 9) F_168_4 rfl (by decide) (by show ¬ (¬ (0 : Int) = 0); decide) ?_
      refine r_iconst F_168_7 ?_
      refine r_ireturn F_168_8 rt_168 ?_
      exact (l3 e2 e3)
    · intro e4
      replace e4 : r ≤ 5 := (Int.not_lt.mp e4)
      refine r_iconst F_160_10 ?_
      refine r_goto (t := 15) F_160_11 rfl ?_
      refine r_zreturn F_160_15 rt_160 (Or.inr rfl) ?_
      show Rn _ _ _ _ _ [vI 1] _ _
      refine r_zreturn F_159_6 rt_159 (Or.inr rfl) ?_
      show Rn _ _ _ _ _ [vI 1] _ _
      refine r_ifT (t := 9) F_168_4 rfl (by decide) (by show ¬ (1 : Int) = 0; decide) ?_
      refine r_ldR_n (m := 0) F_168_9 rfl ?_
      refine r_getR (J := 0) F_168_10 o_168 fl_6_7 ty_77 (by decide) rfl (kd2 kd_77_0 (by decide)) (kd9 kd_77_0 (by decide)) rf_77_0 ?_
      refine r_ldI_n (m := 1) F_168_13 rfl ?_
      refine r_iald (e := (s 78 r)) F_168_14 ty_78 e2 (lt_ln ln_78 (l4 e2 e4)) rfl ?_
      refine r_if (t := 24) F_168_15 rfl (l5 e2 e4) ?_ ?_
      · intro e5
        replace e5 : 0 ≤ (s 78 r) := e5
        refine r_ldR_n (m := 0) F_168_24 rfl ?_
        refine r_getR (J := 0) F_168_25 o_168 fl_6_7 ty_77 (by decide) rfl (kd2 kd_77_0 (by decide)) (kd9 kd_77_0 (by decide)) rf_77_0 ?_
        refine r_ldI_n (m := 1) F_168_28 rfl ?_
        refine r_iald (e := (s 78 r)) F_168_29 ty_78 e2 (lt_ln ln_78 (l4 e2 e4)) rfl ?_
        refine r_if (t := 39) F_168_30 rfl (l5 e2 e4) ?_ ?_
        · intro e6
          replace e6 : ¬ (s 78 r) = 0 := e6
          refine r_lconst (e := 0) F_168_39 rfl ?_
          refine r_stJ_n (m := 2) (L' := [some (vR 77), some (vI r), some (vJ 0), none, none]) F_168_40 rfl rfl ?_
          refine r_iconst F_168_41 ?_
          refine r_stI (m := 4) (L' := [some (vR 77), some (vI r), some (vJ 0), none, some (vI 0)]) F_168_42 rfl rfl ?_
          exact (l6 e2 e4 e5 e6)
        · intro e7
          replace e7 : (s 78 r) = 0 := (Classical.not_not.mp e7)
          refine r_ldR_n (m := 0) F_168_33 rfl ?_
          refine r_iconst F_168_34 ?_
          refine r_virt2 (A := [vI 4]) (r := []) (n := 1) F_168_35 o_168 il_6_75 rfl rfl rfl rfl ty_77 vy_161 (lay_le n_161 rfl) ?_
          refine Cl_of n_161 rfl ?_
          show Rn _ _ _ _ [some (vR 77), some (vI 4)] [] _ _
          refine r_ldR_n (m := 0) F_161_0 rfl ?_
          refine r_ldI_n (m := 1) F_161_1 rfl ?_
          refine r_putI (J := 10) F_161_2 o_161 fl_6_57 ty_77 (by decide) rfl kd_77_10 pf_6_10 ?_
          refine r_ldR_n (m := 0) F_161_5 rfl ?_
          refine r_getR (J := 9) F_161_6 o_161 fl_6_38 ty_77 (by decide) rfl (kd2 kd_77_9 (by decide)) (kd9 kd_77_9 (by decide)) rf_77_9 ?_
          refine r_ldI_n (m := 1) F_161_9 rfl ?_
          refine r_dup2 F_161_10 ?_
          refine r_iald (e := (s 87 4)) F_161_11 ty_87 (by decide) (lt_ln ln_87 (by decide)) (upd_nc (by decide)) ?_
          refine r_iconst F_161_12 ?_
          refine r_iadd F_161_13 rfl ?_
          refine r_iast F_161_14 ty_87 (by decide) (lt_ln ln_87 (by decide)) ?_
          refine r_bipush F_161_15 bi__3 ?_
          refine r_ireturn F_161_17 rt_161 ?_
          show Rn _ _ _ _ _ [vI (-3)] _ _
          refine r_ireturn F_168_38 rt_168 ?_
          exact (l7 e2 e4 e5 e7)
      · intro e8
        replace e8 : (s 78 r) < 0 := (Int.not_le.mp e8)
        refine r_ldR_n (m := 0) F_168_18 rfl ?_
        refine r_iconst F_168_19 ?_
        refine r_virt2 (A := [vI 1]) (r := []) (n := 1) F_168_20 o_168 il_6_75 rfl rfl rfl rfl ty_77 vy_161 (lay_le n_161 rfl) ?_
        refine Cl_of n_161 rfl ?_
        show Rn _ _ _ _ [some (vR 77), some (vI 1)] [] _ _
        refine r_ldR_n (m := 0) F_161_0 rfl ?_
        refine r_ldI_n (m := 1) F_161_1 rfl ?_
        refine r_putI (J := 10) F_161_2 o_161 fl_6_57 ty_77 (by decide) rfl kd_77_10 pf_6_10 ?_
        refine r_ldR_n (m := 0) F_161_5 rfl ?_
        refine r_getR (J := 9) F_161_6 o_161 fl_6_38 ty_77 (by decide) rfl (kd2 kd_77_9 (by decide)) (kd9 kd_77_9 (by decide)) rf_77_9 ?_
        refine r_ldI_n (m := 1) F_161_9 rfl ?_
        refine r_dup2 F_161_10 ?_
        refine r_iald (e := (s 87 1)) F_161_11 ty_87 (by decide) (lt_ln ln_87 (by decide)) (upd_nc (by decide)) ?_
        refine r_iconst F_161_12 ?_
        refine r_iadd F_161_13 rfl ?_
        refine r_iast F_161_14 ty_87 (by decide) (lt_ln ln_87 (by decide)) ?_
        refine r_bipush F_161_15 bi__3 ?_
        refine r_ireturn F_161_17 rt_161 ?_
        show Rn _ _ _ _ _ [vI (-3)] _ _
        refine r_ireturn F_168_23 rt_168 ?_
        exact (l8 e2 e4 e8)
theorem t_X6_mean_44 {X : List Int32} {d : Nat} {s : m_St} {P : Option Value → m_St → Prop} {r u k : Int} (h0 : 0 ≤ r) (h6 : r < 6) (k0 : 0 ≤ k)
    (l1 : inR k)
    (l2 : inR (s 78 r))
    (l3 : (s 78 r) ≤ k → 0 < (s 78 r))
    (l4 : (s 78 r) ≤ k → inJ u)
    (l5 : (s 78 r) ≤ k → inJ (s 78 r))
    (l6 : (s 78 r) ≤ k → P (some (vI 1)) (m_upd s 77 11 (Int.tdiv u (s 78 r))))
    (l7 : k < (s 78 r) → 0 ≤ ((40 * r) + k))
    (l8 : k < (s 78 r) → ((40 * r) + k) < 240)
    (l9 : k < (s 78 r) → inR (s 79 ((40 * r) + k)))
    (l10 : k < (s 78 r) → Rn X (d + 2) 168 44 [some (vR 77), some (vI r), some (vJ (u + (s 79 ((40 * r) + k)))), none, some (vI (k + 1))] [] s P)
    : Rn X (d + 2) 168 44 [some (vR 77), some (vI r), some (vJ u), none, some (vI k)] [] s P := by
  refine r_ldI (m := 4) F_168_44 rfl ?_
  refine r_ldR_n (m := 0) F_168_46 rfl ?_
  refine r_getR (J := 0) F_168_47 o_168 fl_6_7 ty_77 (by decide) rfl (kd2 kd_77_0 (by decide)) (kd9 kd_77_0 (by decide)) rf_77_0 ?_
  refine r_ldI_n (m := 1) F_168_50 rfl ?_
  refine r_iald (e := (s 78 r)) F_168_51 ty_78 h0 (lt_ln ln_78 h6) rfl ?_
  refine r_icmp (t := 77) F_168_52 rfl l1 l2 ?_ ?_
  · intro e1
    replace e1 : (s 78 r) ≤ k := e1
    refine r_ldR_n (m := 0) F_168_77 rfl ?_
    refine r_iconst F_168_78 ?_
    refine r_ldJ_n (m := 2) F_168_79 rfl ?_
    refine r_ldR_n (m := 0) F_168_80 rfl ?_
    refine r_getR (J := 0) F_168_81 o_168 fl_6_7 ty_77 (by decide) rfl (kd2 kd_77_0 (by decide)) (kd9 kd_77_0 (by decide)) rf_77_0 ?_
    refine r_ldI_n (m := 1) F_168_84 rfl ?_
    refine r_iald (e := (s 78 r)) F_168_85 ty_78 h0 (lt_ln ln_78 h6) rfl ?_
    refine r_i2l F_168_86 l2 ?_
    refine r_ldivT F_168_87 (l4 e1) (l5 e1) (l3 e1) ?_
    refine r_l2i F_168_88 ?_
    refine r_virt2 (A := [vI 1, vI (Int.tdiv u (s 78 r))]) (r := []) (n := 2) F_168_89 o_168 il_6_87 rfl rfl rfl rfl ty_77 vy_165 (lay_le n_165 rfl) ?_
    refine Cl_of n_165 rfl ?_
    show Rn _ _ _ _ [some (vR 77), some (vI 1), some (vI (Int.tdiv u (s 78 r)))] [] _ _
    refine r_ldR_n (m := 0) F_165_0 rfl ?_
    refine r_ldI_n (m := 2) F_165_1 rfl ?_
    refine r_putI (J := 11) F_165_2 o_165 fl_6_61 ty_77 (by decide) rfl kd_77_11 pf_6_11 ?_
    refine r_ldI_n (m := 1) F_165_5 rfl ?_
    refine r_ireturn F_165_6 rt_165 ?_
    show Rn _ _ _ _ _ [vI 1] _ _
    refine r_ireturn F_168_92 rt_168 ?_
    exact (l6 e1)
  · intro e2
    replace e2 : k < (s 78 r) := (Int.not_le.mp e2)
    refine r_ldJ_n (m := 2) F_168_55 rfl ?_
    refine r_ldR_n (m := 0) F_168_56 rfl ?_
    refine r_getR (J := 1) F_168_57 o_168 fl_6_13 ty_77 (by decide) rfl (kd2 kd_77_1 (by decide)) (kd9 kd_77_1 (by decide)) rf_77_1 ?_
    refine r_bipush F_168_60 bi_40 ?_
    refine r_ldI_n (m := 1) F_168_62 rfl ?_
    refine r_imul F_168_63 rfl ?_
    refine r_ldI (m := 4) F_168_64 rfl ?_
    refine r_iadd F_168_66 rfl ?_
    refine r_iald (e := (s 79 ((40 * r) + k))) F_168_67 ty_79 (l7 e2) (lt_ln ln_79 (l8 e2)) rfl ?_
    refine r_i2l F_168_68 (l9 e2) ?_
    refine r_ladd F_168_69 rfl ?_
    refine r_stJ_n (m := 2) (L' := [some (vR 77), some (vI r), some (vJ (u + (s 79 ((40 * r) + k)))), none, some (vI k)]) F_168_70 rfl rfl ?_
    refine r_iinc (m := 4) (e := (k + 1)) (L' := [some (vR 77), some (vI r), some (vJ (u + (s 79 ((40 * r) + k)))), none, some (vI (k + 1))]) F_168_71 rfl rfl rfl rfl ?_
    refine r_goto (t := 44) F_168_74 rfl ?_
    exact (l10 e2)
theorem t_X6_text {X : List Int32} {d : Nat} {s : m_St} {P : Option Value → m_St → Prop} {t n : Int}
    (l1 : inR t)
    (l2 : t < 0 → P (some (vI (-1))) s)
    (l3 : 0 ≤ t → 3 < t → P (some (vI (-1))) s)
    (l4 : 0 ≤ t → t ≤ 3 → inR n)
    (l5 : 0 ≤ t → t ≤ 3 → n ≤ 60 → 0 ≤ n → t < 4)
    (l6 : 0 ≤ t → t ≤ 3 → n ≤ 60 → 0 ≤ n → Rn X (d + 2) 169 34 [some (vR 77), some (vI t), some (vI n), some (vI 0)] [] (m_upd s 81 t n) P)
    (l7 : 0 ≤ t → t ≤ 3 → n ≤ 60 → n < 0 → P (some (vI (-3))) (m_upd (m_upd s 77 10 5) 87 5 ((s 87 5) + 1)))
    (l8 : 0 ≤ t → t ≤ 3 → 60 < n → P (some (vI (-1))) s)
    : Cl X (d + 2) 169 [vR 77, vI t, vI n] s P := by
  refine Cl_of n_169 rfl ?_
  show Rn _ _ _ _ [some (vR 77), some (vI t), some (vI n), none] [] _ _
  refine r_ldI_n (m := 1) F_169_0 rfl ?_
  refine r_stat2 (A := [vI t]) (r := []) (n := 1) F_169_1 o_169 il_6_90 (by decide) rfl rfl rfl rfl (lay_le n_170 rfl) ?_
  refine Cl_of n_170 rfl ?_
  show Rn _ _ _ _ [some (vI t)] [] _ _
  refine r_ldI_n (m := 0) F_170_0 rfl ?_
  refine r_iconst F_170_1 ?_
  refine r_iconst F_170_2 ?_
  refine r_stat2 (A := [vI t, vI 0, vI 3]) (r := []) (n := 3) F_170_3 o_170 il_6_67 (by decide) rfl rfl rfl rfl (lay_le n_160 rfl) ?_
  refine Cl_of n_160 rfl ?_
  show Rn _ _ _ _ [some (vI t), some (vI 0), some (vI 3)] [] _ _
  refine r_ldI_n (m := 0) F_160_0 rfl ?_
  refine r_ldI_n (m := 1) F_160_1 rfl ?_
  refine r_icmp (t := 14) F_160_2 rfl l1 (by decide) ?_ ?_
  · intro e1
    replace e1 : t < 0 := e1
    refine r_iconst F_160_14 ?_
    refine r_zreturn F_160_15 rt_160 (Or.inl rfl) ?_
    show Rn _ _ _ _ _ [vI 0] _ _
    refine r_zreturn F_170_6 rt_170 (Or.inl rfl) ?_
    show Rn _ _ _ _ _ [vI 0] _ _
    refine r_ifT (t := 13) F_169_4 rfl (by decide) (by show (0 : Int) = 0; decide) ?_
    refine r_iconst F_169_13 ?_
    refine r_ireturn F_169_14 rt_169 ?_
    exact (l2 e1)
  · intro e2
    replace e2 : 0 ≤ t := (Int.not_lt.mp e2)
    refine r_ldI_n (m := 0) F_160_5 rfl ?_
    refine r_ldI_n (m := 2) F_160_6 rfl ?_
    refine r_icmp (t := 14) F_160_7 rfl l1 (by decide) ?_ ?_
    · intro e3
      replace e3 : 3 < t := e3
      refine r_iconst F_160_14 ?_
      refine r_zreturn F_160_15 rt_160 (Or.inl rfl) ?_
      show Rn _ _ _ _ _ [vI 0] _ _
      refine r_zreturn F_170_6 rt_170 (Or.inl rfl) ?_
      show Rn _ _ _ _ _ [vI 0] _ _
      refine r_ifT (t := 13) F_169_4 rfl (by decide) (by show (0 : Int) = 0; decide) ?_
      refine r_iconst F_169_13 ?_
      refine r_ireturn F_169_14 rt_169 ?_
      exact (l3 e2 e3)
    · intro e4
      replace e4 : t ≤ 3 := (Int.not_lt.mp e4)
      refine r_iconst F_160_10 ?_
      refine r_goto (t := 15) F_160_11 rfl ?_
      refine r_zreturn F_160_15 rt_160 (Or.inr rfl) ?_
      show Rn _ _ _ _ _ [vI 1] _ _
      refine r_zreturn F_170_6 rt_170 (Or.inr rfl) ?_
      show Rn _ _ _ _ _ [vI 1] _ _
      refine r_ifF (t := 13) F_169_4 rfl (by decide) (by show ¬ ((1 : Int) = 0); decide) ?_
      refine r_ldI_n (m := 2) F_169_7 rfl ?_
      refine r_bipush F_169_8 bi_60 ?_
      refine r_icmp (t := 15) F_169_10 rfl (l4 e2 e4) (by decide) ?_ ?_
      · intro e5
        replace e5 : n ≤ 60 := e5
        refine r_ldI_n (m := 2) F_169_15 rfl ?_
        refine r_if (t := 25) F_169_16 rfl (l4 e2 e4) ?_ ?_
        · intro e6
          replace e6 : 0 ≤ n := e6
          refine r_ldR_n (m := 0) F_169_25 rfl ?_
          refine r_getR (J := 3) F_169_26 o_169 fl_6_19 ty_77 (by decide) rfl (kd2 kd_77_3 (by decide)) (kd9 kd_77_3 (by decide)) rf_77_3 ?_
          refine r_ldI_n (m := 1) F_169_29 rfl ?_
          refine r_ldI_n (m := 2) F_169_30 rfl ?_
          refine r_iast F_169_31 ty_81 e2 (lt_ln ln_81 (l5 e2 e4 e5 e6)) ?_
          refine r_iconst F_169_32 ?_
          refine r_stI_n (m := 3) (L' := [some (vR 77), some (vI t), some (vI n), some (vI 0)]) F_169_33 rfl rfl ?_
          exact (l6 e2 e4 e5 e6)
        · intro e7
          replace e7 : n < 0 := (Int.not_le.mp e7)
          refine r_ldR_n (m := 0) F_169_19 rfl ?_
          refine r_iconst F_169_20 ?_
          refine r_virt2 (A := [vI 5]) (r := []) (n := 1) F_169_21 o_169 il_6_75 rfl rfl rfl rfl ty_77 vy_161 (lay_le n_161 rfl) ?_
          refine Cl_of n_161 rfl ?_
          show Rn _ _ _ _ [some (vR 77), some (vI 5)] [] _ _
          refine r_ldR_n (m := 0) F_161_0 rfl ?_
          refine r_ldI_n (m := 1) F_161_1 rfl ?_
          refine r_putI (J := 10) F_161_2 o_161 fl_6_57 ty_77 (by decide) rfl kd_77_10 pf_6_10 ?_
          refine r_ldR_n (m := 0) F_161_5 rfl ?_
          refine r_getR (J := 9) F_161_6 o_161 fl_6_38 ty_77 (by decide) rfl (kd2 kd_77_9 (by decide)) (kd9 kd_77_9 (by decide)) rf_77_9 ?_
          refine r_ldI_n (m := 1) F_161_9 rfl ?_
          refine r_dup2 F_161_10 ?_
          refine r_iald (e := (s 87 5)) F_161_11 ty_87 (by decide) (lt_ln ln_87 (by decide)) (upd_nc (by decide)) ?_
          refine r_iconst F_161_12 ?_
          refine r_iadd F_161_13 rfl ?_
          refine r_iast F_161_14 ty_87 (by decide) (lt_ln ln_87 (by decide)) ?_
          refine r_bipush F_161_15 bi__3 ?_
          refine r_ireturn F_161_17 rt_161 ?_
          show Rn _ _ _ _ _ [vI (-3)] _ _
          refine r_ireturn F_169_24 rt_169 ?_
          exact (l7 e2 e4 e5 e7)
      · intro e8
        replace e8 : 60 < n := (Int.not_le.mp e8)
        refine r_iconst F_169_13 ?_
        refine r_ireturn F_169_14 rt_169 ?_
        exact (l8 e2 e4 e8)
theorem t_X6_text_34 {X : List Int32} {d : Nat} {s : m_St} {P : Option Value → m_St → Prop} {t n k : Int} (h0 : 0 ≤ t) (h4 : t < 4) (k0 : 0 ≤ k)
    (l1 : inR k)
    (l2 : 60 ≤ k → P (some (vI n)) s)
    (l3 : k < 60 → 0 ≤ ((60 * t) + k))
    (l4 : k < 60 → ((60 * t) + k) < 240)
    (l5 : k < 60 → Rn X (d + 2) 169 34 [some (vR 77), some (vI t), some (vI n), some (vI (k + 1))] [] (m_upd s 82 ((60 * t) + k) 32) P)
    : Rn X (d + 2) 169 34 [some (vR 77), some (vI t), some (vI n), some (vI k)] [] s P := by
  refine r_ldI_n (m := 3) F_169_34 rfl ?_
  refine r_bipush F_169_35 bi_60 ?_
  refine r_icmp (t := 59) F_169_37 rfl l1 (by decide) ?_ ?_
  · intro e1
    replace e1 : 60 ≤ k := e1
    refine r_ldI_n (m := 2) F_169_59 rfl ?_
    refine r_ireturn F_169_60 rt_169 ?_
    exact (l2 e1)
  · intro e2
    replace e2 : k < 60 := (Int.not_le.mp e2)
    refine r_ldR_n (m := 0) F_169_40 rfl ?_
    refine r_getR (J := 4) F_169_41 o_169 fl_6_22 ty_77 (by decide) rfl (kd2 kd_77_4 (by decide)) (kd9 kd_77_4 (by decide)) rf_77_4 ?_
    refine r_bipush F_169_44 bi_60 ?_
    refine r_ldI_n (m := 1) F_169_46 rfl ?_
    refine r_imul F_169_47 rfl ?_
    refine r_ldI_n (m := 3) F_169_48 rfl ?_
    refine r_iadd F_169_49 rfl ?_
    refine r_bipush F_169_50 bi_32 ?_
    refine r_iast F_169_52 ty_82 (l3 e2) (lt_ln ln_82 (l4 e2)) ?_
    refine r_iinc (m := 3) (e := (k + 1)) (L' := [some (vR 77), some (vI t), some (vI n), some (vI (k + 1))]) F_169_53 rfl rfl rfl rfl ?_
    refine r_goto (t := 34) F_169_56 rfl ?_
    exact (l5 e2)
theorem t_X6_put {X : List Int32} {d : Nat} {s : m_St} {P : Option Value → m_St → Prop} {t j v : Int}
    (l1 : inR t)
    (l2 : t < 0 → P (some (vI (-1))) s)
    (l3 : 0 ≤ t → 3 < t → P (some (vI (-1))) s)
    (l4 : 0 ≤ t → t ≤ 3 → t < 4)
    (l5 : 0 ≤ t → t ≤ 3 → inR (s 81 t))
    (l6 : 0 ≤ t → t ≤ 3 → 0 ≤ (s 81 t) → inR j)
    (l7 : 0 ≤ t → t ≤ 3 → 0 ≤ (s 81 t) → j < 0 → P (some (vI (-3))) (m_upd (m_upd s 77 10 2) 87 2 ((s 87 2) + 1)))
    (l8 : 0 ≤ t → t ≤ 3 → 0 ≤ (s 81 t) → 0 ≤ j → inR ((s 81 t) - 1))
    (l9 : 0 ≤ t → t ≤ 3 → 0 ≤ (s 81 t) → 0 ≤ j → ((s 81 t) - 1) < j → P (some (vI (-3))) (m_upd (m_upd s 77 10 2) 87 2 ((s 87 2) + 1)))
    (l10 : 0 ≤ t → t ≤ 3 → 0 ≤ (s 81 t) → 0 ≤ j → j ≤ ((s 81 t) - 1) → 0 ≤ ((60 * t) + j))
    (l11 : 0 ≤ t → t ≤ 3 → 0 ≤ (s 81 t) → 0 ≤ j → j ≤ ((s 81 t) - 1) → ((60 * t) + j) < 240)
    (l12 : 0 ≤ t → t ≤ 3 → 0 ≤ (s 81 t) → 0 ≤ j → j ≤ ((s 81 t) - 1) → P (some (vI ((s 82 ((60 * t) + j)) + 1000))) (m_upd s 82 ((60 * t) + j) (i2B v)))
    (l13 : 0 ≤ t → t ≤ 3 → (s 81 t) < 0 → P (some (vI (-3))) (m_upd (m_upd s 77 10 1) 87 1 ((s 87 1) + 1)))
    : Cl X (d + 2) 171 [vR 77, vI t, vI j, vI v] s P := by
  refine Cl_of n_171 rfl ?_
  show Rn _ _ _ _ [some (vR 77), some (vI t), some (vI j), some (vI v), none] [] _ _
  refine r_ldI_n (m := 1) F_171_0 rfl ?_
  refine r_stat2 (A := [vI t]) (r := []) (n := 1) F_171_1 o_171 il_6_90 (by decide) rfl rfl rfl rfl (lay_le n_170 rfl) ?_
  refine Cl_of n_170 rfl ?_
  show Rn _ _ _ _ [some (vI t)] [] _ _
  refine r_ldI_n (m := 0) F_170_0 rfl ?_
  refine r_iconst F_170_1 ?_
  refine r_iconst F_170_2 ?_
  refine r_stat2 (A := [vI t, vI 0, vI 3]) (r := []) (n := 3) F_170_3 o_170 il_6_67 (by decide) rfl rfl rfl rfl (lay_le n_160 rfl) ?_
  refine Cl_of n_160 rfl ?_
  show Rn _ _ _ _ [some (vI t), some (vI 0), some (vI 3)] [] _ _
  refine r_ldI_n (m := 0) F_160_0 rfl ?_
  refine r_ldI_n (m := 1) F_160_1 rfl ?_
  refine r_icmp (t := 14) F_160_2 rfl l1 (by decide) ?_ ?_
  · intro e1
    replace e1 : t < 0 := e1
    refine r_iconst F_160_14 ?_
    refine r_zreturn F_160_15 rt_160 (Or.inl rfl) ?_
    show Rn _ _ _ _ _ [vI 0] _ _
    refine r_zreturn F_170_6 rt_170 (Or.inl rfl) ?_
    show Rn _ _ _ _ _ [vI 0] _ _
    refine r_ifF (t := 9) F_171_4 rfl (by decide) (by show ¬ (¬ (0 : Int) = 0); decide) ?_
    refine r_iconst F_171_7 ?_
    refine r_ireturn F_171_8 rt_171 ?_
    exact (l2 e1)
  · intro e2
    replace e2 : 0 ≤ t := (Int.not_lt.mp e2)
    refine r_ldI_n (m := 0) F_160_5 rfl ?_
    refine r_ldI_n (m := 2) F_160_6 rfl ?_
    refine r_icmp (t := 14) F_160_7 rfl l1 (by decide) ?_ ?_
    · intro e3
      replace e3 : 3 < t := e3
      refine r_iconst F_160_14 ?_
      refine r_zreturn F_160_15 rt_160 (Or.inl rfl) ?_
      show Rn _ _ _ _ _ [vI 0] _ _
      refine r_zreturn F_170_6 rt_170 (Or.inl rfl) ?_
      show Rn _ _ _ _ _ [vI 0] _ _
      refine r_ifF (t := 9) F_171_4 rfl (by decide) (by show ¬ (¬ (0 : Int) = 0); decide) ?_
      refine r_iconst F_171_7 ?_
      refine r_ireturn F_171_8 rt_171 ?_
      exact (l3 e2 e3)
    · intro e4
      replace e4 : t ≤ 3 := (Int.not_lt.mp e4)
      refine r_iconst F_160_10 ?_
      refine r_goto (t := 15) F_160_11 rfl ?_
      refine r_zreturn F_160_15 rt_160 (Or.inr rfl) ?_
      show Rn _ _ _ _ _ [vI 1] _ _
      refine r_zreturn F_170_6 rt_170 (Or.inr rfl) ?_
      show Rn _ _ _ _ _ [vI 1] _ _
      refine r_ifT (t := 9) F_171_4 rfl (by decide) (by show ¬ (1 : Int) = 0; decide) ?_
      refine r_ldR_n (m := 0) F_171_9 rfl ?_
      refine r_getR (J := 3) F_171_10 o_171 fl_6_19 ty_77 (by decide) rfl (kd2 kd_77_3 (by decide)) (kd9 kd_77_3 (by decide)) rf_77_3 ?_
      refine r_ldI_n (m := 1) F_171_13 rfl ?_
      refine r_iald (e := (s 81 t)) F_171_14 ty_81 e2 (lt_ln ln_81 (l4 e2 e4)) rfl ?_
      refine r_if (t := 24) F_171_15 rfl (l5 e2 e4) ?_ ?_
      · intro e5
        replace e5 : 0 ≤ (s 81 t) := e5
        refine r_ldI_n (m := 2) F_171_24 rfl ?_
        refine r_iconst F_171_25 ?_
        refine r_ldR_n (m := 0) F_171_26 rfl ?_
        refine r_getR (J := 3) F_171_27 o_171 fl_6_19 ty_77 (by decide) rfl (kd2 kd_77_3 (by decide)) (kd9 kd_77_3 (by decide)) rf_77_3 ?_
        refine r_ldI_n (m := 1) F_171_30 rfl ?_
        refine r_iald (e := (s 81 t)) F_171_31 ty_81 e2 (lt_ln ln_81 (l4 e2 e4)) rfl ?_
        refine r_iconst F_171_32 ?_
        refine r_isub F_171_33 rfl ?_
        refine r_stat2 (A := [vI j, vI 0, vI ((s 81 t) - 1)]) (r := []) (n := 3) F_171_34 o_171 il_6_67 (by decide) rfl rfl rfl rfl (lay_le n_160 rfl) ?_
        refine Cl_of n_160 rfl ?_
        show Rn _ _ _ _ [some (vI j), some (vI 0), some (vI ((s 81 t) - 1))] [] _ _
        refine r_ldI_n (m := 0) F_160_0 rfl ?_
        refine r_ldI_n (m := 1) F_160_1 rfl ?_
        refine r_icmp (t := 14) F_160_2 rfl (l6 e2 e4 e5) (by decide) ?_ ?_
        · intro e6
          replace e6 : j < 0 := e6
          refine r_iconst F_160_14 ?_
          refine r_zreturn F_160_15 rt_160 (Or.inl rfl) ?_
          show Rn _ _ _ _ _ [vI 0] _ _
          refine r_ifF (t := 46) F_171_37 rfl (by decide) (by show ¬ (¬ (0 : Int) = 0); decide) ?_
          refine r_ldR_n (m := 0) F_171_40 rfl ?_
          refine r_iconst F_171_41 ?_
          refine r_virt2 (A := [vI 2]) (r := []) (n := 1) F_171_42 o_171 il_6_75 rfl rfl rfl rfl ty_77 vy_161 (lay_le n_161 rfl) ?_
          refine Cl_of n_161 rfl ?_
          show Rn _ _ _ _ [some (vR 77), some (vI 2)] [] _ _
          refine r_ldR_n (m := 0) F_161_0 rfl ?_
          refine r_ldI_n (m := 1) F_161_1 rfl ?_
          refine r_putI (J := 10) F_161_2 o_161 fl_6_57 ty_77 (by decide) rfl kd_77_10 pf_6_10 ?_
          refine r_ldR_n (m := 0) F_161_5 rfl ?_
          refine r_getR (J := 9) F_161_6 o_161 fl_6_38 ty_77 (by decide) rfl (kd2 kd_77_9 (by decide)) (kd9 kd_77_9 (by decide)) rf_77_9 ?_
          refine r_ldI_n (m := 1) F_161_9 rfl ?_
          refine r_dup2 F_161_10 ?_
          refine r_iald (e := (s 87 2)) F_161_11 ty_87 (by decide) (lt_ln ln_87 (by decide)) (upd_nc (by decide)) ?_
          refine r_iconst F_161_12 ?_
          refine r_iadd F_161_13 rfl ?_
          refine r_iast F_161_14 ty_87 (by decide) (lt_ln ln_87 (by decide)) ?_
          refine r_bipush F_161_15 bi__3 ?_
          refine r_ireturn F_161_17 rt_161 ?_
          show Rn _ _ _ _ _ [vI (-3)] _ _
          refine r_ireturn F_171_45 rt_171 ?_
          exact (l7 e2 e4 e5 e6)
        · intro e7
          replace e7 : 0 ≤ j := (Int.not_lt.mp e7)
          refine r_ldI_n (m := 0) F_160_5 rfl ?_
          refine r_ldI_n (m := 2) F_160_6 rfl ?_
          refine r_icmp (t := 14) F_160_7 rfl (l6 e2 e4 e5) (l8 e2 e4 e5 e7) ?_ ?_
          · intro e8
            replace e8 : ((s 81 t) - 1) < j := e8
            refine r_iconst F_160_14 ?_
            refine r_zreturn F_160_15 rt_160 (Or.inl rfl) ?_
            show Rn _ _ _ _ _ [vI 0] _ _
            refine r_ifF (t := 46) F_171_37 rfl (by decide) (by show ¬ (¬ (0 : Int) = 0); decide) ?_
            refine r_ldR_n (m := 0) F_171_40 rfl ?_
            refine r_iconst F_171_41 ?_
            refine r_virt2 (A := [vI 2]) (r := []) (n := 1) F_171_42 o_171 il_6_75 rfl rfl rfl rfl ty_77 vy_161 (lay_le n_161 rfl) ?_
            refine Cl_of n_161 rfl ?_
            show Rn _ _ _ _ [some (vR 77), some (vI 2)] [] _ _
            refine r_ldR_n (m := 0) F_161_0 rfl ?_
            refine r_ldI_n (m := 1) F_161_1 rfl ?_
            refine r_putI (J := 10) F_161_2 o_161 fl_6_57 ty_77 (by decide) rfl kd_77_10 pf_6_10 ?_
            refine r_ldR_n (m := 0) F_161_5 rfl ?_
            refine r_getR (J := 9) F_161_6 o_161 fl_6_38 ty_77 (by decide) rfl (kd2 kd_77_9 (by decide)) (kd9 kd_77_9 (by decide)) rf_77_9 ?_
            refine r_ldI_n (m := 1) F_161_9 rfl ?_
            refine r_dup2 F_161_10 ?_
            refine r_iald (e := (s 87 2)) F_161_11 ty_87 (by decide) (lt_ln ln_87 (by decide)) (upd_nc (by decide)) ?_
            refine r_iconst F_161_12 ?_
            refine r_iadd F_161_13 rfl ?_
            refine r_iast F_161_14 ty_87 (by decide) (lt_ln ln_87 (by decide)) ?_
            refine r_bipush F_161_15 bi__3 ?_
            refine r_ireturn F_161_17 rt_161 ?_
            show Rn _ _ _ _ _ [vI (-3)] _ _
            refine r_ireturn F_171_45 rt_171 ?_
            exact (l9 e2 e4 e5 e7 e8)
          · intro e9
            replace e9 : j ≤ ((s 81 t) - 1) := (Int.not_lt.mp e9)
            refine r_iconst F_160_10 ?_
            refine r_goto (t := 15) F_160_11 rfl ?_
            refine r_zreturn F_160_15 rt_160 (Or.inr rfl) ?_
            show Rn _ _ _ _ _ [vI 1] _ _
            refine r_ifT (t := 46) F_171_37 rfl (by decide) (by show ¬ (1 : Int) = 0; decide) ?_
            refine r_ldR_n (m := 0) F_171_46 rfl ?_
            refine r_getR (J := 4) F_171_47 o_171 fl_6_22 ty_77 (by decide) rfl (kd2 kd_77_4 (by decide)) (kd9 kd_77_4 (by decide)) rf_77_4 ?_
            refine r_bipush F_171_50 bi_60 ?_
            refine r_ldI_n (m := 1) F_171_52 rfl ?_
            refine r_imul F_171_53 rfl ?_
            refine r_ldI_n (m := 2) F_171_54 rfl ?_
            refine r_iadd F_171_55 rfl ?_
            refine r_iald (e := (s 82 ((60 * t) + j))) F_171_56 ty_82 (l10 e2 e4 e5 e7 e9) (lt_ln ln_82 (l11 e2 e4 e5 e7 e9)) rfl ?_
            refine r_stI (m := 4) (L' := [some (vR 77), some (vI t), some (vI j), some (vI v), some (vI (s 82 ((60 * t) + j)))]) F_171_57 rfl rfl ?_
            refine r_ldR_n (m := 0) F_171_59 rfl ?_
            refine r_getR (J := 4) F_171_60 o_171 fl_6_22 ty_77 (by decide) rfl (kd2 kd_77_4 (by decide)) (kd9 kd_77_4 (by decide)) rf_77_4 ?_
            refine r_bipush F_171_63 bi_60 ?_
            refine r_ldI_n (m := 1) F_171_65 rfl ?_
            refine r_imul F_171_66 rfl ?_
            refine r_ldI_n (m := 2) F_171_67 rfl ?_
            refine r_iadd F_171_68 rfl ?_
            refine r_ldI_n (m := 3) F_171_69 rfl ?_
            refine r_i2b F_171_70 ?_
            refine r_iast F_171_71 ty_82 (l10 e2 e4 e5 e7 e9) (lt_ln ln_82 (l11 e2 e4 e5 e7 e9)) ?_
            refine r_ldI (m := 4) F_171_72 rfl ?_
            refine r_sipush F_171_74 si_1000 ?_
            refine r_iadd F_171_77 rfl ?_
            refine r_ireturn F_171_78 rt_171 ?_
            exact (l12 e2 e4 e5 e7 e9)
      · intro e10
        replace e10 : (s 81 t) < 0 := (Int.not_le.mp e10)
        refine r_ldR_n (m := 0) F_171_18 rfl ?_
        refine r_iconst F_171_19 ?_
        refine r_virt2 (A := [vI 1]) (r := []) (n := 1) F_171_20 o_171 il_6_75 rfl rfl rfl rfl ty_77 vy_161 (lay_le n_161 rfl) ?_
        refine Cl_of n_161 rfl ?_
        show Rn _ _ _ _ [some (vR 77), some (vI 1)] [] _ _
        refine r_ldR_n (m := 0) F_161_0 rfl ?_
        refine r_ldI_n (m := 1) F_161_1 rfl ?_
        refine r_putI (J := 10) F_161_2 o_161 fl_6_57 ty_77 (by decide) rfl kd_77_10 pf_6_10 ?_
        refine r_ldR_n (m := 0) F_161_5 rfl ?_
        refine r_getR (J := 9) F_161_6 o_161 fl_6_38 ty_77 (by decide) rfl (kd2 kd_77_9 (by decide)) (kd9 kd_77_9 (by decide)) rf_77_9 ?_
        refine r_ldI_n (m := 1) F_161_9 rfl ?_
        refine r_dup2 F_161_10 ?_
        refine r_iald (e := (s 87 1)) F_161_11 ty_87 (by decide) (lt_ln ln_87 (by decide)) (upd_nc (by decide)) ?_
        refine r_iconst F_161_12 ?_
        refine r_iadd F_161_13 rfl ?_
        refine r_iast F_161_14 ty_87 (by decide) (lt_ln ln_87 (by decide)) ?_
        refine r_bipush F_161_15 bi__3 ?_
        refine r_ireturn F_161_17 rt_161 ?_
        show Rn _ _ _ _ _ [vI (-3)] _ _
        refine r_ireturn F_171_23 rt_171 ?_
        exact (l13 e2 e4 e10)
theorem t_X6_asked {X : List Int32} {d : Nat} {s : m_St} {P : Option Value → m_St → Prop}
    (l1 : P (some (vI (s 77 11))) s)
    : Cl X d 247 [vR 77] s P := by
  refine Cl_of n_247 rfl ?_
  show Rn _ _ _ _ [some (vR 77)] [] _ _
  refine r_ldR_n (m := 0) F_247_0 rfl ?_
  refine r_getI (J := 11) (e := (s 77 11)) F_247_1 o_247 fl_6_61 ty_77 (by decide) rfl kd_77_11 rfl ?_
  refine r_ireturn F_247_4 rt_247 ?_
  exact l1
theorem t_X6_upper {X : List Int32} {d : Nat} {s : m_St} {P : Option Value → m_St → Prop}
    (l1 : P (some (vJ (s 77 12))) s)
    : Cl X d 248 [vR 77] s P := by
  refine Cl_of n_248 rfl ?_
  show Rn _ _ _ _ [some (vR 77)] [] _ _
  refine r_ldR_n (m := 0) F_248_0 rfl ?_
  refine r_getJ (J := 12) (e := (s 77 12)) F_248_1 o_248 fl_6_64 ty_77 (by decide) rfl kd_77_12 rfl ?_
  refine r_lreturn F_248_4 rt_248 ?_
  exact l1
theorem t_X6_lower {X : List Int32} {d : Nat} {s : m_St} {P : Option Value → m_St → Prop}
    (l1 : P (some (vJ (s 77 13))) s)
    : Cl X d 249 [vR 77] s P := by
  refine Cl_of n_249 rfl ?_
  show Rn _ _ _ _ [some (vR 77)] [] _ _
  refine r_ldR_n (m := 0) F_249_0 rfl ?_
  refine r_getJ (J := 13) (e := (s 77 13)) F_249_1 o_249 fl_6_53 ty_77 (by decide) rfl kd_77_13 rfl ?_
  refine r_lreturn F_249_4 rt_249 ?_
  exact l1
theorem t_X6_finding {X : List Int32} {d : Nat} {s : m_St} {P : Option Value → m_St → Prop}
    (l1 : P (some (vI (s 77 10))) s)
    : Cl X d 252 [vR 77] s P := by
  refine Cl_of n_252 rfl ?_
  show Rn _ _ _ _ [some (vR 77)] [] _ _
  refine r_ldR_n (m := 0) F_252_0 rfl ?_
  refine r_getI (J := 10) (e := (s 77 10)) F_252_1 o_252 fl_6_57 ty_77 (by decide) rfl kd_77_10 rfl ?_
  refine r_ireturn F_252_4 rt_252 ?_
  exact l1
theorem t_X6_findings {X : List Int32} {d : Nat} {s : m_St} {P : Option Value → m_St → Prop} {f : Int}
    (l1 : inR f)
    (l2 : f < 1 → P (some (vI (-1))) s)
    (l3 : 1 ≤ f → 5 < f → P (some (vI (-1))) s)
    (l4 : 1 ≤ f → f ≤ 5 → 0 ≤ f)
    (l5 : 1 ≤ f → f ≤ 5 → f < 6)
    (l6 : 1 ≤ f → f ≤ 5 → P (some (vI (s 87 f))) s)
    : Cl X (d + 1) 253 [vR 77, vI f] s P := by
  refine Cl_of n_253 rfl ?_
  show Rn _ _ _ _ [some (vR 77), some (vI f)] [] _ _
  refine r_ldI_n (m := 1) F_253_0 rfl ?_
  refine r_iconst F_253_1 ?_
  refine r_iconst F_253_2 ?_
  refine r_stat2 (A := [vI f, vI 1, vI 5]) (r := []) (n := 3) F_253_3 o_253 il_6_67 (by decide) rfl rfl rfl rfl (lay_le n_160 rfl) ?_
  refine Cl_of n_160 rfl ?_
  show Rn _ _ _ _ [some (vI f), some (vI 1), some (vI 5)] [] _ _
  refine r_ldI_n (m := 0) F_160_0 rfl ?_
  refine r_ldI_n (m := 1) F_160_1 rfl ?_
  refine r_icmp (t := 14) F_160_2 rfl l1 (by decide) ?_ ?_
  · intro e1
    replace e1 : f < 1 := e1
    refine r_iconst F_160_14 ?_
    refine r_zreturn F_160_15 rt_160 (Or.inl rfl) ?_
    show Rn _ _ _ _ _ [vI 0] _ _
    refine r_ifT (t := 18) F_253_6 rfl (by decide) (by show (0 : Int) = 0; decide) ?_
    refine r_iconst F_253_18 ?_
    refine r_ireturn F_253_19 rt_253 ?_
    exact (l2 e1)
  · intro e2
    replace e2 : 1 ≤ f := (Int.not_lt.mp e2)
    refine r_ldI_n (m := 0) F_160_5 rfl ?_
    refine r_ldI_n (m := 2) F_160_6 rfl ?_
    refine r_icmp (t := 14) F_160_7 rfl l1 (by decide) ?_ ?_
    · intro e3
      replace e3 : 5 < f := e3
      refine r_iconst F_160_14 ?_
      refine r_zreturn F_160_15 rt_160 (Or.inl rfl) ?_
      show Rn _ _ _ _ _ [vI 0] _ _
      refine r_ifT (t := 18) F_253_6 rfl (by decide) (by show (0 : Int) = 0; decide) ?_
      refine r_iconst F_253_18 ?_
      refine r_ireturn F_253_19 rt_253 ?_
      exact (l3 e2 e3)
    · intro e4
      replace e4 : f ≤ 5 := (Int.not_lt.mp e4)
      refine r_iconst F_160_10 ?_
      refine r_goto (t := 15) F_160_11 rfl ?_
      refine r_zreturn F_160_15 rt_160 (Or.inr rfl) ?_
      show Rn _ _ _ _ _ [vI 1] _ _
      refine r_ifF (t := 18) F_253_6 rfl (by decide) (by show ¬ ((1 : Int) = 0); decide) ?_
      refine r_ldR_n (m := 0) F_253_9 rfl ?_
      refine r_getR (J := 9) F_253_10 o_253 fl_6_38 ty_77 (by decide) rfl (kd2 kd_77_9 (by decide)) (kd9 kd_77_9 (by decide)) rf_77_9 ?_
      refine r_ldI_n (m := 1) F_253_13 rfl ?_
      refine r_iald (e := (s 87 f)) F_253_14 ty_87 (l4 e2 e4) (lt_ln ln_87 (l5 e2 e4)) rfl ?_
      refine r_goto (t := 19) F_253_15 rfl ?_
      refine r_ireturn F_253_19 rt_253 ?_
      exact (l6 e2 e4)
theorem t_X6_follows {X : List Int32} {d : Nat} {s : m_St} {P : Option Value → m_St → Prop} {z : Int}
    (l1 : inR z)
    (l2 : z < 0 → P (some (vI (-1))) s)
    (l3 : 0 ≤ z → 15 < z → P (some (vI (-1))) s)
    (l4 : 0 ≤ z → z ≤ 15 → tr (s 38 5) (s 83 7))
    (l5 : 0 ≤ z → z ≤ 15 → r16 z)
    (l6 : 0 ≤ z → z ≤ 15 → P (some (vI (clo (s 38 5) z))) s)
    : Cl X (d + 2) 195 [vR 77, vI z] s P := by
  refine Cl_of n_195 rfl ?_
  show Rn _ _ _ _ [some (vR 77), some (vI z)] [] _ _
  refine r_ldI_n (m := 1) F_195_0 rfl ?_
  refine r_iconst F_195_1 ?_
  refine r_bipush F_195_2 bi_15 ?_
  refine r_stat2 (A := [vI z, vI 0, vI 15]) (r := []) (n := 3) F_195_4 o_195 il_6_67 (by decide) rfl rfl rfl rfl (lay_le n_160 rfl) ?_
  refine Cl_of n_160 rfl ?_
  show Rn _ _ _ _ [some (vI z), some (vI 0), some (vI 15)] [] _ _
  refine r_ldI_n (m := 0) F_160_0 rfl ?_
  refine r_ldI_n (m := 1) F_160_1 rfl ?_
  refine r_icmp (t := 14) F_160_2 rfl l1 (by decide) ?_ ?_
  · intro e1
    replace e1 : z < 0 := e1
    refine r_iconst F_160_14 ?_
    refine r_zreturn F_160_15 rt_160 (Or.inl rfl) ?_
    show Rn _ _ _ _ _ [vI 0] _ _
    refine r_ifT (t := 18) F_195_7 rfl (by decide) (by show (0 : Int) = 0; decide) ?_
    refine r_iconst F_195_18 ?_
    refine r_ireturn F_195_19 rt_195 ?_
    exact (l2 e1)
  · intro e2
    replace e2 : 0 ≤ z := (Int.not_lt.mp e2)
    refine r_ldI_n (m := 0) F_160_5 rfl ?_
    refine r_ldI_n (m := 2) F_160_6 rfl ?_
    refine r_icmp (t := 14) F_160_7 rfl l1 (by decide) ?_ ?_
    · intro e3
      replace e3 : 15 < z := e3
      refine r_iconst F_160_14 ?_
      refine r_zreturn F_160_15 rt_160 (Or.inl rfl) ?_
      show Rn _ _ _ _ _ [vI 0] _ _
      refine r_ifT (t := 18) F_195_7 rfl (by decide) (by show (0 : Int) = 0; decide) ?_
      refine r_iconst F_195_18 ?_
      refine r_ireturn F_195_19 rt_195 ?_
      exact (l3 e2 e3)
    · intro e4
      replace e4 : z ≤ 15 := (Int.not_lt.mp e4)
      refine r_iconst F_160_10 ?_
      refine r_goto (t := 15) F_160_11 rfl ?_
      refine r_zreturn F_160_15 rt_160 (Or.inr rfl) ?_
      show Rn _ _ _ _ _ [vI 1] _ _
      refine r_ifF (t := 18) F_195_7 rfl (by decide) (by show ¬ ((1 : Int) = 0); decide) ?_
      refine r_ldR_n (m := 0) F_195_10 rfl ?_
      refine r_ldI_n (m := 1) F_195_11 rfl ?_
      refine r_virt2 (A := [vI z]) (r := []) (n := 1) F_195_12 o_195 il_6_162 rfl rfl rfl rfl ty_77 vy_196 (lay_le n_196 rfl) ?_
      refine sp_closedM (l4 e2 e4) (l5 e2 e4) ?_
      show Rn _ _ _ _ _ [vI (clo (s 38 5) z)] _ _
      refine r_goto (t := 19) F_195_15 rfl ?_
      refine r_ireturn F_195_19 rt_195 ?_
      exact (l6 e2 e4)
