/-! walks: the calls of the reference, deeds -/
theorem n_199 : m_n 199 = 3 := by decide +kernel
theorem F_199_0 : F 199 0 (.aload_n 0) 1 := ⟨1, by decide +kernel, rfl, rfl⟩
theorem F_199_1 : F 199 1 (.iload_n 1) 2 := ⟨1, by decide +kernel, rfl, rfl⟩
theorem F_199_2 : F 199 2 (.invokevirtual 150) 5 := ⟨3, by decide +kernel, rfl, rfl⟩
theorem o_199 : m_o 199 = 6 := by decide +kernel
theorem F_199_5 : F 199 5 (.ifCond .eq 16) 8 := ⟨3, by decide +kernel, rfl, rfl⟩
theorem F_199_21 : F 199 21 (.iconst (-1)) 22 := ⟨1, by decide +kernel, rfl, rfl⟩
theorem F_199_22 : F 199 22 (.ireturn) 23 := ⟨1, by decide +kernel, rfl, rfl⟩
theorem rt_199 : m_r 199 = (some .int) := by decide +kernel
theorem F_199_8 : F 199 8 (.aload_n 0) 9 := ⟨1, by decide +kernel, rfl, rfl⟩
theorem F_199_9 : F 199 9 (.iload_n 2) 10 := ⟨1, by decide +kernel, rfl, rfl⟩
theorem F_199_10 : F 199 10 (.invokevirtual 150) 13 := ⟨3, by decide +kernel, rfl, rfl⟩
theorem F_199_13 : F 199 13 (.ifCond .eq 8) 16 := ⟨3, by decide +kernel, rfl, rfl⟩
theorem F_199_16 : F 199 16 (.iload_n 1) 17 := ⟨1, by decide +kernel, rfl, rfl⟩
theorem F_199_17 : F 199 17 (.iload_n 2) 18 := ⟨1, by decide +kernel, rfl, rfl⟩
theorem F_199_18 : F 199 18 (.if_icmp .ne 5) 21 := ⟨3, by decide +kernel, rfl, rfl⟩
theorem F_199_23 : F 199 23 (.aload_n 0) 24 := ⟨1, by decide +kernel, rfl, rfl⟩
theorem F_199_24 : F 199 24 (.getfield 25) 27 := ⟨3, by decide +kernel, rfl, rfl⟩
theorem F_199_27 : F 199 27 (.iconst 5) 28 := ⟨1, by decide +kernel, rfl, rfl⟩
theorem F_199_28 : F 199 28 (.iaload) 29 := ⟨1, by decide +kernel, rfl, rfl⟩
theorem F_199_29 : F 199 29 (.iload_n 1) 30 := ⟨1, by decide +kernel, rfl, rfl⟩
theorem F_199_30 : F 199 30 (.iconst 1) 31 := ⟨1, by decide +kernel, rfl, rfl⟩
theorem F_199_31 : F 199 31 (.iadd) 32 := ⟨1, by decide +kernel, rfl, rfl⟩
theorem F_199_32 : F 199 32 (.if_icmp .ne 19) 35 := ⟨3, by decide +kernel, rfl, rfl⟩
theorem F_199_51 : F 199 51 (.aload_n 0) 52 := ⟨1, by decide +kernel, rfl, rfl⟩
theorem F_199_52 : F 199 52 (.getfield 25) 55 := ⟨3, by decide +kernel, rfl, rfl⟩
theorem F_199_55 : F 199 55 (.iconst 3) 56 := ⟨1, by decide +kernel, rfl, rfl⟩
theorem F_199_56 : F 199 56 (.iaload) 57 := ⟨1, by decide +kernel, rfl, rfl⟩
theorem F_199_57 : F 199 57 (.bipush 40) 59 := ⟨2, by decide +kernel, rfl, rfl⟩
theorem F_199_59 : F 199 59 (.if_icmp .ne 6) 62 := ⟨3, by decide +kernel, rfl, rfl⟩
theorem F_199_65 : F 199 65 (.aload_n 0) 66 := ⟨1, by decide +kernel, rfl, rfl⟩
theorem F_199_66 : F 199 66 (.iconst 0) 67 := ⟨1, by decide +kernel, rfl, rfl⟩
theorem F_199_67 : F 199 67 (.aload_n 0) 68 := ⟨1, by decide +kernel, rfl, rfl⟩
theorem F_199_68 : F 199 68 (.getfield 25) 71 := ⟨3, by decide +kernel, rfl, rfl⟩
theorem F_199_71 : F 199 71 (.iconst 5) 72 := ⟨1, by decide +kernel, rfl, rfl⟩
theorem F_199_72 : F 199 72 (.iaload) 73 := ⟨1, by decide +kernel, rfl, rfl⟩
theorem F_199_73 : F 199 73 (.aload_n 0) 74 := ⟨1, by decide +kernel, rfl, rfl⟩
theorem F_199_74 : F 199 74 (.getfield 25) 77 := ⟨3, by decide +kernel, rfl, rfl⟩
theorem F_199_77 : F 199 77 (.bipush 6) 79 := ⟨2, by decide +kernel, rfl, rfl⟩
theorem F_199_79 : F 199 79 (.iaload) 80 := ⟨1, by decide +kernel, rfl, rfl⟩
theorem F_199_80 : F 199 80 (.iconst 0) 81 := ⟨1, by decide +kernel, rfl, rfl⟩
theorem F_199_81 : F 199 81 (.invokevirtual 171) 84 := ⟨3, by decide +kernel, rfl, rfl⟩
theorem F_199_84 : F 199 84 (.aload_n 0) 85 := ⟨1, by decide +kernel, rfl, rfl⟩
theorem F_199_85 : F 199 85 (.getfield 25) 88 := ⟨3, by decide +kernel, rfl, rfl⟩
theorem F_199_88 : F 199 88 (.iconst 5) 89 := ⟨1, by decide +kernel, rfl, rfl⟩
theorem F_199_89 : F 199 89 (.iload_n 1) 90 := ⟨1, by decide +kernel, rfl, rfl⟩
theorem F_199_90 : F 199 90 (.iconst 1) 91 := ⟨1, by decide +kernel, rfl, rfl⟩
theorem F_199_91 : F 199 91 (.iadd) 92 := ⟨1, by decide +kernel, rfl, rfl⟩
theorem F_199_92 : F 199 92 (.iastore) 93 := ⟨1, by decide +kernel, rfl, rfl⟩
theorem F_199_93 : F 199 93 (.aload_n 0) 94 := ⟨1, by decide +kernel, rfl, rfl⟩
theorem F_199_94 : F 199 94 (.getfield 25) 97 := ⟨3, by decide +kernel, rfl, rfl⟩
theorem F_199_97 : F 199 97 (.bipush 6) 99 := ⟨2, by decide +kernel, rfl, rfl⟩
theorem F_199_99 : F 199 99 (.iload_n 2) 100 := ⟨1, by decide +kernel, rfl, rfl⟩
theorem F_199_100 : F 199 100 (.iconst 1) 101 := ⟨1, by decide +kernel, rfl, rfl⟩
theorem F_199_101 : F 199 101 (.iadd) 102 := ⟨1, by decide +kernel, rfl, rfl⟩
theorem F_199_102 : F 199 102 (.iastore) 103 := ⟨1, by decide +kernel, rfl, rfl⟩
theorem F_199_103 : F 199 103 (.aload_n 0) 104 := ⟨1, by decide +kernel, rfl, rfl⟩
theorem F_199_104 : F 199 104 (.invokevirtual 175) 107 := ⟨3, by decide +kernel, rfl, rfl⟩
theorem F_199_107 : F 199 107 (.ireturn) 108 := ⟨1, by decide +kernel, rfl, rfl⟩
theorem F_199_62 : F 199 62 (.bipush (-2)) 64 := ⟨2, by decide +kernel, rfl, rfl⟩
theorem F_199_64 : F 199 64 (.ireturn) 65 := ⟨1, by decide +kernel, rfl, rfl⟩
theorem F_199_35 : F 199 35 (.aload_n 0) 36 := ⟨1, by decide +kernel, rfl, rfl⟩
theorem F_199_36 : F 199 36 (.getfield 25) 39 := ⟨3, by decide +kernel, rfl, rfl⟩
theorem F_199_39 : F 199 39 (.bipush 6) 41 := ⟨2, by decide +kernel, rfl, rfl⟩
theorem F_199_41 : F 199 41 (.iaload) 42 := ⟨1, by decide +kernel, rfl, rfl⟩
theorem F_199_42 : F 199 42 (.iload_n 2) 43 := ⟨1, by decide +kernel, rfl, rfl⟩
theorem F_199_43 : F 199 43 (.iconst 1) 44 := ⟨1, by decide +kernel, rfl, rfl⟩
theorem F_199_44 : F 199 44 (.iadd) 45 := ⟨1, by decide +kernel, rfl, rfl⟩
theorem F_199_45 : F 199 45 (.if_icmp .ne 6) 48 := ⟨3, by decide +kernel, rfl, rfl⟩
theorem F_199_48 : F 199 48 (.bipush (-4)) 50 := ⟨2, by decide +kernel, rfl, rfl⟩
theorem F_199_50 : F 199 50 (.ireturn) 51 := ⟨1, by decide +kernel, rfl, rfl⟩
theorem n_203 : m_n 203 = 2 := by decide +kernel
theorem F_203_0 : F 203 0 (.iload_n 1) 1 := ⟨1, by decide +kernel, rfl, rfl⟩
theorem F_203_1 : F 203 1 (.iconst 0) 2 := ⟨1, by decide +kernel, rfl, rfl⟩
theorem F_203_2 : F 203 2 (.bipush 7) 4 := ⟨2, by decide +kernel, rfl, rfl⟩
theorem F_203_4 : F 203 4 (.invokestatic 67) 7 := ⟨3, by decide +kernel, rfl, rfl⟩
theorem o_203 : m_o 203 = 6 := by decide +kernel
theorem F_203_7 : F 203 7 (.ifCond .ne 5) 10 := ⟨3, by decide +kernel, rfl, rfl⟩
theorem F_203_10 : F 203 10 (.iconst (-1)) 11 := ⟨1, by decide +kernel, rfl, rfl⟩
theorem F_203_11 : F 203 11 (.ireturn) 12 := ⟨1, by decide +kernel, rfl, rfl⟩
theorem rt_203 : m_r 203 = (some .int) := by decide +kernel
theorem F_203_12 : F 203 12 (.aload_n 0) 13 := ⟨1, by decide +kernel, rfl, rfl⟩
theorem F_203_13 : F 203 13 (.invokevirtual 182) 16 := ⟨3, by decide +kernel, rfl, rfl⟩
theorem F_203_16 : F 203 16 (.ifCond .eq 11) 19 := ⟨3, by decide +kernel, rfl, rfl⟩
theorem F_203_27 : F 203 27 (.bipush (-4)) 29 := ⟨2, by decide +kernel, rfl, rfl⟩
theorem F_203_29 : F 203 29 (.ireturn) 30 := ⟨1, by decide +kernel, rfl, rfl⟩
theorem F_203_19 : F 203 19 (.aload_n 0) 20 := ⟨1, by decide +kernel, rfl, rfl⟩
theorem F_203_20 : F 203 20 (.iload_n 1) 21 := ⟨1, by decide +kernel, rfl, rfl⟩
theorem F_203_21 : F 203 21 (.invokevirtual 186) 24 := ⟨3, by decide +kernel, rfl, rfl⟩
theorem il_6_186 : ilq 6 186 0 205 1 = true := by decide +kernel
theorem vy_205 : (m_cls 6).1 = (m_y 205).cls ∧ 6 < m_cl.length := by decide +kernel
theorem F_203_24 : F 203 24 (.ifCond .ne 6) 27 := ⟨3, by decide +kernel, rfl, rfl⟩
theorem F_203_30 : F 203 30 (.aload_n 0) 31 := ⟨1, by decide +kernel, rfl, rfl⟩
theorem F_203_31 : F 203 31 (.getfield 25) 34 := ⟨3, by decide +kernel, rfl, rfl⟩
theorem F_203_34 : F 203 34 (.iconst 1) 35 := ⟨1, by decide +kernel, rfl, rfl⟩
theorem F_203_35 : F 203 35 (.iaload) 36 := ⟨1, by decide +kernel, rfl, rfl⟩
theorem F_203_36 : F 203 36 (.ifCond .ne 6) 39 := ⟨3, by decide +kernel, rfl, rfl⟩
theorem F_203_42 : F 203 42 (.aload_n 0) 43 := ⟨1, by decide +kernel, rfl, rfl⟩
theorem F_203_43 : F 203 43 (.getfield 25) 46 := ⟨3, by decide +kernel, rfl, rfl⟩
theorem F_203_46 : F 203 46 (.iconst 3) 47 := ⟨1, by decide +kernel, rfl, rfl⟩
theorem F_203_47 : F 203 47 (.iaload) 48 := ⟨1, by decide +kernel, rfl, rfl⟩
theorem F_203_48 : F 203 48 (.bipush 40) 50 := ⟨2, by decide +kernel, rfl, rfl⟩
theorem F_203_50 : F 203 50 (.if_icmp .ne 8) 53 := ⟨3, by decide +kernel, rfl, rfl⟩
theorem F_203_58 : F 203 58 (.aload_n 0) 59 := ⟨1, by decide +kernel, rfl, rfl⟩
theorem F_203_59 : F 203 59 (.iload_n 1) 60 := ⟨1, by decide +kernel, rfl, rfl⟩
theorem F_203_60 : F 203 60 (.invokevirtual 189) 63 := ⟨3, by decide +kernel, rfl, rfl⟩
theorem il_6_189 : ilq 6 189 0 206 1 = true := by decide +kernel
theorem vy_206 : (m_cls 6).1 = (m_y 206).cls ∧ 6 < m_cl.length := by decide +kernel
theorem F_203_63 : F 203 63 (.ireturn) 64 := ⟨1, by decide +kernel, rfl, rfl⟩
theorem F_203_53 : F 203 53 (.bipush (-2)) 55 := ⟨2, by decide +kernel, rfl, rfl⟩
theorem F_203_55 : F 203 55 (.goto 8) 58 := ⟨3, by decide +kernel, rfl, rfl⟩
theorem F_203_39 : F 203 39 (.bipush (-6)) 41 := ⟨2, by decide +kernel, rfl, rfl⟩
theorem F_203_41 : F 203 41 (.ireturn) 42 := ⟨1, by decide +kernel, rfl, rfl⟩
theorem n_208 : m_n 208 = 1 := by decide +kernel
theorem F_208_0 : F 208 0 (.aload_n 0) 1 := ⟨1, by decide +kernel, rfl, rfl⟩
theorem F_208_1 : F 208 1 (.invokevirtual 192) 4 := ⟨3, by decide +kernel, rfl, rfl⟩
theorem o_208 : m_o 208 = 6 := by decide +kernel
theorem F_208_4 : F 208 4 (.ifCond .eq 18) 7 := ⟨3, by decide +kernel, rfl, rfl⟩
theorem F_208_22 : F 208 22 (.bipush (-4)) 24 := ⟨2, by decide +kernel, rfl, rfl⟩
theorem F_208_24 : F 208 24 (.ireturn) 25 := ⟨1, by decide +kernel, rfl, rfl⟩
theorem rt_208 : m_r 208 = (some .int) := by decide +kernel
theorem F_208_7 : F 208 7 (.aload_n 0) 8 := ⟨1, by decide +kernel, rfl, rfl⟩
theorem F_208_8 : F 208 8 (.getfield 25) 11 := ⟨3, by decide +kernel, rfl, rfl⟩
theorem F_208_11 : F 208 11 (.iconst 1) 12 := ⟨1, by decide +kernel, rfl, rfl⟩
theorem F_208_12 : F 208 12 (.iaload) 13 := ⟨1, by decide +kernel, rfl, rfl⟩
theorem F_208_13 : F 208 13 (.aload_n 0) 14 := ⟨1, by decide +kernel, rfl, rfl⟩
theorem F_208_14 : F 208 14 (.getfield 25) 17 := ⟨3, by decide +kernel, rfl, rfl⟩
theorem F_208_17 : F 208 17 (.iconst 2) 18 := ⟨1, by decide +kernel, rfl, rfl⟩
theorem F_208_18 : F 208 18 (.iaload) 19 := ⟨1, by decide +kernel, rfl, rfl⟩
theorem F_208_19 : F 208 19 (.if_icmp .ne 6) 22 := ⟨3, by decide +kernel, rfl, rfl⟩
theorem F_208_25 : F 208 25 (.aload_n 0) 26 := ⟨1, by decide +kernel, rfl, rfl⟩
theorem F_208_26 : F 208 26 (.getfield 25) 29 := ⟨3, by decide +kernel, rfl, rfl⟩
theorem F_208_29 : F 208 29 (.iconst 3) 30 := ⟨1, by decide +kernel, rfl, rfl⟩
theorem F_208_30 : F 208 30 (.iaload) 31 := ⟨1, by decide +kernel, rfl, rfl⟩
theorem F_208_31 : F 208 31 (.bipush 40) 33 := ⟨2, by decide +kernel, rfl, rfl⟩
theorem F_208_33 : F 208 33 (.if_icmp .ne 8) 36 := ⟨3, by decide +kernel, rfl, rfl⟩
theorem F_208_41 : F 208 41 (.aload_n 0) 42 := ⟨1, by decide +kernel, rfl, rfl⟩
theorem F_208_42 : F 208 42 (.invokevirtual 195) 45 := ⟨3, by decide +kernel, rfl, rfl⟩
theorem il_6_195 : ilq 6 195 0 210 0 = true := by decide +kernel
theorem vy_210 : (m_cls 6).1 = (m_y 210).cls ∧ 6 < m_cl.length := by decide +kernel
theorem F_208_45 : F 208 45 (.ireturn) 46 := ⟨1, by decide +kernel, rfl, rfl⟩
theorem F_208_36 : F 208 36 (.bipush (-2)) 38 := ⟨2, by decide +kernel, rfl, rfl⟩
theorem F_208_38 : F 208 38 (.goto 7) 41 := ⟨3, by decide +kernel, rfl, rfl⟩
theorem n_213 : m_n 213 = 2 := by decide +kernel
theorem F_213_0 : F 213 0 (.iload_n 1) 1 := ⟨1, by decide +kernel, rfl, rfl⟩
theorem F_213_1 : F 213 1 (.iconst 0) 2 := ⟨1, by decide +kernel, rfl, rfl⟩
theorem F_213_2 : F 213 2 (.iconst 2) 3 := ⟨1, by decide +kernel, rfl, rfl⟩
theorem F_213_3 : F 213 3 (.invokestatic 67) 6 := ⟨3, by decide +kernel, rfl, rfl⟩
theorem o_213 : m_o 213 = 6 := by decide +kernel
theorem F_213_6 : F 213 6 (.ifCond .ne 5) 9 := ⟨3, by decide +kernel, rfl, rfl⟩
theorem F_213_9 : F 213 9 (.iconst (-1)) 10 := ⟨1, by decide +kernel, rfl, rfl⟩
theorem F_213_10 : F 213 10 (.ireturn) 11 := ⟨1, by decide +kernel, rfl, rfl⟩
theorem rt_213 : m_r 213 = (some .int) := by decide +kernel
theorem F_213_11 : F 213 11 (.aload_n 0) 12 := ⟨1, by decide +kernel, rfl, rfl⟩
theorem F_213_12 : F 213 12 (.invokevirtual 192) 15 := ⟨3, by decide +kernel, rfl, rfl⟩
theorem F_213_15 : F 213 15 (.ifCond .ne 6) 18 := ⟨3, by decide +kernel, rfl, rfl⟩
theorem F_213_18 : F 213 18 (.bipush (-4)) 20 := ⟨2, by decide +kernel, rfl, rfl⟩
theorem F_213_20 : F 213 20 (.ireturn) 21 := ⟨1, by decide +kernel, rfl, rfl⟩
theorem F_213_21 : F 213 21 (.aload_n 0) 22 := ⟨1, by decide +kernel, rfl, rfl⟩
theorem F_213_22 : F 213 22 (.getfield 25) 25 := ⟨3, by decide +kernel, rfl, rfl⟩
theorem F_213_25 : F 213 25 (.iconst 0) 26 := ⟨1, by decide +kernel, rfl, rfl⟩
theorem F_213_26 : F 213 26 (.aload_n 0) 27 := ⟨1, by decide +kernel, rfl, rfl⟩
theorem F_213_27 : F 213 27 (.getfield 31) 30 := ⟨3, by decide +kernel, rfl, rfl⟩
theorem fl_6_31 : m_fl.lookup (6, 31) = some (6, 7, 4152) := by decide +kernel
theorem kd_77_7 : kd 77 7 = 87 := by decide +kernel
theorem rf_77_7 : rf 77 7 = 85 := by decide +kernel
theorem F_213_30 : F 213 30 (.sipush 198) 33 := ⟨3, by decide +kernel, rfl, rfl⟩
theorem F_213_33 : F 213 33 (.iload_n 1) 34 := ⟨1, by decide +kernel, rfl, rfl⟩
theorem F_213_34 : F 213 34 (.imul) 35 := ⟨1, by decide +kernel, rfl, rfl⟩
theorem F_213_35 : F 213 35 (.invokestatic 125) 38 := ⟨3, by decide +kernel, rfl, rfl⟩
theorem F_213_38 : F 213 38 (.aload_n 0) 39 := ⟨1, by decide +kernel, rfl, rfl⟩
theorem F_213_39 : F 213 39 (.getfield 34) 42 := ⟨3, by decide +kernel, rfl, rfl⟩
theorem F_213_42 : F 213 42 (.iload_n 1) 43 := ⟨1, by decide +kernel, rfl, rfl⟩
theorem F_213_43 : F 213 43 (.iconst 1) 44 := ⟨1, by decide +kernel, rfl, rfl⟩
theorem F_213_44 : F 213 44 (.bastore) 45 := ⟨1, by decide +kernel, rfl, rfl⟩
theorem F_213_45 : F 213 45 (.aload_n 0) 46 := ⟨1, by decide +kernel, rfl, rfl⟩
theorem F_213_46 : F 213 46 (.getfield 25) 49 := ⟨3, by decide +kernel, rfl, rfl⟩
theorem F_213_49 : F 213 49 (.iconst 3) 50 := ⟨1, by decide +kernel, rfl, rfl⟩
theorem F_213_50 : F 213 50 (.iaload) 51 := ⟨1, by decide +kernel, rfl, rfl⟩
theorem F_213_51 : F 213 51 (.ireturn) 52 := ⟨1, by decide +kernel, rfl, rfl⟩
theorem n_214 : m_n 214 = 2 := by decide +kernel
theorem F_214_0 : F 214 0 (.iload_n 1) 1 := ⟨1, by decide +kernel, rfl, rfl⟩
theorem F_214_1 : F 214 1 (.iconst 0) 2 := ⟨1, by decide +kernel, rfl, rfl⟩
theorem F_214_2 : F 214 2 (.iconst 2) 3 := ⟨1, by decide +kernel, rfl, rfl⟩
theorem F_214_3 : F 214 3 (.invokestatic 67) 6 := ⟨3, by decide +kernel, rfl, rfl⟩
theorem o_214 : m_o 214 = 6 := by decide +kernel
theorem F_214_6 : F 214 6 (.ifCond .ne 5) 9 := ⟨3, by decide +kernel, rfl, rfl⟩
theorem F_214_9 : F 214 9 (.iconst (-1)) 10 := ⟨1, by decide +kernel, rfl, rfl⟩
theorem F_214_10 : F 214 10 (.ireturn) 11 := ⟨1, by decide +kernel, rfl, rfl⟩
theorem rt_214 : m_r 214 = (some .int) := by decide +kernel
theorem F_214_11 : F 214 11 (.aload_n 0) 12 := ⟨1, by decide +kernel, rfl, rfl⟩
theorem F_214_12 : F 214 12 (.getfield 34) 15 := ⟨3, by decide +kernel, rfl, rfl⟩
theorem F_214_15 : F 214 15 (.iload_n 1) 16 := ⟨1, by decide +kernel, rfl, rfl⟩
theorem F_214_16 : F 214 16 (.baload) 17 := ⟨1, by decide +kernel, rfl, rfl⟩
theorem F_214_17 : F 214 17 (.ifCond .ne 9) 20 := ⟨3, by decide +kernel, rfl, rfl⟩
theorem F_214_26 : F 214 26 (.aload_n 0) 27 := ⟨1, by decide +kernel, rfl, rfl⟩
theorem F_214_27 : F 214 27 (.getfield 31) 30 := ⟨3, by decide +kernel, rfl, rfl⟩
theorem F_214_30 : F 214 30 (.sipush 198) 33 := ⟨3, by decide +kernel, rfl, rfl⟩
theorem F_214_33 : F 214 33 (.iload_n 1) 34 := ⟨1, by decide +kernel, rfl, rfl⟩
theorem F_214_34 : F 214 34 (.imul) 35 := ⟨1, by decide +kernel, rfl, rfl⟩
theorem F_214_35 : F 214 35 (.aload_n 0) 36 := ⟨1, by decide +kernel, rfl, rfl⟩
theorem F_214_36 : F 214 36 (.getfield 25) 39 := ⟨3, by decide +kernel, rfl, rfl⟩
theorem F_214_39 : F 214 39 (.iconst 0) 40 := ⟨1, by decide +kernel, rfl, rfl⟩
theorem F_214_40 : F 214 40 (.invokestatic 125) 43 := ⟨3, by decide +kernel, rfl, rfl⟩
theorem F_214_43 : F 214 43 (.aload_n 0) 44 := ⟨1, by decide +kernel, rfl, rfl⟩
theorem F_214_44 : F 214 44 (.getfield 25) 47 := ⟨3, by decide +kernel, rfl, rfl⟩
theorem F_214_47 : F 214 47 (.iconst 3) 48 := ⟨1, by decide +kernel, rfl, rfl⟩
theorem F_214_48 : F 214 48 (.iaload) 49 := ⟨1, by decide +kernel, rfl, rfl⟩
theorem F_214_49 : F 214 49 (.ireturn) 50 := ⟨1, by decide +kernel, rfl, rfl⟩
theorem F_214_20 : F 214 20 (.aload_n 0) 21 := ⟨1, by decide +kernel, rfl, rfl⟩
theorem F_214_21 : F 214 21 (.iconst 1) 22 := ⟨1, by decide +kernel, rfl, rfl⟩
theorem F_214_22 : F 214 22 (.invokevirtual 75) 25 := ⟨3, by decide +kernel, rfl, rfl⟩
theorem F_214_25 : F 214 25 (.ireturn) 26 := ⟨1, by decide +kernel, rfl, rfl⟩
theorem n_211 : m_n 211 = 4 := by decide +kernel
theorem F_211_0 : F 211 0 (.iload_n 1) 1 := ⟨1, by decide +kernel, rfl, rfl⟩
theorem F_211_1 : F 211 1 (.iconst 0) 2 := ⟨1, by decide +kernel, rfl, rfl⟩
theorem F_211_2 : F 211 2 (.aload_n 0) 3 := ⟨1, by decide +kernel, rfl, rfl⟩
theorem F_211_3 : F 211 3 (.getfield 25) 6 := ⟨3, by decide +kernel, rfl, rfl⟩
theorem o_211 : m_o 211 = 6 := by decide +kernel
theorem F_211_6 : F 211 6 (.iconst 3) 7 := ⟨1, by decide +kernel, rfl, rfl⟩
theorem F_211_7 : F 211 7 (.iaload) 8 := ⟨1, by decide +kernel, rfl, rfl⟩
theorem F_211_8 : F 211 8 (.invokestatic 67) 11 := ⟨3, by decide +kernel, rfl, rfl⟩
theorem F_211_11 : F 211 11 (.ifCond .ne 5) 14 := ⟨3, by decide +kernel, rfl, rfl⟩
theorem F_211_14 : F 211 14 (.iconst (-1)) 15 := ⟨1, by decide +kernel, rfl, rfl⟩
theorem F_211_15 : F 211 15 (.ireturn) 16 := ⟨1, by decide +kernel, rfl, rfl⟩
theorem rt_211 : m_r 211 = (some .int) := by decide +kernel
theorem F_211_16 : F 211 16 (.aload_n 0) 17 := ⟨1, by decide +kernel, rfl, rfl⟩
theorem F_211_17 : F 211 17 (.getfield 25) 20 := ⟨3, by decide +kernel, rfl, rfl⟩
theorem F_211_20 : F 211 20 (.iconst 3) 21 := ⟨1, by decide +kernel, rfl, rfl⟩
theorem F_211_21 : F 211 21 (.iaload) 22 := ⟨1, by decide +kernel, rfl, rfl⟩
theorem F_211_22 : F 211 22 (.iload_n 1) 23 := ⟨1, by decide +kernel, rfl, rfl⟩
theorem F_211_23 : F 211 23 (.isub) 24 := ⟨1, by decide +kernel, rfl, rfl⟩
theorem F_211_24 : F 211 24 (.istore_n 2) 25 := ⟨1, by decide +kernel, rfl, rfl⟩
theorem F_211_25 : F 211 25 (.aload_n 0) 26 := ⟨1, by decide +kernel, rfl, rfl⟩
theorem F_211_26 : F 211 26 (.getfield 25) 29 := ⟨3, by decide +kernel, rfl, rfl⟩
theorem F_211_29 : F 211 29 (.iconst 3) 30 := ⟨1, by decide +kernel, rfl, rfl⟩
theorem F_211_30 : F 211 30 (.iaload) 31 := ⟨1, by decide +kernel, rfl, rfl⟩
theorem F_211_31 : F 211 31 (.iconst 1) 32 := ⟨1, by decide +kernel, rfl, rfl⟩
theorem F_211_32 : F 211 32 (.isub) 33 := ⟨1, by decide +kernel, rfl, rfl⟩
theorem F_211_33 : F 211 33 (.istore_n 3) 34 := ⟨1, by decide +kernel, rfl, rfl⟩
theorem F_211_34 : F 211 34 (.iload_n 3) 35 := ⟨1, by decide +kernel, rfl, rfl⟩
theorem F_211_35 : F 211 35 (.iload_n 1) 36 := ⟨1, by decide +kernel, rfl, rfl⟩
theorem F_211_36 : F 211 36 (.if_icmp .lt 19) 39 := ⟨3, by decide +kernel, rfl, rfl⟩
theorem F_211_55 : F 211 55 (.aload_n 0) 56 := ⟨1, by decide +kernel, rfl, rfl⟩
theorem F_211_56 : F 211 56 (.getfield 25) 59 := ⟨3, by decide +kernel, rfl, rfl⟩
theorem F_211_59 : F 211 59 (.iconst 3) 60 := ⟨1, by decide +kernel, rfl, rfl⟩
theorem F_211_60 : F 211 60 (.iload_n 1) 61 := ⟨1, by decide +kernel, rfl, rfl⟩
theorem F_211_61 : F 211 61 (.iastore) 62 := ⟨1, by decide +kernel, rfl, rfl⟩
theorem F_211_62 : F 211 62 (.iload_n 2) 63 := ⟨1, by decide +kernel, rfl, rfl⟩
theorem F_211_63 : F 211 63 (.ireturn) 64 := ⟨1, by decide +kernel, rfl, rfl⟩
theorem F_211_39 : F 211 39 (.aload_n 0) 40 := ⟨1, by decide +kernel, rfl, rfl⟩
theorem F_211_40 : F 211 40 (.bipush 38) 42 := ⟨2, by decide +kernel, rfl, rfl⟩
theorem F_211_42 : F 211 42 (.iconst 4) 43 := ⟨1, by decide +kernel, rfl, rfl⟩
theorem F_211_43 : F 211 43 (.iload_n 3) 44 := ⟨1, by decide +kernel, rfl, rfl⟩
theorem F_211_44 : F 211 44 (.imul) 45 := ⟨1, by decide +kernel, rfl, rfl⟩
theorem F_211_45 : F 211 45 (.iadd) 46 := ⟨1, by decide +kernel, rfl, rfl⟩
theorem F_211_46 : F 211 46 (.invokevirtual 198) 49 := ⟨3, by decide +kernel, rfl, rfl⟩
theorem il_6_198 : ilq 6 198 0 212 1 = true := by decide +kernel
theorem vy_212 : (m_cls 6).1 = (m_y 212).cls ∧ 6 < m_cl.length := by decide +kernel
theorem F_211_49 : F 211 49 (.iinc 3 (-1)) 52 := ⟨3, by decide +kernel, rfl, rfl⟩
theorem F_211_52 : F 211 52 (.goto (-18)) 55 := ⟨3, by decide +kernel, rfl, rfl⟩
theorem n_246 : m_n 246 = 8 := by decide +kernel
theorem F_246_0 : F 246 0 (.iload_n 1) 1 := ⟨1, by decide +kernel, rfl, rfl⟩
theorem F_246_1 : F 246 1 (.iconst 1) 2 := ⟨1, by decide +kernel, rfl, rfl⟩
theorem F_246_2 : F 246 2 (.bipush 20) 4 := ⟨2, by decide +kernel, rfl, rfl⟩
theorem F_246_4 : F 246 4 (.invokestatic 67) 7 := ⟨3, by decide +kernel, rfl, rfl⟩
theorem o_246 : m_o 246 = 6 := by decide +kernel
theorem F_246_7 : F 246 7 (.ifCond .eq 14) 10 := ⟨3, by decide +kernel, rfl, rfl⟩
theorem F_246_21 : F 246 21 (.iconst (-1)) 22 := ⟨1, by decide +kernel, rfl, rfl⟩
theorem F_246_22 : F 246 22 (.ireturn) 23 := ⟨1, by decide +kernel, rfl, rfl⟩
theorem rt_246 : m_r 246 = (some .int) := by decide +kernel
theorem F_246_10 : F 246 10 (.iload_n 2) 11 := ⟨1, by decide +kernel, rfl, rfl⟩
theorem F_246_11 : F 246 11 (.iconst 1) 12 := ⟨1, by decide +kernel, rfl, rfl⟩
theorem F_246_12 : F 246 12 (.ldc_w 260) 15 := ⟨3, by decide +kernel, rfl, rfl⟩
theorem ki_6_260 : m_k32.lookup (6, 260) = some (2147483646, 6073) := by decide +kernel
theorem oi_2147483646 : (2147483646 : Int32) = Int32.ofInt 2147483646 := by decide +kernel
theorem F_246_15 : F 246 15 (.invokestatic 67) 18 := ⟨3, by decide +kernel, rfl, rfl⟩
theorem F_246_18 : F 246 18 (.ifCond .ne 5) 21 := ⟨3, by decide +kernel, rfl, rfl⟩
theorem F_246_23 : F 246 23 (.aload_n 0) 24 := ⟨1, by decide +kernel, rfl, rfl⟩
theorem F_246_24 : F 246 24 (.invokevirtual 182) 27 := ⟨3, by decide +kernel, rfl, rfl⟩
theorem F_246_27 : F 246 27 (.ifCond .ne 6) 30 := ⟨3, by decide +kernel, rfl, rfl⟩
theorem F_246_30 : F 246 30 (.bipush (-4)) 32 := ⟨2, by decide +kernel, rfl, rfl⟩
theorem F_246_32 : F 246 32 (.ireturn) 33 := ⟨1, by decide +kernel, rfl, rfl⟩
theorem F_246_33 : F 246 33 (.aload_n 0) 34 := ⟨1, by decide +kernel, rfl, rfl⟩
theorem F_246_34 : F 246 34 (.getfield 25) 37 := ⟨3, by decide +kernel, rfl, rfl⟩
theorem F_246_37 : F 246 37 (.iconst 3) 38 := ⟨1, by decide +kernel, rfl, rfl⟩
theorem F_246_38 : F 246 38 (.iaload) 39 := ⟨1, by decide +kernel, rfl, rfl⟩
theorem F_246_39 : F 246 39 (.iload_n 1) 40 := ⟨1, by decide +kernel, rfl, rfl⟩
theorem F_246_40 : F 246 40 (.iadd) 41 := ⟨1, by decide +kernel, rfl, rfl⟩
theorem F_246_41 : F 246 41 (.bipush 40) 43 := ⟨2, by decide +kernel, rfl, rfl⟩
theorem F_246_43 : F 246 43 (.if_icmp .le 6) 46 := ⟨3, by decide +kernel, rfl, rfl⟩
theorem F_246_49 : F 246 49 (.iload_n 2) 50 := ⟨1, by decide +kernel, rfl, rfl⟩
theorem F_246_50 : F 246 50 (.i2l) 51 := ⟨1, by decide +kernel, rfl, rfl⟩
theorem F_246_51 : F 246 51 (.lstore_n 3) 52 := ⟨1, by decide +kernel, rfl, rfl⟩
theorem F_246_52 : F 246 52 (.iconst 0) 53 := ⟨1, by decide +kernel, rfl, rfl⟩
theorem F_246_53 : F 246 53 (.istore 5) 55 := ⟨2, by decide +kernel, rfl, rfl⟩
theorem F_246_46 : F 246 46 (.bipush (-2)) 48 := ⟨2, by decide +kernel, rfl, rfl⟩
theorem F_246_48 : F 246 48 (.ireturn) 49 := ⟨1, by decide +kernel, rfl, rfl⟩
theorem F_246_55 : F 246 55 (.iload 5) 57 := ⟨2, by decide +kernel, rfl, rfl⟩
theorem F_246_57 : F 246 57 (.iload_n 1) 58 := ⟨1, by decide +kernel, rfl, rfl⟩
theorem F_246_58 : F 246 58 (.if_icmp .ge 64) 61 := ⟨3, by decide +kernel, rfl, rfl⟩
theorem F_246_122 : F 246 122 (.aload_n 0) 123 := ⟨1, by decide +kernel, rfl, rfl⟩
theorem F_246_123 : F 246 123 (.invokevirtual 175) 126 := ⟨3, by decide +kernel, rfl, rfl⟩
theorem F_246_126 : F 246 126 (.ireturn) 127 := ⟨1, by decide +kernel, rfl, rfl⟩
theorem F_246_61 : F 246 61 (.lload_n 3) 62 := ⟨1, by decide +kernel, rfl, rfl⟩
theorem F_246_62 : F 246 62 (.ldc2_w 261) 65 := ⟨3, by decide +kernel, rfl, rfl⟩
theorem kj_6_261 : m_k64.lookup (6, 261) = some (48271, 6074) := by decide +kernel
theorem F_246_65 : F 246 65 (.lmul) 66 := ⟨1, by decide +kernel, rfl, rfl⟩
theorem F_246_66 : F 246 66 (.ldc2_w 263) 69 := ⟨3, by decide +kernel, rfl, rfl⟩
theorem kj_6_263 : m_k64.lookup (6, 263) = some (2147483647, 6075) := by decide +kernel
theorem F_246_69 : F 246 69 (.lrem) 70 := ⟨1, by decide +kernel, rfl, rfl⟩
theorem F_246_70 : F 246 70 (.lstore_n 3) 71 := ⟨1, by decide +kernel, rfl, rfl⟩
theorem F_246_71 : F 246 71 (.lload_n 3) 72 := ⟨1, by decide +kernel, rfl, rfl⟩
theorem F_246_72 : F 246 72 (.ldc2_w 265) 75 := ⟨3, by decide +kernel, rfl, rfl⟩
theorem kj_6_265 : m_k64.lookup (6, 265) = some (8, 6076) := by decide +kernel
theorem F_246_75 : F 246 75 (.ldiv) 76 := ⟨1, by decide +kernel, rfl, rfl⟩
theorem F_246_76 : F 246 76 (.ldc2_w 265) 79 := ⟨3, by decide +kernel, rfl, rfl⟩
theorem F_246_79 : F 246 79 (.lrem) 80 := ⟨1, by decide +kernel, rfl, rfl⟩
theorem F_246_80 : F 246 80 (.l2i) 81 := ⟨1, by decide +kernel, rfl, rfl⟩
theorem F_246_81 : F 246 81 (.istore 6) 83 := ⟨2, by decide +kernel, rfl, rfl⟩
theorem F_246_83 : F 246 83 (.aload_n 0) 84 := ⟨1, by decide +kernel, rfl, rfl⟩
theorem F_246_84 : F 246 84 (.iload 6) 86 := ⟨2, by decide +kernel, rfl, rfl⟩
theorem F_246_86 : F 246 86 (.invokevirtual 186) 89 := ⟨3, by decide +kernel, rfl, rfl⟩
theorem F_246_89 : F 246 89 (.ifCond .eq 21) 92 := ⟨3, by decide +kernel, rfl, rfl⟩
theorem F_246_110 : F 246 110 (.aload_n 0) 111 := ⟨1, by decide +kernel, rfl, rfl⟩
theorem F_246_111 : F 246 111 (.invokevirtual 195) 114 := ⟨3, by decide +kernel, rfl, rfl⟩
theorem F_246_114 : F 246 114 (.istore 7) 116 := ⟨2, by decide +kernel, rfl, rfl⟩
theorem F_246_116 : F 246 116 (.iinc 5 1) 119 := ⟨3, by decide +kernel, rfl, rfl⟩
theorem F_246_119 : F 246 119 (.goto (-64)) 122 := ⟨3, by decide +kernel, rfl, rfl⟩
theorem F_246_92 : F 246 92 (.aload_n 0) 93 := ⟨1, by decide +kernel, rfl, rfl⟩
theorem F_246_93 : F 246 93 (.getfield 25) 96 := ⟨3, by decide +kernel, rfl, rfl⟩
theorem F_246_96 : F 246 96 (.iconst 1) 97 := ⟨1, by decide +kernel, rfl, rfl⟩
theorem F_246_97 : F 246 97 (.iaload) 98 := ⟨1, by decide +kernel, rfl, rfl⟩
theorem F_246_98 : F 246 98 (.ifCond .le 12) 101 := ⟨3, by decide +kernel, rfl, rfl⟩
theorem F_246_101 : F 246 101 (.aload_n 0) 102 := ⟨1, by decide +kernel, rfl, rfl⟩
theorem F_246_102 : F 246 102 (.iload 6) 104 := ⟨2, by decide +kernel, rfl, rfl⟩
theorem F_246_104 : F 246 104 (.invokevirtual 189) 107 := ⟨3, by decide +kernel, rfl, rfl⟩
theorem F_246_107 : F 246 107 (.goto 7) 110 := ⟨3, by decide +kernel, rfl, rfl⟩
theorem t_X6_bothHold {X : List Int32} {d : Nat} {s : m_St} {P : Option Value → m_St → Prop}
    (l1 : uok s)
    (l2 : P (some (vI (iAnd (hld (s 83) (s 83 (5 + 0) - 1)) (hld (s 83) (s 83 (5 + 1) - 1))))) s)
    : Cl X (d + 4) 201 [vR 77] s P := by
  refine Cl_of n_201 rfl ?_
  show Rn _ _ _ _ [some (vR 77)] [] _ _
  refine r_ldR_n (m := 0) F_201_0 rfl ?_
  refine r_iconst F_201_1 ?_
  refine r_virt2 (A := [vI 0]) (r := []) (n := 1) F_201_2 o_201 il_6_168 rfl rfl rfl rfl ty_77 vy_202 (lay_le n_202 rfl) ?_
  refine sp_upHolds l1 (by decide) (by decide) ?_
  show Rn _ _ _ _ _ [vI (hld (s 83) (s 83 (5 + 0) - 1))] _ _
  refine r_ldR_n (m := 0) F_201_5 rfl ?_
  refine r_iconst F_201_6 ?_
  refine r_virt2 (A := [vI 1]) (r := [vI (hld (s 83) (s 83 (5 + 0) - 1))]) (n := 1) F_201_7 o_201 il_6_168 rfl rfl rfl rfl ty_77 vy_202 (lay_le n_202 rfl) ?_
  refine sp_upHolds l1 (by decide) (by decide) ?_
  show Rn _ _ _ _ _ [vI (hld (s 83) (s 83 (5 + 1) - 1)), vI (hld (s 83) (s 83 (5 + 0) - 1))] _ _
  refine r_iand F_201_10 rfl ?_
  refine r_ireturn F_201_11 rt_201 ?_
  exact l2
theorem t_X6_send {X : List Int32} {d : Nat} {s : m_St} {P : Option Value → m_St → Prop} {i j : Int}
    (l1 : inR i)
    (l2 : i < 0 → P (some (vI (-1))) s)
    (l3 : 0 ≤ i → inR ((s 83 0) - 1))
    (l4 : 0 ≤ i → ((s 83 0) - 1) < i → P (some (vI (-1))) s)
    (l5 : 0 ≤ i → i ≤ ((s 83 0) - 1) → inR j)
    (l6 : 0 ≤ i → i ≤ ((s 83 0) - 1) → j < 0 → P (some (vI (-1))) s)
    (l7 : 0 ≤ i → i ≤ ((s 83 0) - 1) → 0 ≤ j → ((s 83 0) - 1) < j → P (some (vI (-1))) s)
    (l8 : 0 ≤ i → i ≤ ((s 83 0) - 1) → 0 ≤ j → j ≤ ((s 83 0) - 1) → ¬ i = j → inR (s 83 5))
    (l9 : 0 ≤ i → i ≤ ((s 83 0) - 1) → 0 ≤ j → j ≤ ((s 83 0) - 1) → ¬ i = j → inR (i + 1))
    (l10 : 0 ≤ i → i ≤ ((s 83 0) - 1) → 0 ≤ j → j ≤ ((s 83 0) - 1) → ¬ i = j → ¬ (s 83 5) = (i + 1) → inR (s 83 3))
    (l11 : 0 ≤ i → i ≤ ((s 83 0) - 1) → 0 ≤ j → j ≤ ((s 83 0) - 1) → ¬ i = j → ¬ (s 83 5) = (i + 1) → ¬ (s 83 3) = 40 → 0 ≤ s 83 3)
    (l12 : 0 ≤ i → i ≤ ((s 83 0) - 1) → 0 ≤ j → j ≤ ((s 83 0) - 1) → ¬ i = j → ¬ (s 83 5) = (i + 1) → ¬ (s 83 3) = 40 → s 83 3 < 40)
    (l13 : 0 ≤ i → i ≤ ((s 83 0) - 1) → 0 ≤ j → j ≤ ((s 83 0) - 1) → ¬ i = j → ¬ (s 83 5) = (i + 1) → ¬ (s 83 3) = 40 → uok (m_upd (m_upd (nts s 0 (s 83 5) (s 83 6) 0) 83 5 (i + 1)) 83 6 (j + 1)))
    (l14 : 0 ≤ i → i ≤ ((s 83 0) - 1) → 0 ≤ j → j ≤ ((s 83 0) - 1) → ¬ i = j → ¬ (s 83 5) = (i + 1) → ¬ (s 83 3) = 40 → P (some (vI (iAnd (hld ((m_upd (m_upd (nts s 0 (s 83 5) (s 83 6) 0) 83 5 (i + 1)) 83 6 (j + 1)) 83) ((m_upd (m_upd (nts s 0 (s 83 5) (s 83 6) 0) 83 5 (i + 1)) 83 6 (j + 1)) 83 (5 + 0) - 1)) (hld ((m_upd (m_upd (nts s 0 (s 83 5) (s 83 6) 0) 83 5 (i + 1)) 83 6 (j + 1)) 83) ((m_upd (m_upd (nts s 0 (s 83 5) (s 83 6) 0) 83 5 (i + 1)) 83 6 (j + 1)) 83 (5 + 1) - 1))))) (m_upd (m_upd (nts s 0 (s 83 5) (s 83 6) 0) 83 5 (i + 1)) 83 6 (j + 1)))
    (l15 : 0 ≤ i → i ≤ ((s 83 0) - 1) → 0 ≤ j → j ≤ ((s 83 0) - 1) → ¬ i = j → ¬ (s 83 5) = (i + 1) → (s 83 3) = 40 → P (some (vI (-2))) s)
    (l16 : 0 ≤ i → i ≤ ((s 83 0) - 1) → 0 ≤ j → j ≤ ((s 83 0) - 1) → ¬ i = j → (s 83 5) = (i + 1) → inR (s 83 6))
    (l17 : 0 ≤ i → i ≤ ((s 83 0) - 1) → 0 ≤ j → j ≤ ((s 83 0) - 1) → ¬ i = j → (s 83 5) = (i + 1) → inR (j + 1))
    (l18 : 0 ≤ i → i ≤ ((s 83 0) - 1) → 0 ≤ j → j ≤ ((s 83 0) - 1) → ¬ i = j → (s 83 5) = (i + 1) → ¬ (s 83 6) = (j + 1) → inR (s 83 3))
    (l19 : 0 ≤ i → i ≤ ((s 83 0) - 1) → 0 ≤ j → j ≤ ((s 83 0) - 1) → ¬ i = j → (s 83 5) = (i + 1) → ¬ (s 83 6) = (j + 1) → ¬ (s 83 3) = 40 → 0 ≤ s 83 3)
    (l20 : 0 ≤ i → i ≤ ((s 83 0) - 1) → 0 ≤ j → j ≤ ((s 83 0) - 1) → ¬ i = j → (s 83 5) = (i + 1) → ¬ (s 83 6) = (j + 1) → ¬ (s 83 3) = 40 → s 83 3 < 40)
    (l21 : 0 ≤ i → i ≤ ((s 83 0) - 1) → 0 ≤ j → j ≤ ((s 83 0) - 1) → ¬ i = j → (s 83 5) = (i + 1) → ¬ (s 83 6) = (j + 1) → ¬ (s 83 3) = 40 → uok (m_upd (m_upd (nts s 0 (s 83 5) (s 83 6) 0) 83 5 (i + 1)) 83 6 (j + 1)))
    (l22 : 0 ≤ i → i ≤ ((s 83 0) - 1) → 0 ≤ j → j ≤ ((s 83 0) - 1) → ¬ i = j → (s 83 5) = (i + 1) → ¬ (s 83 6) = (j + 1) → ¬ (s 83 3) = 40 → P (some (vI (iAnd (hld ((m_upd (m_upd (nts s 0 (s 83 5) (s 83 6) 0) 83 5 (i + 1)) 83 6 (j + 1)) 83) ((m_upd (m_upd (nts s 0 (s 83 5) (s 83 6) 0) 83 5 (i + 1)) 83 6 (j + 1)) 83 (5 + 0) - 1)) (hld ((m_upd (m_upd (nts s 0 (s 83 5) (s 83 6) 0) 83 5 (i + 1)) 83 6 (j + 1)) 83) ((m_upd (m_upd (nts s 0 (s 83 5) (s 83 6) 0) 83 5 (i + 1)) 83 6 (j + 1)) 83 (5 + 1) - 1))))) (m_upd (m_upd (nts s 0 (s 83 5) (s 83 6) 0) 83 5 (i + 1)) 83 6 (j + 1)))
    (l23 : 0 ≤ i → i ≤ ((s 83 0) - 1) → 0 ≤ j → j ≤ ((s 83 0) - 1) → ¬ i = j → (s 83 5) = (i + 1) → ¬ (s 83 6) = (j + 1) → (s 83 3) = 40 → P (some (vI (-2))) s)
    (l24 : 0 ≤ i → i ≤ ((s 83 0) - 1) → 0 ≤ j → j ≤ ((s 83 0) - 1) → ¬ i = j → (s 83 5) = (i + 1) → (s 83 6) = (j + 1) → P (some (vI (-4))) s)
    (l25 : 0 ≤ i → i ≤ ((s 83 0) - 1) → 0 ≤ j → j ≤ ((s 83 0) - 1) → i = j → P (some (vI (-1))) s)
    : Cl X (d + 5) 199 [vR 77, vI i, vI j] s P := by
  refine Cl_of n_199 rfl ?_
  show Rn _ _ _ _ [some (vR 77), some (vI i), some (vI j)] [] _ _
  refine r_ldR_n (m := 0) F_199_0 rfl ?_
  refine r_ldI_n (m := 1) F_199_1 rfl ?_
  refine r_virt2 (A := [vI i]) (r := []) (n := 1) F_199_2 o_199 il_6_150 rfl rfl rfl rfl ty_77 vy_184 (lay_le n_184 rfl) ?_
  refine Cl_of n_184 rfl ?_
  show Rn _ _ _ _ [some (vR 77), some (vI i)] [] _ _
  refine r_ldI_n (m := 1) F_184_0 rfl ?_
  refine r_iconst F_184_1 ?_
  refine r_ldR_n (m := 0) F_184_2 rfl ?_
  refine r_getR (J := 5) F_184_3 o_184 fl_6_25 ty_77 (by decide) rfl (kd2 kd_77_5 (by decide)) (kd9 kd_77_5 (by decide)) rf_77_5 ?_
  refine r_iconst F_184_6 ?_
  refine r_iald (e := (s 83 0)) F_184_7 ty_83 (by decide) (lt_ln ln_83 (by decide)) rfl ?_
  refine r_iconst F_184_8 ?_
  refine r_isub F_184_9 rfl ?_
  refine r_stat2 (A := [vI i, vI 0, vI ((s 83 0) - 1)]) (r := []) (n := 3) F_184_10 o_184 il_6_67 (by decide) rfl rfl rfl rfl (lay_le n_160 rfl) ?_
  refine Cl_of n_160 rfl ?_
  show Rn _ _ _ _ [some (vI i), some (vI 0), some (vI ((s 83 0) - 1))] [] _ _
  refine r_ldI_n (m := 0) F_160_0 rfl ?_
  refine r_ldI_n (m := 1) F_160_1 rfl ?_
  refine r_icmp (t := 14) F_160_2 rfl l1 (by decide) ?_ ?_
  · intro e1
    replace e1 : i < 0 := e1
    refine r_iconst F_160_14 ?_
    refine r_zreturn F_160_15 rt_160 (Or.inl rfl) ?_
    show Rn _ _ _ _ _ [vI 0] _ _
    refine r_zreturn F_184_13 rt_184 (Or.inl rfl) ?_
    show Rn _ _ _ _ _ [vI 0] _ _
    refine r_ifT (t := 21) F_199_5 rfl (by decide) (by show (0 : Int) = 0; decide) ?_
    refine r_iconst F_199_21 ?_
    refine r_ireturn F_199_22 rt_199 ?_
    exact (l2 e1)
  · intro e2
    replace e2 : 0 ≤ i := (Int.not_lt.mp e2)
    refine r_ldI_n (m := 0) F_160_5 rfl ?_
    refine r_ldI_n (m := 2) F_160_6 rfl ?_
    refine r_icmp (t := 14) F_160_7 rfl l1 (l3 e2) ?_ ?_
    · intro e3
      replace e3 : ((s 83 0) - 1) < i := e3
      refine r_iconst F_160_14 ?_
      refine r_zreturn F_160_15 rt_160 (Or.inl rfl) ?_
      show Rn _ _ _ _ _ [vI 0] _ _
      refine r_zreturn F_184_13 rt_184 (Or.inl rfl) ?_
      show Rn _ _ _ _ _ [vI 0] _ _
      refine r_ifT (t := 21) F_199_5 rfl (by decide) (by show (0 : Int) = 0; decide) ?_
      refine r_iconst F_199_21 ?_
      refine r_ireturn F_199_22 rt_199 ?_
      exact (l4 e2 e3)
    · intro e4
      replace e4 : i ≤ ((s 83 0) - 1) := (Int.not_lt.mp e4)
      refine r_iconst F_160_10 ?_
      refine r_goto (t := 15) F_160_11 rfl ?_
      refine r_zreturn F_160_15 rt_160 (Or.inr rfl) ?_
      show Rn _ _ _ _ _ [vI 1] _ _
      refine r_zreturn F_184_13 rt_184 (Or.inr rfl) ?_
      show Rn _ _ _ _ _ [vI 1] _ _
      refine r_ifF (t := 21) F_199_5 rfl (by decide) (by show ¬ ((1 : Int) = 0); decide) ?_
      refine r_ldR_n (m := 0) F_199_8 rfl ?_
      refine r_ldI_n (m := 2) F_199_9 rfl ?_
      refine r_virt2 (A := [vI j]) (r := []) (n := 1) F_199_10 o_199 il_6_150 rfl rfl rfl rfl ty_77 vy_184 (lay_le n_184 rfl) ?_
      refine Cl_of n_184 rfl ?_
      show Rn _ _ _ _ [some (vR 77), some (vI j)] [] _ _
      refine r_ldI_n (m := 1) F_184_0 rfl ?_
      refine r_iconst F_184_1 ?_
      refine r_ldR_n (m := 0) F_184_2 rfl ?_
      refine r_getR (J := 5) F_184_3 o_184 fl_6_25 ty_77 (by decide) rfl (kd2 kd_77_5 (by decide)) (kd9 kd_77_5 (by decide)) rf_77_5 ?_
      refine r_iconst F_184_6 ?_
      refine r_iald (e := (s 83 0)) F_184_7 ty_83 (by decide) (lt_ln ln_83 (by decide)) rfl ?_
      refine r_iconst F_184_8 ?_
      refine r_isub F_184_9 rfl ?_
      refine r_stat2 (A := [vI j, vI 0, vI ((s 83 0) - 1)]) (r := []) (n := 3) F_184_10 o_184 il_6_67 (by decide) rfl rfl rfl rfl (lay_le n_160 rfl) ?_
      refine Cl_of n_160 rfl ?_
      show Rn _ _ _ _ [some (vI j), some (vI 0), some (vI ((s 83 0) - 1))] [] _ _
      refine r_ldI_n (m := 0) F_160_0 rfl ?_
      refine r_ldI_n (m := 1) F_160_1 rfl ?_
      refine r_icmp (t := 14) F_160_2 rfl (l5 e2 e4) (by decide) ?_ ?_
      · intro e5
        replace e5 : j < 0 := e5
        refine r_iconst F_160_14 ?_
        refine r_zreturn F_160_15 rt_160 (Or.inl rfl) ?_
        show Rn _ _ _ _ _ [vI 0] _ _
        refine r_zreturn F_184_13 rt_184 (Or.inl rfl) ?_
        show Rn _ _ _ _ _ [vI 0] _ _
        refine r_ifT (t := 21) F_199_13 rfl (by decide) (by show (0 : Int) = 0; decide) ?_
        refine r_iconst F_199_21 ?_
        refine r_ireturn F_199_22 rt_199 ?_
        exact (l6 e2 e4 e5)
      · intro e6
        replace e6 : 0 ≤ j := (Int.not_lt.mp e6)
        refine r_ldI_n (m := 0) F_160_5 rfl ?_
        refine r_ldI_n (m := 2) F_160_6 rfl ?_
        refine r_icmp (t := 14) F_160_7 rfl (l5 e2 e4) (l3 e2) ?_ ?_
        · intro e7
          replace e7 : ((s 83 0) - 1) < j := e7
          refine r_iconst F_160_14 ?_
          refine r_zreturn F_160_15 rt_160 (Or.inl rfl) ?_
          show Rn _ _ _ _ _ [vI 0] _ _
          refine r_zreturn F_184_13 rt_184 (Or.inl rfl) ?_
          show Rn _ _ _ _ _ [vI 0] _ _
          refine r_ifT (t := 21) F_199_13 rfl (by decide) (by show (0 : Int) = 0; decide) ?_
          refine r_iconst F_199_21 ?_
          refine r_ireturn F_199_22 rt_199 ?_
          exact (l7 e2 e4 e6 e7)
        · intro e8
          replace e8 : j ≤ ((s 83 0) - 1) := (Int.not_lt.mp e8)
          refine r_iconst F_160_10 ?_
          refine r_goto (t := 15) F_160_11 rfl ?_
          refine r_zreturn F_160_15 rt_160 (Or.inr rfl) ?_
          show Rn _ _ _ _ _ [vI 1] _ _
          refine r_zreturn F_184_13 rt_184 (Or.inr rfl) ?_
          show Rn _ _ _ _ _ [vI 1] _ _
          refine r_ifF (t := 21) F_199_13 rfl (by decide) (by show ¬ ((1 : Int) = 0); decide) ?_
          refine r_ldI_n (m := 1) F_199_16 rfl ?_
          refine r_ldI_n (m := 2) F_199_17 rfl ?_
          refine r_icmp (t := 23) F_199_18 rfl l1 (l5 e2 e4) ?_ ?_
          · intro e9
            replace e9 : ¬ i = j := e9
            refine r_ldR_n (m := 0) F_199_23 rfl ?_
            refine r_getR (J := 5) F_199_24 o_199 fl_6_25 ty_77 (by decide) rfl (kd2 kd_77_5 (by decide)) (kd9 kd_77_5 (by decide)) rf_77_5 ?_
            refine r_iconst F_199_27 ?_
            refine r_iald (e := (s 83 5)) F_199_28 ty_83 (by decide) (lt_ln ln_83 (by decide)) rfl ?_
            refine r_ldI_n (m := 1) F_199_29 rfl ?_
            refine r_iconst F_199_30 ?_
            refine r_iadd F_199_31 rfl ?_
            refine r_icmp (t := 51) F_199_32 rfl (l8 e2 e4 e6 e8 e9) (l9 e2 e4 e6 e8 e9) ?_ ?_
            · intro e10
              replace e10 : ¬ (s 83 5) = (i + 1) := e10
              refine r_ldR_n (m := 0) F_199_51 rfl ?_
              refine r_getR (J := 5) F_199_52 o_199 fl_6_25 ty_77 (by decide) rfl (kd2 kd_77_5 (by decide)) (kd9 kd_77_5 (by decide)) rf_77_5 ?_
              refine r_iconst F_199_55 ?_
              refine r_iald (e := (s 83 3)) F_199_56 ty_83 (by decide) (lt_ln ln_83 (by decide)) rfl ?_
              refine r_bipush F_199_57 bi_40 ?_
              refine r_icmp (t := 65) F_199_59 rfl (l10 e2 e4 e6 e8 e9 e10) (by decide) ?_ ?_
              · intro e11
                replace e11 : ¬ (s 83 3) = 40 := e11
                refine r_ldR_n (m := 0) F_199_65 rfl ?_
                refine r_iconst F_199_66 ?_
                refine r_ldR_n (m := 0) F_199_67 rfl ?_
                refine r_getR (J := 5) F_199_68 o_199 fl_6_25 ty_77 (by decide) rfl (kd2 kd_77_5 (by decide)) (kd9 kd_77_5 (by decide)) rf_77_5 ?_
                refine r_iconst F_199_71 ?_
                refine r_iald (e := (s 83 5)) F_199_72 ty_83 (by decide) (lt_ln ln_83 (by decide)) rfl ?_
                refine r_ldR_n (m := 0) F_199_73 rfl ?_
                refine r_getR (J := 5) F_199_74 o_199 fl_6_25 ty_77 (by decide) rfl (kd2 kd_77_5 (by decide)) (kd9 kd_77_5 (by decide)) rf_77_5 ?_
                refine r_bipush F_199_77 bi_6 ?_
                refine r_iald (e := (s 83 6)) F_199_79 ty_83 (by decide) (lt_ln ln_83 (by decide)) rfl ?_
                refine r_iconst F_199_80 ?_
                refine r_virt2 (A := [vI 0, vI (s 83 5), vI (s 83 6), vI 0]) (r := []) (n := 4) F_199_81 o_199 il_6_171 rfl rfl rfl rfl ty_77 vy_200 (lay_le n_200 rfl) ?_
                refine sp_notes (l11 e2 e4 e6 e8 e9 e10 e11) (l12 e2 e4 e6 e8 e9 e10 e11) ?_
                show Rn _ _ _ _ _ [] _ _
                refine r_ldR_n (m := 0) F_199_84 rfl ?_
                refine r_getR (J := 5) F_199_85 o_199 fl_6_25 ty_77 (by decide) rfl (kd2 kd_77_5 (by decide)) (kd9 kd_77_5 (by decide)) rf_77_5 ?_
                refine r_iconst F_199_88 ?_
                refine r_ldI_n (m := 1) F_199_89 rfl ?_
                refine r_iconst F_199_90 ?_
                refine r_iadd F_199_91 rfl ?_
                refine r_iast F_199_92 ty_83 (by decide) (lt_ln ln_83 (by decide)) ?_
                refine r_ldR_n (m := 0) F_199_93 rfl ?_
                refine r_getR (J := 5) F_199_94 o_199 fl_6_25 ty_77 (by decide) rfl (kd2 kd_77_5 (by decide)) (kd9 kd_77_5 (by decide)) rf_77_5 ?_
                refine r_bipush F_199_97 bi_6 ?_
                refine r_ldI_n (m := 2) F_199_99 rfl ?_
                refine r_iconst F_199_100 ?_
                refine r_iadd F_199_101 rfl ?_
                refine r_iast F_199_102 ty_83 (by decide) (lt_ln ln_83 (by decide)) ?_
                refine r_ldR_n (m := 0) F_199_103 rfl ?_
                refine r_virt2 (A := []) (r := []) (n := 0) F_199_104 o_199 il_6_175 rfl rfl rfl rfl ty_77 vy_201 (lay_le n_201 rfl) ?_
                refine Cl_of n_201 rfl ?_
                show Rn _ _ _ _ [some (vR 77)] [] _ _
                refine r_ldR_n (m := 0) F_201_0 rfl ?_
                refine r_iconst F_201_1 ?_
                refine r_virt2 (A := [vI 0]) (r := []) (n := 1) F_201_2 o_201 il_6_168 rfl rfl rfl rfl ty_77 vy_202 (lay_le n_202 rfl) ?_
                refine sp_upHolds (l13 e2 e4 e6 e8 e9 e10 e11) (by decide) (by decide) ?_
                show Rn _ _ _ _ _ [vI (hld ((m_upd (m_upd (nts s 0 (s 83 5) (s 83 6) 0) 83 5 (i + 1)) 83 6 (j + 1)) 83) ((m_upd (m_upd (nts s 0 (s 83 5) (s 83 6) 0) 83 5 (i + 1)) 83 6 (j + 1)) 83 (5 + 0) - 1))] _ _
                refine r_ldR_n (m := 0) F_201_5 rfl ?_
                refine r_iconst F_201_6 ?_
                refine r_virt2 (A := [vI 1]) (r := [vI (hld ((m_upd (m_upd (nts s 0 (s 83 5) (s 83 6) 0) 83 5 (i + 1)) 83 6 (j + 1)) 83) ((m_upd (m_upd (nts s 0 (s 83 5) (s 83 6) 0) 83 5 (i + 1)) 83 6 (j + 1)) 83 (5 + 0) - 1))]) (n := 1) F_201_7 o_201 il_6_168 rfl rfl rfl rfl ty_77 vy_202 (lay_le n_202 rfl) ?_
                refine sp_upHolds (l13 e2 e4 e6 e8 e9 e10 e11) (by decide) (by decide) ?_
                show Rn _ _ _ _ _ [vI (hld ((m_upd (m_upd (nts s 0 (s 83 5) (s 83 6) 0) 83 5 (i + 1)) 83 6 (j + 1)) 83) ((m_upd (m_upd (nts s 0 (s 83 5) (s 83 6) 0) 83 5 (i + 1)) 83 6 (j + 1)) 83 (5 + 1) - 1)), vI (hld ((m_upd (m_upd (nts s 0 (s 83 5) (s 83 6) 0) 83 5 (i + 1)) 83 6 (j + 1)) 83) ((m_upd (m_upd (nts s 0 (s 83 5) (s 83 6) 0) 83 5 (i + 1)) 83 6 (j + 1)) 83 (5 + 0) - 1))] _ _
                refine r_iand F_201_10 rfl ?_
                refine r_ireturn F_201_11 rt_201 ?_
                show Rn _ _ _ _ _ [vI (iAnd (hld ((m_upd (m_upd (nts s 0 (s 83 5) (s 83 6) 0) 83 5 (i + 1)) 83 6 (j + 1)) 83) ((m_upd (m_upd (nts s 0 (s 83 5) (s 83 6) 0) 83 5 (i + 1)) 83 6 (j + 1)) 83 (5 + 0) - 1)) (hld ((m_upd (m_upd (nts s 0 (s 83 5) (s 83 6) 0) 83 5 (i + 1)) 83 6 (j + 1)) 83) ((m_upd (m_upd (nts s 0 (s 83 5) (s 83 6) 0) 83 5 (i + 1)) 83 6 (j + 1)) 83 (5 + 1) - 1)))] _ _
                refine r_ireturn F_199_107 rt_199 ?_
                exact (l14 e2 e4 e6 e8 e9 e10 e11)
              · intro e12
                replace e12 : (s 83 3) = 40 := (Classical.not_not.mp e12)
                refine r_bipush F_199_62 bi__2 ?_
                refine r_ireturn F_199_64 rt_199 ?_
                exact (l15 e2 e4 e6 e8 e9 e10 e12)
            · intro e13
              replace e13 : (s 83 5) = (i + 1) := (Classical.not_not.mp e13)
              refine r_ldR_n (m := 0) F_199_35 rfl ?_
              refine r_getR (J := 5) F_199_36 o_199 fl_6_25 ty_77 (by decide) rfl (kd2 kd_77_5 (by decide)) (kd9 kd_77_5 (by decide)) rf_77_5 ?_
              refine r_bipush F_199_39 bi_6 ?_
              refine r_iald (e := (s 83 6)) F_199_41 ty_83 (by decide) (lt_ln ln_83 (by decide)) rfl ?_
              refine r_ldI_n (m := 2) F_199_42 rfl ?_
              refine r_iconst F_199_43 ?_
              refine r_iadd F_199_44 rfl ?_
              refine r_icmp (t := 51) F_199_45 rfl (l16 e2 e4 e6 e8 e9 e13) (l17 e2 e4 e6 e8 e9 e13) ?_ ?_
              · intro e14
                replace e14 : ¬ (s 83 6) = (j + 1) := e14
                refine r_ldR_n (m := 0) F_199_51 rfl ?_
                refine r_getR (J := 5) F_199_52 o_199 fl_6_25 ty_77 (by decide) rfl (kd2 kd_77_5 (by decide)) (kd9 kd_77_5 (by decide)) rf_77_5 ?_
                refine r_iconst F_199_55 ?_
                refine r_iald (e := (s 83 3)) F_199_56 ty_83 (by decide) (lt_ln ln_83 (by decide)) rfl ?_
                refine r_bipush F_199_57 bi_40 ?_
                refine r_icmp (t := 65) F_199_59 rfl (l18 e2 e4 e6 e8 e9 e13 e14) (by decide) ?_ ?_
                · intro e15
                  replace e15 : ¬ (s 83 3) = 40 := e15
                  refine r_ldR_n (m := 0) F_199_65 rfl ?_
                  refine r_iconst F_199_66 ?_
                  refine r_ldR_n (m := 0) F_199_67 rfl ?_
                  refine r_getR (J := 5) F_199_68 o_199 fl_6_25 ty_77 (by decide) rfl (kd2 kd_77_5 (by decide)) (kd9 kd_77_5 (by decide)) rf_77_5 ?_
                  refine r_iconst F_199_71 ?_
                  refine r_iald (e := (s 83 5)) F_199_72 ty_83 (by decide) (lt_ln ln_83 (by decide)) rfl ?_
                  refine r_ldR_n (m := 0) F_199_73 rfl ?_
                  refine r_getR (J := 5) F_199_74 o_199 fl_6_25 ty_77 (by decide) rfl (kd2 kd_77_5 (by decide)) (kd9 kd_77_5 (by decide)) rf_77_5 ?_
                  refine r_bipush F_199_77 bi_6 ?_
                  refine r_iald (e := (s 83 6)) F_199_79 ty_83 (by decide) (lt_ln ln_83 (by decide)) rfl ?_
                  refine r_iconst F_199_80 ?_
                  refine r_virt2 (A := [vI 0, vI (s 83 5), vI (s 83 6), vI 0]) (r := []) (n := 4) F_199_81 o_199 il_6_171 rfl rfl rfl rfl ty_77 vy_200 (lay_le n_200 rfl) ?_
                  refine sp_notes (l19 e2 e4 e6 e8 e9 e13 e14 e15) (l20 e2 e4 e6 e8 e9 e13 e14 e15) ?_
                  show Rn _ _ _ _ _ [] _ _
                  refine r_ldR_n (m := 0) F_199_84 rfl ?_
                  refine r_getR (J := 5) F_199_85 o_199 fl_6_25 ty_77 (by decide) rfl (kd2 kd_77_5 (by decide)) (kd9 kd_77_5 (by decide)) rf_77_5 ?_
                  refine r_iconst F_199_88 ?_
                  refine r_ldI_n (m := 1) F_199_89 rfl ?_
                  refine r_iconst F_199_90 ?_
                  refine r_iadd F_199_91 rfl ?_
                  refine r_iast F_199_92 ty_83 (by decide) (lt_ln ln_83 (by decide)) ?_
                  refine r_ldR_n (m := 0) F_199_93 rfl ?_
                  refine r_getR (J := 5) F_199_94 o_199 fl_6_25 ty_77 (by decide) rfl (kd2 kd_77_5 (by decide)) (kd9 kd_77_5 (by decide)) rf_77_5 ?_
                  refine r_bipush F_199_97 bi_6 ?_
                  refine r_ldI_n (m := 2) F_199_99 rfl ?_
                  refine r_iconst F_199_100 ?_
                  refine r_iadd F_199_101 rfl ?_
                  refine r_iast F_199_102 ty_83 (by decide) (lt_ln ln_83 (by decide)) ?_
                  refine r_ldR_n (m := 0) F_199_103 rfl ?_
                  refine r_virt2 (A := []) (r := []) (n := 0) F_199_104 o_199 il_6_175 rfl rfl rfl rfl ty_77 vy_201 (lay_le n_201 rfl) ?_
                  refine Cl_of n_201 rfl ?_
                  show Rn _ _ _ _ [some (vR 77)] [] _ _
                  refine r_ldR_n (m := 0) F_201_0 rfl ?_
                  refine r_iconst F_201_1 ?_
                  refine r_virt2 (A := [vI 0]) (r := []) (n := 1) F_201_2 o_201 il_6_168 rfl rfl rfl rfl ty_77 vy_202 (lay_le n_202 rfl) ?_
                  refine sp_upHolds (l21 e2 e4 e6 e8 e9 e13 e14 e15) (by decide) (by decide) ?_
                  show Rn _ _ _ _ _ [vI (hld ((m_upd (m_upd (nts s 0 (s 83 5) (s 83 6) 0) 83 5 (i + 1)) 83 6 (j + 1)) 83) ((m_upd (m_upd (nts s 0 (s 83 5) (s 83 6) 0) 83 5 (i + 1)) 83 6 (j + 1)) 83 (5 + 0) - 1))] _ _
                  refine r_ldR_n (m := 0) F_201_5 rfl ?_
                  refine r_iconst F_201_6 ?_
                  refine r_virt2 (A := [vI 1]) (r := [vI (hld ((m_upd (m_upd (nts s 0 (s 83 5) (s 83 6) 0) 83 5 (i + 1)) 83 6 (j + 1)) 83) ((m_upd (m_upd (nts s 0 (s 83 5) (s 83 6) 0) 83 5 (i + 1)) 83 6 (j + 1)) 83 (5 + 0) - 1))]) (n := 1) F_201_7 o_201 il_6_168 rfl rfl rfl rfl ty_77 vy_202 (lay_le n_202 rfl) ?_
                  refine sp_upHolds (l21 e2 e4 e6 e8 e9 e13 e14 e15) (by decide) (by decide) ?_
                  show Rn _ _ _ _ _ [vI (hld ((m_upd (m_upd (nts s 0 (s 83 5) (s 83 6) 0) 83 5 (i + 1)) 83 6 (j + 1)) 83) ((m_upd (m_upd (nts s 0 (s 83 5) (s 83 6) 0) 83 5 (i + 1)) 83 6 (j + 1)) 83 (5 + 1) - 1)), vI (hld ((m_upd (m_upd (nts s 0 (s 83 5) (s 83 6) 0) 83 5 (i + 1)) 83 6 (j + 1)) 83) ((m_upd (m_upd (nts s 0 (s 83 5) (s 83 6) 0) 83 5 (i + 1)) 83 6 (j + 1)) 83 (5 + 0) - 1))] _ _
                  refine r_iand F_201_10 rfl ?_
                  refine r_ireturn F_201_11 rt_201 ?_
                  show Rn _ _ _ _ _ [vI (iAnd (hld ((m_upd (m_upd (nts s 0 (s 83 5) (s 83 6) 0) 83 5 (i + 1)) 83 6 (j + 1)) 83) ((m_upd (m_upd (nts s 0 (s 83 5) (s 83 6) 0) 83 5 (i + 1)) 83 6 (j + 1)) 83 (5 + 0) - 1)) (hld ((m_upd (m_upd (nts s 0 (s 83 5) (s 83 6) 0) 83 5 (i + 1)) 83 6 (j + 1)) 83) ((m_upd (m_upd (nts s 0 (s 83 5) (s 83 6) 0) 83 5 (i + 1)) 83 6 (j + 1)) 83 (5 + 1) - 1)))] _ _
                  refine r_ireturn F_199_107 rt_199 ?_
                  exact (l22 e2 e4 e6 e8 e9 e13 e14 e15)
                · intro e16
                  replace e16 : (s 83 3) = 40 := (Classical.not_not.mp e16)
                  refine r_bipush F_199_62 bi__2 ?_
                  refine r_ireturn F_199_64 rt_199 ?_
                  exact (l23 e2 e4 e6 e8 e9 e13 e14 e16)
              · intro e17
                replace e17 : (s 83 6) = (j + 1) := (Classical.not_not.mp e17)
                refine r_bipush F_199_48 bi__4 ?_
                refine r_ireturn F_199_50 rt_199 ?_
                exact (l24 e2 e4 e6 e8 e9 e13 e17)
          · intro e18
            replace e18 : i = j := (Classical.not_not.mp e18)
            refine r_iconst F_199_21 ?_
            refine r_ireturn F_199_22 rt_199 ?_
            exact (l25 e2 e4 e6 e8 e18)
theorem t_X6_say {X : List Int32} {d : Nat} {s : m_St} {P : Option Value → m_St → Prop} {z : Int}
    (l1 : inR z)
    (l2 : z < 0 → P (some (vI (-1))) s)
    (l3 : 0 ≤ z → 7 < z → P (some (vI (-1))) s)
    (l4 : 0 ≤ z → z ≤ 7 → inR (s 83 5))
    (l5 : 0 ≤ z → z ≤ 7 → (s 83 5) ≤ 0 → P (some (vI (-4))) s)
    (l6 : 0 ≤ z → z ≤ 7 → 0 < (s 83 5) → uok s)
    (l7 : 0 ≤ z → z ≤ 7 → 0 < (s 83 5) → z < 8)
    (l8 : 0 ≤ z → z ≤ 7 → 0 < (s 83 5) → ¬ (cbM (s 83) z) = 0 → inR (s 83 1))
    (l9 : 0 ≤ z → z ≤ 7 → 0 < (s 83 5) → ¬ (cbM (s 83) z) = 0 → ¬ (s 83 1) = 0 → inR (s 83 3))
    (l10 : 0 ≤ z → z ≤ 7 → 0 < (s 83 5) → ¬ (cbM (s 83) z) = 0 → ¬ (s 83 1) = 0 → ¬ (s 83 3) = 40 → 0 ≤ s 83 3)
    (l11 : 0 ≤ z → z ≤ 7 → 0 < (s 83 5) → ¬ (cbM (s 83) z) = 0 → ¬ (s 83 1) = 0 → ¬ (s 83 3) = 40 → s 83 3 < 40)
    (l12 : 0 ≤ z → z ≤ 7 → 0 < (s 83 5) → ¬ (cbM (s 83) z) = 0 → ¬ (s 83 1) = 0 → ¬ (s 83 3) = 40 → P (some (vI (stp (s 38 5) (s 83) z (9 + 5 * hrr (s 83) z + z % 4)))) (mdo s z))
    (l13 : 0 ≤ z → z ≤ 7 → 0 < (s 83 5) → ¬ (cbM (s 83) z) = 0 → ¬ (s 83 1) = 0 → (s 83 3) = 40 → P (some (vI (-2))) s)
    (l14 : 0 ≤ z → z ≤ 7 → 0 < (s 83 5) → ¬ (cbM (s 83) z) = 0 → (s 83 1) = 0 → P (some (vI (-6))) s)
    (l15 : 0 ≤ z → z ≤ 7 → 0 < (s 83 5) → (cbM (s 83) z) = 0 → P (some (vI (-4))) s)
    : Cl X (d + 5) 203 [vR 77, vI z] s P := by
  refine Cl_of n_203 rfl ?_
  show Rn _ _ _ _ [some (vR 77), some (vI z)] [] _ _
  refine r_ldI_n (m := 1) F_203_0 rfl ?_
  refine r_iconst F_203_1 ?_
  refine r_bipush F_203_2 bi_7 ?_
  refine r_stat2 (A := [vI z, vI 0, vI 7]) (r := []) (n := 3) F_203_4 o_203 il_6_67 (by decide) rfl rfl rfl rfl (lay_le n_160 rfl) ?_
  refine Cl_of n_160 rfl ?_
  show Rn _ _ _ _ [some (vI z), some (vI 0), some (vI 7)] [] _ _
  refine r_ldI_n (m := 0) F_160_0 rfl ?_
  refine r_ldI_n (m := 1) F_160_1 rfl ?_
  refine r_icmp (t := 14) F_160_2 rfl l1 (by decide) ?_ ?_
  · intro e1
    replace e1 : z < 0 := e1
    refine r_iconst F_160_14 ?_
    refine r_zreturn F_160_15 rt_160 (Or.inl rfl) ?_
    show Rn _ _ _ _ _ [vI 0] _ _
    refine r_ifF (t := 12) F_203_7 rfl (by decide) (by show ¬ (¬ (0 : Int) = 0); decide) ?_
    refine r_iconst F_203_10 ?_
    refine r_ireturn F_203_11 rt_203 ?_
    exact (l2 e1)
  · intro e2
    replace e2 : 0 ≤ z := (Int.not_lt.mp e2)
    refine r_ldI_n (m := 0) F_160_5 rfl ?_
    refine r_ldI_n (m := 2) F_160_6 rfl ?_
    refine r_icmp (t := 14) F_160_7 rfl l1 (by decide) ?_ ?_
    · intro e3
      replace e3 : 7 < z := e3
      refine r_iconst F_160_14 ?_
      refine r_zreturn F_160_15 rt_160 (Or.inl rfl) ?_
      show Rn _ _ _ _ _ [vI 0] _ _
      refine r_ifF (t := 12) F_203_7 rfl (by decide) (by show ¬ (¬ (0 : Int) = 0); decide) ?_
      refine r_iconst F_203_10 ?_
      refine r_ireturn F_203_11 rt_203 ?_
      exact (l3 e2 e3)
    · intro e4
      replace e4 : z ≤ 7 := (Int.not_lt.mp e4)
      refine r_iconst F_160_10 ?_
      refine r_goto (t := 15) F_160_11 rfl ?_
      refine r_zreturn F_160_15 rt_160 (Or.inr rfl) ?_
      show Rn _ _ _ _ _ [vI 1] _ _
      refine r_ifT (t := 12) F_203_7 rfl (by decide) (by show ¬ (1 : Int) = 0; decide) ?_
      refine r_ldR_n (m := 0) F_203_12 rfl ?_
      refine r_virt2 (A := []) (r := []) (n := 0) F_203_13 o_203 il_6_182 rfl rfl rfl rfl ty_77 vy_204 (lay_le n_204 rfl) ?_
      refine Cl_of n_204 rfl ?_
      show Rn _ _ _ _ [some (vR 77)] [] _ _
      refine r_ldR_n (m := 0) F_204_0 rfl ?_
      refine r_getR (J := 5) F_204_1 o_204 fl_6_25 ty_77 (by decide) rfl (kd2 kd_77_5 (by decide)) (kd9 kd_77_5 (by decide)) rf_77_5 ?_
      refine r_iconst F_204_4 ?_
      refine r_iald (e := (s 83 5)) F_204_5 ty_83 (by decide) (lt_ln ln_83 (by decide)) rfl ?_
      refine r_if (t := 13) F_204_6 rfl (l4 e2 e4) ?_ ?_
      · intro e5
        replace e5 : (s 83 5) ≤ 0 := e5
        refine r_iconst F_204_13 ?_
        refine r_zreturn F_204_14 rt_204 (Or.inl rfl) ?_
        show Rn _ _ _ _ _ [vI 0] _ _
        refine r_ifT (t := 27) F_203_16 rfl (by decide) (by show (0 : Int) = 0; decide) ?_
        refine r_bipush F_203_27 bi__4 ?_
        refine r_ireturn F_203_29 rt_203 ?_
        exact (l5 e2 e4 e5)
      · intro e6
        replace e6 : 0 < (s 83 5) := (Int.not_le.mp e6)
        refine r_iconst F_204_9 ?_
        refine r_goto (t := 14) F_204_10 rfl ?_
        refine r_zreturn F_204_14 rt_204 (Or.inr rfl) ?_
        show Rn _ _ _ _ _ [vI 1] _ _
        refine r_ifF (t := 27) F_203_16 rfl (by decide) (by show ¬ ((1 : Int) = 0); decide) ?_
        refine r_ldR_n (m := 0) F_203_19 rfl ?_
        refine r_ldI_n (m := 1) F_203_20 rfl ?_
        refine r_virt2 (A := [vI z]) (r := []) (n := 1) F_203_21 o_203 il_6_186 rfl rfl rfl rfl ty_77 vy_205 (lay_le n_205 rfl) ?_
        refine sp_canBe (l6 e2 e4 e6) e2 (l7 e2 e4 e6) ?_
        show Rn _ _ _ _ _ [vI (cbM (s 83) z)] _ _
        refine r_if (t := 30) F_203_24 rfl (inR_cbM _ _) ?_ ?_
        · intro e7
          replace e7 : ¬ (cbM (s 83) z) = 0 := e7
          refine r_ldR_n (m := 0) F_203_30 rfl ?_
          refine r_getR (J := 5) F_203_31 o_203 fl_6_25 ty_77 (by decide) rfl (kd2 kd_77_5 (by decide)) (kd9 kd_77_5 (by decide)) rf_77_5 ?_
          refine r_iconst F_203_34 ?_
          refine r_iald (e := (s 83 1)) F_203_35 ty_83 (by decide) (lt_ln ln_83 (by decide)) rfl ?_
          refine r_if (t := 42) F_203_36 rfl (l8 e2 e4 e6 e7) ?_ ?_
          · intro e8
            replace e8 : ¬ (s 83 1) = 0 := e8
            refine r_ldR_n (m := 0) F_203_42 rfl ?_
            refine r_getR (J := 5) F_203_43 o_203 fl_6_25 ty_77 (by decide) rfl (kd2 kd_77_5 (by decide)) (kd9 kd_77_5 (by decide)) rf_77_5 ?_
            refine r_iconst F_203_46 ?_
            refine r_iald (e := (s 83 3)) F_203_47 ty_83 (by decide) (lt_ln ln_83 (by decide)) rfl ?_
            refine r_bipush F_203_48 bi_40 ?_
            refine r_icmp (t := 58) F_203_50 rfl (l9 e2 e4 e6 e7 e8) (by decide) ?_ ?_
            · intro e9
              replace e9 : ¬ (s 83 3) = 40 := e9
              refine r_ldR_n (m := 0) F_203_58 rfl ?_
              refine r_ldI_n (m := 1) F_203_59 rfl ?_
              refine r_virt2 (A := [vI z]) (r := []) (n := 1) F_203_60 o_203 il_6_189 rfl rfl rfl rfl ty_77 vy_206 (lay_le n_206 rfl) ?_
              refine sp_says (l6 e2 e4 e6) (l10 e2 e4 e6 e7 e8 e9) (l11 e2 e4 e6 e7 e8 e9) e2 (l7 e2 e4 e6) ?_
              show Rn _ _ _ _ _ [vI (stp (s 38 5) (s 83) z (9 + 5 * hrr (s 83) z + z % 4))] _ _
              refine r_ireturn F_203_63 rt_203 ?_
              exact (l12 e2 e4 e6 e7 e8 e9)
            · intro e10
              replace e10 : (s 83 3) = 40 := (Classical.not_not.mp e10)
              refine r_bipush F_203_53 bi__2 ?_
              refine r_goto (t := 63) F_203_55 rfl ?_
              refine r_ireturn F_203_63 rt_203 ?_
              exact (l13 e2 e4 e6 e7 e8 e10)
          · intro e11
            replace e11 : (s 83 1) = 0 := (Classical.not_not.mp e11)
            refine r_bipush F_203_39 bi__6 ?_
            refine r_ireturn F_203_41 rt_203 ?_
            exact (l14 e2 e4 e6 e7 e11)
        · intro e12
          replace e12 : (cbM (s 83) z) = 0 := (Classical.not_not.mp e12)
          refine r_bipush F_203_27 bi__4 ?_
          refine r_ireturn F_203_29 rt_203 ?_
          exact (l15 e2 e4 e6 e12)
theorem t_X6_wood {X : List Int32} {d : Nat} {s : m_St} {P : Option Value → m_St → Prop}
    (l1 : inR (s 83 0))
    (l2 : (s 83 0) ≤ 0 → P (some (vI (-4))) s)
    (l3 : 0 < (s 83 0) → inR (s 83 1))
    (l4 : 0 < (s 83 0) → inR (s 83 2))
    (l5 : 0 < (s 83 0) → ¬ (s 83 1) = (s 83 2) → inR (s 83 3))
    (l6 : 0 < (s 83 0) → ¬ (s 83 1) = (s 83 2) → ¬ (s 83 3) = 40 → 0 ≤ s 83 3)
    (l7 : 0 < (s 83 0) → ¬ (s 83 1) = (s 83 2) → ¬ (s 83 3) = 40 → s 83 3 < 40)
    (l8 : 0 < (s 83 0) → ¬ (s 83 1) = (s 83 2) → ¬ (s 83 3) = 40 → P (some (vI (s 83 1))) (mdo s 8))
    (l9 : 0 < (s 83 0) → ¬ (s 83 1) = (s 83 2) → (s 83 3) = 40 → P (some (vI (-2))) s)
    (l10 : 0 < (s 83 0) → (s 83 1) = (s 83 2) → P (some (vI (-4))) s)
    : Cl X (d + 2) 208 [vR 77] s P := by
  refine Cl_of n_208 rfl ?_
  show Rn _ _ _ _ [some (vR 77)] [] _ _
  refine r_ldR_n (m := 0) F_208_0 rfl ?_
  refine r_virt2 (A := []) (r := []) (n := 0) F_208_1 o_208 il_6_192 rfl rfl rfl rfl ty_77 vy_209 (lay_le n_209 rfl) ?_
  refine Cl_of n_209 rfl ?_
  show Rn _ _ _ _ [some (vR 77)] [] _ _
  refine r_ldR_n (m := 0) F_209_0 rfl ?_
  refine r_getR (J := 5) F_209_1 o_209 fl_6_25 ty_77 (by decide) rfl (kd2 kd_77_5 (by decide)) (kd9 kd_77_5 (by decide)) rf_77_5 ?_
  refine r_iconst F_209_4 ?_
  refine r_iald (e := (s 83 0)) F_209_5 ty_83 (by decide) (lt_ln ln_83 (by decide)) rfl ?_
  refine r_if (t := 13) F_209_6 rfl l1 ?_ ?_
  · intro e1
    replace e1 : (s 83 0) ≤ 0 := e1
    refine r_iconst F_209_13 ?_
    refine r_zreturn F_209_14 rt_209 (Or.inl rfl) ?_
    show Rn _ _ _ _ _ [vI 0] _ _
    refine r_ifT (t := 22) F_208_4 rfl (by decide) (by show (0 : Int) = 0; decide) ?_
    refine r_bipush F_208_22 bi__4 ?_
    refine r_ireturn F_208_24 rt_208 ?_
    exact (l2 e1)
  · intro e2
    replace e2 : 0 < (s 83 0) := (Int.not_le.mp e2)
    refine r_iconst F_209_9 ?_
    refine r_goto (t := 14) F_209_10 rfl ?_
    refine r_zreturn F_209_14 rt_209 (Or.inr rfl) ?_
    show Rn _ _ _ _ _ [vI 1] _ _
    refine r_ifF (t := 22) F_208_4 rfl (by decide) (by show ¬ ((1 : Int) = 0); decide) ?_
    refine r_ldR_n (m := 0) F_208_7 rfl ?_
    refine r_getR (J := 5) F_208_8 o_208 fl_6_25 ty_77 (by decide) rfl (kd2 kd_77_5 (by decide)) (kd9 kd_77_5 (by decide)) rf_77_5 ?_
    refine r_iconst F_208_11 ?_
    refine r_iald (e := (s 83 1)) F_208_12 ty_83 (by decide) (lt_ln ln_83 (by decide)) rfl ?_
    refine r_ldR_n (m := 0) F_208_13 rfl ?_
    refine r_getR (J := 5) F_208_14 o_208 fl_6_25 ty_77 (by decide) rfl (kd2 kd_77_5 (by decide)) (kd9 kd_77_5 (by decide)) rf_77_5 ?_
    refine r_iconst F_208_17 ?_
    refine r_iald (e := (s 83 2)) F_208_18 ty_83 (by decide) (lt_ln ln_83 (by decide)) rfl ?_
    refine r_icmp (t := 25) F_208_19 rfl (l3 e2) (l4 e2) ?_ ?_
    · intro e3
      replace e3 : ¬ (s 83 1) = (s 83 2) := e3
      refine r_ldR_n (m := 0) F_208_25 rfl ?_
      refine r_getR (J := 5) F_208_26 o_208 fl_6_25 ty_77 (by decide) rfl (kd2 kd_77_5 (by decide)) (kd9 kd_77_5 (by decide)) rf_77_5 ?_
      refine r_iconst F_208_29 ?_
      refine r_iald (e := (s 83 3)) F_208_30 ty_83 (by decide) (lt_ln ln_83 (by decide)) rfl ?_
      refine r_bipush F_208_31 bi_40 ?_
      refine r_icmp (t := 41) F_208_33 rfl (l5 e2 e3) (by decide) ?_ ?_
      · intro e4
        replace e4 : ¬ (s 83 3) = 40 := e4
        refine r_ldR_n (m := 0) F_208_41 rfl ?_
        refine r_virt2 (A := []) (r := []) (n := 0) F_208_42 o_208 il_6_195 rfl rfl rfl rfl ty_77 vy_210 (lay_le n_210 rfl) ?_
        refine sp_brings (l6 e2 e3 e4) (l7 e2 e3 e4) ?_
        show Rn _ _ _ _ _ [vI (s 83 1)] _ _
        refine r_ireturn F_208_45 rt_208 ?_
        exact (l8 e2 e3 e4)
      · intro e5
        replace e5 : (s 83 3) = 40 := (Classical.not_not.mp e5)
        refine r_bipush F_208_36 bi__2 ?_
        refine r_goto (t := 45) F_208_38 rfl ?_
        refine r_ireturn F_208_45 rt_208 ?_
        exact (l9 e2 e3 e5)
    · intro e6
      replace e6 : (s 83 1) = (s 83 2) := (Classical.not_not.mp e6)
      refine r_bipush F_208_22 bi__4 ?_
      refine r_ireturn F_208_24 rt_208 ?_
      exact (l10 e2 e6)
theorem t_X6_keep {X : List Int32} {d : Nat} {s : m_St} {P : Option Value → m_St → Prop} {k : Int}
    (l1 : inR k)
    (l2 : k < 0 → P (some (vI (-1))) s)
    (l3 : 0 ≤ k → 2 < k → P (some (vI (-1))) s)
    (l4 : 0 ≤ k → k ≤ 2 → inR (s 83 0))
    (l5 : 0 ≤ k → k ≤ 2 → (s 83 0) ≤ 0 → P (some (vI (-4))) s)
    (l6 : 0 ≤ k → k ≤ 2 → 0 < (s 83 0) → (0 : Int) + 198 ≤ 198)
    (l7 : 0 ≤ k → k ≤ 2 → 0 < (s 83 0) → 0 ≤ (198 * k))
    (l8 : 0 ≤ k → k ≤ 2 → 0 < (s 83 0) → ((198 * k) : Int) + 198 ≤ 594)
    (l9 : 0 ≤ k → k ≤ 2 → 0 < (s 83 0) → k < 3)
    (l10 : 0 ≤ k → k ≤ 2 → 0 < (s 83 0) → P (some (vI ((rwr s 85 (198 * k) 198 (fun y => s 83 (0 + y))) 83 3))) (m_upd (rwr s 85 (198 * k) 198 (fun y => s 83 (0 + y))) 86 k 1))
    : Cl X (d + 1) 213 [vR 77, vI k] s P := by
  refine Cl_of n_213 rfl ?_
  show Rn _ _ _ _ [some (vR 77), some (vI k)] [] _ _
  refine r_ldI_n (m := 1) F_213_0 rfl ?_
  refine r_iconst F_213_1 ?_
  refine r_iconst F_213_2 ?_
  refine r_stat2 (A := [vI k, vI 0, vI 2]) (r := []) (n := 3) F_213_3 o_213 il_6_67 (by decide) rfl rfl rfl rfl (lay_le n_160 rfl) ?_
  refine Cl_of n_160 rfl ?_
  show Rn _ _ _ _ [some (vI k), some (vI 0), some (vI 2)] [] _ _
  refine r_ldI_n (m := 0) F_160_0 rfl ?_
  refine r_ldI_n (m := 1) F_160_1 rfl ?_
  refine r_icmp (t := 14) F_160_2 rfl l1 (by decide) ?_ ?_
  · intro e1
    replace e1 : k < 0 := e1
    refine r_iconst F_160_14 ?_
    refine r_zreturn F_160_15 rt_160 (Or.inl rfl) ?_
    show Rn _ _ _ _ _ [vI 0] _ _
    refine r_ifF (t := 11) F_213_6 rfl (by decide) (by show ¬ (¬ (0 : Int) = 0); decide) ?_
    refine r_iconst F_213_9 ?_
    refine r_ireturn F_213_10 rt_213 ?_
    exact (l2 e1)
  · intro e2
    replace e2 : 0 ≤ k := (Int.not_lt.mp e2)
    refine r_ldI_n (m := 0) F_160_5 rfl ?_
    refine r_ldI_n (m := 2) F_160_6 rfl ?_
    refine r_icmp (t := 14) F_160_7 rfl l1 (by decide) ?_ ?_
    · intro e3
      replace e3 : 2 < k := e3
      refine r_iconst F_160_14 ?_
      refine r_zreturn F_160_15 rt_160 (Or.inl rfl) ?_
      show Rn _ _ _ _ _ [vI 0] _ _
      refine r_ifF (t := 11) F_213_6 rfl (by decide) (by show ¬ (¬ (0 : Int) = 0); decide) ?_
      refine r_iconst F_213_9 ?_
      refine r_ireturn F_213_10 rt_213 ?_
      exact (l3 e2 e3)
    · intro e4
      replace e4 : k ≤ 2 := (Int.not_lt.mp e4)
      refine r_iconst F_160_10 ?_
      refine r_goto (t := 15) F_160_11 rfl ?_
      refine r_zreturn F_160_15 rt_160 (Or.inr rfl) ?_
      show Rn _ _ _ _ _ [vI 1] _ _
      refine r_ifT (t := 11) F_213_6 rfl (by decide) (by show ¬ (1 : Int) = 0; decide) ?_
      refine r_ldR_n (m := 0) F_213_11 rfl ?_
      refine r_virt2 (A := []) (r := []) (n := 0) F_213_12 o_213 il_6_192 rfl rfl rfl rfl ty_77 vy_209 (lay_le n_209 rfl) ?_
      refine Cl_of n_209 rfl ?_
      show Rn _ _ _ _ [some (vR 77)] [] _ _
      refine r_ldR_n (m := 0) F_209_0 rfl ?_
      refine r_getR (J := 5) F_209_1 o_209 fl_6_25 ty_77 (by decide) rfl (kd2 kd_77_5 (by decide)) (kd9 kd_77_5 (by decide)) rf_77_5 ?_
      refine r_iconst F_209_4 ?_
      refine r_iald (e := (s 83 0)) F_209_5 ty_83 (by decide) (lt_ln ln_83 (by decide)) rfl ?_
      refine r_if (t := 13) F_209_6 rfl (l4 e2 e4) ?_ ?_
      · intro e5
        replace e5 : (s 83 0) ≤ 0 := e5
        refine r_iconst F_209_13 ?_
        refine r_zreturn F_209_14 rt_209 (Or.inl rfl) ?_
        show Rn _ _ _ _ _ [vI 0] _ _
        refine r_ifF (t := 21) F_213_15 rfl (by decide) (by show ¬ (¬ (0 : Int) = 0); decide) ?_
        refine r_bipush F_213_18 bi__4 ?_
        refine r_ireturn F_213_20 rt_213 ?_
        exact (l5 e2 e4 e5)
      · intro e6
        replace e6 : 0 < (s 83 0) := (Int.not_le.mp e6)
        refine r_iconst F_209_9 ?_
        refine r_goto (t := 14) F_209_10 rfl ?_
        refine r_zreturn F_209_14 rt_209 (Or.inr rfl) ?_
        show Rn _ _ _ _ _ [vI 1] _ _
        refine r_ifT (t := 21) F_213_15 rfl (by decide) (by show ¬ (1 : Int) = 0; decide) ?_
        refine r_ldR_n (m := 0) F_213_21 rfl ?_
        refine r_getR (J := 5) F_213_22 o_213 fl_6_25 ty_77 (by decide) rfl (kd2 kd_77_5 (by decide)) (kd9 kd_77_5 (by decide)) rf_77_5 ?_
        refine r_iconst F_213_25 ?_
        refine r_ldR_n (m := 0) F_213_26 rfl ?_
        refine r_getR (J := 7) F_213_27 o_213 fl_6_31 ty_77 (by decide) rfl (kd2 kd_77_7 (by decide)) (kd9 kd_77_7 (by decide)) rf_77_7 ?_
        refine r_sipush F_213_30 si_198 ?_
        refine r_ldI_n (m := 1) F_213_33 rfl ?_
        refine r_imul F_213_34 rfl ?_
        refine r_stat2 (A := [vR 83, vI 0, vR 85, vI (198 * k)]) (r := []) (n := 4) F_213_35 o_213 il_6_125 (by decide) rfl rfl rfl rfl (lay_le n_182 rfl) ?_
        refine sp_copies83 (by decide) (l6 e2 e4 e6) (l7 e2 e4 e6) (l8 e2 e4 e6) ?_
        show Rn _ _ _ _ _ [] _ _
        refine r_ldR_n (m := 0) F_213_38 rfl ?_
        refine r_getR (J := 8) F_213_39 o_213 fl_6_34 ty_77 (by decide) rfl (kd2 kd_77_8 (by decide)) (kd9 kd_77_8 (by decide)) rf_77_8 ?_
        refine r_ldI_n (m := 1) F_213_42 rfl ?_
        refine r_iconst F_213_43 ?_
        refine r_bast F_213_44 ty_86 e2 (lt_ln ln_86 (l9 e2 e4 e6)) (Or.inr rfl) ?_
        refine r_ldR_n (m := 0) F_213_45 rfl ?_
        refine r_getR (J := 5) F_213_46 o_213 fl_6_25 ty_77 (by decide) rfl (kd2 kd_77_5 (by decide)) (kd9 kd_77_5 (by decide)) rf_77_5 ?_
        refine r_iconst F_213_49 ?_
        refine r_iald (e := ((rwr s 85 (198 * k) 198 (fun y => s 83 (0 + y))) 83 3)) F_213_50 ty_83 (by decide) (lt_ln ln_83 (by decide)) (upd_nc (by decide)) ?_
        refine r_ireturn F_213_51 rt_213 ?_
        exact (l10 e2 e4 e6)
theorem t_X6_on {X : List Int32} {d : Nat} {s : m_St} {P : Option Value → m_St → Prop} {k : Int}
    (l1 : inR k)
    (l2 : k < 0 → P (some (vI (-1))) s)
    (l3 : 0 ≤ k → 2 < k → P (some (vI (-1))) s)
    (l4 : 0 ≤ k → k ≤ 2 → k < 3)
    (l5 : 0 ≤ k → k ≤ 2 → inR (s 86 k))
    (l6 : 0 ≤ k → k ≤ 2 → ¬ (s 86 k) = 0 → 0 ≤ (198 * k))
    (l7 : 0 ≤ k → k ≤ 2 → ¬ (s 86 k) = 0 → ((198 * k) : Int) + 198 ≤ 594)
    (l8 : 0 ≤ k → k ≤ 2 → ¬ (s 86 k) = 0 → (0 : Int) + 198 ≤ 198)
    (l9 : 0 ≤ k → k ≤ 2 → ¬ (s 86 k) = 0 → P (some (vI ((rwr s 83 0 198 (fun y => s 85 ((198 * k) + y))) 83 3))) (rwr s 83 0 198 (fun y => s 85 ((198 * k) + y))))
    (l10 : 0 ≤ k → k ≤ 2 → (s 86 k) = 0 → P (some (vI (-3))) (m_upd (m_upd s 77 10 1) 87 1 ((s 87 1) + 1)))
    : Cl X (d + 1) 214 [vR 77, vI k] s P := by
  refine Cl_of n_214 rfl ?_
  show Rn _ _ _ _ [some (vR 77), some (vI k)] [] _ _
  refine r_ldI_n (m := 1) F_214_0 rfl ?_
  refine r_iconst F_214_1 ?_
  refine r_iconst F_214_2 ?_
  refine r_stat2 (A := [vI k, vI 0, vI 2]) (r := []) (n := 3) F_214_3 o_214 il_6_67 (by decide) rfl rfl rfl rfl (lay_le n_160 rfl) ?_
  refine Cl_of n_160 rfl ?_
  show Rn _ _ _ _ [some (vI k), some (vI 0), some (vI 2)] [] _ _
  refine r_ldI_n (m := 0) F_160_0 rfl ?_
  refine r_ldI_n (m := 1) F_160_1 rfl ?_
  refine r_icmp (t := 14) F_160_2 rfl l1 (by decide) ?_ ?_
  · intro e1
    replace e1 : k < 0 := e1
    refine r_iconst F_160_14 ?_
    refine r_zreturn F_160_15 rt_160 (Or.inl rfl) ?_
    show Rn _ _ _ _ _ [vI 0] _ _
    refine r_ifF (t := 11) F_214_6 rfl (by decide) (by show ¬ (¬ (0 : Int) = 0); decide) ?_
    refine r_iconst F_214_9 ?_
    refine r_ireturn F_214_10 rt_214 ?_
    exact (l2 e1)
  · intro e2
    replace e2 : 0 ≤ k := (Int.not_lt.mp e2)
    refine r_ldI_n (m := 0) F_160_5 rfl ?_
    refine r_ldI_n (m := 2) F_160_6 rfl ?_
    refine r_icmp (t := 14) F_160_7 rfl l1 (by decide) ?_ ?_
    · intro e3
      replace e3 : 2 < k := e3
      refine r_iconst F_160_14 ?_
      refine r_zreturn F_160_15 rt_160 (Or.inl rfl) ?_
      show Rn _ _ _ _ _ [vI 0] _ _
      refine r_ifF (t := 11) F_214_6 rfl (by decide) (by show ¬ (¬ (0 : Int) = 0); decide) ?_
      refine r_iconst F_214_9 ?_
      refine r_ireturn F_214_10 rt_214 ?_
      exact (l3 e2 e3)
    · intro e4
      replace e4 : k ≤ 2 := (Int.not_lt.mp e4)
      refine r_iconst F_160_10 ?_
      refine r_goto (t := 15) F_160_11 rfl ?_
      refine r_zreturn F_160_15 rt_160 (Or.inr rfl) ?_
      show Rn _ _ _ _ _ [vI 1] _ _
      refine r_ifT (t := 11) F_214_6 rfl (by decide) (by show ¬ (1 : Int) = 0; decide) ?_
      refine r_ldR_n (m := 0) F_214_11 rfl ?_
      refine r_getR (J := 8) F_214_12 o_214 fl_6_34 ty_77 (by decide) rfl (kd2 kd_77_8 (by decide)) (kd9 kd_77_8 (by decide)) rf_77_8 ?_
      refine r_ldI_n (m := 1) F_214_15 rfl ?_
      refine r_bald (e := (s 86 k)) F_214_16 ty_86 e2 (lt_ln ln_86 (l4 e2 e4)) rfl ?_
      refine r_if (t := 26) F_214_17 rfl (l5 e2 e4) ?_ ?_
      · intro e5
        replace e5 : ¬ (s 86 k) = 0 := e5
        refine r_ldR_n (m := 0) F_214_26 rfl ?_
        refine r_getR (J := 7) F_214_27 o_214 fl_6_31 ty_77 (by decide) rfl (kd2 kd_77_7 (by decide)) (kd9 kd_77_7 (by decide)) rf_77_7 ?_
        refine r_sipush F_214_30 si_198 ?_
        refine r_ldI_n (m := 1) F_214_33 rfl ?_
        refine r_imul F_214_34 rfl ?_
        refine r_ldR_n (m := 0) F_214_35 rfl ?_
        refine r_getR (J := 5) F_214_36 o_214 fl_6_25 ty_77 (by decide) rfl (kd2 kd_77_5 (by decide)) (kd9 kd_77_5 (by decide)) rf_77_5 ?_
        refine r_iconst F_214_39 ?_
        refine r_stat2 (A := [vR 85, vI (198 * k), vR 83, vI 0]) (r := []) (n := 4) F_214_40 o_214 il_6_125 (by decide) rfl rfl rfl rfl (lay_le n_182 rfl) ?_
        refine sp_copies85 (l6 e2 e4 e5) (l7 e2 e4 e5) (by decide) (l8 e2 e4 e5) ?_
        show Rn _ _ _ _ _ [] _ _
        refine r_ldR_n (m := 0) F_214_43 rfl ?_
        refine r_getR (J := 5) F_214_44 o_214 fl_6_25 ty_77 (by decide) rfl (kd2 kd_77_5 (by decide)) (kd9 kd_77_5 (by decide)) rf_77_5 ?_
        refine r_iconst F_214_47 ?_
        refine r_iald (e := ((rwr s 83 0 198 (fun y => s 85 ((198 * k) + y))) 83 3)) F_214_48 ty_83 (by decide) (lt_ln ln_83 (by decide)) rfl ?_
        refine r_ireturn F_214_49 rt_214 ?_
        exact (l9 e2 e4 e5)
      · intro e6
        replace e6 : (s 86 k) = 0 := (Classical.not_not.mp e6)
        refine r_ldR_n (m := 0) F_214_20 rfl ?_
        refine r_iconst F_214_21 ?_
        refine r_virt2 (A := [vI 1]) (r := []) (n := 1) F_214_22 o_214 il_6_75 rfl rfl rfl rfl ty_77 vy_161 (lay_le n_161 rfl) ?_
        refine Cl_of n_161 rfl ?_
        show Rn _ _ _ _ [some (vR 77), some (vI 1)] [] _ _
        refine r_ldR_n (m := 0) F_161_0 rfl ?_
        refine r_ldI_n (m := 1) F_161_1 rfl ?_
        refine r_putI (J := 10) F_161_2 o_161 fl_6_57 ty_77 (by decide) rfl kd_77_10 pf_6_10 ?_
        refine r_ldR_n (m := 0) F_161_5 rfl ?_
        refine r_getR (J := 9) F_161_6 o_161 fl_6_38 ty_77 (by decide) rfl (kd2 kd_77_9 (by decide)) (kd9 kd_77_9 (by decide)) rf_77_9 ?_
        refine r_ldI_n (m := 1) F_161_9 rfl ?_
        refine r_dup2 F_161_10 ?_
        refine r_iald (e := (s 87 1)) F_161_11 ty_87 (by decide) (lt_ln ln_87 (by decide)) (upd_nc (by decide)) ?_
        refine r_iconst F_161_12 ?_
        refine r_iadd F_161_13 rfl ?_
        refine r_iast F_161_14 ty_87 (by decide) (lt_ln ln_87 (by decide)) ?_
        refine r_bipush F_161_15 bi__3 ?_
        refine r_ireturn F_161_17 rt_161 ?_
        show Rn _ _ _ _ _ [vI (-3)] _ _
        refine r_ireturn F_214_25 rt_214 ?_
        exact (l10 e2 e4 e6)
theorem t_X6_undo {X : List Int32} {d : Nat} {s : m_St} {P : Option Value → m_St → Prop} {n : Int}
    (l1 : inR n)
    (l2 : n < 0 → P (some (vI (-1))) s)
    (l3 : 0 ≤ n → inR (s 83 3))
    (l4 : 0 ≤ n → (s 83 3) < n → P (some (vI (-1))) s)
    (l5 : 0 ≤ n → n ≤ (s 83 3) → Rn X (d + 1) 211 34 [some (vR 77), some (vI n), some (vI ((s 83 3) - n)), some (vI ((s 83 3) - 1))] [] s P)
    : Cl X (d + 1) 211 [vR 77, vI n] s P := by
  refine Cl_of n_211 rfl ?_
  show Rn _ _ _ _ [some (vR 77), some (vI n), none, none] [] _ _
  refine r_ldI_n (m := 1) F_211_0 rfl ?_
  refine r_iconst F_211_1 ?_
  refine r_ldR_n (m := 0) F_211_2 rfl ?_
  refine r_getR (J := 5) F_211_3 o_211 fl_6_25 ty_77 (by decide) rfl (kd2 kd_77_5 (by decide)) (kd9 kd_77_5 (by decide)) rf_77_5 ?_
  refine r_iconst F_211_6 ?_
  refine r_iald (e := (s 83 3)) F_211_7 ty_83 (by decide) (lt_ln ln_83 (by decide)) rfl ?_
  refine r_stat2 (A := [vI n, vI 0, vI (s 83 3)]) (r := []) (n := 3) F_211_8 o_211 il_6_67 (by decide) rfl rfl rfl rfl (lay_le n_160 rfl) ?_
  refine Cl_of n_160 rfl ?_
  show Rn _ _ _ _ [some (vI n), some (vI 0), some (vI (s 83 3))] [] _ _
  refine r_ldI_n (m := 0) F_160_0 rfl ?_
  refine r_ldI_n (m := 1) F_160_1 rfl ?_
  refine r_icmp (t := 14) F_160_2 rfl l1 (by decide) ?_ ?_
  · intro e1
    replace e1 : n < 0 := e1
    refine r_iconst F_160_14 ?_
    refine r_zreturn F_160_15 rt_160 (Or.inl rfl) ?_
    show Rn _ _ _ _ _ [vI 0] _ _
    refine r_ifF (t := 16) F_211_11 rfl (by decide) (by show ¬ (¬ (0 : Int) = 0); decide) ?_
    refine r_iconst F_211_14 ?_
    refine r_ireturn F_211_15 rt_211 ?_
    exact (l2 e1)
  · intro e2
    replace e2 : 0 ≤ n := (Int.not_lt.mp e2)
    refine r_ldI_n (m := 0) F_160_5 rfl ?_
    refine r_ldI_n (m := 2) F_160_6 rfl ?_
    refine r_icmp (t := 14) F_160_7 rfl l1 (l3 e2) ?_ ?_
    · intro e3
      replace e3 : (s 83 3) < n := e3
      refine r_iconst F_160_14 ?_
      refine r_zreturn F_160_15 rt_160 (Or.inl rfl) ?_
      show Rn _ _ _ _ _ [vI 0] _ _
      refine r_ifF (t := 16) F_211_11 rfl (by decide) (by show ¬ (¬ (0 : Int) = 0); decide) ?_
      refine r_iconst F_211_14 ?_
      refine r_ireturn F_211_15 rt_211 ?_
      exact (l4 e2 e3)
    · intro e4
      replace e4 : n ≤ (s 83 3) := (Int.not_lt.mp e4)
      refine r_iconst F_160_10 ?_
      refine r_goto (t := 15) F_160_11 rfl ?_
      refine r_zreturn F_160_15 rt_160 (Or.inr rfl) ?_
      show Rn _ _ _ _ _ [vI 1] _ _
      refine r_ifT (t := 16) F_211_11 rfl (by decide) (by show ¬ (1 : Int) = 0; decide) ?_
      refine r_ldR_n (m := 0) F_211_16 rfl ?_
      refine r_getR (J := 5) F_211_17 o_211 fl_6_25 ty_77 (by decide) rfl (kd2 kd_77_5 (by decide)) (kd9 kd_77_5 (by decide)) rf_77_5 ?_
      refine r_iconst F_211_20 ?_
      refine r_iald (e := (s 83 3)) F_211_21 ty_83 (by decide) (lt_ln ln_83 (by decide)) rfl ?_
      refine r_ldI_n (m := 1) F_211_22 rfl ?_
      refine r_isub F_211_23 rfl ?_
      refine r_stI_n (m := 2) (L' := [some (vR 77), some (vI n), some (vI ((s 83 3) - n)), none]) F_211_24 rfl rfl ?_
      refine r_ldR_n (m := 0) F_211_25 rfl ?_
      refine r_getR (J := 5) F_211_26 o_211 fl_6_25 ty_77 (by decide) rfl (kd2 kd_77_5 (by decide)) (kd9 kd_77_5 (by decide)) rf_77_5 ?_
      refine r_iconst F_211_29 ?_
      refine r_iald (e := (s 83 3)) F_211_30 ty_83 (by decide) (lt_ln ln_83 (by decide)) rfl ?_
      refine r_iconst F_211_31 ?_
      refine r_isub F_211_32 rfl ?_
      refine r_stI_n (m := 3) (L' := [some (vR 77), some (vI n), some (vI ((s 83 3) - n)), some (vI ((s 83 3) - 1))]) F_211_33 rfl rfl ?_
      exact (l5 e2 e4)
theorem t_X6_undo_34 {X : List Int32} {d : Nat} {s : m_St} {P : Option Value → m_St → Prop} {n m k : Int}
    (l1 : inR k)
    (l2 : inR n)
    (l3 : k < n → P (some (vI m)) (m_upd s 83 3 n))
    (l4 : n ≤ k → 0 ≤ (38 + (4 * k)))
    (l5 : n ≤ k → (38 + (4 * k)) < 198)
    (l6 : n ≤ k → inR (s 83 (38 + (4 * k))))
    (l7 : n ≤ k → ¬ (s 83 (38 + (4 * k))) = 0 → ¬ (s 83 (38 + (4 * k))) = 1 → 0 ≤ ((38 + (4 * k)) + 1))
    (l8 : n ≤ k → ¬ (s 83 (38 + (4 * k))) = 0 → ¬ (s 83 (38 + (4 * k))) = 1 → ((38 + (4 * k)) + 1) < 198)
    (l9 : n ≤ k → ¬ (s 83 (38 + (4 * k))) = 0 → ¬ (s 83 (38 + (4 * k))) = 1 → Rn X (d + 1) 211 34 [some (vR 77), some (vI n), some (vI m), some (vI (k + (-1)))] [] (m_upd s 83 1 (s 83 ((38 + (4 * k)) + 1))) P)
    (l10 : n ≤ k → ¬ (s 83 (38 + (4 * k))) = 0 → (s 83 (38 + (4 * k))) = 1 → 0 ≤ ((38 + (4 * k)) + 1))
    (l11 : n ≤ k → ¬ (s 83 (38 + (4 * k))) = 0 → (s 83 (38 + (4 * k))) = 1 → ((38 + (4 * k)) + 1) < 198)
    (l12 : n ≤ k → ¬ (s 83 (38 + (4 * k))) = 0 → (s 83 (38 + (4 * k))) = 1 → 0 ≤ ((38 + (4 * k)) + 2))
    (l13 : n ≤ k → ¬ (s 83 (38 + (4 * k))) = 0 → (s 83 (38 + (4 * k))) = 1 → ((38 + (4 * k)) + 2) < 198)
    (l14 : n ≤ k → ¬ (s 83 (38 + (4 * k))) = 0 → (s 83 (38 + (4 * k))) = 1 → 0 ≤ (s 83 ((38 + (4 * k)) + 1)))
    (l15 : n ≤ k → ¬ (s 83 (38 + (4 * k))) = 0 → (s 83 (38 + (4 * k))) = 1 → (s 83 ((38 + (4 * k)) + 1)) < 198)
    (l16 : n ≤ k → ¬ (s 83 (38 + (4 * k))) = 0 → (s 83 (38 + (4 * k))) = 1 → Rn X (d + 1) 211 34 [some (vR 77), some (vI n), some (vI m), some (vI (k + (-1)))] [] (m_upd (m_upd (m_upd s 83 (s 83 ((38 + (4 * k)) + 1)) (s 83 ((38 + (4 * k)) + 2))) 83 1 (((m_upd s 83 (s 83 ((38 + (4 * k)) + 1)) (s 83 ((38 + (4 * k)) + 2))) 83 1) + 1)) 83 4 (((m_upd s 83 (s 83 ((38 + (4 * k)) + 1)) (s 83 ((38 + (4 * k)) + 2))) 83 4) - 1)) P)
    (l17 : n ≤ k → (s 83 (38 + (4 * k))) = 0 → 0 ≤ ((38 + (4 * k)) + 1))
    (l18 : n ≤ k → (s 83 (38 + (4 * k))) = 0 → ((38 + (4 * k)) + 1) < 198)
    (l19 : n ≤ k → (s 83 (38 + (4 * k))) = 0 → 0 ≤ ((38 + (4 * k)) + 2))
    (l20 : n ≤ k → (s 83 (38 + (4 * k))) = 0 → ((38 + (4 * k)) + 2) < 198)
    (l21 : n ≤ k → (s 83 (38 + (4 * k))) = 0 → Rn X (d + 1) 211 34 [some (vR 77), some (vI n), some (vI m), some (vI (k + (-1)))] [] (m_upd (m_upd s 83 5 (s 83 ((38 + (4 * k)) + 1))) 83 6 ((m_upd s 83 5 (s 83 ((38 + (4 * k)) + 1))) 83 ((38 + (4 * k)) + 2))) P)
    : Rn X (d + 1) 211 34 [some (vR 77), some (vI n), some (vI m), some (vI k)] [] s P := by
  refine r_ldI_n (m := 3) F_211_34 rfl ?_
  refine r_ldI_n (m := 1) F_211_35 rfl ?_
  refine r_icmp (t := 55) F_211_36 rfl l1 l2 ?_ ?_
  · intro e1
    replace e1 : k < n := e1
    refine r_ldR_n (m := 0) F_211_55 rfl ?_
    refine r_getR (J := 5) F_211_56 o_211 fl_6_25 ty_77 (by decide) rfl (kd2 kd_77_5 (by decide)) (kd9 kd_77_5 (by decide)) rf_77_5 ?_
    refine r_iconst F_211_59 ?_
    refine r_ldI_n (m := 1) F_211_60 rfl ?_
    refine r_iast F_211_61 ty_83 (by decide) (lt_ln ln_83 (by decide)) ?_
    refine r_ldI_n (m := 2) F_211_62 rfl ?_
    refine r_ireturn F_211_63 rt_211 ?_
    exact (l3 e1)
  · intro e2
    replace e2 : n ≤ k := (Int.not_lt.mp e2)
    refine r_ldR_n (m := 0) F_211_39 rfl ?_
    refine r_bipush F_211_40 bi_38 ?_
    refine r_iconst F_211_42 ?_
    refine r_ldI_n (m := 3) F_211_43 rfl ?_
    refine r_imul F_211_44 rfl ?_
    refine r_iadd F_211_45 rfl ?_
    refine r_virt2 (A := [vI (38 + (4 * k))]) (r := []) (n := 1) F_211_46 o_211 il_6_198 rfl rfl rfl rfl ty_77 vy_212 (lay_le n_212 rfl) ?_
    refine Cl_of n_212 rfl ?_
    show Rn _ _ _ _ [some (vR 77), some (vI (38 + (4 * k)))] [] _ _
    refine r_ldR_n (m := 0) F_212_0 rfl ?_
    refine r_getR (J := 5) F_212_1 o_212 fl_6_25 ty_77 (by decide) rfl (kd2 kd_77_5 (by decide)) (kd9 kd_77_5 (by decide)) rf_77_5 ?_
    refine r_ldI_n (m := 1) F_212_4 rfl ?_
    refine r_iald (e := (s 83 (38 + (4 * k)))) F_212_5 ty_83 (l4 e2) (lt_ln ln_83 (l5 e2)) rfl ?_
    refine r_if (t := 41) F_212_6 rfl (l6 e2) ?_ ?_
    · intro e3
      replace e3 : ¬ (s 83 (38 + (4 * k))) = 0 := e3
      refine r_ldR_n (m := 0) F_212_41 rfl ?_
      refine r_getR (J := 5) F_212_42 o_212 fl_6_25 ty_77 (by decide) rfl (kd2 kd_77_5 (by decide)) (kd9 kd_77_5 (by decide)) rf_77_5 ?_
      refine r_ldI_n (m := 1) F_212_45 rfl ?_
      refine r_iald (e := (s 83 (38 + (4 * k)))) F_212_46 ty_83 (l4 e2) (lt_ln ln_83 (l5 e2)) rfl ?_
      refine r_iconst F_212_47 ?_
      refine r_icmp (t := 95) F_212_48 rfl (l6 e2) (by decide) ?_ ?_
      · intro e4
        replace e4 : ¬ (s 83 (38 + (4 * k))) = 1 := e4
        refine r_ldR_n (m := 0) F_212_95 rfl ?_
        refine r_getR (J := 5) F_212_96 o_212 fl_6_25 ty_77 (by decide) rfl (kd2 kd_77_5 (by decide)) (kd9 kd_77_5 (by decide)) rf_77_5 ?_
        refine r_iconst F_212_99 ?_
        refine r_ldR_n (m := 0) F_212_100 rfl ?_
        refine r_getR (J := 5) F_212_101 o_212 fl_6_25 ty_77 (by decide) rfl (kd2 kd_77_5 (by decide)) (kd9 kd_77_5 (by decide)) rf_77_5 ?_
        refine r_ldI_n (m := 1) F_212_104 rfl ?_
        refine r_iconst F_212_105 ?_
        refine r_iadd F_212_106 rfl ?_
        refine r_iald (e := (s 83 ((38 + (4 * k)) + 1))) F_212_107 ty_83 (l7 e2 e3 e4) (lt_ln ln_83 (l8 e2 e3 e4)) rfl ?_
        refine r_iast F_212_108 ty_83 (by decide) (lt_ln ln_83 (by decide)) ?_
        refine r_return F_212_109 rt_212 ?_
        show Rn _ _ _ _ _ [] _ _
        refine r_iinc (m := 3) (e := (k + (-1))) (L' := [some (vR 77), some (vI n), some (vI m), some (vI (k + (-1)))]) F_211_49 rfl rfl rfl rfl ?_
        refine r_goto (t := 34) F_211_52 rfl ?_
        exact (l9 e2 e3 e4)
      · intro e5
        replace e5 : (s 83 (38 + (4 * k))) = 1 := (Classical.not_not.mp e5)
        refine r_ldR_n (m := 0) F_212_51 rfl ?_
        refine r_getR (J := 5) F_212_52 o_212 fl_6_25 ty_77 (by decide) rfl (kd2 kd_77_5 (by decide)) (kd9 kd_77_5 (by decide)) rf_77_5 ?_
        refine r_ldR_n (m := 0) F_212_55 rfl ?_
        refine r_getR (J := 5) F_212_56 o_212 fl_6_25 ty_77 (by decide) rfl (kd2 kd_77_5 (by decide)) (kd9 kd_77_5 (by decide)) rf_77_5 ?_
        refine r_ldI_n (m := 1) F_212_59 rfl ?_
        refine r_iconst F_212_60 ?_
        refine r_iadd F_212_61 rfl ?_
        refine r_iald (e := (s 83 ((38 + (4 * k)) + 1))) F_212_62 ty_83 (l10 e2 e3 e5) (lt_ln ln_83 (l11 e2 e3 e5)) rfl ?_
        refine r_ldR_n (m := 0) F_212_63 rfl ?_
        refine r_getR (J := 5) F_212_64 o_212 fl_6_25 ty_77 (by decide) rfl (kd2 kd_77_5 (by decide)) (kd9 kd_77_5 (by decide)) rf_77_5 ?_
        refine r_ldI_n (m := 1) F_212_67 rfl ?_
        refine r_iconst F_212_68 ?_
        refine r_iadd F_212_69 rfl ?_
        refine r_iald (e := (s 83 ((38 + (4 * k)) + 2))) F_212_70 ty_83 (l12 e2 e3 e5) (lt_ln ln_83 (l13 e2 e3 e5)) rfl ?_
        refine r_iast F_212_71 ty_83 (l14 e2 e3 e5) (lt_ln ln_83 (l15 e2 e3 e5)) ?_
        refine r_ldR_n (m := 0) F_212_72 rfl ?_
        refine r_getR (J := 5) F_212_73 o_212 fl_6_25 ty_77 (by decide) rfl (kd2 kd_77_5 (by decide)) (kd9 kd_77_5 (by decide)) rf_77_5 ?_
        refine r_iconst F_212_76 ?_
        refine r_dup2 F_212_77 ?_
        refine r_iald (e := ((m_upd s 83 (s 83 ((38 + (4 * k)) + 1)) (s 83 ((38 + (4 * k)) + 2))) 83 1)) F_212_78 ty_83 (by decide) (lt_ln ln_83 (by decide)) rfl ?_
        refine r_iconst F_212_79 ?_
        refine r_iadd F_212_80 rfl ?_
        refine r_iast F_212_81 ty_83 (by decide) (lt_ln ln_83 (by decide)) ?_
        refine r_ldR_n (m := 0) F_212_82 rfl ?_
        refine r_getR (J := 5) F_212_83 o_212 fl_6_25 ty_77 (by decide) rfl (kd2 kd_77_5 (by decide)) (kd9 kd_77_5 (by decide)) rf_77_5 ?_
        refine r_iconst F_212_86 ?_
        refine r_dup2 F_212_87 ?_
        refine r_iald (e := ((m_upd s 83 (s 83 ((38 + (4 * k)) + 1)) (s 83 ((38 + (4 * k)) + 2))) 83 4)) F_212_88 ty_83 (by decide) (lt_ln ln_83 (by decide)) (upd_nj (by decide)) ?_
        refine r_iconst F_212_89 ?_
        refine r_isub F_212_90 rfl ?_
        refine r_iast F_212_91 ty_83 (by decide) (lt_ln ln_83 (by decide)) ?_
        refine r_goto (t := 109) F_212_92 rfl ?_
        refine r_return F_212_109 rt_212 ?_
        show Rn _ _ _ _ _ [] _ _
        refine r_iinc (m := 3) (e := (k + (-1))) (L' := [some (vR 77), some (vI n), some (vI m), some (vI (k + (-1)))]) F_211_49 rfl rfl rfl rfl ?_
        refine r_goto (t := 34) F_211_52 rfl ?_
        exact (l16 e2 e3 e5)
    · intro e6
      replace e6 : (s 83 (38 + (4 * k))) = 0 := (Classical.not_not.mp e6)
      refine r_ldR_n (m := 0) F_212_9 rfl ?_
      refine r_getR (J := 5) F_212_10 o_212 fl_6_25 ty_77 (by decide) rfl (kd2 kd_77_5 (by decide)) (kd9 kd_77_5 (by decide)) rf_77_5 ?_
      refine r_iconst F_212_13 ?_
      refine r_ldR_n (m := 0) F_212_14 rfl ?_
      refine r_getR (J := 5) F_212_15 o_212 fl_6_25 ty_77 (by decide) rfl (kd2 kd_77_5 (by decide)) (kd9 kd_77_5 (by decide)) rf_77_5 ?_
      refine r_ldI_n (m := 1) F_212_18 rfl ?_
      refine r_iconst F_212_19 ?_
      refine r_iadd F_212_20 rfl ?_
      refine r_iald (e := (s 83 ((38 + (4 * k)) + 1))) F_212_21 ty_83 (l17 e2 e6) (lt_ln ln_83 (l18 e2 e6)) rfl ?_
      refine r_iast F_212_22 ty_83 (by decide) (lt_ln ln_83 (by decide)) ?_
      refine r_ldR_n (m := 0) F_212_23 rfl ?_
      refine r_getR (J := 5) F_212_24 o_212 fl_6_25 ty_77 (by decide) rfl (kd2 kd_77_5 (by decide)) (kd9 kd_77_5 (by decide)) rf_77_5 ?_
      refine r_bipush F_212_27 bi_6 ?_
      refine r_ldR_n (m := 0) F_212_29 rfl ?_
      refine r_getR (J := 5) F_212_30 o_212 fl_6_25 ty_77 (by decide) rfl (kd2 kd_77_5 (by decide)) (kd9 kd_77_5 (by decide)) rf_77_5 ?_
      refine r_ldI_n (m := 1) F_212_33 rfl ?_
      refine r_iconst F_212_34 ?_
      refine r_iadd F_212_35 rfl ?_
      refine r_iald (e := ((m_upd s 83 5 (s 83 ((38 + (4 * k)) + 1))) 83 ((38 + (4 * k)) + 2))) F_212_36 ty_83 (l19 e2 e6) (lt_ln ln_83 (l20 e2 e6)) rfl ?_
      refine r_iast F_212_37 ty_83 (by decide) (lt_ln ln_83 (by decide)) ?_
      refine r_goto (t := 109) F_212_38 rfl ?_
      refine r_return F_212_109 rt_212 ?_
      show Rn _ _ _ _ _ [] _ _
      refine r_iinc (m := 3) (e := (k + (-1))) (L' := [some (vR 77), some (vI n), some (vI m), some (vI (k + (-1)))]) F_211_49 rfl rfl rfl rfl ?_
      refine r_goto (t := 34) F_211_52 rfl ?_
      exact (l21 e2 e6)
theorem t_X6_lots {X : List Int32} {d : Nat} {s : m_St} {P : Option Value → m_St → Prop} {n z : Int}
    (l1 : inR n)
    (l2 : n < 1 → P (some (vI (-1))) s)
    (l3 : 1 ≤ n → 20 < n → P (some (vI (-1))) s)
    (l4 : 1 ≤ n → n ≤ 20 → inR z)
    (l5 : 1 ≤ n → n ≤ 20 → z < 1 → P (some (vI (-1))) s)
    (l6 : 1 ≤ n → n ≤ 20 → 1 ≤ z → 2147483646 < z → P (some (vI (-1))) s)
    (l7 : 1 ≤ n → n ≤ 20 → 1 ≤ z → z ≤ 2147483646 → inR (s 83 5))
    (l8 : 1 ≤ n → n ≤ 20 → 1 ≤ z → z ≤ 2147483646 → (s 83 5) ≤ 0 → P (some (vI (-4))) s)
    (l9 : 1 ≤ n → n ≤ 20 → 1 ≤ z → z ≤ 2147483646 → 0 < (s 83 5) → inR ((s 83 3) + n))
    (l10 : 1 ≤ n → n ≤ 20 → 1 ≤ z → z ≤ 2147483646 → 0 < (s 83 5) → ((s 83 3) + n) ≤ 40 → Rn X (d + 5) 246 55 [some (vR 77), some (vI n), some (vI z), some (vJ z), none, some (vI 0), none, none] [] s P)
    (l11 : 1 ≤ n → n ≤ 20 → 1 ≤ z → z ≤ 2147483646 → 0 < (s 83 5) → 40 < ((s 83 3) + n) → P (some (vI (-2))) s)
    : Cl X (d + 5) 246 [vR 77, vI n, vI z] s P := by
  refine Cl_of n_246 rfl ?_
  show Rn _ _ _ _ [some (vR 77), some (vI n), some (vI z), none, none, none, none, none] [] _ _
  refine r_ldI_n (m := 1) F_246_0 rfl ?_
  refine r_iconst F_246_1 ?_
  refine r_bipush F_246_2 bi_20 ?_
  refine r_stat2 (A := [vI n, vI 1, vI 20]) (r := []) (n := 3) F_246_4 o_246 il_6_67 (by decide) rfl rfl rfl rfl (lay_le n_160 rfl) ?_
  refine Cl_of n_160 rfl ?_
  show Rn _ _ _ _ [some (vI n), some (vI 1), some (vI 20)] [] _ _
  refine r_ldI_n (m := 0) F_160_0 rfl ?_
  refine r_ldI_n (m := 1) F_160_1 rfl ?_
  refine r_icmp (t := 14) F_160_2 rfl l1 (by decide) ?_ ?_
  · intro e1
    replace e1 : n < 1 := e1
    refine r_iconst F_160_14 ?_
    refine r_zreturn F_160_15 rt_160 (Or.inl rfl) ?_
    show Rn _ _ _ _ _ [vI 0] _ _
    refine r_ifT (t := 21) F_246_7 rfl (by decide) (by show (0 : Int) = 0; decide) ?_
    refine r_iconst F_246_21 ?_
    refine r_ireturn F_246_22 rt_246 ?_
    exact (l2 e1)
  · intro e2
    replace e2 : 1 ≤ n := (Int.not_lt.mp e2)
    refine r_ldI_n (m := 0) F_160_5 rfl ?_
    refine r_ldI_n (m := 2) F_160_6 rfl ?_
    refine r_icmp (t := 14) F_160_7 rfl l1 (by decide) ?_ ?_
    · intro e3
      replace e3 : 20 < n := e3
      refine r_iconst F_160_14 ?_
      refine r_zreturn F_160_15 rt_160 (Or.inl rfl) ?_
      show Rn _ _ _ _ _ [vI 0] _ _
      refine r_ifT (t := 21) F_246_7 rfl (by decide) (by show (0 : Int) = 0; decide) ?_
      refine r_iconst F_246_21 ?_
      refine r_ireturn F_246_22 rt_246 ?_
      exact (l3 e2 e3)
    · intro e4
      replace e4 : n ≤ 20 := (Int.not_lt.mp e4)
      refine r_iconst F_160_10 ?_
      refine r_goto (t := 15) F_160_11 rfl ?_
      refine r_zreturn F_160_15 rt_160 (Or.inr rfl) ?_
      show Rn _ _ _ _ _ [vI 1] _ _
      refine r_ifF (t := 21) F_246_7 rfl (by decide) (by show ¬ ((1 : Int) = 0); decide) ?_
      refine r_ldI_n (m := 2) F_246_10 rfl ?_
      refine r_iconst F_246_11 ?_
      refine r_ldcI F_246_12 o_246 ki_6_260 oi_2147483646 ?_
      refine r_stat2 (A := [vI z, vI 1, vI 2147483646]) (r := []) (n := 3) F_246_15 o_246 il_6_67 (by decide) rfl rfl rfl rfl (lay_le n_160 rfl) ?_
      refine Cl_of n_160 rfl ?_
      show Rn _ _ _ _ [some (vI z), some (vI 1), some (vI 2147483646)] [] _ _
      refine r_ldI_n (m := 0) F_160_0 rfl ?_
      refine r_ldI_n (m := 1) F_160_1 rfl ?_
      refine r_icmp (t := 14) F_160_2 rfl (l4 e2 e4) (by decide) ?_ ?_
      · intro e5
        replace e5 : z < 1 := e5
        refine r_iconst F_160_14 ?_
        refine r_zreturn F_160_15 rt_160 (Or.inl rfl) ?_
        show Rn _ _ _ _ _ [vI 0] _ _
        refine r_ifF (t := 23) F_246_18 rfl (by decide) (by show ¬ (¬ (0 : Int) = 0); decide) ?_
        refine r_iconst F_246_21 ?_
        refine r_ireturn F_246_22 rt_246 ?_
        exact (l5 e2 e4 e5)
      · intro e6
        replace e6 : 1 ≤ z := (Int.not_lt.mp e6)
        refine r_ldI_n (m := 0) F_160_5 rfl ?_
        refine r_ldI_n (m := 2) F_160_6 rfl ?_
        refine r_icmp (t := 14) F_160_7 rfl (l4 e2 e4) (by decide) ?_ ?_
        · intro e7
          replace e7 : 2147483646 < z := e7
          refine r_iconst F_160_14 ?_
          refine r_zreturn F_160_15 rt_160 (Or.inl rfl) ?_
          show Rn _ _ _ _ _ [vI 0] _ _
          refine r_ifF (t := 23) F_246_18 rfl (by decide) (by show ¬ (¬ (0 : Int) = 0); decide) ?_
          refine r_iconst F_246_21 ?_
          refine r_ireturn F_246_22 rt_246 ?_
          exact (l6 e2 e4 e6 e7)
        · intro e8
          replace e8 : z ≤ 2147483646 := (Int.not_lt.mp e8)
          refine r_iconst F_160_10 ?_
          refine r_goto (t := 15) F_160_11 rfl ?_
          refine r_zreturn F_160_15 rt_160 (Or.inr rfl) ?_
          show Rn _ _ _ _ _ [vI 1] _ _
          refine r_ifT (t := 23) F_246_18 rfl (by decide) (by show ¬ (1 : Int) = 0; decide) ?_
          refine r_ldR_n (m := 0) F_246_23 rfl ?_
          refine r_virt2 (A := []) (r := []) (n := 0) F_246_24 o_246 il_6_182 rfl rfl rfl rfl ty_77 vy_204 (lay_le n_204 rfl) ?_
          refine Cl_of n_204 rfl ?_
          show Rn _ _ _ _ [some (vR 77)] [] _ _
          refine r_ldR_n (m := 0) F_204_0 rfl ?_
          refine r_getR (J := 5) F_204_1 o_204 fl_6_25 ty_77 (by decide) rfl (kd2 kd_77_5 (by decide)) (kd9 kd_77_5 (by decide)) rf_77_5 ?_
          refine r_iconst F_204_4 ?_
          refine r_iald (e := (s 83 5)) F_204_5 ty_83 (by decide) (lt_ln ln_83 (by decide)) rfl ?_
          refine r_if (t := 13) F_204_6 rfl (l7 e2 e4 e6 e8) ?_ ?_
          · intro e9
            replace e9 : (s 83 5) ≤ 0 := e9
            refine r_iconst F_204_13 ?_
            refine r_zreturn F_204_14 rt_204 (Or.inl rfl) ?_
            show Rn _ _ _ _ _ [vI 0] _ _
            refine r_ifF (t := 33) F_246_27 rfl (by decide) (by show ¬ (¬ (0 : Int) = 0); decide) ?_
            refine r_bipush F_246_30 bi__4 ?_
            refine r_ireturn F_246_32 rt_246 ?_
            exact (l8 e2 e4 e6 e8 e9)
          · intro e10
            replace e10 : 0 < (s 83 5) := (Int.not_le.mp e10)
            refine r_iconst F_204_9 ?_
            refine r_goto (t := 14) F_204_10 rfl ?_
            refine r_zreturn F_204_14 rt_204 (Or.inr rfl) ?_
            show Rn _ _ _ _ _ [vI 1] _ _
            refine r_ifT (t := 33) F_246_27 rfl (by decide) (by show ¬ (1 : Int) = 0; decide) ?_
            refine r_ldR_n (m := 0) F_246_33 rfl ?_
            refine r_getR (J := 5) F_246_34 o_246 fl_6_25 ty_77 (by decide) rfl (kd2 kd_77_5 (by decide)) (kd9 kd_77_5 (by decide)) rf_77_5 ?_
            refine r_iconst F_246_37 ?_
            refine r_iald (e := (s 83 3)) F_246_38 ty_83 (by decide) (lt_ln ln_83 (by decide)) rfl ?_
            refine r_ldI_n (m := 1) F_246_39 rfl ?_
            refine r_iadd F_246_40 rfl ?_
            refine r_bipush F_246_41 bi_40 ?_
            refine r_icmp (t := 49) F_246_43 rfl (l9 e2 e4 e6 e8 e10) (by decide) ?_ ?_
            · intro e11
              replace e11 : ((s 83 3) + n) ≤ 40 := e11
              refine r_ldI_n (m := 2) F_246_49 rfl ?_
              refine r_i2l F_246_50 (l4 e2 e4) ?_
              refine r_stJ_n (m := 3) (L' := [some (vR 77), some (vI n), some (vI z), some (vJ z), none, none, none, none]) F_246_51 rfl rfl ?_
              refine r_iconst F_246_52 ?_
              refine r_stI (m := 5) (L' := [some (vR 77), some (vI n), some (vI z), some (vJ z), none, some (vI 0), none, none]) F_246_53 rfl rfl ?_
              exact (l10 e2 e4 e6 e8 e10 e11)
            · intro e12
              replace e12 : 40 < ((s 83 3) + n) := (Int.not_le.mp e12)
              refine r_bipush F_246_46 bi__2 ?_
              refine r_ireturn F_246_48 rt_246 ?_
              exact (l11 e2 e4 e6 e8 e10 e12)
theorem t_X6_lots_55 {X : List Int32} {d : Nat} {s : m_St} {P : Option Value → m_St → Prop} {n z u k : Int} {z6 z7 : Option Value} (k0 : 0 ≤ k) (u0 : 0 ≤ u)
    (l1 : inR k)
    (l2 : inR n)
    (l3 : n ≤ k → uok s)
    (l4 : n ≤ k → P (some (vI (iAnd (hld (s 83) (s 83 (5 + 0) - 1)) (hld (s 83) (s 83 (5 + 1) - 1))))) s)
    (l5 : k < n → 0 ≤ (u * 48271))
    (l6 : k < n → inJ (u * 48271))
    (l7 : k < n → 0 ≤ ((u * 48271) % 2147483647))
    (l8 : k < n → inJ ((u * 48271) % 2147483647))
    (l9 : k < n → 0 ≤ (((u * 48271) % 2147483647) / 8))
    (l10 : k < n → inJ (((u * 48271) % 2147483647) / 8))
    (l11 : k < n → uok s)
    (l12 : k < n → 0 ≤ ((((u * 48271) % 2147483647) / 8) % 8))
    (l13 : k < n → ((((u * 48271) % 2147483647) / 8) % 8) < 8)
    (l14 : k < n → (cbM (s 83) ((((u * 48271) % 2147483647) / 8) % 8)) = 0 → 0 ≤ s 83 3)
    (l15 : k < n → (cbM (s 83) ((((u * 48271) % 2147483647) / 8) % 8)) = 0 → s 83 3 < 40)
    (l16 : k < n → (cbM (s 83) ((((u * 48271) % 2147483647) / 8) % 8)) = 0 → Rn X (d + 5) 246 55 [some (vR 77), some (vI n), some (vI z), some (vJ ((u * 48271) % 2147483647)), none, some (vI (k + 1)), some (vI ((((u * 48271) % 2147483647) / 8) % 8)), some (vI (s 83 1))] [] (mdo s 8) P)
    (l17 : k < n → ¬ (cbM (s 83) ((((u * 48271) % 2147483647) / 8) % 8)) = 0 → inR (s 83 1))
    (l18 : k < n → ¬ (cbM (s 83) ((((u * 48271) % 2147483647) / 8) % 8)) = 0 → (s 83 1) ≤ 0 → 0 ≤ s 83 3)
    (l19 : k < n → ¬ (cbM (s 83) ((((u * 48271) % 2147483647) / 8) % 8)) = 0 → (s 83 1) ≤ 0 → s 83 3 < 40)
    (l20 : k < n → ¬ (cbM (s 83) ((((u * 48271) % 2147483647) / 8) % 8)) = 0 → (s 83 1) ≤ 0 → Rn X (d + 5) 246 55 [some (vR 77), some (vI n), some (vI z), some (vJ ((u * 48271) % 2147483647)), none, some (vI (k + 1)), some (vI ((((u * 48271) % 2147483647) / 8) % 8)), some (vI (s 83 1))] [] (mdo s 8) P)
    (l21 : k < n → ¬ (cbM (s 83) ((((u * 48271) % 2147483647) / 8) % 8)) = 0 → 0 < (s 83 1) → 0 ≤ s 83 3)
    (l22 : k < n → ¬ (cbM (s 83) ((((u * 48271) % 2147483647) / 8) % 8)) = 0 → 0 < (s 83 1) → s 83 3 < 40)
    (l23 : k < n → ¬ (cbM (s 83) ((((u * 48271) % 2147483647) / 8) % 8)) = 0 → 0 < (s 83 1) → Rn X (d + 5) 246 55 [some (vR 77), some (vI n), some (vI z), some (vJ ((u * 48271) % 2147483647)), none, some (vI (k + 1)), some (vI ((((u * 48271) % 2147483647) / 8) % 8)), some (vI (stp (s 38 5) (s 83) ((((u * 48271) % 2147483647) / 8) % 8) (9 + 5 * hrr (s 83) ((((u * 48271) % 2147483647) / 8) % 8) + ((((u * 48271) % 2147483647) / 8) % 8) % 4)))] [] (mdo s ((((u * 48271) % 2147483647) / 8) % 8)) P)
    : Rn X (d + 5) 246 55 [some (vR 77), some (vI n), some (vI z), some (vJ u), none, some (vI k), z6, z7] [] s P := by
  refine r_ldI (m := 5) F_246_55 rfl ?_
  refine r_ldI_n (m := 1) F_246_57 rfl ?_
  refine r_icmp (t := 122) F_246_58 rfl l1 l2 ?_ ?_
  · intro e1
    replace e1 : n ≤ k := e1
    refine r_ldR_n (m := 0) F_246_122 rfl ?_
    refine r_virt2 (A := []) (r := []) (n := 0) F_246_123 o_246 il_6_175 rfl rfl rfl rfl ty_77 vy_201 (lay_le n_201 rfl) ?_
    refine Cl_of n_201 rfl ?_
    show Rn _ _ _ _ [some (vR 77)] [] _ _
    refine r_ldR_n (m := 0) F_201_0 rfl ?_
    refine r_iconst F_201_1 ?_
    refine r_virt2 (A := [vI 0]) (r := []) (n := 1) F_201_2 o_201 il_6_168 rfl rfl rfl rfl ty_77 vy_202 (lay_le n_202 rfl) ?_
    refine sp_upHolds (l3 e1) (by decide) (by decide) ?_
    show Rn _ _ _ _ _ [vI (hld (s 83) (s 83 (5 + 0) - 1))] _ _
    refine r_ldR_n (m := 0) F_201_5 rfl ?_
    refine r_iconst F_201_6 ?_
    refine r_virt2 (A := [vI 1]) (r := [vI (hld (s 83) (s 83 (5 + 0) - 1))]) (n := 1) F_201_7 o_201 il_6_168 rfl rfl rfl rfl ty_77 vy_202 (lay_le n_202 rfl) ?_
    refine sp_upHolds (l3 e1) (by decide) (by decide) ?_
    show Rn _ _ _ _ _ [vI (hld (s 83) (s 83 (5 + 1) - 1)), vI (hld (s 83) (s 83 (5 + 0) - 1))] _ _
    refine r_iand F_201_10 rfl ?_
    refine r_ireturn F_201_11 rt_201 ?_
    show Rn _ _ _ _ _ [vI (iAnd (hld (s 83) (s 83 (5 + 0) - 1)) (hld (s 83) (s 83 (5 + 1) - 1)))] _ _
    refine r_ireturn F_246_126 rt_246 ?_
    exact (l4 e1)
  · intro e2
    replace e2 : k < n := (Int.not_le.mp e2)
    refine r_ldJ_n (m := 3) F_246_61 rfl ?_
    refine r_ldcJ F_246_62 o_246 kj_6_261 oj_48271 ?_
    refine r_lmul F_246_65 rfl ?_
    refine r_ldcJ F_246_66 o_246 kj_6_263 oj_2147483647 ?_
    refine r_lrem F_246_69 (l6 e2) (l5 e2) (by decide) (by decide) ?_
    refine r_stJ_n (m := 3) (L' := [some (vR 77), some (vI n), some (vI z), some (vJ ((u * 48271) % 2147483647)), none, some (vI k), z6, z7]) F_246_70 rfl rfl ?_
    refine r_ldJ_n (m := 3) F_246_71 rfl ?_
    refine r_ldcJ F_246_72 o_246 kj_6_265 oj_8 ?_
    refine r_ldiv F_246_75 (l8 e2) (l7 e2) (by decide) (by decide) ?_
    refine r_ldcJ F_246_76 o_246 kj_6_265 oj_8 ?_
    refine r_lrem F_246_79 (l10 e2) (l9 e2) (by decide) (by decide) ?_
    refine r_l2i F_246_80 ?_
    refine r_stI (m := 6) (L' := [some (vR 77), some (vI n), some (vI z), some (vJ ((u * 48271) % 2147483647)), none, some (vI k), some (vI ((((u * 48271) % 2147483647) / 8) % 8)), z7]) F_246_81 rfl rfl ?_
    refine r_ldR_n (m := 0) F_246_83 rfl ?_
    refine r_ldI (m := 6) F_246_84 rfl ?_
    refine r_virt2 (A := [vI ((((u * 48271) % 2147483647) / 8) % 8)]) (r := []) (n := 1) F_246_86 o_246 il_6_186 rfl rfl rfl rfl ty_77 vy_205 (lay_le n_205 rfl) ?_
    refine sp_canBe (l11 e2) (l12 e2) (l13 e2) ?_
    show Rn _ _ _ _ _ [vI (cbM (s 83) ((((u * 48271) % 2147483647) / 8) % 8))] _ _
    refine r_if (t := 110) F_246_89 rfl (inR_cbM _ _) ?_ ?_
    · intro e3
      replace e3 : (cbM (s 83) ((((u * 48271) % 2147483647) / 8) % 8)) = 0 := e3
      refine r_ldR_n (m := 0) F_246_110 rfl ?_
      refine r_virt2 (A := []) (r := []) (n := 0) F_246_111 o_246 il_6_195 rfl rfl rfl rfl ty_77 vy_210 (lay_le n_210 rfl) ?_
      refine sp_brings (l14 e2 e3) (l15 e2 e3) ?_
      show Rn _ _ _ _ _ [vI (s 83 1)] _ _
      refine r_stI (m := 7) (L' := [some (vR 77), some (vI n), some (vI z), some (vJ ((u * 48271) % 2147483647)), none, some (vI k), some (vI ((((u * 48271) % 2147483647) / 8) % 8)), some (vI (s 83 1))]) F_246_114 rfl rfl ?_
      refine r_iinc (m := 5) (e := (k + 1)) (L' := [some (vR 77), some (vI n), some (vI z), some (vJ ((u * 48271) % 2147483647)), none, some (vI (k + 1)), some (vI ((((u * 48271) % 2147483647) / 8) % 8)), some (vI (s 83 1))]) F_246_116 rfl rfl rfl rfl ?_
      refine r_goto (t := 55) F_246_119 rfl ?_
      exact (l16 e2 e3)
    · intro e4
      replace e4 : ¬ (cbM (s 83) ((((u * 48271) % 2147483647) / 8) % 8)) = 0 := e4
      refine r_ldR_n (m := 0) F_246_92 rfl ?_
      refine r_getR (J := 5) F_246_93 o_246 fl_6_25 ty_77 (by decide) rfl (kd2 kd_77_5 (by decide)) (kd9 kd_77_5 (by decide)) rf_77_5 ?_
      refine r_iconst F_246_96 ?_
      refine r_iald (e := (s 83 1)) F_246_97 ty_83 (by decide) (lt_ln ln_83 (by decide)) rfl ?_
      refine r_if (t := 110) F_246_98 rfl (l17 e2 e4) ?_ ?_
      · intro e5
        replace e5 : (s 83 1) ≤ 0 := e5
        refine r_ldR_n (m := 0) F_246_110 rfl ?_
        refine r_virt2 (A := []) (r := []) (n := 0) F_246_111 o_246 il_6_195 rfl rfl rfl rfl ty_77 vy_210 (lay_le n_210 rfl) ?_
        refine sp_brings (l18 e2 e4 e5) (l19 e2 e4 e5) ?_
        show Rn _ _ _ _ _ [vI (s 83 1)] _ _
        refine r_stI (m := 7) (L' := [some (vR 77), some (vI n), some (vI z), some (vJ ((u * 48271) % 2147483647)), none, some (vI k), some (vI ((((u * 48271) % 2147483647) / 8) % 8)), some (vI (s 83 1))]) F_246_114 rfl rfl ?_
        refine r_iinc (m := 5) (e := (k + 1)) (L' := [some (vR 77), some (vI n), some (vI z), some (vJ ((u * 48271) % 2147483647)), none, some (vI (k + 1)), some (vI ((((u * 48271) % 2147483647) / 8) % 8)), some (vI (s 83 1))]) F_246_116 rfl rfl rfl rfl ?_
        refine r_goto (t := 55) F_246_119 rfl ?_
        exact (l20 e2 e4 e5)
      · intro e6
        replace e6 : 0 < (s 83 1) := (Int.not_le.mp e6)
        refine r_ldR_n (m := 0) F_246_101 rfl ?_
        refine r_ldI (m := 6) F_246_102 rfl ?_
        refine r_virt2 (A := [vI ((((u * 48271) % 2147483647) / 8) % 8)]) (r := []) (n := 1) F_246_104 o_246 il_6_189 rfl rfl rfl rfl ty_77 vy_206 (lay_le n_206 rfl) ?_
        refine sp_says (l11 e2) (l21 e2 e4 e6) (l22 e2 e4 e6) (l12 e2) (l13 e2) ?_
        show Rn _ _ _ _ _ [vI (stp (s 38 5) (s 83) ((((u * 48271) % 2147483647) / 8) % 8) (9 + 5 * hrr (s 83) ((((u * 48271) % 2147483647) / 8) % 8) + ((((u * 48271) % 2147483647) / 8) % 8) % 4))] _ _
        refine r_goto (t := 114) F_246_107 rfl ?_
        refine r_stI (m := 7) (L' := [some (vR 77), some (vI n), some (vI z), some (vJ ((u * 48271) % 2147483647)), none, some (vI k), some (vI ((((u * 48271) % 2147483647) / 8) % 8)), some (vI (stp (s 38 5) (s 83) ((((u * 48271) % 2147483647) / 8) % 8) (9 + 5 * hrr (s 83) ((((u * 48271) % 2147483647) / 8) % 8) + ((((u * 48271) % 2147483647) / 8) % 8) % 4)))]) F_246_114 rfl rfl ?_
        refine r_iinc (m := 5) (e := (k + 1)) (L' := [some (vR 77), some (vI n), some (vI z), some (vJ ((u * 48271) % 2147483647)), none, some (vI (k + 1)), some (vI ((((u * 48271) % 2147483647) / 8) % 8)), some (vI (stp (s 38 5) (s 83) ((((u * 48271) % 2147483647) / 8) % 8) (9 + 5 * hrr (s 83) ((((u * 48271) % 2147483647) / 8) % 8) + ((((u * 48271) % 2147483647) / 8) % 8) % 4)))]) F_246_116 rfl rfl rfl rfl ?_
        refine r_goto (t := 55) F_246_119 rfl ?_
        exact (l23 e2 e4 e6)
