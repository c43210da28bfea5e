/-! walks: the calls of the class, deeds -/
theorem n_79 : m_n 79 = 3 := by decide +kernel
theorem F_79_0 : F 79 0 (.aload_n 0) 1 := ⟨1, by decide +kernel, rfl, rfl⟩
theorem F_79_1 : F 79 1 (.getfield 34) 4 := ⟨3, by decide +kernel, rfl, rfl⟩
theorem o_79 : m_o 79 = 5 := by decide +kernel
theorem F_79_4 : F 79 4 (.iload_n 1) 5 := ⟨1, by decide +kernel, rfl, rfl⟩
theorem F_79_5 : F 79 5 (.invokevirtual 136) 8 := ⟨3, by decide +kernel, rfl, rfl⟩
theorem F_79_8 : F 79 8 (.ifCond .eq 19) 11 := ⟨3, by decide +kernel, rfl, rfl⟩
theorem F_79_27 : F 79 27 (.iconst (-1)) 28 := ⟨1, by decide +kernel, rfl, rfl⟩
theorem F_79_28 : F 79 28 (.ireturn) 29 := ⟨1, by decide +kernel, rfl, rfl⟩
theorem rt_79 : m_r 79 = (some .int) := by decide +kernel
theorem F_79_11 : F 79 11 (.aload_n 0) 12 := ⟨1, by decide +kernel, rfl, rfl⟩
theorem F_79_12 : F 79 12 (.getfield 34) 15 := ⟨3, by decide +kernel, rfl, rfl⟩
theorem F_79_15 : F 79 15 (.iload_n 2) 16 := ⟨1, by decide +kernel, rfl, rfl⟩
theorem F_79_16 : F 79 16 (.invokevirtual 136) 19 := ⟨3, by decide +kernel, rfl, rfl⟩
theorem F_79_19 : F 79 19 (.ifCond .eq 8) 22 := ⟨3, by decide +kernel, rfl, rfl⟩
theorem F_79_22 : F 79 22 (.iload_n 1) 23 := ⟨1, by decide +kernel, rfl, rfl⟩
theorem F_79_23 : F 79 23 (.iload_n 2) 24 := ⟨1, by decide +kernel, rfl, rfl⟩
theorem F_79_24 : F 79 24 (.if_icmp .ne 5) 27 := ⟨3, by decide +kernel, rfl, rfl⟩
theorem F_79_29 : F 79 29 (.aload_n 0) 30 := ⟨1, by decide +kernel, rfl, rfl⟩
theorem F_79_30 : F 79 30 (.getfield 34) 33 := ⟨3, by decide +kernel, rfl, rfl⟩
theorem F_79_33 : F 79 33 (.iload_n 1) 34 := ⟨1, by decide +kernel, rfl, rfl⟩
theorem F_79_34 : F 79 34 (.iload_n 2) 35 := ⟨1, by decide +kernel, rfl, rfl⟩
theorem F_79_35 : F 79 35 (.invokevirtual 181) 38 := ⟨3, by decide +kernel, rfl, rfl⟩
theorem il_5_181 : ilq 5 181 0 80 2 = true := by decide +kernel
theorem vy_80 : (m_cls 1).1 = (m_y 80).cls ∧ 1 < m_cl.length := by decide +kernel
theorem n_80 : m_n 80 = 3 := by decide +kernel
theorem F_80_0 : F 80 0 (.aload_n 0) 1 := ⟨1, by decide +kernel, rfl, rfl⟩
theorem F_80_1 : F 80 1 (.getfield 37) 4 := ⟨3, by decide +kernel, rfl, rfl⟩
theorem o_80 : m_o 80 = 1 := by decide +kernel
theorem F_80_4 : F 80 4 (.iload_n 1) 5 := ⟨1, by decide +kernel, rfl, rfl⟩
theorem F_80_5 : F 80 5 (.if_icmp .ne 15) 8 := ⟨3, by decide +kernel, rfl, rfl⟩
theorem F_80_20 : F 80 20 (.iconst 0) 21 := ⟨1, by decide +kernel, rfl, rfl⟩
theorem F_80_21 : F 80 21 (.ireturn) 22 := ⟨1, by decide +kernel, rfl, rfl⟩
theorem rt_80 : m_r 80 = (some .boolean) := by decide +kernel
theorem F_79_38 : F 79 38 (.ifCond .eq 6) 41 := ⟨3, by decide +kernel, rfl, rfl⟩
theorem F_79_44 : F 79 44 (.aload_n 0) 45 := ⟨1, by decide +kernel, rfl, rfl⟩
theorem F_79_45 : F 79 45 (.getfield 34) 48 := ⟨3, by decide +kernel, rfl, rfl⟩
theorem F_79_48 : F 79 48 (.iconst 1) 49 := ⟨1, by decide +kernel, rfl, rfl⟩
theorem F_79_49 : F 79 49 (.invokevirtual 185) 52 := ⟨3, by decide +kernel, rfl, rfl⟩
theorem il_5_185 : ilq 5 185 0 81 1 = true := by decide +kernel
theorem vy_81 : (m_cls 1).1 = (m_y 81).cls ∧ 1 < m_cl.length := by decide +kernel
theorem n_81 : m_n 81 = 2 := by decide +kernel
theorem F_81_0 : F 81 0 (.aload_n 0) 1 := ⟨1, by decide +kernel, rfl, rfl⟩
theorem F_81_1 : F 81 1 (.getfield 43) 4 := ⟨3, by decide +kernel, rfl, rfl⟩
theorem o_81 : m_o 81 = 1 := by decide +kernel
theorem F_81_4 : F 81 4 (.iload_n 1) 5 := ⟨1, by decide +kernel, rfl, rfl⟩
theorem F_81_5 : F 81 5 (.iadd) 6 := ⟨1, by decide +kernel, rfl, rfl⟩
theorem F_81_6 : F 81 6 (.bipush 40) 8 := ⟨2, by decide +kernel, rfl, rfl⟩
theorem F_81_8 : F 81 8 (.if_icmp .gt 7) 11 := ⟨3, by decide +kernel, rfl, rfl⟩
theorem F_81_15 : F 81 15 (.iconst 0) 16 := ⟨1, by decide +kernel, rfl, rfl⟩
theorem F_81_16 : F 81 16 (.ireturn) 17 := ⟨1, by decide +kernel, rfl, rfl⟩
theorem rt_81 : m_r 81 = (some .boolean) := by decide +kernel
theorem F_79_52 : F 79 52 (.ifCond .ne 6) 55 := ⟨3, by decide +kernel, rfl, rfl⟩
theorem F_79_55 : F 79 55 (.bipush (-2)) 57 := ⟨2, by decide +kernel, rfl, rfl⟩
theorem bi__2 : (Int8.ofInt (-2)).toInt32 = Int32.ofInt (-2) := by decide +kernel
theorem F_79_57 : F 79 57 (.ireturn) 58 := ⟨1, by decide +kernel, rfl, rfl⟩
theorem F_81_11 : F 81 11 (.iconst 1) 12 := ⟨1, by decide +kernel, rfl, rfl⟩
theorem F_81_12 : F 81 12 (.goto 4) 15 := ⟨3, by decide +kernel, rfl, rfl⟩
theorem F_79_58 : F 79 58 (.aload_n 0) 59 := ⟨1, by decide +kernel, rfl, rfl⟩
theorem F_79_59 : F 79 59 (.getfield 34) 62 := ⟨3, by decide +kernel, rfl, rfl⟩
theorem F_79_62 : F 79 62 (.bipush 9) 64 := ⟨2, by decide +kernel, rfl, rfl⟩
theorem F_79_64 : F 79 64 (.bipush 6) 66 := ⟨2, by decide +kernel, rfl, rfl⟩
theorem F_79_66 : F 79 66 (.iload_n 1) 67 := ⟨1, by decide +kernel, rfl, rfl⟩
theorem F_79_67 : F 79 67 (.imul) 68 := ⟨1, by decide +kernel, rfl, rfl⟩
theorem F_79_68 : F 79 68 (.iadd) 69 := ⟨1, by decide +kernel, rfl, rfl⟩
theorem F_79_69 : F 79 69 (.iload_n 2) 70 := ⟨1, by decide +kernel, rfl, rfl⟩
theorem F_79_70 : F 79 70 (.iadd) 71 := ⟨1, by decide +kernel, rfl, rfl⟩
theorem F_79_71 : F 79 71 (.invokevirtual 188) 74 := ⟨3, by decide +kernel, rfl, rfl⟩
theorem il_5_188 : ilq 5 188 0 82 1 = true := by decide +kernel
theorem vy_82 : (m_cls 1).1 = (m_y 82).cls ∧ 1 < m_cl.length := by decide +kernel
theorem F_79_74 : F 79 74 (.aload_n 0) 75 := ⟨1, by decide +kernel, rfl, rfl⟩
theorem F_79_75 : F 79 75 (.getfield 34) 78 := ⟨3, by decide +kernel, rfl, rfl⟩
theorem F_79_78 : F 79 78 (.invokevirtual 191) 81 := ⟨3, by decide +kernel, rfl, rfl⟩
theorem il_5_191 : ilq 5 191 0 83 0 = true := by decide +kernel
theorem vy_83 : (m_cls 1).1 = (m_y 83).cls ∧ 1 < m_cl.length := by decide +kernel
theorem F_79_81 : F 79 81 (.ireturn) 82 := ⟨1, by decide +kernel, rfl, rfl⟩
theorem F_80_8 : F 80 8 (.aload_n 0) 9 := ⟨1, by decide +kernel, rfl, rfl⟩
theorem F_80_9 : F 80 9 (.getfield 40) 12 := ⟨3, by decide +kernel, rfl, rfl⟩
theorem F_80_12 : F 80 12 (.iload_n 2) 13 := ⟨1, by decide +kernel, rfl, rfl⟩
theorem F_80_13 : F 80 13 (.if_icmp .ne 7) 16 := ⟨3, by decide +kernel, rfl, rfl⟩
theorem F_80_16 : F 80 16 (.iconst 1) 17 := ⟨1, by decide +kernel, rfl, rfl⟩
theorem F_80_17 : F 80 17 (.goto 4) 20 := ⟨3, by decide +kernel, rfl, rfl⟩
theorem F_79_41 : F 79 41 (.bipush (-4)) 43 := ⟨2, by decide +kernel, rfl, rfl⟩
theorem F_79_43 : F 79 43 (.ireturn) 44 := ⟨1, by decide +kernel, rfl, rfl⟩
theorem n_85 : m_n 85 = 2 := by decide +kernel
theorem F_85_0 : F 85 0 (.iload_n 1) 1 := ⟨1, by decide +kernel, rfl, rfl⟩
theorem F_85_1 : F 85 1 (.invokestatic 194) 4 := ⟨3, by decide +kernel, rfl, rfl⟩
theorem o_85 : m_o 85 = 5 := by decide +kernel
theorem il_5_194 : ilq 5 194 1 86 1 = true := by decide +kernel
theorem n_86 : m_n 86 = 1 := by decide +kernel
theorem F_86_0 : F 86 0 (.iload_n 0) 1 := ⟨1, by decide +kernel, rfl, rfl⟩
theorem F_86_1 : F 86 1 (.ifCond .lt 13) 4 := ⟨3, by decide +kernel, rfl, rfl⟩
theorem F_86_14 : F 86 14 (.iconst 0) 15 := ⟨1, by decide +kernel, rfl, rfl⟩
theorem F_86_15 : F 86 15 (.ireturn) 16 := ⟨1, by decide +kernel, rfl, rfl⟩
theorem rt_86 : m_r 86 = (some .boolean) := by decide +kernel
theorem F_85_4 : F 85 4 (.ifCond .ne 5) 7 := ⟨3, by decide +kernel, rfl, rfl⟩
theorem F_85_7 : F 85 7 (.iconst (-1)) 8 := ⟨1, by decide +kernel, rfl, rfl⟩
theorem F_85_8 : F 85 8 (.ireturn) 9 := ⟨1, by decide +kernel, rfl, rfl⟩
theorem rt_85 : m_r 85 = (some .int) := by decide +kernel
theorem F_86_4 : F 86 4 (.iload_n 0) 5 := ⟨1, by decide +kernel, rfl, rfl⟩
theorem F_86_5 : F 86 5 (.bipush 8) 7 := ⟨2, by decide +kernel, rfl, rfl⟩
theorem F_86_7 : F 86 7 (.if_icmp .ge 7) 10 := ⟨3, by decide +kernel, rfl, rfl⟩
theorem F_86_10 : F 86 10 (.iconst 1) 11 := ⟨1, by decide +kernel, rfl, rfl⟩
theorem F_86_11 : F 86 11 (.goto 4) 14 := ⟨3, by decide +kernel, rfl, rfl⟩
theorem F_85_9 : F 85 9 (.aload_n 0) 10 := ⟨1, by decide +kernel, rfl, rfl⟩
theorem F_85_10 : F 85 10 (.getfield 34) 13 := ⟨3, by decide +kernel, rfl, rfl⟩
theorem F_85_13 : F 85 13 (.iload_n 1) 14 := ⟨1, by decide +kernel, rfl, rfl⟩
theorem F_85_14 : F 85 14 (.invokevirtual 197) 17 := ⟨3, by decide +kernel, rfl, rfl⟩
theorem il_5_197 : ilq 5 197 0 87 1 = true := by decide +kernel
theorem vy_87 : (m_cls 1).1 = (m_y 87).cls ∧ 1 < m_cl.length := by decide +kernel
theorem F_85_17 : F 85 17 (.ifCond .ne 6) 20 := ⟨3, by decide +kernel, rfl, rfl⟩
theorem F_85_23 : F 85 23 (.aload_n 0) 24 := ⟨1, by decide +kernel, rfl, rfl⟩
theorem F_85_24 : F 85 24 (.getfield 34) 27 := ⟨3, by decide +kernel, rfl, rfl⟩
theorem F_85_27 : F 85 27 (.invokevirtual 200) 30 := ⟨3, by decide +kernel, rfl, rfl⟩
theorem il_5_200 : ilq 5 200 0 88 0 = true := by decide +kernel
theorem vy_88 : (m_cls 1).1 = (m_y 88).cls ∧ 1 < m_cl.length := by decide +kernel
theorem n_88 : m_n 88 = 1 := by decide +kernel
theorem F_88_0 : F 88 0 (.aload_n 0) 1 := ⟨1, by decide +kernel, rfl, rfl⟩
theorem F_88_1 : F 88 1 (.getfield 34) 4 := ⟨3, by decide +kernel, rfl, rfl⟩
theorem o_88 : m_o 88 = 1 := by decide +kernel
theorem F_88_4 : F 88 4 (.ireturn) 5 := ⟨1, by decide +kernel, rfl, rfl⟩
theorem rt_88 : m_r 88 = (some .int) := by decide +kernel
theorem F_85_30 : F 85 30 (.ifCond .gt 6) 33 := ⟨3, by decide +kernel, rfl, rfl⟩
theorem F_85_36 : F 85 36 (.aload_n 0) 37 := ⟨1, by decide +kernel, rfl, rfl⟩
theorem F_85_37 : F 85 37 (.getfield 34) 40 := ⟨3, by decide +kernel, rfl, rfl⟩
theorem F_85_40 : F 85 40 (.iconst 1) 41 := ⟨1, by decide +kernel, rfl, rfl⟩
theorem F_85_41 : F 85 41 (.invokevirtual 185) 44 := ⟨3, by decide +kernel, rfl, rfl⟩
theorem F_85_44 : F 85 44 (.ifCond .ne 6) 47 := ⟨3, by decide +kernel, rfl, rfl⟩
theorem F_85_47 : F 85 47 (.bipush (-2)) 49 := ⟨2, by decide +kernel, rfl, rfl⟩
theorem F_85_49 : F 85 49 (.ireturn) 50 := ⟨1, by decide +kernel, rfl, rfl⟩
theorem F_85_50 : F 85 50 (.aload_n 0) 51 := ⟨1, by decide +kernel, rfl, rfl⟩
theorem F_85_51 : F 85 51 (.getfield 34) 54 := ⟨3, by decide +kernel, rfl, rfl⟩
theorem F_85_54 : F 85 54 (.iload_n 1) 55 := ⟨1, by decide +kernel, rfl, rfl⟩
theorem F_85_55 : F 85 55 (.invokevirtual 188) 58 := ⟨3, by decide +kernel, rfl, rfl⟩
theorem F_85_58 : F 85 58 (.aload_n 0) 59 := ⟨1, by decide +kernel, rfl, rfl⟩
theorem F_85_59 : F 85 59 (.getfield 34) 62 := ⟨3, by decide +kernel, rfl, rfl⟩
theorem F_85_62 : F 85 62 (.iload_n 1) 63 := ⟨1, by decide +kernel, rfl, rfl⟩
theorem F_85_63 : F 85 63 (.invokevirtual 203) 66 := ⟨3, by decide +kernel, rfl, rfl⟩
theorem il_5_203 : ilq 5 203 0 57 1 = true := by decide +kernel
theorem F_85_66 : F 85 66 (.iload_n 1) 67 := ⟨1, by decide +kernel, rfl, rfl⟩
theorem F_85_67 : F 85 67 (.iconst 4) 68 := ⟨1, by decide +kernel, rfl, rfl⟩
theorem F_85_68 : F 85 68 (.irem) 69 := ⟨1, by decide +kernel, rfl, rfl⟩
theorem F_85_69 : F 85 69 (.invokevirtual 206) 72 := ⟨3, by decide +kernel, rfl, rfl⟩
theorem il_5_206 : ilq 5 206 0 54 1 = true := by decide +kernel
theorem F_85_72 : F 85 72 (.ireturn) 73 := ⟨1, by decide +kernel, rfl, rfl⟩
theorem F_85_33 : F 85 33 (.bipush (-6)) 35 := ⟨2, by decide +kernel, rfl, rfl⟩
theorem bi__6 : (Int8.ofInt (-6)).toInt32 = Int32.ofInt (-6) := by decide +kernel
theorem F_85_35 : F 85 35 (.ireturn) 36 := ⟨1, by decide +kernel, rfl, rfl⟩
theorem F_85_20 : F 85 20 (.bipush (-4)) 22 := ⟨2, by decide +kernel, rfl, rfl⟩
theorem F_85_22 : F 85 22 (.ireturn) 23 := ⟨1, by decide +kernel, rfl, rfl⟩
theorem n_89 : m_n 89 = 2 := by decide +kernel
theorem F_89_0 : F 89 0 (.aload_n 0) 1 := ⟨1, by decide +kernel, rfl, rfl⟩
theorem F_89_1 : F 89 1 (.getfield 34) 4 := ⟨3, by decide +kernel, rfl, rfl⟩
theorem o_89 : m_o 89 = 5 := by decide +kernel
theorem F_89_4 : F 89 4 (.invokevirtual 132) 7 := ⟨3, by decide +kernel, rfl, rfl⟩
theorem F_89_7 : F 89 7 (.ifCond .eq 20) 10 := ⟨3, by decide +kernel, rfl, rfl⟩
theorem F_89_27 : F 89 27 (.bipush (-4)) 29 := ⟨2, by decide +kernel, rfl, rfl⟩
theorem F_89_29 : F 89 29 (.ireturn) 30 := ⟨1, by decide +kernel, rfl, rfl⟩
theorem rt_89 : m_r 89 = (some .int) := by decide +kernel
theorem F_89_10 : F 89 10 (.aload_n 0) 11 := ⟨1, by decide +kernel, rfl, rfl⟩
theorem F_89_11 : F 89 11 (.getfield 34) 14 := ⟨3, by decide +kernel, rfl, rfl⟩
theorem F_89_14 : F 89 14 (.invokevirtual 200) 17 := ⟨3, by decide +kernel, rfl, rfl⟩
theorem F_89_17 : F 89 17 (.aload_n 0) 18 := ⟨1, by decide +kernel, rfl, rfl⟩
theorem F_89_18 : F 89 18 (.getfield 34) 21 := ⟨3, by decide +kernel, rfl, rfl⟩
theorem F_89_21 : F 89 21 (.invokevirtual 209) 24 := ⟨3, by decide +kernel, rfl, rfl⟩
theorem il_5_209 : ilq 5 209 0 90 0 = true := by decide +kernel
theorem vy_90 : (m_cls 1).1 = (m_y 90).cls ∧ 1 < m_cl.length := by decide +kernel
theorem n_90 : m_n 90 = 1 := by decide +kernel
theorem F_90_0 : F 90 0 (.aload_n 0) 1 := ⟨1, by decide +kernel, rfl, rfl⟩
theorem F_90_1 : F 90 1 (.getfield 28) 4 := ⟨3, by decide +kernel, rfl, rfl⟩
theorem o_90 : m_o 90 = 1 := by decide +kernel
theorem F_90_4 : F 90 4 (.ireturn) 5 := ⟨1, by decide +kernel, rfl, rfl⟩
theorem rt_90 : m_r 90 = (some .int) := by decide +kernel
theorem F_89_24 : F 89 24 (.if_icmp .ne 6) 27 := ⟨3, by decide +kernel, rfl, rfl⟩
theorem F_89_30 : F 89 30 (.aload_n 0) 31 := ⟨1, by decide +kernel, rfl, rfl⟩
theorem F_89_31 : F 89 31 (.getfield 34) 34 := ⟨3, by decide +kernel, rfl, rfl⟩
theorem F_89_34 : F 89 34 (.iconst 1) 35 := ⟨1, by decide +kernel, rfl, rfl⟩
theorem F_89_35 : F 89 35 (.invokevirtual 185) 38 := ⟨3, by decide +kernel, rfl, rfl⟩
theorem F_89_38 : F 89 38 (.ifCond .ne 6) 41 := ⟨3, by decide +kernel, rfl, rfl⟩
theorem F_89_41 : F 89 41 (.bipush (-2)) 43 := ⟨2, by decide +kernel, rfl, rfl⟩
theorem F_89_43 : F 89 43 (.ireturn) 44 := ⟨1, by decide +kernel, rfl, rfl⟩
theorem F_89_44 : F 89 44 (.aload_n 0) 45 := ⟨1, by decide +kernel, rfl, rfl⟩
theorem F_89_45 : F 89 45 (.getfield 34) 48 := ⟨3, by decide +kernel, rfl, rfl⟩
theorem F_89_48 : F 89 48 (.invokevirtual 200) 51 := ⟨3, by decide +kernel, rfl, rfl⟩
theorem F_89_51 : F 89 51 (.istore_n 1) 52 := ⟨1, by decide +kernel, rfl, rfl⟩
theorem F_89_52 : F 89 52 (.aload_n 0) 53 := ⟨1, by decide +kernel, rfl, rfl⟩
theorem F_89_53 : F 89 53 (.getfield 34) 56 := ⟨3, by decide +kernel, rfl, rfl⟩
theorem F_89_56 : F 89 56 (.bipush 8) 58 := ⟨2, by decide +kernel, rfl, rfl⟩
theorem F_89_58 : F 89 58 (.invokevirtual 188) 61 := ⟨3, by decide +kernel, rfl, rfl⟩
theorem F_89_61 : F 89 61 (.iload_n 1) 62 := ⟨1, by decide +kernel, rfl, rfl⟩
theorem F_89_62 : F 89 62 (.ireturn) 63 := ⟨1, by decide +kernel, rfl, rfl⟩
theorem n_97 : m_n 97 = 1 := by decide +kernel
theorem F_97_0 : F 97 0 (.aload_n 0) 1 := ⟨1, by decide +kernel, rfl, rfl⟩
theorem F_97_1 : F 97 1 (.getfield 34) 4 := ⟨3, by decide +kernel, rfl, rfl⟩
theorem o_97 : m_o 97 = 5 := by decide +kernel
theorem F_97_4 : F 97 4 (.invokevirtual 225) 7 := ⟨3, by decide +kernel, rfl, rfl⟩
theorem il_5_225 : ilq 5 225 0 84 0 = true := by decide +kernel
theorem F_97_7 : F 97 7 (.ifCond .ne 6) 10 := ⟨3, by decide +kernel, rfl, rfl⟩
theorem F_97_10 : F 97 10 (.bipush (-4)) 12 := ⟨2, by decide +kernel, rfl, rfl⟩
theorem F_97_12 : F 97 12 (.ireturn) 13 := ⟨1, by decide +kernel, rfl, rfl⟩
theorem rt_97 : m_r 97 = (some .int) := by decide +kernel
theorem F_97_13 : F 97 13 (.aload_n 0) 14 := ⟨1, by decide +kernel, rfl, rfl⟩
theorem F_97_14 : F 97 14 (.invokevirtual 229) 17 := ⟨3, by decide +kernel, rfl, rfl⟩
theorem il_5_229 : ilq 5 229 0 98 0 = true := by decide +kernel
theorem vy_98 : (m_cls 5).1 = (m_y 98).cls ∧ 5 < m_cl.length := by decide +kernel
theorem F_97_17 : F 97 17 (.aload_n 0) 18 := ⟨1, by decide +kernel, rfl, rfl⟩
theorem F_97_18 : F 97 18 (.aload_n 0) 19 := ⟨1, by decide +kernel, rfl, rfl⟩
theorem F_97_19 : F 97 19 (.getfield 41) 22 := ⟨3, by decide +kernel, rfl, rfl⟩
theorem F_97_22 : F 97 22 (.invokevirtual 232) 25 := ⟨3, by decide +kernel, rfl, rfl⟩
theorem il_5_232 : ilq 5 232 0 102 0 = true := by decide +kernel
theorem vy_102 : (m_cls 4).1 = (m_y 102).cls ∧ 4 < m_cl.length := by decide +kernel
theorem n_102 : m_n 102 = 1 := by decide +kernel
theorem F_102_0 : F 102 0 (.aload_n 0) 1 := ⟨1, by decide +kernel, rfl, rfl⟩
theorem F_102_1 : F 102 1 (.getfield 12) 4 := ⟨3, by decide +kernel, rfl, rfl⟩
theorem o_102 : m_o 102 = 4 := by decide +kernel
theorem F_102_4 : F 102 4 (.invokevirtual 67) 7 := ⟨3, by decide +kernel, rfl, rfl⟩
theorem il_4_67 : ilq 4 67 0 68 0 = true := by decide +kernel
theorem kd_67_2 : kd 67 2 = 0 := by decide +kernel
theorem F_102_7 : F 102 7 (.aload_n 0) 8 := ⟨1, by decide +kernel, rfl, rfl⟩
theorem F_102_8 : F 102 8 (.getfield 18) 11 := ⟨3, by decide +kernel, rfl, rfl⟩
theorem F_102_11 : F 102 11 (.invokevirtual 67) 14 := ⟨3, by decide +kernel, rfl, rfl⟩
theorem kd_69_2 : kd 69 2 = 0 := by decide +kernel
theorem F_102_14 : F 102 14 (.ixor) 15 := ⟨1, by decide +kernel, rfl, rfl⟩
theorem F_102_15 : F 102 15 (.ireturn) 16 := ⟨1, by decide +kernel, rfl, rfl⟩
theorem rt_102 : m_r 102 = (some .int) := by decide +kernel
theorem F_97_25 : F 97 25 (.invokevirtual 93) 28 := ⟨3, by decide +kernel, rfl, rfl⟩
theorem F_97_28 : F 97 28 (.pop) 29 := ⟨1, by decide +kernel, rfl, rfl⟩
theorem F_97_29 : F 97 29 (.aload_n 0) 30 := ⟨1, by decide +kernel, rfl, rfl⟩
theorem F_97_30 : F 97 30 (.getfield 41) 33 := ⟨3, by decide +kernel, rfl, rfl⟩
theorem F_97_33 : F 97 33 (.invokevirtual 235) 36 := ⟨3, by decide +kernel, rfl, rfl⟩
theorem il_5_235 : ilq 5 235 0 103 0 = true := by decide +kernel
theorem vy_103 : (m_cls 4).1 = (m_y 103).cls ∧ 4 < m_cl.length := by decide +kernel
theorem n_103 : m_n 103 = 1 := by decide +kernel
theorem F_103_0 : F 103 0 (.aload_n 0) 1 := ⟨1, by decide +kernel, rfl, rfl⟩
theorem F_103_1 : F 103 1 (.getfield 12) 4 := ⟨3, by decide +kernel, rfl, rfl⟩
theorem o_103 : m_o 103 = 4 := by decide +kernel
theorem F_103_4 : F 103 4 (.invokevirtual 67) 7 := ⟨3, by decide +kernel, rfl, rfl⟩
theorem F_103_7 : F 103 7 (.aload_n 0) 8 := ⟨1, by decide +kernel, rfl, rfl⟩
theorem F_103_8 : F 103 8 (.getfield 18) 11 := ⟨3, by decide +kernel, rfl, rfl⟩
theorem F_103_11 : F 103 11 (.invokevirtual 67) 14 := ⟨3, by decide +kernel, rfl, rfl⟩
theorem F_103_14 : F 103 14 (.iand) 15 := ⟨1, by decide +kernel, rfl, rfl⟩
theorem F_103_15 : F 103 15 (.ireturn) 16 := ⟨1, by decide +kernel, rfl, rfl⟩
theorem rt_103 : m_r 103 = (some .int) := by decide +kernel
theorem F_97_36 : F 97 36 (.ireturn) 37 := ⟨1, by decide +kernel, rfl, rfl⟩
theorem t_X5_send {X : m_X} {d : Nat} {s : m_St} {P : Option Value → m_St → Prop} {i j : Int}
    (l1 : inR i)
    (l2 : i < 0 → P (some (vI (-1))) s)
    (l3 : 0 ≤ i → inR (s 38 3))
    (l4 : 0 ≤ i → (s 38 3) ≤ i → P (some (vI (-1))) s)
    (l5 : 0 ≤ i → i < (s 38 3) → inR j)
    (l6 : 0 ≤ i → i < (s 38 3) → j < 0 → P (some (vI (-1))) s)
    (l7 : 0 ≤ i → i < (s 38 3) → 0 ≤ j → (s 38 3) ≤ j → P (some (vI (-1))) s)
    (l8 : 0 ≤ i → i < (s 38 3) → 0 ≤ j → j < (s 38 3) → ¬ i = j → inR (s 38 7))
    (l9 : 0 ≤ i → i < (s 38 3) → 0 ≤ j → j < (s 38 3) → ¬ i = j → ¬ (s 38 7) = i → inR ((s 38 9) + 1))
    (l10 : 0 ≤ i → i < (s 38 3) → 0 ≤ j → j < (s 38 3) → ¬ i = j → ¬ (s 38 7) = i → 40 < ((s 38 9) + 1) → P (some (vI (-2))) s)
    (l11 : 0 ≤ i → i < (s 38 3) → 0 ≤ j → j < (s 38 3) → ¬ i = j → ¬ (s 38 7) = i → ((s 38 9) + 1) ≤ 40 → 0 ≤ s 38 9)
    (l12 : 0 ≤ i → i < (s 38 3) → 0 ≤ j → j < (s 38 3) → ¬ i = j → ¬ (s 38 7) = i → ((s 38 9) + 1) ≤ 40 → s 38 9 < 40)
    (l13 : 0 ≤ i → i < (s 38 3) → 0 ≤ j → j < (s 38 3) → ¬ i = j → ¬ (s 38 7) = i → ((s 38 9) + 1) ≤ 40 → 0 ≤ ((9 + (6 * i)) + j))
    (l14 : 0 ≤ i → i < (s 38 3) → 0 ≤ j → j < (s 38 3) → ¬ i = j → ¬ (s 38 7) = i → ((s 38 9) + 1) ≤ 40 → inR ((9 + (6 * i)) + j))
    (l15 : 0 ≤ i → i < (s 38 3) → 0 ≤ j → j < (s 38 3) → ¬ i = j → ¬ (s 38 7) = i → ((s 38 9) + 1) ≤ 40 → (((9 + (6 * i)) + j) : Int) < 8 → upk s)
    (l16 : 0 ≤ i → i < (s 38 3) → 0 ≤ j → j < (s 38 3) → ¬ i = j → ¬ (s 38 7) = i → ((s 38 9) + 1) ≤ 40 → ∀ i, 0 ≤ i → i < 6 → gok s (44 + 4 * i))
    (l17 : 0 ≤ i → i < (s 38 3) → 0 ≤ j → j < (s 38 3) → ¬ i = j → ¬ (s 38 7) = i → ((s 38 9) + 1) ≤ 40 → upk (acs s ((9 + (6 * i)) + j)))
    (l18 : 0 ≤ i → i < (s 38 3) → 0 ≤ j → j < (s 38 3) → ¬ i = j → ¬ (s 38 7) = i → ((s 38 9) + 1) ≤ 40 → P (some (vI (shd (acs s ((9 + (6 * i)) + j))))) (acs s ((9 + (6 * i)) + j)))
    (l19 : 0 ≤ i → i < (s 38 3) → 0 ≤ j → j < (s 38 3) → ¬ i = j → (s 38 7) = i → inR (s 38 8))
    (l20 : 0 ≤ i → i < (s 38 3) → 0 ≤ j → j < (s 38 3) → ¬ i = j → (s 38 7) = i → ¬ (s 38 8) = j → inR ((s 38 9) + 1))
    (l21 : 0 ≤ i → i < (s 38 3) → 0 ≤ j → j < (s 38 3) → ¬ i = j → (s 38 7) = i → ¬ (s 38 8) = j → 40 < ((s 38 9) + 1) → P (some (vI (-2))) s)
    (l22 : 0 ≤ i → i < (s 38 3) → 0 ≤ j → j < (s 38 3) → ¬ i = j → (s 38 7) = i → ¬ (s 38 8) = j → ((s 38 9) + 1) ≤ 40 → 0 ≤ s 38 9)
    (l23 : 0 ≤ i → i < (s 38 3) → 0 ≤ j → j < (s 38 3) → ¬ i = j → (s 38 7) = i → ¬ (s 38 8) = j → ((s 38 9) + 1) ≤ 40 → s 38 9 < 40)
    (l24 : 0 ≤ i → i < (s 38 3) → 0 ≤ j → j < (s 38 3) → ¬ i = j → (s 38 7) = i → ¬ (s 38 8) = j → ((s 38 9) + 1) ≤ 40 → 0 ≤ ((9 + (6 * i)) + j))
    (l25 : 0 ≤ i → i < (s 38 3) → 0 ≤ j → j < (s 38 3) → ¬ i = j → (s 38 7) = i → ¬ (s 38 8) = j → ((s 38 9) + 1) ≤ 40 → inR ((9 + (6 * i)) + j))
    (l26 : 0 ≤ i → i < (s 38 3) → 0 ≤ j → j < (s 38 3) → ¬ i = j → (s 38 7) = i → ¬ (s 38 8) = j → ((s 38 9) + 1) ≤ 40 → (((9 + (6 * i)) + j) : Int) < 8 → upk s)
    (l27 : 0 ≤ i → i < (s 38 3) → 0 ≤ j → j < (s 38 3) → ¬ i = j → (s 38 7) = i → ¬ (s 38 8) = j → ((s 38 9) + 1) ≤ 40 → ∀ i, 0 ≤ i → i < 6 → gok s (44 + 4 * i))
    (l28 : 0 ≤ i → i < (s 38 3) → 0 ≤ j → j < (s 38 3) → ¬ i = j → (s 38 7) = i → ¬ (s 38 8) = j → ((s 38 9) + 1) ≤ 40 → upk (acs s ((9 + (6 * i)) + j)))
    (l29 : 0 ≤ i → i < (s 38 3) → 0 ≤ j → j < (s 38 3) → ¬ i = j → (s 38 7) = i → ¬ (s 38 8) = j → ((s 38 9) + 1) ≤ 40 → P (some (vI (shd (acs s ((9 + (6 * i)) + j))))) (acs s ((9 + (6 * i)) + j)))
    (l30 : 0 ≤ i → i < (s 38 3) → 0 ≤ j → j < (s 38 3) → ¬ i = j → (s 38 7) = i → (s 38 8) = j → P (some (vI (-4))) s)
    (l31 : 0 ≤ i → i < (s 38 3) → 0 ≤ j → j < (s 38 3) → i = j → P (some (vI (-1))) s)
    : Cl X (d + 5) 79 [vR 0, vI i, vI j] s P := by
  refine Cl_of n_79 rfl ?_
  show Rn _ _ _ _ [some (vR 0), some (vI i), some (vI j)] [] _ _
  refine r_ldR_n (m := 0) F_79_0 rfl ?_
  refine r_getR (J := 4) F_79_1 o_79 fl_5_34 ty_0 (by decide) rfl (kd2 kd_0_4 (by decide)) (kd9 kd_0_4 (by decide)) rf_0_4 ?_
  refine r_ldI_n (m := 1) F_79_4 rfl ?_
  refine r_virt2 (A := [vI i]) (r := []) (n := 1) F_79_5 o_79 il_5_136 rfl rfl rfl rfl ty_38 vy_66 (lay_le n_66 rfl) ?_
  refine Cl_of n_66 rfl ?_
  show Rn _ _ _ _ [some (vR 38), some (vI i)] [] _ _
  refine r_ldI_n (m := 1) F_66_0 rfl ?_
  refine r_if (t := 16) F_66_1 rfl l1 ?_ ?_
  · intro e1
    replace e1 : i < 0 := e1
    refine r_iconst F_66_16 ?_
    refine r_zreturn F_66_17 rt_66 (Or.inl rfl) ?_
    show Rn _ _ _ _ _ [vI 0] _ _
    refine r_ifT (t := 27) F_79_8 rfl (by decide) (by show (0 : Int) = 0; decide) ?_
    refine r_iconst F_79_27 ?_
    refine r_ireturn F_79_28 rt_79 ?_
    exact (l2 e1)
  · intro e2
    replace e2 : 0 ≤ i := (Int.not_lt.mp e2)
    refine r_ldI_n (m := 1) F_66_4 rfl ?_
    refine r_ldR_n (m := 0) F_66_5 rfl ?_
    refine r_getI (J := 3) (e := (s 38 3)) F_66_6 o_66 fl_1_24 ty_38 (by decide) rfl kd_38_3 rfl ?_
    refine r_icmp (t := 16) F_66_9 rfl l1 (l3 e2) ?_ ?_
    · intro e3
      replace e3 : (s 38 3) ≤ i := e3
      refine r_iconst F_66_16 ?_
      refine r_zreturn F_66_17 rt_66 (Or.inl rfl) ?_
      show Rn _ _ _ _ _ [vI 0] _ _
      refine r_ifT (t := 27) F_79_8 rfl (by decide) (by show (0 : Int) = 0; decide) ?_
      refine r_iconst F_79_27 ?_
      refine r_ireturn F_79_28 rt_79 ?_
      exact (l4 e2 e3)
    · intro e4
      replace e4 : i < (s 38 3) := (Int.not_le.mp e4)
      refine r_iconst F_66_12 ?_
      refine r_goto (t := 17) F_66_13 rfl ?_
      refine r_zreturn F_66_17 rt_66 (Or.inr rfl) ?_
      show Rn _ _ _ _ _ [vI 1] _ _
      refine r_ifF (t := 27) F_79_8 rfl (by decide) (by show ¬ ((1 : Int) = 0); decide) ?_
      refine r_ldR_n (m := 0) F_79_11 rfl ?_
      refine r_getR (J := 4) F_79_12 o_79 fl_5_34 ty_0 (by decide) rfl (kd2 kd_0_4 (by decide)) (kd9 kd_0_4 (by decide)) rf_0_4 ?_
      refine r_ldI_n (m := 2) F_79_15 rfl ?_
      refine r_virt2 (A := [vI j]) (r := []) (n := 1) F_79_16 o_79 il_5_136 rfl rfl rfl rfl ty_38 vy_66 (lay_le n_66 rfl) ?_
      refine Cl_of n_66 rfl ?_
      show Rn _ _ _ _ [some (vR 38), some (vI j)] [] _ _
      refine r_ldI_n (m := 1) F_66_0 rfl ?_
      refine r_if (t := 16) F_66_1 rfl (l5 e2 e4) ?_ ?_
      · intro e5
        replace e5 : j < 0 := e5
        refine r_iconst F_66_16 ?_
        refine r_zreturn F_66_17 rt_66 (Or.inl rfl) ?_
        show Rn _ _ _ _ _ [vI 0] _ _
        refine r_ifT (t := 27) F_79_19 rfl (by decide) (by show (0 : Int) = 0; decide) ?_
        refine r_iconst F_79_27 ?_
        refine r_ireturn F_79_28 rt_79 ?_
        exact (l6 e2 e4 e5)
      · intro e6
        replace e6 : 0 ≤ j := (Int.not_lt.mp e6)
        refine r_ldI_n (m := 1) F_66_4 rfl ?_
        refine r_ldR_n (m := 0) F_66_5 rfl ?_
        refine r_getI (J := 3) (e := (s 38 3)) F_66_6 o_66 fl_1_24 ty_38 (by decide) rfl kd_38_3 rfl ?_
        refine r_icmp (t := 16) F_66_9 rfl (l5 e2 e4) (l3 e2) ?_ ?_
        · intro e7
          replace e7 : (s 38 3) ≤ j := e7
          refine r_iconst F_66_16 ?_
          refine r_zreturn F_66_17 rt_66 (Or.inl rfl) ?_
          show Rn _ _ _ _ _ [vI 0] _ _
          refine r_ifT (t := 27) F_79_19 rfl (by decide) (by show (0 : Int) = 0; decide) ?_
          refine r_iconst F_79_27 ?_
          refine r_ireturn F_79_28 rt_79 ?_
          exact (l7 e2 e4 e6 e7)
        · intro e8
          replace e8 : j < (s 38 3) := (Int.not_le.mp e8)
          refine r_iconst F_66_12 ?_
          refine r_goto (t := 17) F_66_13 rfl ?_
          refine r_zreturn F_66_17 rt_66 (Or.inr rfl) ?_
          show Rn _ _ _ _ _ [vI 1] _ _
          refine r_ifF (t := 27) F_79_19 rfl (by decide) (by show ¬ ((1 : Int) = 0); decide) ?_
          refine r_ldI_n (m := 1) F_79_22 rfl ?_
          refine r_ldI_n (m := 2) F_79_23 rfl ?_
          refine r_icmp (t := 29) F_79_24 rfl l1 (l5 e2 e4) ?_ ?_
          · intro e9
            replace e9 : ¬ i = j := e9
            refine r_ldR_n (m := 0) F_79_29 rfl ?_
            refine r_getR (J := 4) F_79_30 o_79 fl_5_34 ty_0 (by decide) rfl (kd2 kd_0_4 (by decide)) (kd9 kd_0_4 (by decide)) rf_0_4 ?_
            refine r_ldI_n (m := 1) F_79_33 rfl ?_
            refine r_ldI_n (m := 2) F_79_34 rfl ?_
            refine r_virt2 (A := [vI i, vI j]) (r := []) (n := 2) F_79_35 o_79 il_5_181 rfl rfl rfl rfl ty_38 vy_80 (lay_le n_80 rfl) ?_
            refine Cl_of n_80 rfl ?_
            show Rn _ _ _ _ [some (vR 38), some (vI i), some (vI j)] [] _ _
            refine r_ldR_n (m := 0) F_80_0 rfl ?_
            refine r_getI (J := 7) (e := (s 38 7)) F_80_1 o_80 fl_1_37 ty_38 (by decide) rfl kd_38_7 rfl ?_
            refine r_ldI_n (m := 1) F_80_4 rfl ?_
            refine r_icmp (t := 20) F_80_5 rfl (l8 e2 e4 e6 e8 e9) l1 ?_ ?_
            · intro e10
              replace e10 : ¬ (s 38 7) = i := e10
              refine r_iconst F_80_20 ?_
              refine r_zreturn F_80_21 rt_80 (Or.inl rfl) ?_
              show Rn _ _ _ _ _ [vI 0] _ _
              refine r_ifT (t := 44) F_79_38 rfl (by decide) (by show (0 : Int) = 0; decide) ?_
              refine r_ldR_n (m := 0) F_79_44 rfl ?_
              refine r_getR (J := 4) F_79_45 o_79 fl_5_34 ty_0 (by decide) rfl (kd2 kd_0_4 (by decide)) (kd9 kd_0_4 (by decide)) rf_0_4 ?_
              refine r_iconst F_79_48 ?_
              refine r_virt2 (A := [vI 1]) (r := []) (n := 1) F_79_49 o_79 il_5_185 rfl rfl rfl rfl ty_38 vy_81 (lay_le n_81 rfl) ?_
              refine Cl_of n_81 rfl ?_
              show Rn _ _ _ _ [some (vR 38), some (vI 1)] [] _ _
              refine r_ldR_n (m := 0) F_81_0 rfl ?_
              refine r_getI (J := 9) (e := (s 38 9)) F_81_1 o_81 fl_1_43 ty_38 (by decide) rfl kd_38_9 rfl ?_
              refine r_ldI_n (m := 1) F_81_4 rfl ?_
              refine r_iadd F_81_5 rfl ?_
              refine r_bipush F_81_6 bi_40 ?_
              refine r_icmp (t := 15) F_81_8 rfl (l9 e2 e4 e6 e8 e9 e10) (by decide) ?_ ?_
              · intro e11
                replace e11 : 40 < ((s 38 9) + 1) := e11
                refine r_iconst F_81_15 ?_
                refine r_zreturn F_81_16 rt_81 (Or.inl rfl) ?_
                show Rn _ _ _ _ _ [vI 0] _ _
                refine r_ifF (t := 58) F_79_52 rfl (by decide) (by show ¬ (¬ (0 : Int) = 0); decide) ?_
                refine r_bipush F_79_55 bi__2 ?_
                refine r_ireturn F_79_57 rt_79 ?_
                exact (l10 e2 e4 e6 e8 e9 e10 e11)
              · intro e12
                replace e12 : ((s 38 9) + 1) ≤ 40 := (Int.not_lt.mp e12)
                refine r_iconst F_81_11 ?_
                refine r_goto (t := 16) F_81_12 rfl ?_
                refine r_zreturn F_81_16 rt_81 (Or.inr rfl) ?_
                show Rn _ _ _ _ _ [vI 1] _ _
                refine r_ifT (t := 58) F_79_52 rfl (by decide) (by show ¬ (1 : Int) = 0; decide) ?_
                refine r_ldR_n (m := 0) F_79_58 rfl ?_
                refine r_getR (J := 4) F_79_59 o_79 fl_5_34 ty_0 (by decide) rfl (kd2 kd_0_4 (by decide)) (kd9 kd_0_4 (by decide)) rf_0_4 ?_
                refine r_bipush F_79_62 bi_9 ?_
                refine r_bipush F_79_64 bi_6 ?_
                refine r_ldI_n (m := 1) F_79_66 rfl ?_
                refine r_imul F_79_67 rfl ?_
                refine r_iadd F_79_68 rfl ?_
                refine r_ldI_n (m := 2) F_79_69 rfl ?_
                refine r_iadd F_79_70 rfl ?_
                refine r_virt2 (A := [vI ((9 + (6 * i)) + j)]) (r := []) (n := 1) F_79_71 o_79 il_5_188 rfl rfl rfl rfl ty_38 vy_82 (lay_le n_82 rfl) ?_
                refine sp_act (l11 e2 e4 e6 e8 e9 e10 e12) (l12 e2 e4 e6 e8 e9 e10 e12) (l13 e2 e4 e6 e8 e9 e10 e12) (l14 e2 e4 e6 e8 e9 e10 e12) (l15 e2 e4 e6 e8 e9 e10 e12) (l16 e2 e4 e6 e8 e9 e10 e12) ?_
                show Rn _ _ _ _ _ [] _ _
                refine r_ldR_n (m := 0) F_79_74 rfl ?_
                refine r_getR (J := 4) F_79_75 o_79 fl_5_34 ty_0 (by decide) rfl (kd2 kd_0_4 (by decide)) (kd9 kd_0_4 (by decide)) rf_0_4 ?_
                refine r_virt2 (A := []) (r := []) (n := 0) F_79_78 o_79 il_5_191 rfl rfl rfl rfl ty_38 vy_83 (lay_le n_83 rfl) ?_
                refine sp_shared (l17 e2 e4 e6 e8 e9 e10 e12) ?_
                show Rn _ _ _ _ _ [vI (shd (acs s ((9 + (6 * i)) + j)))] _ _
                refine r_ireturn F_79_81 rt_79 ?_
                exact (l18 e2 e4 e6 e8 e9 e10 e12)
            · intro e13
              replace e13 : (s 38 7) = i := (Classical.not_not.mp e13)
              refine r_ldR_n (m := 0) F_80_8 rfl ?_
              refine r_getI (J := 8) (e := (s 38 8)) F_80_9 o_80 fl_1_40 ty_38 (by decide) rfl kd_38_8 rfl ?_
              refine r_ldI_n (m := 2) F_80_12 rfl ?_
              refine r_icmp (t := 20) F_80_13 rfl (l19 e2 e4 e6 e8 e9 e13) (l5 e2 e4) ?_ ?_
              · intro e14
                replace e14 : ¬ (s 38 8) = j := e14
                refine r_iconst F_80_20 ?_
                refine r_zreturn F_80_21 rt_80 (Or.inl rfl) ?_
                show Rn _ _ _ _ _ [vI 0] _ _
                refine r_ifT (t := 44) F_79_38 rfl (by decide) (by show (0 : Int) = 0; decide) ?_
                refine r_ldR_n (m := 0) F_79_44 rfl ?_
                refine r_getR (J := 4) F_79_45 o_79 fl_5_34 ty_0 (by decide) rfl (kd2 kd_0_4 (by decide)) (kd9 kd_0_4 (by decide)) rf_0_4 ?_
                refine r_iconst F_79_48 ?_
                refine r_virt2 (A := [vI 1]) (r := []) (n := 1) F_79_49 o_79 il_5_185 rfl rfl rfl rfl ty_38 vy_81 (lay_le n_81 rfl) ?_
                refine Cl_of n_81 rfl ?_
                show Rn _ _ _ _ [some (vR 38), some (vI 1)] [] _ _
                refine r_ldR_n (m := 0) F_81_0 rfl ?_
                refine r_getI (J := 9) (e := (s 38 9)) F_81_1 o_81 fl_1_43 ty_38 (by decide) rfl kd_38_9 rfl ?_
                refine r_ldI_n (m := 1) F_81_4 rfl ?_
                refine r_iadd F_81_5 rfl ?_
                refine r_bipush F_81_6 bi_40 ?_
                refine r_icmp (t := 15) F_81_8 rfl (l20 e2 e4 e6 e8 e9 e13 e14) (by decide) ?_ ?_
                · intro e15
                  replace e15 : 40 < ((s 38 9) + 1) := e15
                  refine r_iconst F_81_15 ?_
                  refine r_zreturn F_81_16 rt_81 (Or.inl rfl) ?_
                  show Rn _ _ _ _ _ [vI 0] _ _
                  refine r_ifF (t := 58) F_79_52 rfl (by decide) (by show ¬ (¬ (0 : Int) = 0); decide) ?_
                  refine r_bipush F_79_55 bi__2 ?_
                  refine r_ireturn F_79_57 rt_79 ?_
                  exact (l21 e2 e4 e6 e8 e9 e13 e14 e15)
                · intro e16
                  replace e16 : ((s 38 9) + 1) ≤ 40 := (Int.not_lt.mp e16)
                  refine r_iconst F_81_11 ?_
                  refine r_goto (t := 16) F_81_12 rfl ?_
                  refine r_zreturn F_81_16 rt_81 (Or.inr rfl) ?_
                  show Rn _ _ _ _ _ [vI 1] _ _
                  refine r_ifT (t := 58) F_79_52 rfl (by decide) (by show ¬ (1 : Int) = 0; decide) ?_
                  refine r_ldR_n (m := 0) F_79_58 rfl ?_
                  refine r_getR (J := 4) F_79_59 o_79 fl_5_34 ty_0 (by decide) rfl (kd2 kd_0_4 (by decide)) (kd9 kd_0_4 (by decide)) rf_0_4 ?_
                  refine r_bipush F_79_62 bi_9 ?_
                  refine r_bipush F_79_64 bi_6 ?_
                  refine r_ldI_n (m := 1) F_79_66 rfl ?_
                  refine r_imul F_79_67 rfl ?_
                  refine r_iadd F_79_68 rfl ?_
                  refine r_ldI_n (m := 2) F_79_69 rfl ?_
                  refine r_iadd F_79_70 rfl ?_
                  refine r_virt2 (A := [vI ((9 + (6 * i)) + j)]) (r := []) (n := 1) F_79_71 o_79 il_5_188 rfl rfl rfl rfl ty_38 vy_82 (lay_le n_82 rfl) ?_
                  refine sp_act (l22 e2 e4 e6 e8 e9 e13 e14 e16) (l23 e2 e4 e6 e8 e9 e13 e14 e16) (l24 e2 e4 e6 e8 e9 e13 e14 e16) (l25 e2 e4 e6 e8 e9 e13 e14 e16) (l26 e2 e4 e6 e8 e9 e13 e14 e16) (l27 e2 e4 e6 e8 e9 e13 e14 e16) ?_
                  show Rn _ _ _ _ _ [] _ _
                  refine r_ldR_n (m := 0) F_79_74 rfl ?_
                  refine r_getR (J := 4) F_79_75 o_79 fl_5_34 ty_0 (by decide) rfl (kd2 kd_0_4 (by decide)) (kd9 kd_0_4 (by decide)) rf_0_4 ?_
                  refine r_virt2 (A := []) (r := []) (n := 0) F_79_78 o_79 il_5_191 rfl rfl rfl rfl ty_38 vy_83 (lay_le n_83 rfl) ?_
                  refine sp_shared (l28 e2 e4 e6 e8 e9 e13 e14 e16) ?_
                  show Rn _ _ _ _ _ [vI (shd (acs s ((9 + (6 * i)) + j)))] _ _
                  refine r_ireturn F_79_81 rt_79 ?_
                  exact (l29 e2 e4 e6 e8 e9 e13 e14 e16)
              · intro e17
                replace e17 : (s 38 8) = j := (Classical.not_not.mp e17)
                refine r_iconst F_80_16 ?_
                refine r_goto (t := 21) F_80_17 rfl ?_
                refine r_zreturn F_80_21 rt_80 (Or.inr rfl) ?_
                show Rn _ _ _ _ _ [vI 1] _ _
                refine r_ifF (t := 44) F_79_38 rfl (by decide) (by show ¬ ((1 : Int) = 0); decide) ?_
                refine r_bipush F_79_41 bi__4 ?_
                refine r_ireturn F_79_43 rt_79 ?_
                exact (l30 e2 e4 e6 e8 e9 e13 e17)
          · intro e18
            replace e18 : i = j := (Classical.not_not.mp e18)
            refine r_iconst F_79_27 ?_
            refine r_ireturn F_79_28 rt_79 ?_
            exact (l31 e2 e4 e6 e8 e18)
theorem t_X5_say {X : m_X} {d : Nat} {s : m_St} {P : Option Value → m_St → Prop} {z : Int}
    (l1 : inR z)
    (l2 : z < 0 → P (some (vI (-1))) s)
    (l3 : 0 ≤ z → 8 ≤ z → P (some (vI (-1))) s)
    (l4 : 0 ≤ z → z < 8 → ugk s)
    (l5 : 0 ≤ z → z < 8 → ¬ (csh s z) = 0 → inR (s 38 6))
    (l6 : 0 ≤ z → z < 8 → ¬ (csh s z) = 0 → 0 < (s 38 6) → inR ((s 38 9) + 1))
    (l7 : 0 ≤ z → z < 8 → ¬ (csh s z) = 0 → 0 < (s 38 6) → 40 < ((s 38 9) + 1) → P (some (vI (-2))) s)
    (l8 : 0 ≤ z → z < 8 → ¬ (csh s z) = 0 → 0 < (s 38 6) → ((s 38 9) + 1) ≤ 40 → 0 ≤ s 38 9)
    (l9 : 0 ≤ z → z < 8 → ¬ (csh s z) = 0 → 0 < (s 38 6) → ((s 38 9) + 1) ≤ 40 → s 38 9 < 40)
    (l10 : 0 ≤ z → z < 8 → ¬ (csh s z) = 0 → 0 < (s 38 6) → ((s 38 9) + 1) ≤ 40 → (z : Int) < 8 → upk s)
    (l11 : 0 ≤ z → z < 8 → ¬ (csh s z) = 0 → 0 < (s 38 6) → ((s 38 9) + 1) ≤ 40 → ∀ i, 0 ≤ i → i < 6 → gok s (44 + 4 * i))
    (l12 : 0 ≤ z → z < 8 → ¬ (csh s z) = 0 → 0 < (s 38 6) → ((s 38 9) + 1) ≤ 40 → 4 ≤ z → inR ((acs s z) 38 7))
    (l13 : 0 ≤ z → z < 8 → ¬ (csh s z) = 0 → 0 < (s 38 6) → ((s 38 9) + 1) ≤ 40 → 4 ≤ z → ((acs s z) 38 7) < 0 → inR (z % 4))
    (l14 : 0 ≤ z → z < 8 → ¬ (csh s z) = 0 → 0 < (s 38 6) → ((s 38 9) + 1) ≤ 40 → 4 ≤ z → ((acs s z) 38 7) < 0 → (z % 4) < 0 → P (some (vI 0)) (acs s z))
    (l15 : 0 ≤ z → z < 8 → ¬ (csh s z) = 0 → 0 < (s 38 6) → ((s 38 9) + 1) ≤ 40 → 4 ≤ z → ((acs s z) 38 7) < 0 → 0 ≤ (z % 4) → 4 ≤ (z % 4) → P (some (vI 0)) (acs s z))
    (l16 : 0 ≤ z → z < 8 → ¬ (csh s z) = 0 → 0 < (s 38 6) → ((s 38 9) + 1) ≤ 40 → 4 ≤ z → ((acs s z) 38 7) < 0 → 0 ≤ (z % 4) → (z % 4) < 4 → P (some (vI ((acs s z) 45 (z % 4)))) (acs s z))
    (l17 : 0 ≤ z → z < 8 → ¬ (csh s z) = 0 → 0 < (s 38 6) → ((s 38 9) + 1) ≤ 40 → 4 ≤ z → 0 ≤ ((acs s z) 38 7) → 6 ≤ ((acs s z) 38 7) → inR (z % 4))
    (l18 : 0 ≤ z → z < 8 → ¬ (csh s z) = 0 → 0 < (s 38 6) → ((s 38 9) + 1) ≤ 40 → 4 ≤ z → 0 ≤ ((acs s z) 38 7) → 6 ≤ ((acs s z) 38 7) → (z % 4) < 0 → P (some (vI 0)) (acs s z))
    (l19 : 0 ≤ z → z < 8 → ¬ (csh s z) = 0 → 0 < (s 38 6) → ((s 38 9) + 1) ≤ 40 → 4 ≤ z → 0 ≤ ((acs s z) 38 7) → 6 ≤ ((acs s z) 38 7) → 0 ≤ (z % 4) → 4 ≤ (z % 4) → P (some (vI 0)) (acs s z))
    (l20 : 0 ≤ z → z < 8 → ¬ (csh s z) = 0 → 0 < (s 38 6) → ((s 38 9) + 1) ≤ 40 → 4 ≤ z → 0 ≤ ((acs s z) 38 7) → 6 ≤ ((acs s z) 38 7) → 0 ≤ (z % 4) → (z % 4) < 4 → P (some (vI ((acs s z) 45 (z % 4)))) (acs s z))
    (l21 : 0 ≤ z → z < 8 → ¬ (csh s z) = 0 → 0 < (s 38 6) → ((s 38 9) + 1) ≤ 40 → 4 ≤ z → 0 ≤ ((acs s z) 38 7) → ((acs s z) 38 7) < 6 → inR (z % 4))
    (l22 : 0 ≤ z → z < 8 → ¬ (csh s z) = 0 → 0 < (s 38 6) → ((s 38 9) + 1) ≤ 40 → 4 ≤ z → 0 ≤ ((acs s z) 38 7) → ((acs s z) 38 7) < 6 → (z % 4) < 0 → P (some (vI 0)) (acs s z))
    (l23 : 0 ≤ z → z < 8 → ¬ (csh s z) = 0 → 0 < (s 38 6) → ((s 38 9) + 1) ≤ 40 → 4 ≤ z → 0 ≤ ((acs s z) 38 7) → ((acs s z) 38 7) < 6 → 0 ≤ (z % 4) → 4 ≤ (z % 4) → P (some (vI 0)) (acs s z))
    (l24 : 0 ≤ z → z < 8 → ¬ (csh s z) = 0 → 0 < (s 38 6) → ((s 38 9) + 1) ≤ 40 → 4 ≤ z → 0 ≤ ((acs s z) 38 7) → ((acs s z) 38 7) < 6 → 0 ≤ (z % 4) → (z % 4) < 4 → P (some (vI ((acs s z) ((44 + 4 * ((acs s z) 38 7)) + 1) (z % 4)))) (acs s z))
    (l25 : 0 ≤ z → z < 8 → ¬ (csh s z) = 0 → 0 < (s 38 6) → ((s 38 9) + 1) ≤ 40 → z < 4 → inR ((acs s z) 38 8))
    (l26 : 0 ≤ z → z < 8 → ¬ (csh s z) = 0 → 0 < (s 38 6) → ((s 38 9) + 1) ≤ 40 → z < 4 → ((acs s z) 38 8) < 0 → inR (z % 4))
    (l27 : 0 ≤ z → z < 8 → ¬ (csh s z) = 0 → 0 < (s 38 6) → ((s 38 9) + 1) ≤ 40 → z < 4 → ((acs s z) 38 8) < 0 → (z % 4) < 0 → P (some (vI 0)) (acs s z))
    (l28 : 0 ≤ z → z < 8 → ¬ (csh s z) = 0 → 0 < (s 38 6) → ((s 38 9) + 1) ≤ 40 → z < 4 → ((acs s z) 38 8) < 0 → 0 ≤ (z % 4) → 4 ≤ (z % 4) → P (some (vI 0)) (acs s z))
    (l29 : 0 ≤ z → z < 8 → ¬ (csh s z) = 0 → 0 < (s 38 6) → ((s 38 9) + 1) ≤ 40 → z < 4 → ((acs s z) 38 8) < 0 → 0 ≤ (z % 4) → (z % 4) < 4 → P (some (vI ((acs s z) 45 (z % 4)))) (acs s z))
    (l30 : 0 ≤ z → z < 8 → ¬ (csh s z) = 0 → 0 < (s 38 6) → ((s 38 9) + 1) ≤ 40 → z < 4 → 0 ≤ ((acs s z) 38 8) → 6 ≤ ((acs s z) 38 8) → inR (z % 4))
    (l31 : 0 ≤ z → z < 8 → ¬ (csh s z) = 0 → 0 < (s 38 6) → ((s 38 9) + 1) ≤ 40 → z < 4 → 0 ≤ ((acs s z) 38 8) → 6 ≤ ((acs s z) 38 8) → (z % 4) < 0 → P (some (vI 0)) (acs s z))
    (l32 : 0 ≤ z → z < 8 → ¬ (csh s z) = 0 → 0 < (s 38 6) → ((s 38 9) + 1) ≤ 40 → z < 4 → 0 ≤ ((acs s z) 38 8) → 6 ≤ ((acs s z) 38 8) → 0 ≤ (z % 4) → 4 ≤ (z % 4) → P (some (vI 0)) (acs s z))
    (l33 : 0 ≤ z → z < 8 → ¬ (csh s z) = 0 → 0 < (s 38 6) → ((s 38 9) + 1) ≤ 40 → z < 4 → 0 ≤ ((acs s z) 38 8) → 6 ≤ ((acs s z) 38 8) → 0 ≤ (z % 4) → (z % 4) < 4 → P (some (vI ((acs s z) 45 (z % 4)))) (acs s z))
    (l34 : 0 ≤ z → z < 8 → ¬ (csh s z) = 0 → 0 < (s 38 6) → ((s 38 9) + 1) ≤ 40 → z < 4 → 0 ≤ ((acs s z) 38 8) → ((acs s z) 38 8) < 6 → inR (z % 4))
    (l35 : 0 ≤ z → z < 8 → ¬ (csh s z) = 0 → 0 < (s 38 6) → ((s 38 9) + 1) ≤ 40 → z < 4 → 0 ≤ ((acs s z) 38 8) → ((acs s z) 38 8) < 6 → (z % 4) < 0 → P (some (vI 0)) (acs s z))
    (l36 : 0 ≤ z → z < 8 → ¬ (csh s z) = 0 → 0 < (s 38 6) → ((s 38 9) + 1) ≤ 40 → z < 4 → 0 ≤ ((acs s z) 38 8) → ((acs s z) 38 8) < 6 → 0 ≤ (z % 4) → 4 ≤ (z % 4) → P (some (vI 0)) (acs s z))
    (l37 : 0 ≤ z → z < 8 → ¬ (csh s z) = 0 → 0 < (s 38 6) → ((s 38 9) + 1) ≤ 40 → z < 4 → 0 ≤ ((acs s z) 38 8) → ((acs s z) 38 8) < 6 → 0 ≤ (z % 4) → (z % 4) < 4 → P (some (vI ((acs s z) ((44 + 4 * ((acs s z) 38 8)) + 1) (z % 4)))) (acs s z))
    (l38 : 0 ≤ z → z < 8 → ¬ (csh s z) = 0 → (s 38 6) ≤ 0 → P (some (vI (-6))) s)
    (l39 : 0 ≤ z → z < 8 → (csh s z) = 0 → P (some (vI (-4))) s)
    : Cl X (d + 5) 85 [vR 0, vI z] s P := by
  refine Cl_of n_85 rfl ?_
  show Rn _ _ _ _ [some (vR 0), some (vI z)] [] _ _
  refine r_ldI_n (m := 1) F_85_0 rfl ?_
  refine r_stat2 (A := [vI z]) (r := []) (n := 1) F_85_1 o_85 il_5_194 (by decide) rfl rfl rfl rfl (lay_le n_86 rfl) ?_
  refine Cl_of n_86 rfl ?_
  show Rn _ _ _ _ [some (vI z)] [] _ _
  refine r_ldI_n (m := 0) F_86_0 rfl ?_
  refine r_if (t := 14) F_86_1 rfl l1 ?_ ?_
  · intro e1
    replace e1 : z < 0 := e1
    refine r_iconst F_86_14 ?_
    refine r_zreturn F_86_15 rt_86 (Or.inl rfl) ?_
    show Rn _ _ _ _ _ [vI 0] _ _
    refine r_ifF (t := 9) F_85_4 rfl (by decide) (by show ¬ (¬ (0 : Int) = 0); decide) ?_
    refine r_iconst F_85_7 ?_
    refine r_ireturn F_85_8 rt_85 ?_
    exact (l2 e1)
  · intro e2
    replace e2 : 0 ≤ z := (Int.not_lt.mp e2)
    refine r_ldI_n (m := 0) F_86_4 rfl ?_
    refine r_bipush F_86_5 bi_8 ?_
    refine r_icmp (t := 14) F_86_7 rfl l1 (by decide) ?_ ?_
    · intro e3
      replace e3 : 8 ≤ z := e3
      refine r_iconst F_86_14 ?_
      refine r_zreturn F_86_15 rt_86 (Or.inl rfl) ?_
      show Rn _ _ _ _ _ [vI 0] _ _
      refine r_ifF (t := 9) F_85_4 rfl (by decide) (by show ¬ (¬ (0 : Int) = 0); decide) ?_
      refine r_iconst F_85_7 ?_
      refine r_ireturn F_85_8 rt_85 ?_
      exact (l3 e2 e3)
    · intro e4
      replace e4 : z < 8 := (Int.not_le.mp e4)
      refine r_iconst F_86_10 ?_
      refine r_goto (t := 15) F_86_11 rfl ?_
      refine r_zreturn F_86_15 rt_86 (Or.inr rfl) ?_
      show Rn _ _ _ _ _ [vI 1] _ _
      refine r_ifT (t := 9) F_85_4 rfl (by decide) (by show ¬ (1 : Int) = 0; decide) ?_
      refine r_ldR_n (m := 0) F_85_9 rfl ?_
      refine r_getR (J := 4) F_85_10 o_85 fl_5_34 ty_0 (by decide) rfl (kd2 kd_0_4 (by decide)) (kd9 kd_0_4 (by decide)) rf_0_4 ?_
      refine r_ldI_n (m := 1) F_85_13 rfl ?_
      refine r_virt2 (A := [vI z]) (r := []) (n := 1) F_85_14 o_85 il_5_197 rfl rfl rfl rfl ty_38 vy_87 (lay_le n_87 rfl) ?_
      refine sp_canSayH (l4 e2 e4) e2 e4 ?_
      show Rn _ _ _ _ _ [vI (csh s z)] _ _
      refine r_if (t := 23) F_85_17 rfl (inR_csh _ _) ?_ ?_
      · intro e5
        replace e5 : ¬ (csh s z) = 0 := e5
        refine r_ldR_n (m := 0) F_85_23 rfl ?_
        refine r_getR (J := 4) F_85_24 o_85 fl_5_34 ty_0 (by decide) rfl (kd2 kd_0_4 (by decide)) (kd9 kd_0_4 (by decide)) rf_0_4 ?_
        refine r_virt2 (A := []) (r := []) (n := 0) F_85_27 o_85 il_5_200 rfl rfl rfl rfl ty_38 vy_88 (lay_le n_88 rfl) ?_
        refine Cl_of n_88 rfl ?_
        show Rn _ _ _ _ [some (vR 38)] [] _ _
        refine r_ldR_n (m := 0) F_88_0 rfl ?_
        refine r_getI (J := 6) (e := (s 38 6)) F_88_1 o_88 fl_1_34 ty_38 (by decide) rfl kd_38_6 rfl ?_
        refine r_ireturn F_88_4 rt_88 ?_
        show Rn _ _ _ _ _ [vI (s 38 6)] _ _
        refine r_if (t := 36) F_85_30 rfl (l5 e2 e4 e5) ?_ ?_
        · intro e6
          replace e6 : 0 < (s 38 6) := e6
          refine r_ldR_n (m := 0) F_85_36 rfl ?_
          refine r_getR (J := 4) F_85_37 o_85 fl_5_34 ty_0 (by decide) rfl (kd2 kd_0_4 (by decide)) (kd9 kd_0_4 (by decide)) rf_0_4 ?_
          refine r_iconst F_85_40 ?_
          refine r_virt2 (A := [vI 1]) (r := []) (n := 1) F_85_41 o_85 il_5_185 rfl rfl rfl rfl ty_38 vy_81 (lay_le n_81 rfl) ?_
          refine Cl_of n_81 rfl ?_
          show Rn _ _ _ _ [some (vR 38), some (vI 1)] [] _ _
          refine r_ldR_n (m := 0) F_81_0 rfl ?_
          refine r_getI (J := 9) (e := (s 38 9)) F_81_1 o_81 fl_1_43 ty_38 (by decide) rfl kd_38_9 rfl ?_
          refine r_ldI_n (m := 1) F_81_4 rfl ?_
          refine r_iadd F_81_5 rfl ?_
          refine r_bipush F_81_6 bi_40 ?_
          refine r_icmp (t := 15) F_81_8 rfl (l6 e2 e4 e5 e6) (by decide) ?_ ?_
          · intro e7
            replace e7 : 40 < ((s 38 9) + 1) := e7
            refine r_iconst F_81_15 ?_
            refine r_zreturn F_81_16 rt_81 (Or.inl rfl) ?_
            show Rn _ _ _ _ _ [vI 0] _ _
            refine r_ifF (t := 50) F_85_44 rfl (by decide) (by show ¬ (¬ (0 : Int) = 0); decide) ?_
            refine r_bipush F_85_47 bi__2 ?_
            refine r_ireturn F_85_49 rt_85 ?_
            exact (l7 e2 e4 e5 e6 e7)
          · intro e8
            replace e8 : ((s 38 9) + 1) ≤ 40 := (Int.not_lt.mp e8)
            refine r_iconst F_81_11 ?_
            refine r_goto (t := 16) F_81_12 rfl ?_
            refine r_zreturn F_81_16 rt_81 (Or.inr rfl) ?_
            show Rn _ _ _ _ _ [vI 1] _ _
            refine r_ifT (t := 50) F_85_44 rfl (by decide) (by show ¬ (1 : Int) = 0; decide) ?_
            refine r_ldR_n (m := 0) F_85_50 rfl ?_
            refine r_getR (J := 4) F_85_51 o_85 fl_5_34 ty_0 (by decide) rfl (kd2 kd_0_4 (by decide)) (kd9 kd_0_4 (by decide)) rf_0_4 ?_
            refine r_ldI_n (m := 1) F_85_54 rfl ?_
            refine r_virt2 (A := [vI z]) (r := []) (n := 1) F_85_55 o_85 il_5_188 rfl rfl rfl rfl ty_38 vy_82 (lay_le n_82 rfl) ?_
            refine sp_act (l8 e2 e4 e5 e6 e8) (l9 e2 e4 e5 e6 e8) e2 l1 (l10 e2 e4 e5 e6 e8) (l11 e2 e4 e5 e6 e8) ?_
            show Rn _ _ _ _ _ [] _ _
            refine r_ldR_n (m := 0) F_85_58 rfl ?_
            refine r_getR (J := 4) F_85_59 o_85 fl_5_34 ty_0 (by decide) rfl (kd2 kd_0_4 (by decide)) (kd9 kd_0_4 (by decide)) rf_0_4 ?_
            refine r_ldI_n (m := 1) F_85_62 rfl ?_
            refine r_virt2 (A := [vI z]) (r := []) (n := 1) F_85_63 o_85 il_5_203 rfl rfl rfl rfl ty_38 vy_57 (lay_le n_57 rfl) ?_
            refine Cl_of n_57 rfl ?_
            show Rn _ _ _ _ [some (vR 38), some (vI z)] [] _ _
            refine r_ldR_n (m := 0) F_57_0 rfl ?_
            refine r_ldI_n (m := 1) F_57_1 rfl ?_
            refine r_iconst F_57_2 ?_
            refine r_icmp (t := 13) F_57_3 rfl l1 (by decide) ?_ ?_
            · intro e9
              replace e9 : 4 ≤ z := e9
              refine r_ldR_n (m := 0) F_57_13 rfl ?_
              refine r_getI (J := 7) (e := ((acs s z) 38 7)) F_57_14 o_57 fl_1_37 ty_38 (by decide) rfl kd_38_7 rfl ?_
              refine r_virt2 (A := [vI ((acs s z) 38 7)]) (r := []) (n := 1) F_57_17 o_57 il_1_107 rfl rfl rfl rfl ty_38 vy_58 (lay_le n_58 rfl) ?_
              refine Cl_of n_58 rfl ?_
              show Rn _ _ _ _ [some (vR 38), some (vI ((acs s z) 38 7))] [] _ _
              refine r_ldR_n (m := 0) F_58_0 rfl ?_
              refine r_getR (J := 1) F_58_1 o_58 fl_1_17 ty_38 (by decide) rfl (kd2 kd_38_1 (by decide)) (kd9 kd_38_1 (by decide)) rf_38_1 ?_
              refine r_ldI_n (m := 1) F_58_4 rfl ?_
              refine r_if (t := 18) F_58_5 rfl (l12 e2 e4 e5 e6 e8 e9) ?_ ?_
              · intro e10
                replace e10 : ((acs s z) 38 7) < 0 := e10
                refine r_iconst F_58_18 ?_
                refine r_aald F_58_19 ty_40 (by decide) (by decide) (lt_ln ln_40 (by decide)) rf_40_0 ?_
                refine r_areturn F_58_20 rob_58 ?_
                show Rn _ _ _ _ _ [vR 44] _ _
                refine r_areturn F_57_20 rob_57 ?_
                show Rn _ _ _ _ _ [vR 44] _ _
                refine r_ldI_n (m := 1) F_85_66 rfl ?_
                refine r_iconst F_85_67 ?_
                refine r_irem F_85_68 l1 e2 (by decide) (by decide) ?_
                refine r_virt2 (A := [vI (z % 4)]) (r := []) (n := 1) F_85_69 o_85 il_5_206 rfl rfl rfl rfl ty_44 vy_54 (lay_le n_54 rfl) ?_
                refine Cl_of n_54 rfl ?_
                show Rn _ _ _ _ [some (vR 44), some (vI (z % 4))] [] _ _
                refine r_ldI_n (m := 1) F_54_0 rfl ?_
                refine r_stat2 (A := [vI (z % 4)]) (r := []) (n := 1) F_54_1 o_54 il_0_33 (by decide) rfl rfl rfl rfl (lay_le n_46 rfl) ?_
                refine Cl_of n_46 rfl ?_
                show Rn _ _ _ _ [some (vI (z % 4))] [] _ _
                refine r_ldI_n (m := 0) F_46_0 rfl ?_
                refine r_if (t := 13) F_46_1 rfl (l13 e2 e4 e5 e6 e8 e9 e10) ?_ ?_
                · intro e11
                  replace e11 : (z % 4) < 0 := e11
                  refine r_iconst F_46_13 ?_
                  refine r_zreturn F_46_14 rt_46 (Or.inl rfl) ?_
                  show Rn _ _ _ _ _ [vI 0] _ _
                  refine r_ifT (t := 16) F_54_4 rfl (by decide) (by show (0 : Int) = 0; decide) ?_
                  refine r_iconst F_54_16 ?_
                  refine r_ireturn F_54_17 rt_54 ?_
                  show Rn _ _ _ _ _ [vI 0] _ _
                  refine r_ireturn F_85_72 rt_85 ?_
                  exact (l14 e2 e4 e5 e6 e8 e9 e10 e11)
                · intro e12
                  replace e12 : 0 ≤ (z % 4) := (Int.not_lt.mp e12)
                  refine r_ldI_n (m := 0) F_46_4 rfl ?_
                  refine r_iconst F_46_5 ?_
                  refine r_icmp (t := 13) F_46_6 rfl (l13 e2 e4 e5 e6 e8 e9 e10) (by decide) ?_ ?_
                  · intro e13
                    replace e13 : 4 ≤ (z % 4) := e13
                    refine r_iconst F_46_13 ?_
                    refine r_zreturn F_46_14 rt_46 (Or.inl rfl) ?_
                    show Rn _ _ _ _ _ [vI 0] _ _
                    refine r_ifT (t := 16) F_54_4 rfl (by decide) (by show (0 : Int) = 0; decide) ?_
                    refine r_iconst F_54_16 ?_
                    refine r_ireturn F_54_17 rt_54 ?_
                    show Rn _ _ _ _ _ [vI 0] _ _
                    refine r_ireturn F_85_72 rt_85 ?_
                    exact (l15 e2 e4 e5 e6 e8 e9 e10 e12 e13)
                  · intro e14
                    replace e14 : (z % 4) < 4 := (Int.not_le.mp e14)
                    refine r_iconst F_46_9 ?_
                    refine r_goto (t := 14) F_46_10 rfl ?_
                    refine r_zreturn F_46_14 rt_46 (Or.inr rfl) ?_
                    show Rn _ _ _ _ _ [vI 1] _ _
                    refine r_ifF (t := 16) F_54_4 rfl (by decide) (by show ¬ ((1 : Int) = 0); decide) ?_
                    refine r_ldR_n (m := 0) F_54_7 rfl ?_
                    refine r_getR (J := 0) F_54_8 o_54 fl_0_9 ty_44 (by decide) rfl (kd2 kd_44_0 (by decide)) (kd9 kd_44_0 (by decide)) rf_44_0 ?_
                    refine r_ldI_n (m := 1) F_54_11 rfl ?_
                    refine r_iald (e := ((acs s z) 45 (z % 4))) F_54_12 ty_45 e12 (lt_ln ln_45 e14) rfl ?_
                    refine r_goto (t := 17) F_54_13 rfl ?_
                    refine r_ireturn F_54_17 rt_54 ?_
                    show Rn _ _ _ _ _ [vI ((acs s z) 45 (z % 4))] _ _
                    refine r_ireturn F_85_72 rt_85 ?_
                    exact (l16 e2 e4 e5 e6 e8 e9 e10 e12 e14)
              · intro e15
                replace e15 : 0 ≤ ((acs s z) 38 7) := (Int.not_lt.mp e15)
                refine r_ldI_n (m := 1) F_58_8 rfl ?_
                refine r_bipush F_58_9 bi_6 ?_
                refine r_icmp (t := 18) F_58_11 rfl (l12 e2 e4 e5 e6 e8 e9) (by decide) ?_ ?_
                · intro e16
                  replace e16 : 6 ≤ ((acs s z) 38 7) := e16
                  refine r_iconst F_58_18 ?_
                  refine r_aald F_58_19 ty_40 (by decide) (by decide) (lt_ln ln_40 (by decide)) rf_40_0 ?_
                  refine r_areturn F_58_20 rob_58 ?_
                  show Rn _ _ _ _ _ [vR 44] _ _
                  refine r_areturn F_57_20 rob_57 ?_
                  show Rn _ _ _ _ _ [vR 44] _ _
                  refine r_ldI_n (m := 1) F_85_66 rfl ?_
                  refine r_iconst F_85_67 ?_
                  refine r_irem F_85_68 l1 e2 (by decide) (by decide) ?_
                  refine r_virt2 (A := [vI (z % 4)]) (r := []) (n := 1) F_85_69 o_85 il_5_206 rfl rfl rfl rfl ty_44 vy_54 (lay_le n_54 rfl) ?_
                  refine Cl_of n_54 rfl ?_
                  show Rn _ _ _ _ [some (vR 44), some (vI (z % 4))] [] _ _
                  refine r_ldI_n (m := 1) F_54_0 rfl ?_
                  refine r_stat2 (A := [vI (z % 4)]) (r := []) (n := 1) F_54_1 o_54 il_0_33 (by decide) rfl rfl rfl rfl (lay_le n_46 rfl) ?_
                  refine Cl_of n_46 rfl ?_
                  show Rn _ _ _ _ [some (vI (z % 4))] [] _ _
                  refine r_ldI_n (m := 0) F_46_0 rfl ?_
                  refine r_if (t := 13) F_46_1 rfl (l17 e2 e4 e5 e6 e8 e9 e15 e16) ?_ ?_
                  · intro e17
                    replace e17 : (z % 4) < 0 := e17
                    refine r_iconst F_46_13 ?_
                    refine r_zreturn F_46_14 rt_46 (Or.inl rfl) ?_
                    show Rn _ _ _ _ _ [vI 0] _ _
                    refine r_ifT (t := 16) F_54_4 rfl (by decide) (by show (0 : Int) = 0; decide) ?_
                    refine r_iconst F_54_16 ?_
                    refine r_ireturn F_54_17 rt_54 ?_
                    show Rn _ _ _ _ _ [vI 0] _ _
                    refine r_ireturn F_85_72 rt_85 ?_
                    exact (l18 e2 e4 e5 e6 e8 e9 e15 e16 e17)
                  · intro e18
                    replace e18 : 0 ≤ (z % 4) := (Int.not_lt.mp e18)
                    refine r_ldI_n (m := 0) F_46_4 rfl ?_
                    refine r_iconst F_46_5 ?_
                    refine r_icmp (t := 13) F_46_6 rfl (l17 e2 e4 e5 e6 e8 e9 e15 e16) (by decide) ?_ ?_
                    · intro e19
                      replace e19 : 4 ≤ (z % 4) := e19
                      refine r_iconst F_46_13 ?_
                      refine r_zreturn F_46_14 rt_46 (Or.inl rfl) ?_
                      show Rn _ _ _ _ _ [vI 0] _ _
                      refine r_ifT (t := 16) F_54_4 rfl (by decide) (by show (0 : Int) = 0; decide) ?_
                      refine r_iconst F_54_16 ?_
                      refine r_ireturn F_54_17 rt_54 ?_
                      show Rn _ _ _ _ _ [vI 0] _ _
                      refine r_ireturn F_85_72 rt_85 ?_
                      exact (l19 e2 e4 e5 e6 e8 e9 e15 e16 e18 e19)
                    · intro e20
                      replace e20 : (z % 4) < 4 := (Int.not_le.mp e20)
                      refine r_iconst F_46_9 ?_
                      refine r_goto (t := 14) F_46_10 rfl ?_
                      refine r_zreturn F_46_14 rt_46 (Or.inr rfl) ?_
                      show Rn _ _ _ _ _ [vI 1] _ _
                      refine r_ifF (t := 16) F_54_4 rfl (by decide) (by show ¬ ((1 : Int) = 0); decide) ?_
                      refine r_ldR_n (m := 0) F_54_7 rfl ?_
                      refine r_getR (J := 0) F_54_8 o_54 fl_0_9 ty_44 (by decide) rfl (kd2 kd_44_0 (by decide)) (kd9 kd_44_0 (by decide)) rf_44_0 ?_
                      refine r_ldI_n (m := 1) F_54_11 rfl ?_
                      refine r_iald (e := ((acs s z) 45 (z % 4))) F_54_12 ty_45 e18 (lt_ln ln_45 e20) rfl ?_
                      refine r_goto (t := 17) F_54_13 rfl ?_
                      refine r_ireturn F_54_17 rt_54 ?_
                      show Rn _ _ _ _ _ [vI ((acs s z) 45 (z % 4))] _ _
                      refine r_ireturn F_85_72 rt_85 ?_
                      exact (l20 e2 e4 e5 e6 e8 e9 e15 e16 e18 e20)
                · intro e21
                  replace e21 : ((acs s z) 38 7) < 6 := (Int.not_le.mp e21)
                  refine r_ldI_n (m := 1) F_58_14 rfl ?_
                  refine r_goto (t := 19) F_58_15 rfl ?_
                  refine r_aald F_58_19 ty_40 (by decide) e15 (lt_ln ln_40 e21) (rw_40 ⟨e15, e21⟩).2 ?_
                  refine r_areturn F_58_20 rob_58 ?_
                  show Rn _ _ _ _ _ [vR (44 + 4 * ((acs s z) 38 7))] _ _
                  refine r_areturn F_57_20 rob_57 ?_
                  show Rn _ _ _ _ _ [vR (44 + 4 * ((acs s z) 38 7))] _ _
                  refine r_ldI_n (m := 1) F_85_66 rfl ?_
                  refine r_iconst F_85_67 ?_
                  refine r_irem F_85_68 l1 e2 (by decide) (by decide) ?_
                  refine r_virt2 (A := [vI (z % 4)]) (r := []) (n := 1) F_85_69 o_85 il_5_206 rfl rfl rfl rfl (rw_40 ⟨e15, e21⟩).1 vy_54 (lay_le n_54 rfl) ?_
                  refine Cl_of n_54 rfl ?_
                  show Rn _ _ _ _ [some (vR (44 + 4 * ((acs s z) 38 7))), some (vI (z % 4))] [] _ _
                  refine r_ldI_n (m := 1) F_54_0 rfl ?_
                  refine r_stat2 (A := [vI (z % 4)]) (r := []) (n := 1) F_54_1 o_54 il_0_33 (by decide) rfl rfl rfl rfl (lay_le n_46 rfl) ?_
                  refine Cl_of n_46 rfl ?_
                  show Rn _ _ _ _ [some (vI (z % 4))] [] _ _
                  refine r_ldI_n (m := 0) F_46_0 rfl ?_
                  refine r_if (t := 13) F_46_1 rfl (l21 e2 e4 e5 e6 e8 e9 e15 e21) ?_ ?_
                  · intro e22
                    replace e22 : (z % 4) < 0 := e22
                    refine r_iconst F_46_13 ?_
                    refine r_zreturn F_46_14 rt_46 (Or.inl rfl) ?_
                    show Rn _ _ _ _ _ [vI 0] _ _
                    refine r_ifT (t := 16) F_54_4 rfl (by decide) (by show (0 : Int) = 0; decide) ?_
                    refine r_iconst F_54_16 ?_
                    refine r_ireturn F_54_17 rt_54 ?_
                    show Rn _ _ _ _ _ [vI 0] _ _
                    refine r_ireturn F_85_72 rt_85 ?_
                    exact (l22 e2 e4 e5 e6 e8 e9 e15 e21 e22)
                  · intro e23
                    replace e23 : 0 ≤ (z % 4) := (Int.not_lt.mp e23)
                    refine r_ldI_n (m := 0) F_46_4 rfl ?_
                    refine r_iconst F_46_5 ?_
                    refine r_icmp (t := 13) F_46_6 rfl (l21 e2 e4 e5 e6 e8 e9 e15 e21) (by decide) ?_ ?_
                    · intro e24
                      replace e24 : 4 ≤ (z % 4) := e24
                      refine r_iconst F_46_13 ?_
                      refine r_zreturn F_46_14 rt_46 (Or.inl rfl) ?_
                      show Rn _ _ _ _ _ [vI 0] _ _
                      refine r_ifT (t := 16) F_54_4 rfl (by decide) (by show (0 : Int) = 0; decide) ?_
                      refine r_iconst F_54_16 ?_
                      refine r_ireturn F_54_17 rt_54 ?_
                      show Rn _ _ _ _ _ [vI 0] _ _
                      refine r_ireturn F_85_72 rt_85 ?_
                      exact (l23 e2 e4 e5 e6 e8 e9 e15 e21 e23 e24)
                    · intro e25
                      replace e25 : (z % 4) < 4 := (Int.not_le.mp e25)
                      refine r_iconst F_46_9 ?_
                      refine r_goto (t := 14) F_46_10 rfl ?_
                      refine r_zreturn F_46_14 rt_46 (Or.inr rfl) ?_
                      show Rn _ _ _ _ _ [vI 1] _ _
                      refine r_ifF (t := 16) F_54_4 rfl (by decide) (by show ¬ ((1 : Int) = 0); decide) ?_
                      refine r_ldR_n (m := 0) F_54_7 rfl ?_
                      refine r_getR (J := 0) F_54_8 o_54 fl_0_9 (rw_40 ⟨e15, e21⟩).1 (by decide) rfl (gw2 (rw_40 ⟨e15, e21⟩).1).1 (gw2 (rw_40 ⟨e15, e21⟩).1).2 (gw (rw_40 ⟨e15, e21⟩).1).2.2.2.2.2.2.1 ?_
                      refine r_ldI_n (m := 1) F_54_11 rfl ?_
                      refine r_iald (e := ((acs s z) ((44 + 4 * ((acs s z) 38 7)) + 1) (z % 4))) F_54_12 (gw (rw_40 ⟨e15, e21⟩).1).2.2.2.2.1 e23 (lt_ln (gw (rw_40 ⟨e15, e21⟩).1).2.2.2.2.2.1 e25) rfl ?_
                      refine r_goto (t := 17) F_54_13 rfl ?_
                      refine r_ireturn F_54_17 rt_54 ?_
                      show Rn _ _ _ _ _ [vI ((acs s z) ((44 + 4 * ((acs s z) 38 7)) + 1) (z % 4))] _ _
                      refine r_ireturn F_85_72 rt_85 ?_
                      exact (l24 e2 e4 e5 e6 e8 e9 e15 e21 e23 e25)
            · intro e26
              replace e26 : z < 4 := (Int.not_le.mp e26)
              refine r_ldR_n (m := 0) F_57_6 rfl ?_
              refine r_getI (J := 8) (e := ((acs s z) 38 8)) F_57_7 o_57 fl_1_40 ty_38 (by decide) rfl kd_38_8 rfl ?_
              refine r_goto (t := 17) F_57_10 rfl ?_
              refine r_virt2 (A := [vI ((acs s z) 38 8)]) (r := []) (n := 1) F_57_17 o_57 il_1_107 rfl rfl rfl rfl ty_38 vy_58 (lay_le n_58 rfl) ?_
              refine Cl_of n_58 rfl ?_
              show Rn _ _ _ _ [some (vR 38), some (vI ((acs s z) 38 8))] [] _ _
              refine r_ldR_n (m := 0) F_58_0 rfl ?_
              refine r_getR (J := 1) F_58_1 o_58 fl_1_17 ty_38 (by decide) rfl (kd2 kd_38_1 (by decide)) (kd9 kd_38_1 (by decide)) rf_38_1 ?_
              refine r_ldI_n (m := 1) F_58_4 rfl ?_
              refine r_if (t := 18) F_58_5 rfl (l25 e2 e4 e5 e6 e8 e26) ?_ ?_
              · intro e27
                replace e27 : ((acs s z) 38 8) < 0 := e27
                refine r_iconst F_58_18 ?_
                refine r_aald F_58_19 ty_40 (by decide) (by decide) (lt_ln ln_40 (by decide)) rf_40_0 ?_
                refine r_areturn F_58_20 rob_58 ?_
                show Rn _ _ _ _ _ [vR 44] _ _
                refine r_areturn F_57_20 rob_57 ?_
                show Rn _ _ _ _ _ [vR 44] _ _
                refine r_ldI_n (m := 1) F_85_66 rfl ?_
                refine r_iconst F_85_67 ?_
                refine r_irem F_85_68 l1 e2 (by decide) (by decide) ?_
                refine r_virt2 (A := [vI (z % 4)]) (r := []) (n := 1) F_85_69 o_85 il_5_206 rfl rfl rfl rfl ty_44 vy_54 (lay_le n_54 rfl) ?_
                refine Cl_of n_54 rfl ?_
                show Rn _ _ _ _ [some (vR 44), some (vI (z % 4))] [] _ _
                refine r_ldI_n (m := 1) F_54_0 rfl ?_
                refine r_stat2 (A := [vI (z % 4)]) (r := []) (n := 1) F_54_1 o_54 il_0_33 (by decide) rfl rfl rfl rfl (lay_le n_46 rfl) ?_
                refine Cl_of n_46 rfl ?_
                show Rn _ _ _ _ [some (vI (z % 4))] [] _ _
                refine r_ldI_n (m := 0) F_46_0 rfl ?_
                refine r_if (t := 13) F_46_1 rfl (l26 e2 e4 e5 e6 e8 e26 e27) ?_ ?_
                · intro e28
                  replace e28 : (z % 4) < 0 := e28
                  refine r_iconst F_46_13 ?_
                  refine r_zreturn F_46_14 rt_46 (Or.inl rfl) ?_
                  show Rn _ _ _ _ _ [vI 0] _ _
                  refine r_ifT (t := 16) F_54_4 rfl (by decide) (by show (0 : Int) = 0; decide) ?_
                  refine r_iconst F_54_16 ?_
                  refine r_ireturn F_54_17 rt_54 ?_
                  show Rn _ _ _ _ _ [vI 0] _ _
                  refine r_ireturn F_85_72 rt_85 ?_
                  exact (l27 e2 e4 e5 e6 e8 e26 e27 e28)
                · intro e29
                  replace e29 : 0 ≤ (z % 4) := (Int.not_lt.mp e29)
                  refine r_ldI_n (m := 0) F_46_4 rfl ?_
                  refine r_iconst F_46_5 ?_
                  refine r_icmp (t := 13) F_46_6 rfl (l26 e2 e4 e5 e6 e8 e26 e27) (by decide) ?_ ?_
                  · intro e30
                    replace e30 : 4 ≤ (z % 4) := e30
                    refine r_iconst F_46_13 ?_
                    refine r_zreturn F_46_14 rt_46 (Or.inl rfl) ?_
                    show Rn _ _ _ _ _ [vI 0] _ _
                    refine r_ifT (t := 16) F_54_4 rfl (by decide) (by show (0 : Int) = 0; decide) ?_
                    refine r_iconst F_54_16 ?_
                    refine r_ireturn F_54_17 rt_54 ?_
                    show Rn _ _ _ _ _ [vI 0] _ _
                    refine r_ireturn F_85_72 rt_85 ?_
                    exact (l28 e2 e4 e5 e6 e8 e26 e27 e29 e30)
                  · intro e31
                    replace e31 : (z % 4) < 4 := (Int.not_le.mp e31)
                    refine r_iconst F_46_9 ?_
                    refine r_goto (t := 14) F_46_10 rfl ?_
                    refine r_zreturn F_46_14 rt_46 (Or.inr rfl) ?_
                    show Rn _ _ _ _ _ [vI 1] _ _
                    refine r_ifF (t := 16) F_54_4 rfl (by decide) (by show ¬ ((1 : Int) = 0); decide) ?_
                    refine r_ldR_n (m := 0) F_54_7 rfl ?_
                    refine r_getR (J := 0) F_54_8 o_54 fl_0_9 ty_44 (by decide) rfl (kd2 kd_44_0 (by decide)) (kd9 kd_44_0 (by decide)) rf_44_0 ?_
                    refine r_ldI_n (m := 1) F_54_11 rfl ?_
                    refine r_iald (e := ((acs s z) 45 (z % 4))) F_54_12 ty_45 e29 (lt_ln ln_45 e31) rfl ?_
                    refine r_goto (t := 17) F_54_13 rfl ?_
                    refine r_ireturn F_54_17 rt_54 ?_
                    show Rn _ _ _ _ _ [vI ((acs s z) 45 (z % 4))] _ _
                    refine r_ireturn F_85_72 rt_85 ?_
                    exact (l29 e2 e4 e5 e6 e8 e26 e27 e29 e31)
              · intro e32
                replace e32 : 0 ≤ ((acs s z) 38 8) := (Int.not_lt.mp e32)
                refine r_ldI_n (m := 1) F_58_8 rfl ?_
                refine r_bipush F_58_9 bi_6 ?_
                refine r_icmp (t := 18) F_58_11 rfl (l25 e2 e4 e5 e6 e8 e26) (by decide) ?_ ?_
                · intro e33
                  replace e33 : 6 ≤ ((acs s z) 38 8) := e33
                  refine r_iconst F_58_18 ?_
                  refine r_aald F_58_19 ty_40 (by decide) (by decide) (lt_ln ln_40 (by decide)) rf_40_0 ?_
                  refine r_areturn F_58_20 rob_58 ?_
                  show Rn _ _ _ _ _ [vR 44] _ _
                  refine r_areturn F_57_20 rob_57 ?_
                  show Rn _ _ _ _ _ [vR 44] _ _
                  refine r_ldI_n (m := 1) F_85_66 rfl ?_
                  refine r_iconst F_85_67 ?_
                  refine r_irem F_85_68 l1 e2 (by decide) (by decide) ?_
                  refine r_virt2 (A := [vI (z % 4)]) (r := []) (n := 1) F_85_69 o_85 il_5_206 rfl rfl rfl rfl ty_44 vy_54 (lay_le n_54 rfl) ?_
                  refine Cl_of n_54 rfl ?_
                  show Rn _ _ _ _ [some (vR 44), some (vI (z % 4))] [] _ _
                  refine r_ldI_n (m := 1) F_54_0 rfl ?_
                  refine r_stat2 (A := [vI (z % 4)]) (r := []) (n := 1) F_54_1 o_54 il_0_33 (by decide) rfl rfl rfl rfl (lay_le n_46 rfl) ?_
                  refine Cl_of n_46 rfl ?_
                  show Rn _ _ _ _ [some (vI (z % 4))] [] _ _
                  refine r_ldI_n (m := 0) F_46_0 rfl ?_
                  refine r_if (t := 13) F_46_1 rfl (l30 e2 e4 e5 e6 e8 e26 e32 e33) ?_ ?_
                  · intro e34
                    replace e34 : (z % 4) < 0 := e34
                    refine r_iconst F_46_13 ?_
                    refine r_zreturn F_46_14 rt_46 (Or.inl rfl) ?_
                    show Rn _ _ _ _ _ [vI 0] _ _
                    refine r_ifT (t := 16) F_54_4 rfl (by decide) (by show (0 : Int) = 0; decide) ?_
                    refine r_iconst F_54_16 ?_
                    refine r_ireturn F_54_17 rt_54 ?_
                    show Rn _ _ _ _ _ [vI 0] _ _
                    refine r_ireturn F_85_72 rt_85 ?_
                    exact (l31 e2 e4 e5 e6 e8 e26 e32 e33 e34)
                  · intro e35
                    replace e35 : 0 ≤ (z % 4) := (Int.not_lt.mp e35)
                    refine r_ldI_n (m := 0) F_46_4 rfl ?_
                    refine r_iconst F_46_5 ?_
                    refine r_icmp (t := 13) F_46_6 rfl (l30 e2 e4 e5 e6 e8 e26 e32 e33) (by decide) ?_ ?_
                    · intro e36
                      replace e36 : 4 ≤ (z % 4) := e36
                      refine r_iconst F_46_13 ?_
                      refine r_zreturn F_46_14 rt_46 (Or.inl rfl) ?_
                      show Rn _ _ _ _ _ [vI 0] _ _
                      refine r_ifT (t := 16) F_54_4 rfl (by decide) (by show (0 : Int) = 0; decide) ?_
                      refine r_iconst F_54_16 ?_
                      refine r_ireturn F_54_17 rt_54 ?_
                      show Rn _ _ _ _ _ [vI 0] _ _
                      refine r_ireturn F_85_72 rt_85 ?_
                      exact (l32 e2 e4 e5 e6 e8 e26 e32 e33 e35 e36)
                    · intro e37
                      replace e37 : (z % 4) < 4 := (Int.not_le.mp e37)
                      refine r_iconst F_46_9 ?_
                      refine r_goto (t := 14) F_46_10 rfl ?_
                      refine r_zreturn F_46_14 rt_46 (Or.inr rfl) ?_
                      show Rn _ _ _ _ _ [vI 1] _ _
                      refine r_ifF (t := 16) F_54_4 rfl (by decide) (by show ¬ ((1 : Int) = 0); decide) ?_
                      refine r_ldR_n (m := 0) F_54_7 rfl ?_
                      refine r_getR (J := 0) F_54_8 o_54 fl_0_9 ty_44 (by decide) rfl (kd2 kd_44_0 (by decide)) (kd9 kd_44_0 (by decide)) rf_44_0 ?_
                      refine r_ldI_n (m := 1) F_54_11 rfl ?_
                      refine r_iald (e := ((acs s z) 45 (z % 4))) F_54_12 ty_45 e35 (lt_ln ln_45 e37) rfl ?_
                      refine r_goto (t := 17) F_54_13 rfl ?_
                      refine r_ireturn F_54_17 rt_54 ?_
                      show Rn _ _ _ _ _ [vI ((acs s z) 45 (z % 4))] _ _
                      refine r_ireturn F_85_72 rt_85 ?_
                      exact (l33 e2 e4 e5 e6 e8 e26 e32 e33 e35 e37)
                · intro e38
                  replace e38 : ((acs s z) 38 8) < 6 := (Int.not_le.mp e38)
                  refine r_ldI_n (m := 1) F_58_14 rfl ?_
                  refine r_goto (t := 19) F_58_15 rfl ?_
                  refine r_aald F_58_19 ty_40 (by decide) e32 (lt_ln ln_40 e38) (rw_40 ⟨e32, e38⟩).2 ?_
                  refine r_areturn F_58_20 rob_58 ?_
                  show Rn _ _ _ _ _ [vR (44 + 4 * ((acs s z) 38 8))] _ _
                  refine r_areturn F_57_20 rob_57 ?_
                  show Rn _ _ _ _ _ [vR (44 + 4 * ((acs s z) 38 8))] _ _
                  refine r_ldI_n (m := 1) F_85_66 rfl ?_
                  refine r_iconst F_85_67 ?_
                  refine r_irem F_85_68 l1 e2 (by decide) (by decide) ?_
                  refine r_virt2 (A := [vI (z % 4)]) (r := []) (n := 1) F_85_69 o_85 il_5_206 rfl rfl rfl rfl (rw_40 ⟨e32, e38⟩).1 vy_54 (lay_le n_54 rfl) ?_
                  refine Cl_of n_54 rfl ?_
                  show Rn _ _ _ _ [some (vR (44 + 4 * ((acs s z) 38 8))), some (vI (z % 4))] [] _ _
                  refine r_ldI_n (m := 1) F_54_0 rfl ?_
                  refine r_stat2 (A := [vI (z % 4)]) (r := []) (n := 1) F_54_1 o_54 il_0_33 (by decide) rfl rfl rfl rfl (lay_le n_46 rfl) ?_
                  refine Cl_of n_46 rfl ?_
                  show Rn _ _ _ _ [some (vI (z % 4))] [] _ _
                  refine r_ldI_n (m := 0) F_46_0 rfl ?_
                  refine r_if (t := 13) F_46_1 rfl (l34 e2 e4 e5 e6 e8 e26 e32 e38) ?_ ?_
                  · intro e39
                    replace e39 : (z % 4) < 0 := e39
                    refine r_iconst F_46_13 ?_
                    refine r_zreturn F_46_14 rt_46 (Or.inl rfl) ?_
                    show Rn _ _ _ _ _ [vI 0] _ _
                    refine r_ifT (t := 16) F_54_4 rfl (by decide) (by show (0 : Int) = 0; decide) ?_
                    refine r_iconst F_54_16 ?_
                    refine r_ireturn F_54_17 rt_54 ?_
                    show Rn _ _ _ _ _ [vI 0] _ _
                    refine r_ireturn F_85_72 rt_85 ?_
                    exact (l35 e2 e4 e5 e6 e8 e26 e32 e38 e39)
                  · intro e40
                    replace e40 : 0 ≤ (z % 4) := (Int.not_lt.mp e40)
                    refine r_ldI_n (m := 0) F_46_4 rfl ?_
                    refine r_iconst F_46_5 ?_
                    refine r_icmp (t := 13) F_46_6 rfl (l34 e2 e4 e5 e6 e8 e26 e32 e38) (by decide) ?_ ?_
                    · intro e41
                      replace e41 : 4 ≤ (z % 4) := e41
                      refine r_iconst F_46_13 ?_
                      refine r_zreturn F_46_14 rt_46 (Or.inl rfl) ?_
                      show Rn _ _ _ _ _ [vI 0] _ _
                      refine r_ifT (t := 16) F_54_4 rfl (by decide) (by show (0 : Int) = 0; decide) ?_
                      refine r_iconst F_54_16 ?_
                      refine r_ireturn F_54_17 rt_54 ?_
                      show Rn _ _ _ _ _ [vI 0] _ _
                      refine r_ireturn F_85_72 rt_85 ?_
                      exact (l36 e2 e4 e5 e6 e8 e26 e32 e38 e40 e41)
                    · intro e42
                      replace e42 : (z % 4) < 4 := (Int.not_le.mp e42)
                      refine r_iconst F_46_9 ?_
                      refine r_goto (t := 14) F_46_10 rfl ?_
                      refine r_zreturn F_46_14 rt_46 (Or.inr rfl) ?_
                      show Rn _ _ _ _ _ [vI 1] _ _
                      refine r_ifF (t := 16) F_54_4 rfl (by decide) (by show ¬ ((1 : Int) = 0); decide) ?_
                      refine r_ldR_n (m := 0) F_54_7 rfl ?_
                      refine r_getR (J := 0) F_54_8 o_54 fl_0_9 (rw_40 ⟨e32, e38⟩).1 (by decide) rfl (gw2 (rw_40 ⟨e32, e38⟩).1).1 (gw2 (rw_40 ⟨e32, e38⟩).1).2 (gw (rw_40 ⟨e32, e38⟩).1).2.2.2.2.2.2.1 ?_
                      refine r_ldI_n (m := 1) F_54_11 rfl ?_
                      refine r_iald (e := ((acs s z) ((44 + 4 * ((acs s z) 38 8)) + 1) (z % 4))) F_54_12 (gw (rw_40 ⟨e32, e38⟩).1).2.2.2.2.1 e40 (lt_ln (gw (rw_40 ⟨e32, e38⟩).1).2.2.2.2.2.1 e42) rfl ?_
                      refine r_goto (t := 17) F_54_13 rfl ?_
                      refine r_ireturn F_54_17 rt_54 ?_
                      show Rn _ _ _ _ _ [vI ((acs s z) ((44 + 4 * ((acs s z) 38 8)) + 1) (z % 4))] _ _
                      refine r_ireturn F_85_72 rt_85 ?_
                      exact (l37 e2 e4 e5 e6 e8 e26 e32 e38 e40 e42)
        · intro e43
          replace e43 : (s 38 6) ≤ 0 := (Int.not_lt.mp e43)
          refine r_bipush F_85_33 bi__6 ?_
          refine r_ireturn F_85_35 rt_85 ?_
          exact (l38 e2 e4 e5 e43)
      · intro e44
        replace e44 : (csh s z) = 0 := (Classical.not_not.mp e44)
        refine r_bipush F_85_20 bi__4 ?_
        refine r_ireturn F_85_22 rt_85 ?_
        exact (l39 e2 e4 e44)
theorem t_X5_wood {X : m_X} {d : Nat} {s : m_St} {P : Option Value → m_St → Prop}
    (l1 : inR (s 38 3))
    (l2 : (s 38 3) = 0 → P (some (vI (-4))) s)
    (l3 : ¬ (s 38 3) = 0 → inR (s 38 6))
    (l4 : ¬ (s 38 3) = 0 → inR (s 38 4))
    (l5 : ¬ (s 38 3) = 0 → ¬ (s 38 6) = (s 38 4) → inR ((s 38 9) + 1))
    (l6 : ¬ (s 38 3) = 0 → ¬ (s 38 6) = (s 38 4) → 40 < ((s 38 9) + 1) → P (some (vI (-2))) s)
    (l7 : ¬ (s 38 3) = 0 → ¬ (s 38 6) = (s 38 4) → ((s 38 9) + 1) ≤ 40 → 0 ≤ s 38 9)
    (l8 : ¬ (s 38 3) = 0 → ¬ (s 38 6) = (s 38 4) → ((s 38 9) + 1) ≤ 40 → s 38 9 < 40)
    (l9 : ¬ (s 38 3) = 0 → ¬ (s 38 6) = (s 38 4) → ((s 38 9) + 1) ≤ 40 → (8 : Int) < 8 → upk s)
    (l10 : ¬ (s 38 3) = 0 → ¬ (s 38 6) = (s 38 4) → ((s 38 9) + 1) ≤ 40 → ∀ i, 0 ≤ i → i < 6 → gok s (44 + 4 * i))
    (l11 : ¬ (s 38 3) = 0 → ¬ (s 38 6) = (s 38 4) → ((s 38 9) + 1) ≤ 40 → P (some (vI (s 38 6))) (acs s 8))
    (l12 : ¬ (s 38 3) = 0 → (s 38 6) = (s 38 4) → P (some (vI (-4))) s)
    : Cl X (d + 5) 89 [vR 0] s P := by
  refine Cl_of n_89 rfl ?_
  show Rn _ _ _ _ [some (vR 0), none] [] _ _
  refine r_ldR_n (m := 0) F_89_0 rfl ?_
  refine r_getR (J := 4) F_89_1 o_89 fl_5_34 ty_0 (by decide) rfl (kd2 kd_0_4 (by decide)) (kd9 kd_0_4 (by decide)) rf_0_4 ?_
  refine r_virt2 (A := []) (r := []) (n := 0) F_89_4 o_89 il_5_132 rfl rfl rfl rfl ty_38 vy_64 (lay_le n_64 rfl) ?_
  refine Cl_of n_64 rfl ?_
  show Rn _ _ _ _ [some (vR 38)] [] _ _
  refine r_ldR_n (m := 0) F_64_0 rfl ?_
  refine r_getI (J := 3) (e := (s 38 3)) F_64_1 o_64 fl_1_24 ty_38 (by decide) rfl kd_38_3 rfl ?_
  refine r_ireturn F_64_4 rt_64 ?_
  show Rn _ _ _ _ _ [vI (s 38 3)] _ _
  refine r_if (t := 27) F_89_7 rfl l1 ?_ ?_
  · intro e1
    replace e1 : (s 38 3) = 0 := e1
    refine r_bipush F_89_27 bi__4 ?_
    refine r_ireturn F_89_29 rt_89 ?_
    exact (l2 e1)
  · intro e2
    replace e2 : ¬ (s 38 3) = 0 := e2
    refine r_ldR_n (m := 0) F_89_10 rfl ?_
    refine r_getR (J := 4) F_89_11 o_89 fl_5_34 ty_0 (by decide) rfl (kd2 kd_0_4 (by decide)) (kd9 kd_0_4 (by decide)) rf_0_4 ?_
    refine r_virt2 (A := []) (r := []) (n := 0) F_89_14 o_89 il_5_200 rfl rfl rfl rfl ty_38 vy_88 (lay_le n_88 rfl) ?_
    refine Cl_of n_88 rfl ?_
    show Rn _ _ _ _ [some (vR 38)] [] _ _
    refine r_ldR_n (m := 0) F_88_0 rfl ?_
    refine r_getI (J := 6) (e := (s 38 6)) F_88_1 o_88 fl_1_34 ty_38 (by decide) rfl kd_38_6 rfl ?_
    refine r_ireturn F_88_4 rt_88 ?_
    show Rn _ _ _ _ _ [vI (s 38 6)] _ _
    refine r_ldR_n (m := 0) F_89_17 rfl ?_
    refine r_getR (J := 4) F_89_18 o_89 fl_5_34 ty_0 (by decide) rfl (kd2 kd_0_4 (by decide)) (kd9 kd_0_4 (by decide)) rf_0_4 ?_
    refine r_virt2 (A := []) (r := [vI (s 38 6)]) (n := 0) F_89_21 o_89 il_5_209 rfl rfl rfl rfl ty_38 vy_90 (lay_le n_90 rfl) ?_
    refine Cl_of n_90 rfl ?_
    show Rn _ _ _ _ [some (vR 38)] [] _ _
    refine r_ldR_n (m := 0) F_90_0 rfl ?_
    refine r_getI (J := 4) (e := (s 38 4)) F_90_1 o_90 fl_1_28 ty_38 (by decide) rfl kd_38_4 rfl ?_
    refine r_ireturn F_90_4 rt_90 ?_
    show Rn _ _ _ _ _ [vI (s 38 4), vI (s 38 6)] _ _
    refine r_icmp (t := 30) F_89_24 rfl (l3 e2) (l4 e2) ?_ ?_
    · intro e3
      replace e3 : ¬ (s 38 6) = (s 38 4) := e3
      refine r_ldR_n (m := 0) F_89_30 rfl ?_
      refine r_getR (J := 4) F_89_31 o_89 fl_5_34 ty_0 (by decide) rfl (kd2 kd_0_4 (by decide)) (kd9 kd_0_4 (by decide)) rf_0_4 ?_
      refine r_iconst F_89_34 ?_
      refine r_virt2 (A := [vI 1]) (r := []) (n := 1) F_89_35 o_89 il_5_185 rfl rfl rfl rfl ty_38 vy_81 (lay_le n_81 rfl) ?_
      refine Cl_of n_81 rfl ?_
      show Rn _ _ _ _ [some (vR 38), some (vI 1)] [] _ _
      refine r_ldR_n (m := 0) F_81_0 rfl ?_
      refine r_getI (J := 9) (e := (s 38 9)) F_81_1 o_81 fl_1_43 ty_38 (by decide) rfl kd_38_9 rfl ?_
      refine r_ldI_n (m := 1) F_81_4 rfl ?_
      refine r_iadd F_81_5 rfl ?_
      refine r_bipush F_81_6 bi_40 ?_
      refine r_icmp (t := 15) F_81_8 rfl (l5 e2 e3) (by decide) ?_ ?_
      · intro e4
        replace e4 : 40 < ((s 38 9) + 1) := e4
        refine r_iconst F_81_15 ?_
        refine r_zreturn F_81_16 rt_81 (Or.inl rfl) ?_
        show Rn _ _ _ _ _ [vI 0] _ _
        refine r_ifF (t := 44) F_89_38 rfl (by decide) (by show ¬ (¬ (0 : Int) = 0); decide) ?_
        refine r_bipush F_89_41 bi__2 ?_
        refine r_ireturn F_89_43 rt_89 ?_
        exact (l6 e2 e3 e4)
      · intro e5
        replace e5 : ((s 38 9) + 1) ≤ 40 := (Int.not_lt.mp e5)
        refine r_iconst F_81_11 ?_
        refine r_goto (t := 16) F_81_12 rfl ?_
        refine r_zreturn F_81_16 rt_81 (Or.inr rfl) ?_
        show Rn _ _ _ _ _ [vI 1] _ _
        refine r_ifT (t := 44) F_89_38 rfl (by decide) (by show ¬ (1 : Int) = 0; decide) ?_
        refine r_ldR_n (m := 0) F_89_44 rfl ?_
        refine r_getR (J := 4) F_89_45 o_89 fl_5_34 ty_0 (by decide) rfl (kd2 kd_0_4 (by decide)) (kd9 kd_0_4 (by decide)) rf_0_4 ?_
        refine r_virt2 (A := []) (r := []) (n := 0) F_89_48 o_89 il_5_200 rfl rfl rfl rfl ty_38 vy_88 (lay_le n_88 rfl) ?_
        refine Cl_of n_88 rfl ?_
        show Rn _ _ _ _ [some (vR 38)] [] _ _
        refine r_ldR_n (m := 0) F_88_0 rfl ?_
        refine r_getI (J := 6) (e := (s 38 6)) F_88_1 o_88 fl_1_34 ty_38 (by decide) rfl kd_38_6 rfl ?_
        refine r_ireturn F_88_4 rt_88 ?_
        show Rn _ _ _ _ _ [vI (s 38 6)] _ _
        refine r_stI_n (m := 1) (L' := [some (vR 0), some (vI (s 38 6))]) F_89_51 rfl rfl ?_
        refine r_ldR_n (m := 0) F_89_52 rfl ?_
        refine r_getR (J := 4) F_89_53 o_89 fl_5_34 ty_0 (by decide) rfl (kd2 kd_0_4 (by decide)) (kd9 kd_0_4 (by decide)) rf_0_4 ?_
        refine r_bipush F_89_56 bi_8 ?_
        refine r_virt2 (A := [vI 8]) (r := []) (n := 1) F_89_58 o_89 il_5_188 rfl rfl rfl rfl ty_38 vy_82 (lay_le n_82 rfl) ?_
        refine sp_act (l7 e2 e3 e5) (l8 e2 e3 e5) (by decide) (by decide) (l9 e2 e3 e5) (l10 e2 e3 e5) ?_
        show Rn _ _ _ _ _ [] _ _
        refine r_ldI_n (m := 1) F_89_61 rfl ?_
        refine r_ireturn F_89_62 rt_89 ?_
        exact (l11 e2 e3 e5)
    · intro e6
      replace e6 : (s 38 6) = (s 38 4) := (Classical.not_not.mp e6)
      refine r_bipush F_89_27 bi__4 ?_
      refine r_ireturn F_89_29 rt_89 ?_
      exact (l12 e2 e6)
theorem t_X5_both {X : m_X} {d : Nat} {s : m_St} {P : Option Value → m_St → Prop}
    (l1 : inR (s 38 7))
    (l2 : (s 38 7) = (-1) → P (some (vI (-4))) s)
    (l3 : ¬ (s 38 7) = (-1) → upk s)
    (l4 : ¬ (s 38 7) = (-1) → P (some (vI (iAnd ((tka s) 67 2) ((tka s) 69 2)))) (m_upd (tka s) 0 9 (iXor ((tka s) 67 2) ((tka s) 69 2))))
    : Cl X (d + 6) 97 [vR 0] s P := by
  refine Cl_of n_97 rfl ?_
  show Rn _ _ _ _ [some (vR 0)] [] _ _
  refine r_ldR_n (m := 0) F_97_0 rfl ?_
  refine r_getR (J := 4) F_97_1 o_97 fl_5_34 ty_0 (by decide) rfl (kd2 kd_0_4 (by decide)) (kd9 kd_0_4 (by decide)) rf_0_4 ?_
  refine r_virt2 (A := []) (r := []) (n := 0) F_97_4 o_97 il_5_225 rfl rfl rfl rfl ty_38 vy_84 (lay_le n_84 rfl) ?_
  refine Cl_of n_84 rfl ?_
  show Rn _ _ _ _ [some (vR 38)] [] _ _
  refine r_ldR_n (m := 0) F_84_0 rfl ?_
  refine r_getI (J := 7) (e := (s 38 7)) F_84_1 o_84 fl_1_37 ty_38 (by decide) rfl kd_38_7 rfl ?_
  refine r_iconst F_84_4 ?_
  refine r_icmp (t := 12) F_84_5 rfl l1 (by decide) ?_ ?_
  · intro e1
    replace e1 : (s 38 7) = (-1) := e1
    refine r_iconst F_84_12 ?_
    refine r_zreturn F_84_13 rt_84 (Or.inl rfl) ?_
    show Rn _ _ _ _ _ [vI 0] _ _
    refine r_ifF (t := 13) F_97_7 rfl (by decide) (by show ¬ (¬ (0 : Int) = 0); decide) ?_
    refine r_bipush F_97_10 bi__4 ?_
    refine r_ireturn F_97_12 rt_97 ?_
    exact (l2 e1)
  · intro e2
    replace e2 : ¬ (s 38 7) = (-1) := e2
    refine r_iconst F_84_8 ?_
    refine r_goto (t := 13) F_84_9 rfl ?_
    refine r_zreturn F_84_13 rt_84 (Or.inr rfl) ?_
    show Rn _ _ _ _ _ [vI 1] _ _
    refine r_ifT (t := 13) F_97_7 rfl (by decide) (by show ¬ (1 : Int) = 0; decide) ?_
    refine r_ldR_n (m := 0) F_97_13 rfl ?_
    refine r_virt2 (A := []) (r := []) (n := 0) F_97_14 o_97 il_5_229 rfl rfl rfl rfl ty_0 vy_98 (lay_le n_98 rfl) ?_
    refine sp_takeAside (l3 e2) ?_
    show Rn _ _ _ _ _ [] _ _
    refine r_ldR_n (m := 0) F_97_17 rfl ?_
    refine r_ldR_n (m := 0) F_97_18 rfl ?_
    refine r_getR (J := 5) F_97_19 o_97 fl_5_41 ty_0 (by decide) rfl (kd2 kd_0_5 (by decide)) (kd9 kd_0_5 (by decide)) rf_0_5 ?_
    refine r_virt2 (A := []) (r := [vR 0]) (n := 0) F_97_22 o_97 il_5_232 rfl rfl rfl rfl ty_66 vy_102 (lay_le n_102 rfl) ?_
    refine Cl_of n_102 rfl ?_
    show Rn _ _ _ _ [some (vR 66)] [] _ _
    refine r_ldR_n (m := 0) F_102_0 rfl ?_
    refine r_getR (J := 0) F_102_1 o_102 fl_4_12 ty_66 (by decide) rfl (kd2 kd_66_0 (by decide)) (kd9 kd_66_0 (by decide)) rf_66_0 ?_
    refine r_virt2 (A := []) (r := []) (n := 0) F_102_4 o_102 il_4_67 rfl rfl rfl rfl ty_67 vy_68 (lay_le n_68 rfl) ?_
    refine Cl_of n_68 rfl ?_
    show Rn _ _ _ _ [some (vR 67)] [] _ _
    refine r_ldR_n (m := 0) F_68_0 rfl ?_
    refine r_getI (J := 2) (e := ((tka s) 67 2)) F_68_1 o_68 fl_0_19 ty_67 (by decide) rfl kd_67_2 rfl ?_
    refine r_ireturn F_68_4 rt_68 ?_
    show Rn _ _ _ _ _ [vI ((tka s) 67 2)] _ _
    refine r_ldR_n (m := 0) F_102_7 rfl ?_
    refine r_getR (J := 1) F_102_8 o_102 fl_4_18 ty_66 (by decide) rfl (kd2 kd_66_1 (by decide)) (kd9 kd_66_1 (by decide)) rf_66_1 ?_
    refine r_virt2 (A := []) (r := [vI ((tka s) 67 2)]) (n := 0) F_102_11 o_102 il_4_67 rfl rfl rfl rfl ty_69 vy_68 (lay_le n_68 rfl) ?_
    refine Cl_of n_68 rfl ?_
    show Rn _ _ _ _ [some (vR 69)] [] _ _
    refine r_ldR_n (m := 0) F_68_0 rfl ?_
    refine r_getI (J := 2) (e := ((tka s) 69 2)) F_68_1 o_68 fl_0_19 ty_69 (by decide) rfl kd_69_2 rfl ?_
    refine r_ireturn F_68_4 rt_68 ?_
    show Rn _ _ _ _ _ [vI ((tka s) 69 2), vI ((tka s) 67 2)] _ _
    refine r_ixor F_102_14 rfl ?_
    refine r_ireturn F_102_15 rt_102 ?_
    show Rn _ _ _ _ _ [vI (iXor ((tka s) 67 2) ((tka s) 69 2)), vR 0] _ _
    refine r_virt2 (A := [vI (iXor ((tka s) 67 2) ((tka s) 69 2))]) (r := []) (n := 1) F_97_25 o_97 il_5_93 rfl rfl rfl rfl ty_0 vy_20 (lay_le n_20 rfl) ?_
    refine Cl_of n_20 rfl ?_
    show Rn _ _ _ _ [some (vR 0), some (vI (iXor ((tka s) 67 2) ((tka s) 69 2)))] [] _ _
    refine r_ldR_n (m := 0) F_20_0 rfl ?_
    refine r_ldI_n (m := 1) F_20_1 rfl ?_
    refine r_putI (J := 9) F_20_2 o_20 fl_5_60 ty_0 (by decide) rfl kd_0_9 pf_5_9 ?_
    refine r_iconst F_20_5 ?_
    refine r_ireturn F_20_6 rt_20 ?_
    show Rn _ _ _ _ _ [vI 1] _ _
    refine r_popI F_97_28 ?_
    refine r_ldR_n (m := 0) F_97_29 rfl ?_
    refine r_getR (J := 5) F_97_30 o_97 fl_5_41 ty_0 (by decide) rfl (kd2 kd_0_5 (by decide)) (kd9 kd_0_5 (by decide)) rf_0_5 ?_
    refine r_virt2 (A := []) (r := []) (n := 0) F_97_33 o_97 il_5_235 rfl rfl rfl rfl ty_66 vy_103 (lay_le n_103 rfl) ?_
    refine Cl_of n_103 rfl ?_
    show Rn _ _ _ _ [some (vR 66)] [] _ _
    refine r_ldR_n (m := 0) F_103_0 rfl ?_
    refine r_getR (J := 0) F_103_1 o_103 fl_4_12 ty_66 (by decide) rfl (kd2 kd_66_0 (by decide)) (kd9 kd_66_0 (by decide)) rf_66_0 ?_
    refine r_virt2 (A := []) (r := []) (n := 0) F_103_4 o_103 il_4_67 rfl rfl rfl rfl ty_67 vy_68 (lay_le n_68 rfl) ?_
    refine Cl_of n_68 rfl ?_
    show Rn _ _ _ _ [some (vR 67)] [] _ _
    refine r_ldR_n (m := 0) F_68_0 rfl ?_
    refine r_getI (J := 2) (e := ((tka s) 67 2)) F_68_1 o_68 fl_0_19 ty_67 (by decide) rfl kd_67_2 (upd_nc (by decide)) ?_
    refine r_ireturn F_68_4 rt_68 ?_
    show Rn _ _ _ _ _ [vI ((tka s) 67 2)] _ _
    refine r_ldR_n (m := 0) F_103_7 rfl ?_
    refine r_getR (J := 1) F_103_8 o_103 fl_4_18 ty_66 (by decide) rfl (kd2 kd_66_1 (by decide)) (kd9 kd_66_1 (by decide)) rf_66_1 ?_
    refine r_virt2 (A := []) (r := [vI ((tka s) 67 2)]) (n := 0) F_103_11 o_103 il_4_67 rfl rfl rfl rfl ty_69 vy_68 (lay_le n_68 rfl) ?_
    refine Cl_of n_68 rfl ?_
    show Rn _ _ _ _ [some (vR 69)] [] _ _
    refine r_ldR_n (m := 0) F_68_0 rfl ?_
    refine r_getI (J := 2) (e := ((tka s) 69 2)) F_68_1 o_68 fl_0_19 ty_69 (by decide) rfl kd_69_2 (upd_nc (by decide)) ?_
    refine r_ireturn F_68_4 rt_68 ?_
    show Rn _ _ _ _ _ [vI ((tka s) 69 2), vI ((tka s) 67 2)] _ _
    refine r_iand F_103_14 rfl ?_
    refine r_ireturn F_103_15 rt_103 ?_
    show Rn _ _ _ _ _ [vI (iAnd ((tka s) 67 2) ((tka s) 69 2))] _ _
    refine r_ireturn F_97_36 rt_97 ?_
    exact (l4 e2)
