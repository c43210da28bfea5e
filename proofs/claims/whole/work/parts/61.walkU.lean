/-! walks: the calls of the class, chances, counts -/
theorem n_135 : m_n 135 = 5 := by decide +kernel
theorem F_135_0 : F 135 0 (.iload_n 1) 1 := ⟨1, by decide +kernel, rfl, rfl⟩
theorem F_135_1 : F 135 1 (.invokestatic 175) 4 := ⟨3, by decide +kernel, rfl, rfl⟩
theorem o_135 : m_o 135 = 5 := by decide +kernel
theorem F_135_4 : F 135 4 (.ifCond .eq 24) 7 := ⟨3, by decide +kernel, rfl, rfl⟩
theorem F_135_28 : F 135 28 (.iconst (-1)) 29 := ⟨1, by decide +kernel, rfl, rfl⟩
theorem F_135_29 : F 135 29 (.ireturn) 30 := ⟨1, by decide +kernel, rfl, rfl⟩
theorem rt_135 : m_r 135 = (some .int) := by decide +kernel
theorem F_135_7 : F 135 7 (.aload_n 0) 8 := ⟨1, by decide +kernel, rfl, rfl⟩
theorem F_135_8 : F 135 8 (.getfield 14) 11 := ⟨3, by decide +kernel, rfl, rfl⟩
theorem F_135_11 : F 135 11 (.iload_n 2) 12 := ⟨1, by decide +kernel, rfl, rfl⟩
theorem F_135_12 : F 135 12 (.invokevirtual 70) 15 := ⟨3, by decide +kernel, rfl, rfl⟩
theorem F_135_15 : F 135 15 (.ifCond .eq 13) 18 := ⟨3, by decide +kernel, rfl, rfl⟩
theorem F_135_18 : F 135 18 (.iload_n 3) 19 := ⟨1, by decide +kernel, rfl, rfl⟩
theorem F_135_19 : F 135 19 (.ifCond .lt 9) 22 := ⟨3, by decide +kernel, rfl, rfl⟩
theorem F_135_22 : F 135 22 (.iload_n 3) 23 := ⟨1, by decide +kernel, rfl, rfl⟩
theorem F_135_23 : F 135 23 (.bipush 12) 25 := ⟨2, by decide +kernel, rfl, rfl⟩
theorem F_135_25 : F 135 25 (.if_icmp .le 5) 28 := ⟨3, by decide +kernel, rfl, rfl⟩
theorem F_135_30 : F 135 30 (.aload_n 0) 31 := ⟨1, by decide +kernel, rfl, rfl⟩
theorem F_135_31 : F 135 31 (.iload_n 2) 32 := ⟨1, by decide +kernel, rfl, rfl⟩
theorem F_135_32 : F 135 32 (.bipush 6) 34 := ⟨2, by decide +kernel, rfl, rfl⟩
theorem F_135_34 : F 135 34 (.invokevirtual 239) 37 := ⟨3, by decide +kernel, rfl, rfl⟩
theorem F_135_37 : F 135 37 (.istore 4) 39 := ⟨2, by decide +kernel, rfl, rfl⟩
theorem F_135_39 : F 135 39 (.iload 4) 41 := ⟨2, by decide +kernel, rfl, rfl⟩
theorem F_135_41 : F 135 41 (.ifCond .eq 6) 44 := ⟨3, by decide +kernel, rfl, rfl⟩
theorem F_135_47 : F 135 47 (.aload_n 0) 48 := ⟨1, by decide +kernel, rfl, rfl⟩
theorem F_135_48 : F 135 48 (.invokevirtual 229) 51 := ⟨3, by decide +kernel, rfl, rfl⟩
theorem F_135_51 : F 135 51 (.aload_n 0) 52 := ⟨1, by decide +kernel, rfl, rfl⟩
theorem F_135_52 : F 135 52 (.getfield 41) 55 := ⟨3, by decide +kernel, rfl, rfl⟩
theorem F_135_55 : F 135 55 (.aload_n 0) 56 := ⟨1, by decide +kernel, rfl, rfl⟩
theorem F_135_56 : F 135 56 (.getfield 14) 59 := ⟨3, by decide +kernel, rfl, rfl⟩
theorem F_135_59 : F 135 59 (.iload_n 2) 60 := ⟨1, by decide +kernel, rfl, rfl⟩
theorem F_135_60 : F 135 60 (.iload_n 3) 61 := ⟨1, by decide +kernel, rfl, rfl⟩
theorem F_135_61 : F 135 61 (.invokevirtual 276) 64 := ⟨3, by decide +kernel, rfl, rfl⟩
theorem il_5_276 : ilq 5 276 0 136 3 = true := by decide +kernel
theorem vy_136 : (m_cls 4).1 = (m_y 136).cls ∧ 4 < m_cl.length := by decide +kernel
theorem F_135_64 : F 135 64 (.aload_n 0) 65 := ⟨1, by decide +kernel, rfl, rfl⟩
theorem F_135_65 : F 135 65 (.aload_n 0) 66 := ⟨1, by decide +kernel, rfl, rfl⟩
theorem F_135_66 : F 135 66 (.getfield 41) 69 := ⟨3, by decide +kernel, rfl, rfl⟩
theorem F_135_69 : F 135 69 (.iload_n 1) 70 := ⟨1, by decide +kernel, rfl, rfl⟩
theorem F_135_70 : F 135 70 (.invokevirtual 280) 73 := ⟨3, by decide +kernel, rfl, rfl⟩
theorem il_5_280 : ilq 5 280 0 138 1 = true := by decide +kernel
theorem vy_138 : (m_cls 4).1 = (m_y 138).cls ∧ 4 < m_cl.length := by decide +kernel
theorem F_135_73 : F 135 73 (.aload_n 0) 74 := ⟨1, by decide +kernel, rfl, rfl⟩
theorem F_135_74 : F 135 74 (.getfield 41) 77 := ⟨3, by decide +kernel, rfl, rfl⟩
theorem F_135_77 : F 135 77 (.invokevirtual 283) 80 := ⟨3, by decide +kernel, rfl, rfl⟩
theorem il_5_283 : ilq 5 283 0 139 0 = true := by decide +kernel
theorem vy_139 : (m_cls 4).1 = (m_y 139).cls ∧ 4 < m_cl.length := by decide +kernel
theorem F_135_80 : F 135 80 (.invokevirtual 287) 83 := ⟨3, by decide +kernel, rfl, rfl⟩
theorem il_5_287 : ilq 5 287 0 140 2 = true := by decide +kernel
theorem vy_140 : (m_cls 5).1 = (m_y 140).cls ∧ 5 < m_cl.length := by decide +kernel
theorem n_140 : m_n 140 = 7 := by decide +kernel
theorem F_140_0 : F 140 0 (.lload_n 1) 1 := ⟨1, by decide +kernel, rfl, rfl⟩
theorem F_140_1 : F 140 1 (.lload_n 3) 2 := ⟨1, by decide +kernel, rfl, rfl⟩
theorem F_140_2 : F 140 2 (.invokestatic 323) 5 := ⟨3, by decide +kernel, rfl, rfl⟩
theorem o_140 : m_o 140 = 5 := by decide +kernel
theorem il_5_323 : ilq 5 323 1 141 2 = true := by decide +kernel
theorem F_140_5 : F 140 5 (.lstore 5) 7 := ⟨2, by decide +kernel, rfl, rfl⟩
theorem F_140_7 : F 140 7 (.lload 5) 9 := ⟨2, by decide +kernel, rfl, rfl⟩
theorem F_140_9 : F 140 9 (.lconst 0) 10 := ⟨1, by decide +kernel, rfl, rfl⟩
theorem F_140_10 : F 140 10 (.lcmp) 11 := ⟨1, by decide +kernel, rfl, rfl⟩
theorem F_140_11 : F 140 11 (.ifCond .gt 5) 14 := ⟨3, by decide +kernel, rfl, rfl⟩
theorem F_140_16 : F 140 16 (.aload_n 0) 17 := ⟨1, by decide +kernel, rfl, rfl⟩
theorem F_140_17 : F 140 17 (.lload_n 1) 18 := ⟨1, by decide +kernel, rfl, rfl⟩
theorem F_140_18 : F 140 18 (.lload 5) 20 := ⟨2, by decide +kernel, rfl, rfl⟩
theorem F_140_20 : F 140 20 (.ldiv) 21 := ⟨1, by decide +kernel, rfl, rfl⟩
theorem F_140_21 : F 140 21 (.putfield 63) 24 := ⟨3, by decide +kernel, rfl, rfl⟩
theorem F_140_24 : F 140 24 (.aload_n 0) 25 := ⟨1, by decide +kernel, rfl, rfl⟩
theorem F_140_25 : F 140 25 (.lload_n 3) 26 := ⟨1, by decide +kernel, rfl, rfl⟩
theorem F_140_26 : F 140 26 (.lload 5) 28 := ⟨2, by decide +kernel, rfl, rfl⟩
theorem F_140_28 : F 140 28 (.ldiv) 29 := ⟨1, by decide +kernel, rfl, rfl⟩
theorem F_140_29 : F 140 29 (.putfield 67) 32 := ⟨3, by decide +kernel, rfl, rfl⟩
theorem F_140_32 : F 140 32 (.iconst 1) 33 := ⟨1, by decide +kernel, rfl, rfl⟩
theorem F_140_33 : F 140 33 (.ireturn) 34 := ⟨1, by decide +kernel, rfl, rfl⟩
theorem rt_140 : m_r 140 = (some .int) := by decide +kernel
theorem F_135_83 : F 135 83 (.ireturn) 84 := ⟨1, by decide +kernel, rfl, rfl⟩
theorem F_140_14 : F 140 14 (.iconst 1) 15 := ⟨1, by decide +kernel, rfl, rfl⟩
theorem F_140_15 : F 140 15 (.ireturn) 16 := ⟨1, by decide +kernel, rfl, rfl⟩
theorem F_135_44 : F 135 44 (.iload 4) 46 := ⟨2, by decide +kernel, rfl, rfl⟩
theorem F_135_46 : F 135 46 (.ireturn) 47 := ⟨1, by decide +kernel, rfl, rfl⟩
theorem n_142 : m_n 142 = 7 := by decide +kernel
theorem F_142_0 : F 142 0 (.aload_n 0) 1 := ⟨1, by decide +kernel, rfl, rfl⟩
theorem F_142_1 : F 142 1 (.getfield 14) 4 := ⟨3, by decide +kernel, rfl, rfl⟩
theorem o_142 : m_o 142 = 5 := by decide +kernel
theorem F_142_4 : F 142 4 (.iload_n 1) 5 := ⟨1, by decide +kernel, rfl, rfl⟩
theorem F_142_5 : F 142 5 (.invokevirtual 70) 8 := ⟨3, by decide +kernel, rfl, rfl⟩
theorem F_142_8 : F 142 8 (.ifCond .eq 13) 11 := ⟨3, by decide +kernel, rfl, rfl⟩
theorem F_142_21 : F 142 21 (.iconst (-1)) 22 := ⟨1, by decide +kernel, rfl, rfl⟩
theorem F_142_22 : F 142 22 (.ireturn) 23 := ⟨1, by decide +kernel, rfl, rfl⟩
theorem rt_142 : m_r 142 = (some .int) := by decide +kernel
theorem F_142_11 : F 142 11 (.iload_n 2) 12 := ⟨1, by decide +kernel, rfl, rfl⟩
theorem F_142_12 : F 142 12 (.ifCond .lt 9) 15 := ⟨3, by decide +kernel, rfl, rfl⟩
theorem F_142_15 : F 142 15 (.iload_n 2) 16 := ⟨1, by decide +kernel, rfl, rfl⟩
theorem F_142_16 : F 142 16 (.bipush 12) 18 := ⟨2, by decide +kernel, rfl, rfl⟩
theorem F_142_18 : F 142 18 (.if_icmp .le 5) 21 := ⟨3, by decide +kernel, rfl, rfl⟩
theorem F_142_23 : F 142 23 (.aload_n 0) 24 := ⟨1, by decide +kernel, rfl, rfl⟩
theorem F_142_24 : F 142 24 (.iload_n 1) 25 := ⟨1, by decide +kernel, rfl, rfl⟩
theorem F_142_25 : F 142 25 (.bipush 6) 27 := ⟨2, by decide +kernel, rfl, rfl⟩
theorem F_142_27 : F 142 27 (.invokevirtual 239) 30 := ⟨3, by decide +kernel, rfl, rfl⟩
theorem F_142_30 : F 142 30 (.istore_n 3) 31 := ⟨1, by decide +kernel, rfl, rfl⟩
theorem F_142_31 : F 142 31 (.iload_n 3) 32 := ⟨1, by decide +kernel, rfl, rfl⟩
theorem F_142_32 : F 142 32 (.ifCond .eq 5) 35 := ⟨3, by decide +kernel, rfl, rfl⟩
theorem F_142_37 : F 142 37 (.aload_n 0) 38 := ⟨1, by decide +kernel, rfl, rfl⟩
theorem F_142_38 : F 142 38 (.invokevirtual 229) 41 := ⟨3, by decide +kernel, rfl, rfl⟩
theorem F_142_41 : F 142 41 (.aload_n 0) 42 := ⟨1, by decide +kernel, rfl, rfl⟩
theorem F_142_42 : F 142 42 (.getfield 41) 45 := ⟨3, by decide +kernel, rfl, rfl⟩
theorem F_142_45 : F 142 45 (.aload_n 0) 46 := ⟨1, by decide +kernel, rfl, rfl⟩
theorem F_142_46 : F 142 46 (.getfield 14) 49 := ⟨3, by decide +kernel, rfl, rfl⟩
theorem F_142_49 : F 142 49 (.iload_n 1) 50 := ⟨1, by decide +kernel, rfl, rfl⟩
theorem F_142_50 : F 142 50 (.iload_n 2) 51 := ⟨1, by decide +kernel, rfl, rfl⟩
theorem F_142_51 : F 142 51 (.invokevirtual 276) 54 := ⟨3, by decide +kernel, rfl, rfl⟩
theorem F_142_54 : F 142 54 (.lconst 0) 55 := ⟨1, by decide +kernel, rfl, rfl⟩
theorem F_142_55 : F 142 55 (.lstore 4) 57 := ⟨2, by decide +kernel, rfl, rfl⟩
theorem F_142_57 : F 142 57 (.iconst 0) 58 := ⟨1, by decide +kernel, rfl, rfl⟩
theorem F_142_58 : F 142 58 (.istore 6) 60 := ⟨2, by decide +kernel, rfl, rfl⟩
theorem F_142_60 : F 142 60 (.iload 6) 62 := ⟨2, by decide +kernel, rfl, rfl⟩
theorem F_142_62 : F 142 62 (.iconst 4) 63 := ⟨1, by decide +kernel, rfl, rfl⟩
theorem F_142_63 : F 142 63 (.if_icmp .ge 23) 66 := ⟨3, by decide +kernel, rfl, rfl⟩
theorem F_142_66 : F 142 66 (.lload 4) 68 := ⟨2, by decide +kernel, rfl, rfl⟩
theorem F_142_68 : F 142 68 (.aload_n 0) 69 := ⟨1, by decide +kernel, rfl, rfl⟩
theorem F_142_69 : F 142 69 (.getfield 41) 72 := ⟨3, by decide +kernel, rfl, rfl⟩
theorem F_142_72 : F 142 72 (.iload 6) 74 := ⟨2, by decide +kernel, rfl, rfl⟩
theorem F_142_74 : F 142 74 (.invokevirtual 280) 77 := ⟨3, by decide +kernel, rfl, rfl⟩
theorem F_142_77 : F 142 77 (.ladd) 78 := ⟨1, by decide +kernel, rfl, rfl⟩
theorem F_142_78 : F 142 78 (.lstore 4) 80 := ⟨2, by decide +kernel, rfl, rfl⟩
theorem F_142_80 : F 142 80 (.iinc 6 1) 83 := ⟨3, by decide +kernel, rfl, rfl⟩
theorem F_142_83 : F 142 83 (.goto (-23)) 86 := ⟨3, by decide +kernel, rfl, rfl⟩
theorem F_142_86 : F 142 86 (.aload_n 0) 87 := ⟨1, by decide +kernel, rfl, rfl⟩
theorem F_142_87 : F 142 87 (.lload 4) 89 := ⟨2, by decide +kernel, rfl, rfl⟩
theorem F_142_89 : F 142 89 (.aload_n 0) 90 := ⟨1, by decide +kernel, rfl, rfl⟩
theorem F_142_90 : F 142 90 (.getfield 41) 93 := ⟨3, by decide +kernel, rfl, rfl⟩
theorem F_142_93 : F 142 93 (.invokevirtual 283) 96 := ⟨3, by decide +kernel, rfl, rfl⟩
theorem F_142_96 : F 142 96 (.invokevirtual 287) 99 := ⟨3, by decide +kernel, rfl, rfl⟩
theorem F_142_99 : F 142 99 (.ireturn) 100 := ⟨1, by decide +kernel, rfl, rfl⟩
theorem F_142_35 : F 142 35 (.iload_n 3) 36 := ⟨1, by decide +kernel, rfl, rfl⟩
theorem F_142_36 : F 142 36 (.ireturn) 37 := ⟨1, by decide +kernel, rfl, rfl⟩
theorem n_143 : m_n 143 = 7 := by decide +kernel
theorem F_143_0 : F 143 0 (.iload_n 1) 1 := ⟨1, by decide +kernel, rfl, rfl⟩
theorem F_143_1 : F 143 1 (.iconst 1) 2 := ⟨1, by decide +kernel, rfl, rfl⟩
theorem F_143_2 : F 143 2 (.if_icmp .lt 23) 5 := ⟨3, by decide +kernel, rfl, rfl⟩
theorem F_143_25 : F 143 25 (.iconst (-1)) 26 := ⟨1, by decide +kernel, rfl, rfl⟩
theorem F_143_26 : F 143 26 (.ireturn) 27 := ⟨1, by decide +kernel, rfl, rfl⟩
theorem rt_143 : m_r 143 = (some .int) := by decide +kernel
theorem F_143_5 : F 143 5 (.iload_n 1) 6 := ⟨1, by decide +kernel, rfl, rfl⟩
theorem F_143_6 : F 143 6 (.bipush 20) 8 := ⟨2, by decide +kernel, rfl, rfl⟩
theorem F_143_8 : F 143 8 (.if_icmp .gt 17) 11 := ⟨3, by decide +kernel, rfl, rfl⟩
theorem F_143_11 : F 143 11 (.iload_n 2) 12 := ⟨1, by decide +kernel, rfl, rfl⟩
theorem F_143_12 : F 143 12 (.iconst 1) 13 := ⟨1, by decide +kernel, rfl, rfl⟩
theorem F_143_13 : F 143 13 (.if_icmp .lt 12) 16 := ⟨3, by decide +kernel, rfl, rfl⟩
theorem F_143_16 : F 143 16 (.iload_n 2) 17 := ⟨1, by decide +kernel, rfl, rfl⟩
theorem F_143_17 : F 143 17 (.i2l) 18 := ⟨1, by decide +kernel, rfl, rfl⟩
theorem F_143_18 : F 143 18 (.ldc2_w 291) 21 := ⟨3, by decide +kernel, rfl, rfl⟩
theorem kj_5_291 : m_k64.lookup (5, 291) = some (2147483647, 4079) := by decide +kernel
theorem oj_2147483647 : (2147483647 : Int64) = Int64.ofInt 2147483647 := by decide +kernel
theorem o_143 : m_o 143 = 5 := by decide +kernel
theorem F_143_21 : F 143 21 (.lcmp) 22 := ⟨1, by decide +kernel, rfl, rfl⟩
theorem F_143_22 : F 143 22 (.ifCond .lt 5) 25 := ⟨3, by decide +kernel, rfl, rfl⟩
theorem F_143_27 : F 143 27 (.aload_n 0) 28 := ⟨1, by decide +kernel, rfl, rfl⟩
theorem F_143_28 : F 143 28 (.getfield 34) 31 := ⟨3, by decide +kernel, rfl, rfl⟩
theorem F_143_31 : F 143 31 (.invokevirtual 225) 34 := ⟨3, by decide +kernel, rfl, rfl⟩
theorem F_143_34 : F 143 34 (.ifCond .ne 6) 37 := ⟨3, by decide +kernel, rfl, rfl⟩
theorem F_143_37 : F 143 37 (.bipush (-4)) 39 := ⟨2, by decide +kernel, rfl, rfl⟩
theorem F_143_39 : F 143 39 (.ireturn) 40 := ⟨1, by decide +kernel, rfl, rfl⟩
theorem F_143_40 : F 143 40 (.aload_n 0) 41 := ⟨1, by decide +kernel, rfl, rfl⟩
theorem F_143_41 : F 143 41 (.getfield 34) 44 := ⟨3, by decide +kernel, rfl, rfl⟩
theorem F_143_44 : F 143 44 (.iload_n 1) 45 := ⟨1, by decide +kernel, rfl, rfl⟩
theorem F_143_45 : F 143 45 (.invokevirtual 185) 48 := ⟨3, by decide +kernel, rfl, rfl⟩
theorem F_143_48 : F 143 48 (.ifCond .ne 6) 51 := ⟨3, by decide +kernel, rfl, rfl⟩
theorem F_143_51 : F 143 51 (.bipush (-2)) 53 := ⟨2, by decide +kernel, rfl, rfl⟩
theorem F_143_53 : F 143 53 (.ireturn) 54 := ⟨1, by decide +kernel, rfl, rfl⟩
theorem F_143_54 : F 143 54 (.iload_n 2) 55 := ⟨1, by decide +kernel, rfl, rfl⟩
theorem F_143_55 : F 143 55 (.i2l) 56 := ⟨1, by decide +kernel, rfl, rfl⟩
theorem F_143_56 : F 143 56 (.lstore_n 3) 57 := ⟨1, by decide +kernel, rfl, rfl⟩
theorem F_143_57 : F 143 57 (.iconst 0) 58 := ⟨1, by decide +kernel, rfl, rfl⟩
theorem F_143_58 : F 143 58 (.istore 5) 60 := ⟨2, by decide +kernel, rfl, rfl⟩
theorem F_143_60 : F 143 60 (.iload 5) 62 := ⟨2, by decide +kernel, rfl, rfl⟩
theorem F_143_62 : F 143 62 (.iload_n 1) 63 := ⟨1, by decide +kernel, rfl, rfl⟩
theorem F_143_63 : F 143 63 (.if_icmp .ge 67) 66 := ⟨3, by decide +kernel, rfl, rfl⟩
theorem F_143_130 : F 143 130 (.aload_n 0) 131 := ⟨1, by decide +kernel, rfl, rfl⟩
theorem F_143_131 : F 143 131 (.getfield 34) 134 := ⟨3, by decide +kernel, rfl, rfl⟩
theorem F_143_134 : F 143 134 (.invokevirtual 191) 137 := ⟨3, by decide +kernel, rfl, rfl⟩
theorem F_143_137 : F 143 137 (.ireturn) 138 := ⟨1, by decide +kernel, rfl, rfl⟩
theorem F_143_66 : F 143 66 (.lload_n 3) 67 := ⟨1, by decide +kernel, rfl, rfl⟩
theorem F_143_67 : F 143 67 (.ldc2_w 293) 70 := ⟨3, by decide +kernel, rfl, rfl⟩
theorem kj_5_293 : m_k64.lookup (5, 293) = some (48271, 4080) := by decide +kernel
theorem oj_48271 : (48271 : Int64) = Int64.ofInt 48271 := by decide +kernel
theorem F_143_70 : F 143 70 (.lmul) 71 := ⟨1, by decide +kernel, rfl, rfl⟩
theorem F_143_71 : F 143 71 (.ldc2_w 291) 74 := ⟨3, by decide +kernel, rfl, rfl⟩
theorem F_143_74 : F 143 74 (.lrem) 75 := ⟨1, by decide +kernel, rfl, rfl⟩
theorem F_143_75 : F 143 75 (.lstore_n 3) 76 := ⟨1, by decide +kernel, rfl, rfl⟩
theorem F_143_76 : F 143 76 (.lload_n 3) 77 := ⟨1, by decide +kernel, rfl, rfl⟩
theorem F_143_77 : F 143 77 (.ldc2_w 295) 80 := ⟨3, by decide +kernel, rfl, rfl⟩
theorem kj_5_295 : m_k64.lookup (5, 295) = some (8, 4081) := by decide +kernel
theorem oj_8 : (8 : Int64) = Int64.ofInt 8 := by decide +kernel
theorem F_143_80 : F 143 80 (.ldiv) 81 := ⟨1, by decide +kernel, rfl, rfl⟩
theorem F_143_81 : F 143 81 (.ldc2_w 295) 84 := ⟨3, by decide +kernel, rfl, rfl⟩
theorem F_143_84 : F 143 84 (.lrem) 85 := ⟨1, by decide +kernel, rfl, rfl⟩
theorem F_143_85 : F 143 85 (.l2i) 86 := ⟨1, by decide +kernel, rfl, rfl⟩
theorem F_143_86 : F 143 86 (.istore 6) 88 := ⟨2, by decide +kernel, rfl, rfl⟩
theorem F_143_88 : F 143 88 (.aload_n 0) 89 := ⟨1, by decide +kernel, rfl, rfl⟩
theorem F_143_89 : F 143 89 (.getfield 34) 92 := ⟨3, by decide +kernel, rfl, rfl⟩
theorem F_143_92 : F 143 92 (.aload_n 0) 93 := ⟨1, by decide +kernel, rfl, rfl⟩
theorem F_143_93 : F 143 93 (.getfield 34) 96 := ⟨3, by decide +kernel, rfl, rfl⟩
theorem F_143_96 : F 143 96 (.iload 6) 98 := ⟨2, by decide +kernel, rfl, rfl⟩
theorem F_143_98 : F 143 98 (.invokevirtual 197) 101 := ⟨3, by decide +kernel, rfl, rfl⟩
theorem F_143_101 : F 143 101 (.ifCond .eq 18) 104 := ⟨3, by decide +kernel, rfl, rfl⟩
theorem F_143_119 : F 143 119 (.bipush 8) 121 := ⟨2, by decide +kernel, rfl, rfl⟩
theorem F_143_121 : F 143 121 (.invokevirtual 188) 124 := ⟨3, by decide +kernel, rfl, rfl⟩
theorem F_143_124 : F 143 124 (.iinc 5 1) 127 := ⟨3, by decide +kernel, rfl, rfl⟩
theorem F_143_127 : F 143 127 (.goto (-67)) 130 := ⟨3, by decide +kernel, rfl, rfl⟩
theorem F_143_104 : F 143 104 (.aload_n 0) 105 := ⟨1, by decide +kernel, rfl, rfl⟩
theorem F_143_105 : F 143 105 (.getfield 34) 108 := ⟨3, by decide +kernel, rfl, rfl⟩
theorem F_143_108 : F 143 108 (.invokevirtual 200) 111 := ⟨3, by decide +kernel, rfl, rfl⟩
theorem F_143_111 : F 143 111 (.ifCond .le 8) 114 := ⟨3, by decide +kernel, rfl, rfl⟩
theorem F_143_114 : F 143 114 (.iload 6) 116 := ⟨2, by decide +kernel, rfl, rfl⟩
theorem F_143_116 : F 143 116 (.goto 5) 119 := ⟨3, by decide +kernel, rfl, rfl⟩
theorem n_144 : m_n 144 = 1 := by decide +kernel
theorem F_144_0 : F 144 0 (.aload_n 0) 1 := ⟨1, by decide +kernel, rfl, rfl⟩
theorem F_144_1 : F 144 1 (.getfield 60) 4 := ⟨3, by decide +kernel, rfl, rfl⟩
theorem o_144 : m_o 144 = 5 := by decide +kernel
theorem F_144_4 : F 144 4 (.ireturn) 5 := ⟨1, by decide +kernel, rfl, rfl⟩
theorem rt_144 : m_r 144 = (some .int) := by decide +kernel
theorem n_145 : m_n 145 = 1 := by decide +kernel
theorem F_145_0 : F 145 0 (.aload_n 0) 1 := ⟨1, by decide +kernel, rfl, rfl⟩
theorem F_145_1 : F 145 1 (.getfield 63) 4 := ⟨3, by decide +kernel, rfl, rfl⟩
theorem o_145 : m_o 145 = 5 := by decide +kernel
theorem F_145_4 : F 145 4 (.lreturn) 5 := ⟨1, by decide +kernel, rfl, rfl⟩
theorem rt_145 : m_r 145 = (some .long) := by decide +kernel
theorem n_146 : m_n 146 = 1 := by decide +kernel
theorem F_146_0 : F 146 0 (.aload_n 0) 1 := ⟨1, by decide +kernel, rfl, rfl⟩
theorem F_146_1 : F 146 1 (.getfield 67) 4 := ⟨3, by decide +kernel, rfl, rfl⟩
theorem o_146 : m_o 146 = 5 := by decide +kernel
theorem F_146_4 : F 146 4 (.lreturn) 5 := ⟨1, by decide +kernel, rfl, rfl⟩
theorem rt_146 : m_r 146 = (some .long) := by decide +kernel
theorem n_147 : m_n 147 = 2 := by decide +kernel
theorem F_147_0 : F 147 0 (.iload_n 1) 1 := ⟨1, by decide +kernel, rfl, rfl⟩
theorem F_147_1 : F 147 1 (.tableswitch 150 0 10 #[59, 67, 75, 83, 91, 99, 110, 118, 126, 134, 142]) 60 := ⟨59, by decide +kernel, rfl, rfl⟩
theorem F_147_60 : F 147 60 (.aload_n 0) 61 := ⟨1, by decide +kernel, rfl, rfl⟩
theorem F_147_61 : F 147 61 (.getfield 34) 64 := ⟨3, by decide +kernel, rfl, rfl⟩
theorem o_147 : m_o 147 = 5 := by decide +kernel
theorem F_147_64 : F 147 64 (.invokevirtual 132) 67 := ⟨3, by decide +kernel, rfl, rfl⟩
theorem F_147_67 : F 147 67 (.ireturn) 68 := ⟨1, by decide +kernel, rfl, rfl⟩
theorem rt_147 : m_r 147 = (some .int) := by decide +kernel
theorem F_147_68 : F 147 68 (.aload_n 0) 69 := ⟨1, by decide +kernel, rfl, rfl⟩
theorem F_147_69 : F 147 69 (.getfield 34) 72 := ⟨3, by decide +kernel, rfl, rfl⟩
theorem F_147_72 : F 147 72 (.invokevirtual 200) 75 := ⟨3, by decide +kernel, rfl, rfl⟩
theorem F_147_75 : F 147 75 (.ireturn) 76 := ⟨1, by decide +kernel, rfl, rfl⟩
theorem F_147_76 : F 147 76 (.aload_n 0) 77 := ⟨1, by decide +kernel, rfl, rfl⟩
theorem F_147_77 : F 147 77 (.getfield 34) 80 := ⟨3, by decide +kernel, rfl, rfl⟩
theorem F_147_80 : F 147 80 (.invokevirtual 212) 83 := ⟨3, by decide +kernel, rfl, rfl⟩
theorem F_147_83 : F 147 83 (.ireturn) 84 := ⟨1, by decide +kernel, rfl, rfl⟩
theorem F_147_84 : F 147 84 (.aload_n 0) 85 := ⟨1, by decide +kernel, rfl, rfl⟩
theorem F_147_85 : F 147 85 (.getfield 34) 88 := ⟨3, by decide +kernel, rfl, rfl⟩
theorem F_147_88 : F 147 88 (.invokevirtual 297) 91 := ⟨3, by decide +kernel, rfl, rfl⟩
theorem il_5_297 : ilq 5 297 0 148 0 = true := by decide +kernel
theorem vy_148 : (m_cls 1).1 = (m_y 148).cls ∧ 1 < m_cl.length := by decide +kernel
theorem F_147_91 : F 147 91 (.ireturn) 92 := ⟨1, by decide +kernel, rfl, rfl⟩
theorem F_147_92 : F 147 92 (.aload_n 0) 93 := ⟨1, by decide +kernel, rfl, rfl⟩
theorem F_147_93 : F 147 93 (.getfield 34) 96 := ⟨3, by decide +kernel, rfl, rfl⟩
theorem F_147_96 : F 147 96 (.invokevirtual 300) 99 := ⟨3, by decide +kernel, rfl, rfl⟩
theorem il_5_300 : ilq 5 300 0 149 0 = true := by decide +kernel
theorem vy_149 : (m_cls 1).1 = (m_y 149).cls ∧ 1 < m_cl.length := by decide +kernel
theorem n_149 : m_n 149 = 1 := by decide +kernel
theorem F_149_0 : F 149 0 (.aload_n 0) 1 := ⟨1, by decide +kernel, rfl, rfl⟩
theorem F_149_1 : F 149 1 (.invokevirtual 114) 4 := ⟨3, by decide +kernel, rfl, rfl⟩
theorem o_149 : m_o 149 = 1 := by decide +kernel
theorem F_149_4 : F 149 4 (.ifCond .eq 18) 7 := ⟨3, by decide +kernel, rfl, rfl⟩
theorem F_149_22 : F 149 22 (.iconst 0) 23 := ⟨1, by decide +kernel, rfl, rfl⟩
theorem F_149_23 : F 149 23 (.ireturn) 24 := ⟨1, by decide +kernel, rfl, rfl⟩
theorem rt_149 : m_r 149 = (some .int) := by decide +kernel
theorem F_147_99 : F 147 99 (.ireturn) 100 := ⟨1, by decide +kernel, rfl, rfl⟩
theorem F_149_7 : F 149 7 (.bipush 10) 9 := ⟨2, by decide +kernel, rfl, rfl⟩
theorem F_149_9 : F 149 9 (.aload_n 0) 10 := ⟨1, by decide +kernel, rfl, rfl⟩
theorem F_149_10 : F 149 10 (.getfield 37) 13 := ⟨3, by decide +kernel, rfl, rfl⟩
theorem F_149_13 : F 149 13 (.imul) 14 := ⟨1, by decide +kernel, rfl, rfl⟩
theorem F_149_14 : F 149 14 (.aload_n 0) 15 := ⟨1, by decide +kernel, rfl, rfl⟩
theorem F_149_15 : F 149 15 (.getfield 40) 18 := ⟨3, by decide +kernel, rfl, rfl⟩
theorem F_149_18 : F 149 18 (.iadd) 19 := ⟨1, by decide +kernel, rfl, rfl⟩
theorem F_149_19 : F 149 19 (.goto 4) 22 := ⟨3, by decide +kernel, rfl, rfl⟩
theorem F_147_100 : F 147 100 (.aload_n 0) 101 := ⟨1, by decide +kernel, rfl, rfl⟩
theorem F_147_101 : F 147 101 (.getfield 34) 104 := ⟨3, by decide +kernel, rfl, rfl⟩
theorem F_147_104 : F 147 104 (.invokevirtual 149) 107 := ⟨3, by decide +kernel, rfl, rfl⟩
theorem F_147_107 : F 147 107 (.invokestatic 161) 110 := ⟨3, by decide +kernel, rfl, rfl⟩
theorem F_147_110 : F 147 110 (.ireturn) 111 := ⟨1, by decide +kernel, rfl, rfl⟩
theorem F_147_111 : F 147 111 (.aload_n 0) 112 := ⟨1, by decide +kernel, rfl, rfl⟩
theorem F_147_112 : F 147 112 (.getfield 34) 115 := ⟨3, by decide +kernel, rfl, rfl⟩
theorem F_147_115 : F 147 115 (.invokevirtual 303) 118 := ⟨3, by decide +kernel, rfl, rfl⟩
theorem il_5_303 : ilq 5 303 0 150 0 = true := by decide +kernel
theorem vy_150 : (m_cls 1).1 = (m_y 150).cls ∧ 1 < m_cl.length := by decide +kernel
theorem F_147_118 : F 147 118 (.ireturn) 119 := ⟨1, by decide +kernel, rfl, rfl⟩
theorem F_147_119 : F 147 119 (.aload_n 0) 120 := ⟨1, by decide +kernel, rfl, rfl⟩
theorem F_147_120 : F 147 120 (.getfield 34) 123 := ⟨3, by decide +kernel, rfl, rfl⟩
theorem F_147_123 : F 147 123 (.invokevirtual 306) 126 := ⟨3, by decide +kernel, rfl, rfl⟩
theorem il_5_306 : ilq 5 306 0 151 0 = true := by decide +kernel
theorem vy_151 : (m_cls 1).1 = (m_y 151).cls ∧ 1 < m_cl.length := by decide +kernel
theorem F_147_126 : F 147 126 (.ireturn) 127 := ⟨1, by decide +kernel, rfl, rfl⟩
theorem F_147_127 : F 147 127 (.aload_n 0) 128 := ⟨1, by decide +kernel, rfl, rfl⟩
theorem F_147_128 : F 147 128 (.getfield 14) 131 := ⟨3, by decide +kernel, rfl, rfl⟩
theorem F_147_131 : F 147 131 (.invokevirtual 309) 134 := ⟨3, by decide +kernel, rfl, rfl⟩
theorem il_5_309 : ilq 5 309 0 152 0 = true := by decide +kernel
theorem vy_152 : (m_cls 3).1 = (m_y 152).cls ∧ 3 < m_cl.length := by decide +kernel
theorem F_147_134 : F 147 134 (.ireturn) 135 := ⟨1, by decide +kernel, rfl, rfl⟩
theorem F_147_135 : F 147 135 (.aload_n 0) 136 := ⟨1, by decide +kernel, rfl, rfl⟩
theorem F_147_136 : F 147 136 (.getfield 18) 139 := ⟨3, by decide +kernel, rfl, rfl⟩
theorem F_147_139 : F 147 139 (.invokevirtual 309) 142 := ⟨3, by decide +kernel, rfl, rfl⟩
theorem F_147_142 : F 147 142 (.ireturn) 143 := ⟨1, by decide +kernel, rfl, rfl⟩
theorem F_147_143 : F 147 143 (.aload_n 0) 144 := ⟨1, by decide +kernel, rfl, rfl⟩
theorem F_147_144 : F 147 144 (.getfield 21) 147 := ⟨3, by decide +kernel, rfl, rfl⟩
theorem F_147_147 : F 147 147 (.invokevirtual 309) 150 := ⟨3, by decide +kernel, rfl, rfl⟩
theorem F_147_150 : F 147 150 (.ireturn) 151 := ⟨1, by decide +kernel, rfl, rfl⟩
theorem F_147_151 : F 147 151 (.iconst (-1)) 152 := ⟨1, by decide +kernel, rfl, rfl⟩
theorem F_147_152 : F 147 152 (.ireturn) 153 := ⟨1, by decide +kernel, rfl, rfl⟩
theorem n_153 : m_n 153 = 1 := by decide +kernel
theorem F_153_0 : F 153 0 (.aload_n 0) 1 := ⟨1, by decide +kernel, rfl, rfl⟩
theorem F_153_1 : F 153 1 (.getfield 56) 4 := ⟨3, by decide +kernel, rfl, rfl⟩
theorem o_153 : m_o 153 = 5 := by decide +kernel
theorem F_153_4 : F 153 4 (.ireturn) 5 := ⟨1, by decide +kernel, rfl, rfl⟩
theorem rt_153 : m_r 153 = (some .int) := by decide +kernel
theorem n_154 : m_n 154 = 2 := by decide +kernel
theorem F_154_0 : F 154 0 (.iload_n 1) 1 := ⟨1, by decide +kernel, rfl, rfl⟩
theorem F_154_1 : F 154 1 (.iconst 1) 2 := ⟨1, by decide +kernel, rfl, rfl⟩
theorem F_154_2 : F 154 2 (.if_icmp .lt 8) 5 := ⟨3, by decide +kernel, rfl, rfl⟩
theorem F_154_10 : F 154 10 (.iconst (-1)) 11 := ⟨1, by decide +kernel, rfl, rfl⟩
theorem F_154_11 : F 154 11 (.goto 9) 14 := ⟨3, by decide +kernel, rfl, rfl⟩
theorem F_154_20 : F 154 20 (.ireturn) 21 := ⟨1, by decide +kernel, rfl, rfl⟩
theorem rt_154 : m_r 154 = (some .int) := by decide +kernel
theorem F_154_5 : F 154 5 (.iload_n 1) 6 := ⟨1, by decide +kernel, rfl, rfl⟩
theorem F_154_6 : F 154 6 (.iconst 5) 7 := ⟨1, by decide +kernel, rfl, rfl⟩
theorem F_154_7 : F 154 7 (.if_icmp .le 7) 10 := ⟨3, by decide +kernel, rfl, rfl⟩
theorem F_154_14 : F 154 14 (.aload_n 0) 15 := ⟨1, by decide +kernel, rfl, rfl⟩
theorem F_154_15 : F 154 15 (.getfield 52) 18 := ⟨3, by decide +kernel, rfl, rfl⟩
theorem o_154 : m_o 154 = 5 := by decide +kernel
theorem F_154_18 : F 154 18 (.iload_n 1) 19 := ⟨1, by decide +kernel, rfl, rfl⟩
theorem F_154_19 : F 154 19 (.iaload) 20 := ⟨1, by decide +kernel, rfl, rfl⟩
theorem t_X5_odds {X : List Int32} {d : Nat} {s : m_St} {P : Option Value → m_St → Prop} {c r p : Int}
    (l1 : inR c)
    (l2 : c < 0 → P (some (vI (-1))) s)
    (l3 : 0 ≤ c → 4 ≤ c → P (some (vI (-1))) s)
    (l4 : 0 ≤ c → c < 4 → inR r)
    (l5 : 0 ≤ c → c < 4 → r < 0 → P (some (vI (-1))) s)
    (l6 : 0 ≤ c → c < 4 → 0 ≤ r → 6 ≤ r → P (some (vI (-1))) s)
    (l7 : 0 ≤ c → c < 4 → 0 ≤ r → r < 6 → inR p)
    (l8 : 0 ≤ c → c < 4 → 0 ≤ r → r < 6 → p < 0 → P (some (vI (-1))) s)
    (l9 : 0 ≤ c → c < 4 → 0 ≤ r → r < 6 → 0 ≤ p → p ≤ 12 → inR (s 38 7))
    (l10 : 0 ≤ c → c < 4 → 0 ≤ r → r < 6 → 0 ≤ p → p ≤ 12 → ∀ r, 0 ≤ r → r < 6 → rwk s r)
    (l11 : 0 ≤ c → c < 4 → 0 ≤ r → r < 6 → 0 ≤ p → p ≤ 12 → ∀ (v12 : Int) (s12 : m_St), qTr s r 6 v12 s12 → inR v12)
    (l12 : 0 ≤ c → c < 4 → 0 ≤ r → r < 6 → 0 ≤ p → p ≤ 12 → ∀ (v12 : Int) (s12 : m_St), qTr s r 6 v12 s12 → v12 = 0 → upk s12)
    (l13 : 0 ≤ c → c < 4 → 0 ≤ r → r < 6 → 0 ≤ p → p ≤ 12 → ∀ (v12 : Int) (s12 : m_St), qTr s r 6 v12 s12 → v12 = 0 → 0 ≤ (tka s12) 2 r)
    (l14 : 0 ≤ c → c < 4 → 0 ≤ r → r < 6 → 0 ≤ p → p ≤ 12 → ∀ (v12 : Int) (s12 : m_St), qTr s r 6 v12 s12 → v12 = 0 → (tka s12) 2 r ≤ 6)
    (l15 : 0 ≤ c → c < 4 → 0 ≤ r → r < 6 → 0 ≤ p → p ≤ 12 → ∀ (v12 : Int) (s12 : m_St), qTr s r 6 v12 s12 → v12 = 0 → ∀ j, 0 ≤ j → j < (tka s12) 2 r → inR ((tka s12) (4 + r) j))
    (l16 : 0 ≤ c → c < 4 → 0 ≤ r → r < 6 → 0 ≤ p → p ≤ 12 → ∀ (v12 : Int) (s12 : m_St), qTr s r 6 v12 s12 → v12 = 0 → brok (hs0 (tka s12) r p))
    (l17 : 0 ≤ c → c < 4 → 0 ≤ r → r < 6 → 0 ≤ p → p ≤ 12 → ∀ (v12 : Int) (s12 : m_St), qTr s r 6 v12 s12 → v12 = 0 → 0 ≤ (cho (brS (hs0 (tka s12) r p)) c))
    (l18 : 0 ≤ c → c < 4 → 0 ≤ r → r < 6 → 0 ≤ p → p ≤ 12 → ∀ (v12 : Int) (s12 : m_St), qTr s r 6 v12 s12 → v12 = 0 → 0 ≤ (sm ((brS (hs0 (tka s12) r p)) 73) 16))
    (l19 : 0 ≤ c → c < 4 → 0 ≤ r → r < 6 → 0 ≤ p → p ≤ 12 → ∀ (v12 : Int) (s12 : m_St), qTr s r 6 v12 s12 → v12 = 0 → (cho (brS (hs0 (tka s12) r p)) c) < 1000000000000)
    (l20 : 0 ≤ c → c < 4 → 0 ≤ r → r < 6 → 0 ≤ p → p ≤ 12 → ∀ (v12 : Int) (s12 : m_St), qTr s r 6 v12 s12 → v12 = 0 → (sm ((brS (hs0 (tka s12) r p)) 73) 16) < 1000000000000)
    (l21 : 0 ≤ c → c < 4 → 0 ≤ r → r < 6 → 0 ≤ p → p ≤ 12 → ∀ (v12 : Int) (s12 : m_St), qTr s r 6 v12 s12 → v12 = 0 → 0 < (cmpJ (gd (cho (brS (hs0 (tka s12) r p)) c) (sm ((brS (hs0 (tka s12) r p)) 73) 16)) 0) → 0 < (gd (cho (brS (hs0 (tka s12) r p)) c) (sm ((brS (hs0 (tka s12) r p)) 73) 16)))
    (l22 : 0 ≤ c → c < 4 → 0 ≤ r → r < 6 → 0 ≤ p → p ≤ 12 → ∀ (v12 : Int) (s12 : m_St), qTr s r 6 v12 s12 → v12 = 0 → 0 < (cmpJ (gd (cho (brS (hs0 (tka s12) r p)) c) (sm ((brS (hs0 (tka s12) r p)) 73) 16)) 0) → inJ (cho (brS (hs0 (tka s12) r p)) c))
    (l23 : 0 ≤ c → c < 4 → 0 ≤ r → r < 6 → 0 ≤ p → p ≤ 12 → ∀ (v12 : Int) (s12 : m_St), qTr s r 6 v12 s12 → v12 = 0 → 0 < (cmpJ (gd (cho (brS (hs0 (tka s12) r p)) c) (sm ((brS (hs0 (tka s12) r p)) 73) 16)) 0) → inJ (gd (cho (brS (hs0 (tka s12) r p)) c) (sm ((brS (hs0 (tka s12) r p)) 73) 16)))
    (l24 : 0 ≤ c → c < 4 → 0 ≤ r → r < 6 → 0 ≤ p → p ≤ 12 → ∀ (v12 : Int) (s12 : m_St), qTr s r 6 v12 s12 → v12 = 0 → 0 < (cmpJ (gd (cho (brS (hs0 (tka s12) r p)) c) (sm ((brS (hs0 (tka s12) r p)) 73) 16)) 0) → inJ (sm ((brS (hs0 (tka s12) r p)) 73) 16))
    (l25 : 0 ≤ c → c < 4 → 0 ≤ r → r < 6 → 0 ≤ p → p ≤ 12 → ∀ (v12 : Int) (s12 : m_St), qTr s r 6 v12 s12 → v12 = 0 → 0 < (cmpJ (gd (cho (brS (hs0 (tka s12) r p)) c) (sm ((brS (hs0 (tka s12) r p)) 73) 16)) 0) → P (some (vI 1)) (m_upd (m_upd (brS (hs0 (tka s12) r p)) 0 10 ((cho (brS (hs0 (tka s12) r p)) c) / (gd (cho (brS (hs0 (tka s12) r p)) c) (sm ((brS (hs0 (tka s12) r p)) 73) 16)))) 0 11 ((sm ((brS (hs0 (tka s12) r p)) 73) 16) / (gd (cho (brS (hs0 (tka s12) r p)) c) (sm ((brS (hs0 (tka s12) r p)) 73) 16)))))
    (l26 : 0 ≤ c → c < 4 → 0 ≤ r → r < 6 → 0 ≤ p → p ≤ 12 → ∀ (v12 : Int) (s12 : m_St), qTr s r 6 v12 s12 → v12 = 0 → (cmpJ (gd (cho (brS (hs0 (tka s12) r p)) c) (sm ((brS (hs0 (tka s12) r p)) 73) 16)) 0) ≤ 0 → P (some (vI 1)) (brS (hs0 (tka s12) r p)))
    (l27 : 0 ≤ c → c < 4 → 0 ≤ r → r < 6 → 0 ≤ p → p ≤ 12 → ∀ (v12 : Int) (s12 : m_St), qTr s r 6 v12 s12 → ¬ v12 = 0 → P (some (vI v12)) s12)
    (l28 : 0 ≤ c → c < 4 → 0 ≤ r → r < 6 → 0 ≤ p → 12 < p → P (some (vI (-1))) s)
    : Cl X (d + 14) 135 [vR 0, vI c, vI r, vI p] s P := by
  refine Cl_of n_135 rfl ?_
  show Rn _ _ _ _ [some (vR 0), some (vI c), some (vI r), some (vI p), none] [] _ _
  refine r_ldI_n (m := 1) F_135_0 rfl ?_
  refine r_stat2 (A := [vI c]) (r := []) (n := 1) F_135_1 o_135 il_5_175 (by decide) rfl rfl rfl rfl (lay_le n_46 rfl) ?_
  refine Cl_of n_46 rfl ?_
  show Rn _ _ _ _ [some (vI c)] [] _ _
  refine r_ldI_n (m := 0) F_46_0 rfl ?_
  refine r_if (t := 13) F_46_1 rfl l1 ?_ ?_
  · intro e1
    replace e1 : c < 0 := e1
    refine r_iconst F_46_13 ?_
    refine r_zreturn F_46_14 rt_46 (Or.inl rfl) ?_
    show Rn _ _ _ _ _ [vI 0] _ _
    refine r_ifT (t := 28) F_135_4 rfl (by decide) (by show (0 : Int) = 0; decide) ?_
    refine r_iconst F_135_28 ?_
    refine r_ireturn F_135_29 rt_135 ?_
    exact (l2 e1)
  · intro e2
    replace e2 : 0 ≤ c := (Int.not_lt.mp e2)
    refine r_ldI_n (m := 0) F_46_4 rfl ?_
    refine r_iconst F_46_5 ?_
    refine r_icmp (t := 13) F_46_6 rfl l1 (by decide) ?_ ?_
    · intro e3
      replace e3 : 4 ≤ c := e3
      refine r_iconst F_46_13 ?_
      refine r_zreturn F_46_14 rt_46 (Or.inl rfl) ?_
      show Rn _ _ _ _ _ [vI 0] _ _
      refine r_ifT (t := 28) F_135_4 rfl (by decide) (by show (0 : Int) = 0; decide) ?_
      refine r_iconst F_135_28 ?_
      refine r_ireturn F_135_29 rt_135 ?_
      exact (l3 e2 e3)
    · intro e4
      replace e4 : c < 4 := (Int.not_le.mp e4)
      refine r_iconst F_46_9 ?_
      refine r_goto (t := 14) F_46_10 rfl ?_
      refine r_zreturn F_46_14 rt_46 (Or.inr rfl) ?_
      show Rn _ _ _ _ _ [vI 1] _ _
      refine r_ifF (t := 28) F_135_4 rfl (by decide) (by show ¬ ((1 : Int) = 0); decide) ?_
      refine r_ldR_n (m := 0) F_135_7 rfl ?_
      refine r_getR (J := 0) F_135_8 o_135 fl_5_14 ty_0 (by decide) rfl (kd2 kd_0_0 (by decide)) (kd9 kd_0_0 (by decide)) rf_0_0 ?_
      refine r_ldI_n (m := 2) F_135_11 rfl ?_
      refine r_virt2 (A := [vI r]) (r := []) (n := 1) F_135_12 o_135 il_5_70 rfl rfl rfl rfl ty_1 vy_9 (lay_le n_9 rfl) ?_
      refine Cl_of n_9 rfl ?_
      show Rn _ _ _ _ [some (vR 1), some (vI r)] [] _ _
      refine r_ldI_n (m := 1) F_9_0 rfl ?_
      refine r_if (t := 17) F_9_1 rfl (l4 e2 e4) ?_ ?_
      · intro e5
        replace e5 : r < 0 := e5
        refine r_iconst F_9_17 ?_
        refine r_zreturn F_9_18 rt_9 (Or.inl rfl) ?_
        show Rn _ _ _ _ _ [vI 0] _ _
        refine r_ifT (t := 28) F_135_15 rfl (by decide) (by show (0 : Int) = 0; decide) ?_
        refine r_iconst F_135_28 ?_
        refine r_ireturn F_135_29 rt_135 ?_
        exact (l5 e2 e4 e5)
      · intro e6
        replace e6 : 0 ≤ r := (Int.not_lt.mp e6)
        refine r_ldI_n (m := 1) F_9_4 rfl ?_
        refine r_ldR_n (m := 0) F_9_5 rfl ?_
        refine r_getR (J := 0) F_9_6 o_9 fl_3_19 ty_1 (by decide) rfl (kd2 kd_1_0 (by decide)) (kd9 kd_1_0 (by decide)) rf_1_0 ?_
        refine r_alen F_9_9 ty_2 (by decide) ln_2 ?_
        refine r_icmp (t := 17) F_9_10 rfl (l4 e2 e4) (by decide) ?_ ?_
        · intro e7
          replace e7 : 6 ≤ r := e7
          refine r_iconst F_9_17 ?_
          refine r_zreturn F_9_18 rt_9 (Or.inl rfl) ?_
          show Rn _ _ _ _ _ [vI 0] _ _
          refine r_ifT (t := 28) F_135_15 rfl (by decide) (by show (0 : Int) = 0; decide) ?_
          refine r_iconst F_135_28 ?_
          refine r_ireturn F_135_29 rt_135 ?_
          exact (l6 e2 e4 e6 e7)
        · intro e8
          replace e8 : r < 6 := (Int.not_le.mp e8)
          refine r_iconst F_9_13 ?_
          refine r_goto (t := 18) F_9_14 rfl ?_
          refine r_zreturn F_9_18 rt_9 (Or.inr rfl) ?_
          show Rn _ _ _ _ _ [vI 1] _ _
          refine r_ifF (t := 28) F_135_15 rfl (by decide) (by show ¬ ((1 : Int) = 0); decide) ?_
          refine r_ldI_n (m := 3) F_135_18 rfl ?_
          refine r_if (t := 28) F_135_19 rfl (l7 e2 e4 e6 e8) ?_ ?_
          · intro e9
            replace e9 : p < 0 := e9
            refine r_iconst F_135_28 ?_
            refine r_ireturn F_135_29 rt_135 ?_
            exact (l8 e2 e4 e6 e8 e9)
          · intro e10
            replace e10 : 0 ≤ p := (Int.not_lt.mp e10)
            refine r_ldI_n (m := 3) F_135_22 rfl ?_
            refine r_bipush F_135_23 bi_12 ?_
            refine r_icmp (t := 30) F_135_25 rfl (l7 e2 e4 e6 e8) (by decide) ?_ ?_
            · intro e11
              replace e11 : p ≤ 12 := e11
              refine r_ldR_n (m := 0) F_135_30 rfl ?_
              refine r_ldI_n (m := 2) F_135_31 rfl ?_
              refine r_bipush F_135_32 bi_6 ?_
              refine r_virt2 (A := [vI r, vI 6]) (r := []) (n := 2) F_135_34 o_135 il_5_239 rfl rfl rfl rfl ty_0 vy_107 (lay_le n_107 rfl) ?_
              refine sp_talkRefusal (l4 e2 e4) (by decide) (l9 e2 e4 e6 e8 e10 e11) (l10 e2 e4 e6 e8 e10 e11) ?_
              intro v12 s12 q12
              show Rn _ _ _ _ _ [vI v12] _ _
              refine r_stI (m := 4) (L' := [some (vR 0), some (vI c), some (vI r), some (vI p), some (vI v12)]) F_135_37 rfl rfl ?_
              refine r_ldI (m := 4) F_135_39 rfl ?_
              refine r_if (t := 47) F_135_41 rfl (l11 e2 e4 e6 e8 e10 e11 v12 s12 q12) ?_ ?_
              · intro e13
                replace e13 : v12 = 0 := e13
                refine r_ldR_n (m := 0) F_135_47 rfl ?_
                refine r_virt2 (A := []) (r := []) (n := 0) F_135_48 o_135 il_5_229 rfl rfl rfl rfl ty_0 vy_98 (lay_le n_98 rfl) ?_
                refine sp_takeAside (l12 e2 e4 e6 e8 e10 e11 v12 s12 q12 e13) ?_
                show Rn _ _ _ _ _ [] _ _
                refine r_ldR_n (m := 0) F_135_51 rfl ?_
                refine r_getR (J := 5) F_135_52 o_135 fl_5_41 ty_0 (by decide) rfl (kd2 kd_0_5 (by decide)) (kd9 kd_0_5 (by decide)) rf_0_5 ?_
                refine r_ldR_n (m := 0) F_135_55 rfl ?_
                refine r_getR (J := 0) F_135_56 o_135 fl_5_14 ty_0 (by decide) rfl (kd2 kd_0_0 (by decide)) (kd9 kd_0_0 (by decide)) rf_0_0 ?_
                refine r_ldI_n (m := 2) F_135_59 rfl ?_
                refine r_ldI_n (m := 3) F_135_60 rfl ?_
                refine r_virt2 (A := [vR 1, vI r, vI p]) (r := []) (n := 3) F_135_61 o_135 il_5_276 rfl rfl rfl rfl ty_66 vy_136 (lay_le n_136 rfl) ?_
                refine sp_hearSome e6 e8 (l13 e2 e4 e6 e8 e10 e11 v12 s12 q12 e13) (l14 e2 e4 e6 e8 e10 e11 v12 s12 q12 e13) e10 e11 (l15 e2 e4 e6 e8 e10 e11 v12 s12 q12 e13) (l16 e2 e4 e6 e8 e10 e11 v12 s12 q12 e13) ?_
                show Rn _ _ _ _ _ [] _ _
                refine r_ldR_n (m := 0) F_135_64 rfl ?_
                refine r_ldR_n (m := 0) F_135_65 rfl ?_
                refine r_getR (J := 5) F_135_66 o_135 fl_5_41 ty_0 (by decide) rfl (kd2 kd_0_5 (by decide)) (kd9 kd_0_5 (by decide)) rf_0_5 ?_
                refine r_ldI_n (m := 1) F_135_69 rfl ?_
                refine r_virt2 (A := [vI c]) (r := [vR 0]) (n := 1) F_135_70 o_135 il_5_280 rfl rfl rfl rfl ty_66 vy_138 (lay_le n_138 rfl) ?_
                refine sp_chancesOf  ?_
                show Rn _ _ _ _ _ [vJ (cho (brS (hs0 (tka s12) r p)) c), vR 0] _ _
                refine r_ldR_n (m := 0) F_135_73 rfl ?_
                refine r_getR (J := 5) F_135_74 o_135 fl_5_41 ty_0 (by decide) rfl (kd2 kd_0_5 (by decide)) (kd9 kd_0_5 (by decide)) rf_0_5 ?_
                refine r_virt2 (A := []) (r := [vJ (cho (brS (hs0 (tka s12) r p)) c), vR 0]) (n := 0) F_135_77 o_135 il_5_283 rfl rfl rfl rfl ty_66 vy_139 (lay_le n_139 rfl) ?_
                refine sp_allChances  ?_
                show Rn _ _ _ _ _ [vJ (sm ((brS (hs0 (tka s12) r p)) 73) 16), vJ (cho (brS (hs0 (tka s12) r p)) c), vR 0] _ _
                refine r_virt2 (A := [vJ (cho (brS (hs0 (tka s12) r p)) c), vJ (sm ((brS (hs0 (tka s12) r p)) 73) 16)]) (r := []) (n := 2) F_135_80 o_135 il_5_287 rfl rfl rfl rfl ty_0 vy_140 (lay_le n_140 rfl) ?_
                refine Cl_of n_140 rfl ?_
                show Rn _ _ _ _ [some (vR 0), some (vJ (cho (brS (hs0 (tka s12) r p)) c)), none, some (vJ (sm ((brS (hs0 (tka s12) r p)) 73) 16)), none, none, none] [] _ _
                refine r_ldJ_n (m := 1) F_140_0 rfl ?_
                refine r_ldJ_n (m := 3) F_140_1 rfl ?_
                refine r_stat2 (A := [vJ (cho (brS (hs0 (tka s12) r p)) c), vJ (sm ((brS (hs0 (tka s12) r p)) 73) 16)]) (r := []) (n := 2) F_140_2 o_140 il_5_323 (by decide) rfl rfl rfl rfl (lay_le n_141 rfl) ?_
                refine sp_commonDivisor (l17 e2 e4 e6 e8 e10 e11 v12 s12 q12 e13) (l18 e2 e4 e6 e8 e10 e11 v12 s12 q12 e13) (l19 e2 e4 e6 e8 e10 e11 v12 s12 q12 e13) (l20 e2 e4 e6 e8 e10 e11 v12 s12 q12 e13) ?_
                show Rn _ _ _ _ _ [vJ (gd (cho (brS (hs0 (tka s12) r p)) c) (sm ((brS (hs0 (tka s12) r p)) 73) 16))] _ _
                refine r_stJ (m := 5) (L' := [some (vR 0), some (vJ (cho (brS (hs0 (tka s12) r p)) c)), none, some (vJ (sm ((brS (hs0 (tka s12) r p)) 73) 16)), none, some (vJ (gd (cho (brS (hs0 (tka s12) r p)) c) (sm ((brS (hs0 (tka s12) r p)) 73) 16))), none]) F_140_5 rfl rfl ?_
                refine r_ldJ (m := 5) F_140_7 rfl ?_
                refine r_lconst (e := 0) F_140_9 rfl ?_
                refine r_lcmp F_140_10 ?_
                refine r_if (t := 16) F_140_11 rfl (inR_cmpJ _ _) ?_ ?_
                · intro e14
                  replace e14 : 0 < (cmpJ (gd (cho (brS (hs0 (tka s12) r p)) c) (sm ((brS (hs0 (tka s12) r p)) 73) 16)) 0) := e14
                  refine r_ldR_n (m := 0) F_140_16 rfl ?_
                  refine r_ldJ_n (m := 1) F_140_17 rfl ?_
                  refine r_ldJ (m := 5) F_140_18 rfl ?_
                  refine r_ldiv F_140_20 (l22 e2 e4 e6 e8 e10 e11 v12 s12 q12 e13 e14) (l17 e2 e4 e6 e8 e10 e11 v12 s12 q12 e13) (l23 e2 e4 e6 e8 e10 e11 v12 s12 q12 e13 e14) (l21 e2 e4 e6 e8 e10 e11 v12 s12 q12 e13 e14) ?_
                  refine r_putJ (J := 10) F_140_21 o_140 fl_5_63 ty_0 (by decide) rfl kd_0_10 pf_5_10 ?_
                  refine r_ldR_n (m := 0) F_140_24 rfl ?_
                  refine r_ldJ_n (m := 3) F_140_25 rfl ?_
                  refine r_ldJ (m := 5) F_140_26 rfl ?_
                  refine r_ldiv F_140_28 (l24 e2 e4 e6 e8 e10 e11 v12 s12 q12 e13 e14) (l18 e2 e4 e6 e8 e10 e11 v12 s12 q12 e13) (l23 e2 e4 e6 e8 e10 e11 v12 s12 q12 e13 e14) (l21 e2 e4 e6 e8 e10 e11 v12 s12 q12 e13 e14) ?_
                  refine r_putJ (J := 11) F_140_29 o_140 fl_5_67 ty_0 (by decide) rfl kd_0_11 pf_5_11 ?_
                  refine r_iconst F_140_32 ?_
                  refine r_ireturn F_140_33 rt_140 ?_
                  show Rn _ _ _ _ _ [vI 1] _ _
                  refine r_ireturn F_135_83 rt_135 ?_
                  exact (l25 e2 e4 e6 e8 e10 e11 v12 s12 q12 e13 e14)
                · intro e15
                  replace e15 : (cmpJ (gd (cho (brS (hs0 (tka s12) r p)) c) (sm ((brS (hs0 (tka s12) r p)) 73) 16)) 0) ≤ 0 := (Int.not_lt.mp e15)
                  refine r_iconst F_140_14 ?_
                  refine r_ireturn F_140_15 rt_140 ?_
                  show Rn _ _ _ _ _ [vI 1] _ _
                  refine r_ireturn F_135_83 rt_135 ?_
                  exact (l26 e2 e4 e6 e8 e10 e11 v12 s12 q12 e13 e15)
              · intro e16
                replace e16 : ¬ v12 = 0 := e16
                refine r_ldI (m := 4) F_135_44 rfl ?_
                refine r_ireturn F_135_46 rt_135 ?_
                exact (l27 e2 e4 e6 e8 e10 e11 v12 s12 q12 e16)
            · intro e17
              replace e17 : 12 < p := (Int.not_le.mp e17)
              refine r_iconst F_135_28 ?_
              refine r_ireturn F_135_29 rt_135 ?_
              exact (l28 e2 e4 e6 e8 e10 e17)
theorem t_X5_mid {X : List Int32} {d : Nat} {s : m_St} {P : Option Value → m_St → Prop} {r p : Int}
    (l1 : inR r)
    (l2 : r < 0 → P (some (vI (-1))) s)
    (l3 : 0 ≤ r → 6 ≤ r → P (some (vI (-1))) s)
    (l4 : 0 ≤ r → r < 6 → inR p)
    (l5 : 0 ≤ r → r < 6 → p < 0 → P (some (vI (-1))) s)
    (l6 : 0 ≤ r → r < 6 → 0 ≤ p → p ≤ 12 → inR (s 38 7))
    (l7 : 0 ≤ r → r < 6 → 0 ≤ p → p ≤ 12 → ∀ r, 0 ≤ r → r < 6 → rwk s r)
    (l8 : 0 ≤ r → r < 6 → 0 ≤ p → p ≤ 12 → ∀ (v8 : Int) (s8 : m_St), qTr s r 6 v8 s8 → inR v8)
    (l9 : 0 ≤ r → r < 6 → 0 ≤ p → p ≤ 12 → ∀ (v8 : Int) (s8 : m_St), qTr s r 6 v8 s8 → v8 = 0 → upk s8)
    (l10 : 0 ≤ r → r < 6 → 0 ≤ p → p ≤ 12 → ∀ (v8 : Int) (s8 : m_St), qTr s r 6 v8 s8 → v8 = 0 → 0 ≤ (tka s8) 2 r)
    (l11 : 0 ≤ r → r < 6 → 0 ≤ p → p ≤ 12 → ∀ (v8 : Int) (s8 : m_St), qTr s r 6 v8 s8 → v8 = 0 → (tka s8) 2 r ≤ 6)
    (l12 : 0 ≤ r → r < 6 → 0 ≤ p → p ≤ 12 → ∀ (v8 : Int) (s8 : m_St), qTr s r 6 v8 s8 → v8 = 0 → ∀ j, 0 ≤ j → j < (tka s8) 2 r → inR ((tka s8) (4 + r) j))
    (l13 : 0 ≤ r → r < 6 → 0 ≤ p → p ≤ 12 → ∀ (v8 : Int) (s8 : m_St), qTr s r 6 v8 s8 → v8 = 0 → brok (hs0 (tka s8) r p))
    (l14 : 0 ≤ r → r < 6 → 0 ≤ p → p ≤ 12 → ∀ (v8 : Int) (s8 : m_St), qTr s r 6 v8 s8 → v8 = 0 → 0 ≤ ((((cho (brS (hs0 (tka s8) r p)) 0) + (cho (brS (hs0 (tka s8) r p)) 1)) + (cho (brS (hs0 (tka s8) r p)) 2)) + (cho (brS (hs0 (tka s8) r p)) 3)))
    (l15 : 0 ≤ r → r < 6 → 0 ≤ p → p ≤ 12 → ∀ (v8 : Int) (s8 : m_St), qTr s r 6 v8 s8 → v8 = 0 → 0 ≤ (sm ((brS (hs0 (tka s8) r p)) 73) 16))
    (l16 : 0 ≤ r → r < 6 → 0 ≤ p → p ≤ 12 → ∀ (v8 : Int) (s8 : m_St), qTr s r 6 v8 s8 → v8 = 0 → ((((cho (brS (hs0 (tka s8) r p)) 0) + (cho (brS (hs0 (tka s8) r p)) 1)) + (cho (brS (hs0 (tka s8) r p)) 2)) + (cho (brS (hs0 (tka s8) r p)) 3)) < 1000000000000)
    (l17 : 0 ≤ r → r < 6 → 0 ≤ p → p ≤ 12 → ∀ (v8 : Int) (s8 : m_St), qTr s r 6 v8 s8 → v8 = 0 → (sm ((brS (hs0 (tka s8) r p)) 73) 16) < 1000000000000)
    (l18 : 0 ≤ r → r < 6 → 0 ≤ p → p ≤ 12 → ∀ (v8 : Int) (s8 : m_St), qTr s r 6 v8 s8 → v8 = 0 → 0 < (cmpJ (gd ((((cho (brS (hs0 (tka s8) r p)) 0) + (cho (brS (hs0 (tka s8) r p)) 1)) + (cho (brS (hs0 (tka s8) r p)) 2)) + (cho (brS (hs0 (tka s8) r p)) 3)) (sm ((brS (hs0 (tka s8) r p)) 73) 16)) 0) → 0 < (gd ((((cho (brS (hs0 (tka s8) r p)) 0) + (cho (brS (hs0 (tka s8) r p)) 1)) + (cho (brS (hs0 (tka s8) r p)) 2)) + (cho (brS (hs0 (tka s8) r p)) 3)) (sm ((brS (hs0 (tka s8) r p)) 73) 16)))
    (l19 : 0 ≤ r → r < 6 → 0 ≤ p → p ≤ 12 → ∀ (v8 : Int) (s8 : m_St), qTr s r 6 v8 s8 → v8 = 0 → 0 < (cmpJ (gd ((((cho (brS (hs0 (tka s8) r p)) 0) + (cho (brS (hs0 (tka s8) r p)) 1)) + (cho (brS (hs0 (tka s8) r p)) 2)) + (cho (brS (hs0 (tka s8) r p)) 3)) (sm ((brS (hs0 (tka s8) r p)) 73) 16)) 0) → inJ ((((cho (brS (hs0 (tka s8) r p)) 0) + (cho (brS (hs0 (tka s8) r p)) 1)) + (cho (brS (hs0 (tka s8) r p)) 2)) + (cho (brS (hs0 (tka s8) r p)) 3)))
    (l20 : 0 ≤ r → r < 6 → 0 ≤ p → p ≤ 12 → ∀ (v8 : Int) (s8 : m_St), qTr s r 6 v8 s8 → v8 = 0 → 0 < (cmpJ (gd ((((cho (brS (hs0 (tka s8) r p)) 0) + (cho (brS (hs0 (tka s8) r p)) 1)) + (cho (brS (hs0 (tka s8) r p)) 2)) + (cho (brS (hs0 (tka s8) r p)) 3)) (sm ((brS (hs0 (tka s8) r p)) 73) 16)) 0) → inJ (gd ((((cho (brS (hs0 (tka s8) r p)) 0) + (cho (brS (hs0 (tka s8) r p)) 1)) + (cho (brS (hs0 (tka s8) r p)) 2)) + (cho (brS (hs0 (tka s8) r p)) 3)) (sm ((brS (hs0 (tka s8) r p)) 73) 16)))
    (l21 : 0 ≤ r → r < 6 → 0 ≤ p → p ≤ 12 → ∀ (v8 : Int) (s8 : m_St), qTr s r 6 v8 s8 → v8 = 0 → 0 < (cmpJ (gd ((((cho (brS (hs0 (tka s8) r p)) 0) + (cho (brS (hs0 (tka s8) r p)) 1)) + (cho (brS (hs0 (tka s8) r p)) 2)) + (cho (brS (hs0 (tka s8) r p)) 3)) (sm ((brS (hs0 (tka s8) r p)) 73) 16)) 0) → inJ (sm ((brS (hs0 (tka s8) r p)) 73) 16))
    (l22 : 0 ≤ r → r < 6 → 0 ≤ p → p ≤ 12 → ∀ (v8 : Int) (s8 : m_St), qTr s r 6 v8 s8 → v8 = 0 → 0 < (cmpJ (gd ((((cho (brS (hs0 (tka s8) r p)) 0) + (cho (brS (hs0 (tka s8) r p)) 1)) + (cho (brS (hs0 (tka s8) r p)) 2)) + (cho (brS (hs0 (tka s8) r p)) 3)) (sm ((brS (hs0 (tka s8) r p)) 73) 16)) 0) → P (some (vI 1)) (m_upd (m_upd (brS (hs0 (tka s8) r p)) 0 10 (((((cho (brS (hs0 (tka s8) r p)) 0) + (cho (brS (hs0 (tka s8) r p)) 1)) + (cho (brS (hs0 (tka s8) r p)) 2)) + (cho (brS (hs0 (tka s8) r p)) 3)) / (gd ((((cho (brS (hs0 (tka s8) r p)) 0) + (cho (brS (hs0 (tka s8) r p)) 1)) + (cho (brS (hs0 (tka s8) r p)) 2)) + (cho (brS (hs0 (tka s8) r p)) 3)) (sm ((brS (hs0 (tka s8) r p)) 73) 16)))) 0 11 ((sm ((brS (hs0 (tka s8) r p)) 73) 16) / (gd ((((cho (brS (hs0 (tka s8) r p)) 0) + (cho (brS (hs0 (tka s8) r p)) 1)) + (cho (brS (hs0 (tka s8) r p)) 2)) + (cho (brS (hs0 (tka s8) r p)) 3)) (sm ((brS (hs0 (tka s8) r p)) 73) 16)))))
    (l23 : 0 ≤ r → r < 6 → 0 ≤ p → p ≤ 12 → ∀ (v8 : Int) (s8 : m_St), qTr s r 6 v8 s8 → v8 = 0 → (cmpJ (gd ((((cho (brS (hs0 (tka s8) r p)) 0) + (cho (brS (hs0 (tka s8) r p)) 1)) + (cho (brS (hs0 (tka s8) r p)) 2)) + (cho (brS (hs0 (tka s8) r p)) 3)) (sm ((brS (hs0 (tka s8) r p)) 73) 16)) 0) ≤ 0 → P (some (vI 1)) (brS (hs0 (tka s8) r p)))
    (l24 : 0 ≤ r → r < 6 → 0 ≤ p → p ≤ 12 → ∀ (v8 : Int) (s8 : m_St), qTr s r 6 v8 s8 → ¬ v8 = 0 → P (some (vI v8)) s8)
    (l25 : 0 ≤ r → r < 6 → 0 ≤ p → 12 < p → P (some (vI (-1))) s)
    : Cl X (d + 14) 142 [vR 0, vI r, vI p] s P := by
  refine Cl_of n_142 rfl ?_
  show Rn _ _ _ _ [some (vR 0), some (vI r), some (vI p), none, none, none, none] [] _ _
  refine r_ldR_n (m := 0) F_142_0 rfl ?_
  refine r_getR (J := 0) F_142_1 o_142 fl_5_14 ty_0 (by decide) rfl (kd2 kd_0_0 (by decide)) (kd9 kd_0_0 (by decide)) rf_0_0 ?_
  refine r_ldI_n (m := 1) F_142_4 rfl ?_
  refine r_virt2 (A := [vI r]) (r := []) (n := 1) F_142_5 o_142 il_5_70 rfl rfl rfl rfl ty_1 vy_9 (lay_le n_9 rfl) ?_
  refine Cl_of n_9 rfl ?_
  show Rn _ _ _ _ [some (vR 1), some (vI r)] [] _ _
  refine r_ldI_n (m := 1) F_9_0 rfl ?_
  refine r_if (t := 17) F_9_1 rfl l1 ?_ ?_
  · intro e1
    replace e1 : r < 0 := e1
    refine r_iconst F_9_17 ?_
    refine r_zreturn F_9_18 rt_9 (Or.inl rfl) ?_
    show Rn _ _ _ _ _ [vI 0] _ _
    refine r_ifT (t := 21) F_142_8 rfl (by decide) (by show (0 : Int) = 0; decide) ?_
    refine r_iconst F_142_21 ?_
    refine r_ireturn F_142_22 rt_142 ?_
    exact (l2 e1)
  · intro e2
    replace e2 : 0 ≤ r := (Int.not_lt.mp e2)
    refine r_ldI_n (m := 1) F_9_4 rfl ?_
    refine r_ldR_n (m := 0) F_9_5 rfl ?_
    refine r_getR (J := 0) F_9_6 o_9 fl_3_19 ty_1 (by decide) rfl (kd2 kd_1_0 (by decide)) (kd9 kd_1_0 (by decide)) rf_1_0 ?_
    refine r_alen F_9_9 ty_2 (by decide) ln_2 ?_
    refine r_icmp (t := 17) F_9_10 rfl l1 (by decide) ?_ ?_
    · intro e3
      replace e3 : 6 ≤ r := e3
      refine r_iconst F_9_17 ?_
      refine r_zreturn F_9_18 rt_9 (Or.inl rfl) ?_
      show Rn _ _ _ _ _ [vI 0] _ _
      refine r_ifT (t := 21) F_142_8 rfl (by decide) (by show (0 : Int) = 0; decide) ?_
      refine r_iconst F_142_21 ?_
      refine r_ireturn F_142_22 rt_142 ?_
      exact (l3 e2 e3)
    · intro e4
      replace e4 : r < 6 := (Int.not_le.mp e4)
      refine r_iconst F_9_13 ?_
      refine r_goto (t := 18) F_9_14 rfl ?_
      refine r_zreturn F_9_18 rt_9 (Or.inr rfl) ?_
      show Rn _ _ _ _ _ [vI 1] _ _
      refine r_ifF (t := 21) F_142_8 rfl (by decide) (by show ¬ ((1 : Int) = 0); decide) ?_
      refine r_ldI_n (m := 2) F_142_11 rfl ?_
      refine r_if (t := 21) F_142_12 rfl (l4 e2 e4) ?_ ?_
      · intro e5
        replace e5 : p < 0 := e5
        refine r_iconst F_142_21 ?_
        refine r_ireturn F_142_22 rt_142 ?_
        exact (l5 e2 e4 e5)
      · intro e6
        replace e6 : 0 ≤ p := (Int.not_lt.mp e6)
        refine r_ldI_n (m := 2) F_142_15 rfl ?_
        refine r_bipush F_142_16 bi_12 ?_
        refine r_icmp (t := 23) F_142_18 rfl (l4 e2 e4) (by decide) ?_ ?_
        · intro e7
          replace e7 : p ≤ 12 := e7
          refine r_ldR_n (m := 0) F_142_23 rfl ?_
          refine r_ldI_n (m := 1) F_142_24 rfl ?_
          refine r_bipush F_142_25 bi_6 ?_
          refine r_virt2 (A := [vI r, vI 6]) (r := []) (n := 2) F_142_27 o_142 il_5_239 rfl rfl rfl rfl ty_0 vy_107 (lay_le n_107 rfl) ?_
          refine sp_talkRefusal l1 (by decide) (l6 e2 e4 e6 e7) (l7 e2 e4 e6 e7) ?_
          intro v8 s8 q8
          show Rn _ _ _ _ _ [vI v8] _ _
          refine r_stI_n (m := 3) (L' := [some (vR 0), some (vI r), some (vI p), some (vI v8), none, none, none]) F_142_30 rfl rfl ?_
          refine r_ldI_n (m := 3) F_142_31 rfl ?_
          refine r_if (t := 37) F_142_32 rfl (l8 e2 e4 e6 e7 v8 s8 q8) ?_ ?_
          · intro e9
            replace e9 : v8 = 0 := e9
            refine r_ldR_n (m := 0) F_142_37 rfl ?_
            refine r_virt2 (A := []) (r := []) (n := 0) F_142_38 o_142 il_5_229 rfl rfl rfl rfl ty_0 vy_98 (lay_le n_98 rfl) ?_
            refine sp_takeAside (l9 e2 e4 e6 e7 v8 s8 q8 e9) ?_
            show Rn _ _ _ _ _ [] _ _
            refine r_ldR_n (m := 0) F_142_41 rfl ?_
            refine r_getR (J := 5) F_142_42 o_142 fl_5_41 ty_0 (by decide) rfl (kd2 kd_0_5 (by decide)) (kd9 kd_0_5 (by decide)) rf_0_5 ?_
            refine r_ldR_n (m := 0) F_142_45 rfl ?_
            refine r_getR (J := 0) F_142_46 o_142 fl_5_14 ty_0 (by decide) rfl (kd2 kd_0_0 (by decide)) (kd9 kd_0_0 (by decide)) rf_0_0 ?_
            refine r_ldI_n (m := 1) F_142_49 rfl ?_
            refine r_ldI_n (m := 2) F_142_50 rfl ?_
            refine r_virt2 (A := [vR 1, vI r, vI p]) (r := []) (n := 3) F_142_51 o_142 il_5_276 rfl rfl rfl rfl ty_66 vy_136 (lay_le n_136 rfl) ?_
            refine sp_hearSome e2 e4 (l10 e2 e4 e6 e7 v8 s8 q8 e9) (l11 e2 e4 e6 e7 v8 s8 q8 e9) e6 e7 (l12 e2 e4 e6 e7 v8 s8 q8 e9) (l13 e2 e4 e6 e7 v8 s8 q8 e9) ?_
            show Rn _ _ _ _ _ [] _ _
            refine r_lconst (e := 0) F_142_54 rfl ?_
            refine r_stJ (m := 4) (L' := [some (vR 0), some (vI r), some (vI p), some (vI v8), some (vJ 0), none, none]) F_142_55 rfl rfl ?_
            refine r_iconst F_142_57 ?_
            refine r_stI (m := 6) (L' := [some (vR 0), some (vI r), some (vI p), some (vI v8), some (vJ 0), none, some (vI 0)]) F_142_58 rfl rfl ?_
            refine r_ldI (m := 6) F_142_60 rfl ?_
            refine r_iconst F_142_62 ?_
            refine r_icmpF (t := 86) F_142_63 rfl (by decide) (by decide) (by show ¬ ((4 : Int) ≤ 0); decide) ?_
            refine r_ldJ (m := 4) F_142_66 rfl ?_
            refine r_ldR_n (m := 0) F_142_68 rfl ?_
            refine r_getR (J := 5) F_142_69 o_142 fl_5_41 ty_0 (by decide) rfl (kd2 kd_0_5 (by decide)) (kd9 kd_0_5 (by decide)) rf_0_5 ?_
            refine r_ldI (m := 6) F_142_72 rfl ?_
            refine r_virt2 (A := [vI 0]) (r := [vJ 0]) (n := 1) F_142_74 o_142 il_5_280 rfl rfl rfl rfl ty_66 vy_138 (lay_le n_138 rfl) ?_
            refine sp_chancesOf  ?_
            show Rn _ _ _ _ _ [vJ (cho (brS (hs0 (tka s8) r p)) 0), vJ 0] _ _
            refine r_ladd (e := (cho (brS (hs0 (tka s8) r p)) 0)) F_142_77 (Int.zero_add _) ?_
            refine r_stJ (m := 4) (L' := [some (vR 0), some (vI r), some (vI p), some (vI v8), some (vJ (cho (brS (hs0 (tka s8) r p)) 0)), none, some (vI 0)]) F_142_78 rfl rfl ?_
            refine r_iinc (m := 6) (e := 1) (L' := [some (vR 0), some (vI r), some (vI p), some (vI v8), some (vJ (cho (brS (hs0 (tka s8) r p)) 0)), none, some (vI 1)]) F_142_80 rfl rfl rfl rfl ?_
            refine r_goto (t := 60) F_142_83 rfl ?_
            refine r_ldI (m := 6) F_142_60 rfl ?_
            refine r_iconst F_142_62 ?_
            refine r_icmpF (t := 86) F_142_63 rfl (by decide) (by decide) (by show ¬ ((4 : Int) ≤ 1); decide) ?_
            refine r_ldJ (m := 4) F_142_66 rfl ?_
            refine r_ldR_n (m := 0) F_142_68 rfl ?_
            refine r_getR (J := 5) F_142_69 o_142 fl_5_41 ty_0 (by decide) rfl (kd2 kd_0_5 (by decide)) (kd9 kd_0_5 (by decide)) rf_0_5 ?_
            refine r_ldI (m := 6) F_142_72 rfl ?_
            refine r_virt2 (A := [vI 1]) (r := [vJ (cho (brS (hs0 (tka s8) r p)) 0)]) (n := 1) F_142_74 o_142 il_5_280 rfl rfl rfl rfl ty_66 vy_138 (lay_le n_138 rfl) ?_
            refine sp_chancesOf  ?_
            show Rn _ _ _ _ _ [vJ (cho (brS (hs0 (tka s8) r p)) 1), vJ (cho (brS (hs0 (tka s8) r p)) 0)] _ _
            refine r_ladd F_142_77 rfl ?_
            refine r_stJ (m := 4) (L' := [some (vR 0), some (vI r), some (vI p), some (vI v8), some (vJ ((cho (brS (hs0 (tka s8) r p)) 0) + (cho (brS (hs0 (tka s8) r p)) 1))), none, some (vI 1)]) F_142_78 rfl rfl ?_
            refine r_iinc (m := 6) (e := 2) (L' := [some (vR 0), some (vI r), some (vI p), some (vI v8), some (vJ ((cho (brS (hs0 (tka s8) r p)) 0) + (cho (brS (hs0 (tka s8) r p)) 1))), none, some (vI 2)]) F_142_80 rfl rfl rfl rfl ?_
            refine r_goto (t := 60) F_142_83 rfl ?_
            refine r_ldI (m := 6) F_142_60 rfl ?_
            refine r_iconst F_142_62 ?_
            refine r_icmpF (t := 86) F_142_63 rfl (by decide) (by decide) (by show ¬ ((4 : Int) ≤ 2); decide) ?_
            refine r_ldJ (m := 4) F_142_66 rfl ?_
            refine r_ldR_n (m := 0) F_142_68 rfl ?_
            refine r_getR (J := 5) F_142_69 o_142 fl_5_41 ty_0 (by decide) rfl (kd2 kd_0_5 (by decide)) (kd9 kd_0_5 (by decide)) rf_0_5 ?_
            refine r_ldI (m := 6) F_142_72 rfl ?_
            refine r_virt2 (A := [vI 2]) (r := [vJ ((cho (brS (hs0 (tka s8) r p)) 0) + (cho (brS (hs0 (tka s8) r p)) 1))]) (n := 1) F_142_74 o_142 il_5_280 rfl rfl rfl rfl ty_66 vy_138 (lay_le n_138 rfl) ?_
            refine sp_chancesOf  ?_
            show Rn _ _ _ _ _ [vJ (cho (brS (hs0 (tka s8) r p)) 2), vJ ((cho (brS (hs0 (tka s8) r p)) 0) + (cho (brS (hs0 (tka s8) r p)) 1))] _ _
            refine r_ladd F_142_77 rfl ?_
            refine r_stJ (m := 4) (L' := [some (vR 0), some (vI r), some (vI p), some (vI v8), some (vJ (((cho (brS (hs0 (tka s8) r p)) 0) + (cho (brS (hs0 (tka s8) r p)) 1)) + (cho (brS (hs0 (tka s8) r p)) 2))), none, some (vI 2)]) F_142_78 rfl rfl ?_
            refine r_iinc (m := 6) (e := 3) (L' := [some (vR 0), some (vI r), some (vI p), some (vI v8), some (vJ (((cho (brS (hs0 (tka s8) r p)) 0) + (cho (brS (hs0 (tka s8) r p)) 1)) + (cho (brS (hs0 (tka s8) r p)) 2))), none, some (vI 3)]) F_142_80 rfl rfl rfl rfl ?_
            refine r_goto (t := 60) F_142_83 rfl ?_
            refine r_ldI (m := 6) F_142_60 rfl ?_
            refine r_iconst F_142_62 ?_
            refine r_icmpF (t := 86) F_142_63 rfl (by decide) (by decide) (by show ¬ ((4 : Int) ≤ 3); decide) ?_
            refine r_ldJ (m := 4) F_142_66 rfl ?_
            refine r_ldR_n (m := 0) F_142_68 rfl ?_
            refine r_getR (J := 5) F_142_69 o_142 fl_5_41 ty_0 (by decide) rfl (kd2 kd_0_5 (by decide)) (kd9 kd_0_5 (by decide)) rf_0_5 ?_
            refine r_ldI (m := 6) F_142_72 rfl ?_
            refine r_virt2 (A := [vI 3]) (r := [vJ (((cho (brS (hs0 (tka s8) r p)) 0) + (cho (brS (hs0 (tka s8) r p)) 1)) + (cho (brS (hs0 (tka s8) r p)) 2))]) (n := 1) F_142_74 o_142 il_5_280 rfl rfl rfl rfl ty_66 vy_138 (lay_le n_138 rfl) ?_
            refine sp_chancesOf  ?_
            show Rn _ _ _ _ _ [vJ (cho (brS (hs0 (tka s8) r p)) 3), vJ (((cho (brS (hs0 (tka s8) r p)) 0) + (cho (brS (hs0 (tka s8) r p)) 1)) + (cho (brS (hs0 (tka s8) r p)) 2))] _ _
            refine r_ladd F_142_77 rfl ?_
            refine r_stJ (m := 4) (L' := [some (vR 0), some (vI r), some (vI p), some (vI v8), some (vJ ((((cho (brS (hs0 (tka s8) r p)) 0) + (cho (brS (hs0 (tka s8) r p)) 1)) + (cho (brS (hs0 (tka s8) r p)) 2)) + (cho (brS (hs0 (tka s8) r p)) 3))), none, some (vI 3)]) F_142_78 rfl rfl ?_
            refine r_iinc (m := 6) (e := 4) (L' := [some (vR 0), some (vI r), some (vI p), some (vI v8), some (vJ ((((cho (brS (hs0 (tka s8) r p)) 0) + (cho (brS (hs0 (tka s8) r p)) 1)) + (cho (brS (hs0 (tka s8) r p)) 2)) + (cho (brS (hs0 (tka s8) r p)) 3))), none, some (vI 4)]) F_142_80 rfl rfl rfl rfl ?_
            refine r_goto (t := 60) F_142_83 rfl ?_
            refine r_ldI (m := 6) F_142_60 rfl ?_
            refine r_iconst F_142_62 ?_
            refine r_icmpT (t := 86) F_142_63 rfl (by decide) (by decide) (by show (4 : Int) ≤ 4; decide) ?_
            refine r_ldR_n (m := 0) F_142_86 rfl ?_
            refine r_ldJ (m := 4) F_142_87 rfl ?_
            refine r_ldR_n (m := 0) F_142_89 rfl ?_
            refine r_getR (J := 5) F_142_90 o_142 fl_5_41 ty_0 (by decide) rfl (kd2 kd_0_5 (by decide)) (kd9 kd_0_5 (by decide)) rf_0_5 ?_
            refine r_virt2 (A := []) (r := [vJ ((((cho (brS (hs0 (tka s8) r p)) 0) + (cho (brS (hs0 (tka s8) r p)) 1)) + (cho (brS (hs0 (tka s8) r p)) 2)) + (cho (brS (hs0 (tka s8) r p)) 3)), vR 0]) (n := 0) F_142_93 o_142 il_5_283 rfl rfl rfl rfl ty_66 vy_139 (lay_le n_139 rfl) ?_
            refine sp_allChances  ?_
            show Rn _ _ _ _ _ [vJ (sm ((brS (hs0 (tka s8) r p)) 73) 16), vJ ((((cho (brS (hs0 (tka s8) r p)) 0) + (cho (brS (hs0 (tka s8) r p)) 1)) + (cho (brS (hs0 (tka s8) r p)) 2)) + (cho (brS (hs0 (tka s8) r p)) 3)), vR 0] _ _
            refine r_virt2 (A := [vJ ((((cho (brS (hs0 (tka s8) r p)) 0) + (cho (brS (hs0 (tka s8) r p)) 1)) + (cho (brS (hs0 (tka s8) r p)) 2)) + (cho (brS (hs0 (tka s8) r p)) 3)), vJ (sm ((brS (hs0 (tka s8) r p)) 73) 16)]) (r := []) (n := 2) F_142_96 o_142 il_5_287 rfl rfl rfl rfl ty_0 vy_140 (lay_le n_140 rfl) ?_
            refine Cl_of n_140 rfl ?_
            show Rn _ _ _ _ [some (vR 0), some (vJ ((((cho (brS (hs0 (tka s8) r p)) 0) + (cho (brS (hs0 (tka s8) r p)) 1)) + (cho (brS (hs0 (tka s8) r p)) 2)) + (cho (brS (hs0 (tka s8) r p)) 3))), none, some (vJ (sm ((brS (hs0 (tka s8) r p)) 73) 16)), none, none, none] [] _ _
            refine r_ldJ_n (m := 1) F_140_0 rfl ?_
            refine r_ldJ_n (m := 3) F_140_1 rfl ?_
            refine r_stat2 (A := [vJ ((((cho (brS (hs0 (tka s8) r p)) 0) + (cho (brS (hs0 (tka s8) r p)) 1)) + (cho (brS (hs0 (tka s8) r p)) 2)) + (cho (brS (hs0 (tka s8) r p)) 3)), vJ (sm ((brS (hs0 (tka s8) r p)) 73) 16)]) (r := []) (n := 2) F_140_2 o_140 il_5_323 (by decide) rfl rfl rfl rfl (lay_le n_141 rfl) ?_
            refine sp_commonDivisor (l14 e2 e4 e6 e7 v8 s8 q8 e9) (l15 e2 e4 e6 e7 v8 s8 q8 e9) (l16 e2 e4 e6 e7 v8 s8 q8 e9) (l17 e2 e4 e6 e7 v8 s8 q8 e9) ?_
            show Rn _ _ _ _ _ [vJ (gd ((((cho (brS (hs0 (tka s8) r p)) 0) + (cho (brS (hs0 (tka s8) r p)) 1)) + (cho (brS (hs0 (tka s8) r p)) 2)) + (cho (brS (hs0 (tka s8) r p)) 3)) (sm ((brS (hs0 (tka s8) r p)) 73) 16))] _ _
            refine r_stJ (m := 5) (L' := [some (vR 0), some (vJ ((((cho (brS (hs0 (tka s8) r p)) 0) + (cho (brS (hs0 (tka s8) r p)) 1)) + (cho (brS (hs0 (tka s8) r p)) 2)) + (cho (brS (hs0 (tka s8) r p)) 3))), none, some (vJ (sm ((brS (hs0 (tka s8) r p)) 73) 16)), none, some (vJ (gd ((((cho (brS (hs0 (tka s8) r p)) 0) + (cho (brS (hs0 (tka s8) r p)) 1)) + (cho (brS (hs0 (tka s8) r p)) 2)) + (cho (brS (hs0 (tka s8) r p)) 3)) (sm ((brS (hs0 (tka s8) r p)) 73) 16))), none]) F_140_5 rfl rfl ?_
            refine r_ldJ (m := 5) F_140_7 rfl ?_
            refine r_lconst (e := 0) F_140_9 rfl ?_
            refine r_lcmp F_140_10 ?_
            refine r_if (t := 16) F_140_11 rfl (inR_cmpJ _ _) ?_ ?_
            · intro e10
              replace e10 : 0 < (cmpJ (gd ((((cho (brS (hs0 (tka s8) r p)) 0) + (cho (brS (hs0 (tka s8) r p)) 1)) + (cho (brS (hs0 (tka s8) r p)) 2)) + (cho (brS (hs0 (tka s8) r p)) 3)) (sm ((brS (hs0 (tka s8) r p)) 73) 16)) 0) := e10
              refine r_ldR_n (m := 0) F_140_16 rfl ?_
              refine r_ldJ_n (m := 1) F_140_17 rfl ?_
              refine r_ldJ (m := 5) F_140_18 rfl ?_
              refine r_ldiv F_140_20 (l19 e2 e4 e6 e7 v8 s8 q8 e9 e10) (l14 e2 e4 e6 e7 v8 s8 q8 e9) (l20 e2 e4 e6 e7 v8 s8 q8 e9 e10) (l18 e2 e4 e6 e7 v8 s8 q8 e9 e10) ?_
              refine r_putJ (J := 10) F_140_21 o_140 fl_5_63 ty_0 (by decide) rfl kd_0_10 pf_5_10 ?_
              refine r_ldR_n (m := 0) F_140_24 rfl ?_
              refine r_ldJ_n (m := 3) F_140_25 rfl ?_
              refine r_ldJ (m := 5) F_140_26 rfl ?_
              refine r_ldiv F_140_28 (l21 e2 e4 e6 e7 v8 s8 q8 e9 e10) (l15 e2 e4 e6 e7 v8 s8 q8 e9) (l20 e2 e4 e6 e7 v8 s8 q8 e9 e10) (l18 e2 e4 e6 e7 v8 s8 q8 e9 e10) ?_
              refine r_putJ (J := 11) F_140_29 o_140 fl_5_67 ty_0 (by decide) rfl kd_0_11 pf_5_11 ?_
              refine r_iconst F_140_32 ?_
              refine r_ireturn F_140_33 rt_140 ?_
              show Rn _ _ _ _ _ [vI 1] _ _
              refine r_ireturn F_142_99 rt_142 ?_
              exact (l22 e2 e4 e6 e7 v8 s8 q8 e9 e10)
            · intro e11
              replace e11 : (cmpJ (gd ((((cho (brS (hs0 (tka s8) r p)) 0) + (cho (brS (hs0 (tka s8) r p)) 1)) + (cho (brS (hs0 (tka s8) r p)) 2)) + (cho (brS (hs0 (tka s8) r p)) 3)) (sm ((brS (hs0 (tka s8) r p)) 73) 16)) 0) ≤ 0 := (Int.not_lt.mp e11)
              refine r_iconst F_140_14 ?_
              refine r_ireturn F_140_15 rt_140 ?_
              show Rn _ _ _ _ _ [vI 1] _ _
              refine r_ireturn F_142_99 rt_142 ?_
              exact (l23 e2 e4 e6 e7 v8 s8 q8 e9 e11)
          · intro e12
            replace e12 : ¬ v8 = 0 := e12
            refine r_ldI_n (m := 3) F_142_35 rfl ?_
            refine r_ireturn F_142_36 rt_142 ?_
            exact (l24 e2 e4 e6 e7 v8 s8 q8 e12)
        · intro e13
          replace e13 : 12 < p := (Int.not_le.mp e13)
          refine r_iconst F_142_21 ?_
          refine r_ireturn F_142_22 rt_142 ?_
          exact (l25 e2 e4 e6 e13)
theorem t_X5_lots {X : List Int32} {d : Nat} {s : m_St} {P : Option Value → m_St → Prop} {n z : Int}
    (l1 : inR n)
    (l2 : n < 1 → P (some (vI (-1))) s)
    (l3 : 1 ≤ n → 20 < n → P (some (vI (-1))) s)
    (l4 : 1 ≤ n → n ≤ 20 → inR z)
    (l5 : 1 ≤ n → n ≤ 20 → z < 1 → P (some (vI (-1))) s)
    (l6 : 1 ≤ n → n ≤ 20 → 1 ≤ z → (cmpJ z 2147483647) < 0 → inR (s 38 7))
    (l7 : 1 ≤ n → n ≤ 20 → 1 ≤ z → (cmpJ z 2147483647) < 0 → (s 38 7) = (-1) → P (some (vI (-4))) s)
    (l8 : 1 ≤ n → n ≤ 20 → 1 ≤ z → (cmpJ z 2147483647) < 0 → ¬ (s 38 7) = (-1) → inR ((s 38 9) + n))
    (l9 : 1 ≤ n → n ≤ 20 → 1 ≤ z → (cmpJ z 2147483647) < 0 → ¬ (s 38 7) = (-1) → 40 < ((s 38 9) + n) → P (some (vI (-2))) s)
    (l10 : 1 ≤ n → n ≤ 20 → 1 ≤ z → (cmpJ z 2147483647) < 0 → ¬ (s 38 7) = (-1) → ((s 38 9) + n) ≤ 40 → Rn X (d + 5) 143 60 [some (vR 0), some (vI n), some (vI z), some (vJ z), none, some (vI 0), none] [] s P)
    (l11 : 1 ≤ n → n ≤ 20 → 1 ≤ z → 0 ≤ (cmpJ z 2147483647) → P (some (vI (-1))) s)
    : Cl X (d + 5) 143 [vR 0, vI n, vI z] s P := by
  refine Cl_of n_143 rfl ?_
  show Rn _ _ _ _ [some (vR 0), some (vI n), some (vI z), none, none, none, none] [] _ _
  refine r_ldI_n (m := 1) F_143_0 rfl ?_
  refine r_iconst F_143_1 ?_
  refine r_icmp (t := 25) F_143_2 rfl l1 (by decide) ?_ ?_
  · intro e1
    replace e1 : n < 1 := e1
    refine r_iconst F_143_25 ?_
    refine r_ireturn F_143_26 rt_143 ?_
    exact (l2 e1)
  · intro e2
    replace e2 : 1 ≤ n := (Int.not_lt.mp e2)
    refine r_ldI_n (m := 1) F_143_5 rfl ?_
    refine r_bipush F_143_6 bi_20 ?_
    refine r_icmp (t := 25) F_143_8 rfl l1 (by decide) ?_ ?_
    · intro e3
      replace e3 : 20 < n := e3
      refine r_iconst F_143_25 ?_
      refine r_ireturn F_143_26 rt_143 ?_
      exact (l3 e2 e3)
    · intro e4
      replace e4 : n ≤ 20 := (Int.not_lt.mp e4)
      refine r_ldI_n (m := 2) F_143_11 rfl ?_
      refine r_iconst F_143_12 ?_
      refine r_icmp (t := 25) F_143_13 rfl (l4 e2 e4) (by decide) ?_ ?_
      · intro e5
        replace e5 : z < 1 := e5
        refine r_iconst F_143_25 ?_
        refine r_ireturn F_143_26 rt_143 ?_
        exact (l5 e2 e4 e5)
      · intro e6
        replace e6 : 1 ≤ z := (Int.not_lt.mp e6)
        refine r_ldI_n (m := 2) F_143_16 rfl ?_
        refine r_i2l F_143_17 (l4 e2 e4) ?_
        refine r_ldcJ F_143_18 o_143 kj_5_291 oj_2147483647 ?_
        refine r_lcmp F_143_21 ?_
        refine r_if (t := 27) F_143_22 rfl (inR_cmpJ _ _) ?_ ?_
        · intro e7
          replace e7 : (cmpJ z 2147483647) < 0 := e7
          refine r_ldR_n (m := 0) F_143_27 rfl ?_
          refine r_getR (J := 4) F_143_28 o_143 fl_5_34 ty_0 (by decide) rfl (kd2 kd_0_4 (by decide)) (kd9 kd_0_4 (by decide)) rf_0_4 ?_
          refine r_virt2 (A := []) (r := []) (n := 0) F_143_31 o_143 il_5_225 rfl rfl rfl rfl ty_38 vy_84 (lay_le n_84 rfl) ?_
          refine Cl_of n_84 rfl ?_
          show Rn _ _ _ _ [some (vR 38)] [] _ _
          refine r_ldR_n (m := 0) F_84_0 rfl ?_
          refine r_getI (J := 7) (e := (s 38 7)) F_84_1 o_84 fl_1_37 ty_38 (by decide) rfl kd_38_7 rfl ?_
          refine r_iconst F_84_4 ?_
          refine r_icmp (t := 12) F_84_5 rfl (l6 e2 e4 e6 e7) (by decide) ?_ ?_
          · intro e8
            replace e8 : (s 38 7) = (-1) := e8
            refine r_iconst F_84_12 ?_
            refine r_zreturn F_84_13 rt_84 (Or.inl rfl) ?_
            show Rn _ _ _ _ _ [vI 0] _ _
            refine r_ifF (t := 40) F_143_34 rfl (by decide) (by show ¬ (¬ (0 : Int) = 0); decide) ?_
            refine r_bipush F_143_37 bi__4 ?_
            refine r_ireturn F_143_39 rt_143 ?_
            exact (l7 e2 e4 e6 e7 e8)
          · intro e9
            replace e9 : ¬ (s 38 7) = (-1) := e9
            refine r_iconst F_84_8 ?_
            refine r_goto (t := 13) F_84_9 rfl ?_
            refine r_zreturn F_84_13 rt_84 (Or.inr rfl) ?_
            show Rn _ _ _ _ _ [vI 1] _ _
            refine r_ifT (t := 40) F_143_34 rfl (by decide) (by show ¬ (1 : Int) = 0; decide) ?_
            refine r_ldR_n (m := 0) F_143_40 rfl ?_
            refine r_getR (J := 4) F_143_41 o_143 fl_5_34 ty_0 (by decide) rfl (kd2 kd_0_4 (by decide)) (kd9 kd_0_4 (by decide)) rf_0_4 ?_
            refine r_ldI_n (m := 1) F_143_44 rfl ?_
            refine r_virt2 (A := [vI n]) (r := []) (n := 1) F_143_45 o_143 il_5_185 rfl rfl rfl rfl ty_38 vy_81 (lay_le n_81 rfl) ?_
            refine Cl_of n_81 rfl ?_
            show Rn _ _ _ _ [some (vR 38), some (vI n)] [] _ _
            refine r_ldR_n (m := 0) F_81_0 rfl ?_
            refine r_getI (J := 9) (e := (s 38 9)) F_81_1 o_81 fl_1_43 ty_38 (by decide) rfl kd_38_9 rfl ?_
            refine r_ldI_n (m := 1) F_81_4 rfl ?_
            refine r_iadd F_81_5 rfl ?_
            refine r_bipush F_81_6 bi_40 ?_
            refine r_icmp (t := 15) F_81_8 rfl (l8 e2 e4 e6 e7 e9) (by decide) ?_ ?_
            · intro e10
              replace e10 : 40 < ((s 38 9) + n) := e10
              refine r_iconst F_81_15 ?_
              refine r_zreturn F_81_16 rt_81 (Or.inl rfl) ?_
              show Rn _ _ _ _ _ [vI 0] _ _
              refine r_ifF (t := 54) F_143_48 rfl (by decide) (by show ¬ (¬ (0 : Int) = 0); decide) ?_
              refine r_bipush F_143_51 bi__2 ?_
              refine r_ireturn F_143_53 rt_143 ?_
              exact (l9 e2 e4 e6 e7 e9 e10)
            · intro e11
              replace e11 : ((s 38 9) + n) ≤ 40 := (Int.not_lt.mp e11)
              refine r_iconst F_81_11 ?_
              refine r_goto (t := 16) F_81_12 rfl ?_
              refine r_zreturn F_81_16 rt_81 (Or.inr rfl) ?_
              show Rn _ _ _ _ _ [vI 1] _ _
              refine r_ifT (t := 54) F_143_48 rfl (by decide) (by show ¬ (1 : Int) = 0; decide) ?_
              refine r_ldI_n (m := 2) F_143_54 rfl ?_
              refine r_i2l F_143_55 (l4 e2 e4) ?_
              refine r_stJ_n (m := 3) (L' := [some (vR 0), some (vI n), some (vI z), some (vJ z), none, none, none]) F_143_56 rfl rfl ?_
              refine r_iconst F_143_57 ?_
              refine r_stI (m := 5) (L' := [some (vR 0), some (vI n), some (vI z), some (vJ z), none, some (vI 0), none]) F_143_58 rfl rfl ?_
              exact (l10 e2 e4 e6 e7 e9 e11)
        · intro e12
          replace e12 : 0 ≤ (cmpJ z 2147483647) := (Int.not_lt.mp e12)
          refine r_iconst F_143_25 ?_
          refine r_ireturn F_143_26 rt_143 ?_
          exact (l11 e2 e4 e6 e12)
theorem t_X5_lots_60 {X : List Int32} {d : Nat} {s : m_St} {P : Option Value → m_St → Prop} {n z u i : Int} {z6 : Option Value} (i0 : 0 ≤ i)
    (l1 : inR i)
    (l2 : inR n)
    (l3 : n ≤ i → upk s)
    (l4 : n ≤ i → P (some (vI (shd s))) s)
    (l5 : i < n → 0 ≤ (u * 48271))
    (l6 : i < n → inJ (u * 48271))
    (l7 : i < n → 0 ≤ ((u * 48271) % 2147483647))
    (l8 : i < n → inJ ((u * 48271) % 2147483647))
    (l9 : i < n → 0 ≤ (((u * 48271) % 2147483647) / 8))
    (l10 : i < n → inJ (((u * 48271) % 2147483647) / 8))
    (l11 : i < n → ugk s)
    (l12 : i < n → 0 ≤ ((((u * 48271) % 2147483647) / 8) % 8))
    (l13 : i < n → ((((u * 48271) % 2147483647) / 8) % 8) < 8)
    (l14 : i < n → (csh s ((((u * 48271) % 2147483647) / 8) % 8)) = 0 → 0 ≤ s 38 9)
    (l15 : i < n → (csh s ((((u * 48271) % 2147483647) / 8) % 8)) = 0 → s 38 9 < 40)
    (l16 : i < n → (csh s ((((u * 48271) % 2147483647) / 8) % 8)) = 0 → (8 : Int) < 8 → upk s)
    (l17 : i < n → (csh s ((((u * 48271) % 2147483647) / 8) % 8)) = 0 → ∀ i, 0 ≤ i → i < 6 → gok s (44 + 4 * i))
    (l18 : i < n → (csh s ((((u * 48271) % 2147483647) / 8) % 8)) = 0 → Rn X (d + 5) 143 60 [some (vR 0), some (vI n), some (vI z), some (vJ ((u * 48271) % 2147483647)), none, some (vI (i + 1)), some (vI ((((u * 48271) % 2147483647) / 8) % 8))] [] (acs s 8) P)
    (l19 : i < n → ¬ (csh s ((((u * 48271) % 2147483647) / 8) % 8)) = 0 → inR (s 38 6))
    (l20 : i < n → ¬ (csh s ((((u * 48271) % 2147483647) / 8) % 8)) = 0 → (s 38 6) ≤ 0 → 0 ≤ s 38 9)
    (l21 : i < n → ¬ (csh s ((((u * 48271) % 2147483647) / 8) % 8)) = 0 → (s 38 6) ≤ 0 → s 38 9 < 40)
    (l22 : i < n → ¬ (csh s ((((u * 48271) % 2147483647) / 8) % 8)) = 0 → (s 38 6) ≤ 0 → (8 : Int) < 8 → upk s)
    (l23 : i < n → ¬ (csh s ((((u * 48271) % 2147483647) / 8) % 8)) = 0 → (s 38 6) ≤ 0 → ∀ i, 0 ≤ i → i < 6 → gok s (44 + 4 * i))
    (l24 : i < n → ¬ (csh s ((((u * 48271) % 2147483647) / 8) % 8)) = 0 → (s 38 6) ≤ 0 → Rn X (d + 5) 143 60 [some (vR 0), some (vI n), some (vI z), some (vJ ((u * 48271) % 2147483647)), none, some (vI (i + 1)), some (vI ((((u * 48271) % 2147483647) / 8) % 8))] [] (acs s 8) P)
    (l25 : i < n → ¬ (csh s ((((u * 48271) % 2147483647) / 8) % 8)) = 0 → 0 < (s 38 6) → 0 ≤ s 38 9)
    (l26 : i < n → ¬ (csh s ((((u * 48271) % 2147483647) / 8) % 8)) = 0 → 0 < (s 38 6) → s 38 9 < 40)
    (l27 : i < n → ¬ (csh s ((((u * 48271) % 2147483647) / 8) % 8)) = 0 → 0 < (s 38 6) → inR ((((u * 48271) % 2147483647) / 8) % 8))
    (l28 : i < n → ¬ (csh s ((((u * 48271) % 2147483647) / 8) % 8)) = 0 → 0 < (s 38 6) → (((((u * 48271) % 2147483647) / 8) % 8) : Int) < 8 → upk s)
    (l29 : i < n → ¬ (csh s ((((u * 48271) % 2147483647) / 8) % 8)) = 0 → 0 < (s 38 6) → ∀ i, 0 ≤ i → i < 6 → gok s (44 + 4 * i))
    (l30 : i < n → ¬ (csh s ((((u * 48271) % 2147483647) / 8) % 8)) = 0 → 0 < (s 38 6) → Rn X (d + 5) 143 60 [some (vR 0), some (vI n), some (vI z), some (vJ ((u * 48271) % 2147483647)), none, some (vI (i + 1)), some (vI ((((u * 48271) % 2147483647) / 8) % 8))] [] (acs s ((((u * 48271) % 2147483647) / 8) % 8)) P)
    : Rn X (d + 5) 143 60 [some (vR 0), some (vI n), some (vI z), some (vJ u), none, some (vI i), z6] [] s P := by
  refine r_ldI (m := 5) F_143_60 rfl ?_
  refine r_ldI_n (m := 1) F_143_62 rfl ?_
  refine r_icmp (t := 130) F_143_63 rfl l1 l2 ?_ ?_
  · intro e1
    replace e1 : n ≤ i := e1
    refine r_ldR_n (m := 0) F_143_130 rfl ?_
    refine r_getR (J := 4) F_143_131 o_143 fl_5_34 ty_0 (by decide) rfl (kd2 kd_0_4 (by decide)) (kd9 kd_0_4 (by decide)) rf_0_4 ?_
    refine r_virt2 (A := []) (r := []) (n := 0) F_143_134 o_143 il_5_191 rfl rfl rfl rfl ty_38 vy_83 (lay_le n_83 rfl) ?_
    refine sp_shared (l3 e1) ?_
    show Rn _ _ _ _ _ [vI (shd s)] _ _
    refine r_ireturn F_143_137 rt_143 ?_
    exact (l4 e1)
  · intro e2
    replace e2 : i < n := (Int.not_le.mp e2)
    refine r_ldJ_n (m := 3) F_143_66 rfl ?_
    refine r_ldcJ F_143_67 o_143 kj_5_293 oj_48271 ?_
    refine r_lmul F_143_70 rfl ?_
    refine r_ldcJ F_143_71 o_143 kj_5_291 oj_2147483647 ?_
    refine r_lrem F_143_74 (l6 e2) (l5 e2) (by decide) (by decide) ?_
    refine r_stJ_n (m := 3) (L' := [some (vR 0), some (vI n), some (vI z), some (vJ ((u * 48271) % 2147483647)), none, some (vI i), z6]) F_143_75 rfl rfl ?_
    refine r_ldJ_n (m := 3) F_143_76 rfl ?_
    refine r_ldcJ F_143_77 o_143 kj_5_295 oj_8 ?_
    refine r_ldiv F_143_80 (l8 e2) (l7 e2) (by decide) (by decide) ?_
    refine r_ldcJ F_143_81 o_143 kj_5_295 oj_8 ?_
    refine r_lrem F_143_84 (l10 e2) (l9 e2) (by decide) (by decide) ?_
    refine r_l2i F_143_85 ?_
    refine r_stI (m := 6) (L' := [some (vR 0), some (vI n), some (vI z), some (vJ ((u * 48271) % 2147483647)), none, some (vI i), some (vI ((((u * 48271) % 2147483647) / 8) % 8))]) F_143_86 rfl rfl ?_
    refine r_ldR_n (m := 0) F_143_88 rfl ?_
    refine r_getR (J := 4) F_143_89 o_143 fl_5_34 ty_0 (by decide) rfl (kd2 kd_0_4 (by decide)) (kd9 kd_0_4 (by decide)) rf_0_4 ?_
    refine r_ldR_n (m := 0) F_143_92 rfl ?_
    refine r_getR (J := 4) F_143_93 o_143 fl_5_34 ty_0 (by decide) rfl (kd2 kd_0_4 (by decide)) (kd9 kd_0_4 (by decide)) rf_0_4 ?_
    refine r_ldI (m := 6) F_143_96 rfl ?_
    refine r_virt2 (A := [vI ((((u * 48271) % 2147483647) / 8) % 8)]) (r := [vR 38]) (n := 1) F_143_98 o_143 il_5_197 rfl rfl rfl rfl ty_38 vy_87 (lay_le n_87 rfl) ?_
    refine sp_canSayH (l11 e2) (l12 e2) (l13 e2) ?_
    show Rn _ _ _ _ _ [vI (csh s ((((u * 48271) % 2147483647) / 8) % 8)), vR 38] _ _
    refine r_if (t := 119) F_143_101 rfl (inR_csh _ _) ?_ ?_
    · intro e3
      replace e3 : (csh s ((((u * 48271) % 2147483647) / 8) % 8)) = 0 := e3
      refine r_bipush F_143_119 bi_8 ?_
      refine r_virt2 (A := [vI 8]) (r := []) (n := 1) F_143_121 o_143 il_5_188 rfl rfl rfl rfl ty_38 vy_82 (lay_le n_82 rfl) ?_
      refine sp_act (l14 e2 e3) (l15 e2 e3) (by decide) (by decide) (l16 e2 e3) (l17 e2 e3) ?_
      show Rn _ _ _ _ _ [] _ _
      refine r_iinc (m := 5) (e := (i + 1)) (L' := [some (vR 0), some (vI n), some (vI z), some (vJ ((u * 48271) % 2147483647)), none, some (vI (i + 1)), some (vI ((((u * 48271) % 2147483647) / 8) % 8))]) F_143_124 rfl rfl rfl rfl ?_
      refine r_goto (t := 60) F_143_127 rfl ?_
      exact (l18 e2 e3)
    · intro e4
      replace e4 : ¬ (csh s ((((u * 48271) % 2147483647) / 8) % 8)) = 0 := e4
      refine r_ldR_n (m := 0) F_143_104 rfl ?_
      refine r_getR (J := 4) F_143_105 o_143 fl_5_34 ty_0 (by decide) rfl (kd2 kd_0_4 (by decide)) (kd9 kd_0_4 (by decide)) rf_0_4 ?_
      refine r_virt2 (A := []) (r := [vR 38]) (n := 0) F_143_108 o_143 il_5_200 rfl rfl rfl rfl ty_38 vy_88 (lay_le n_88 rfl) ?_
      refine Cl_of n_88 rfl ?_
      show Rn _ _ _ _ [some (vR 38)] [] _ _
      refine r_ldR_n (m := 0) F_88_0 rfl ?_
      refine r_getI (J := 6) (e := (s 38 6)) F_88_1 o_88 fl_1_34 ty_38 (by decide) rfl kd_38_6 rfl ?_
      refine r_ireturn F_88_4 rt_88 ?_
      show Rn _ _ _ _ _ [vI (s 38 6), vR 38] _ _
      refine r_if (t := 119) F_143_111 rfl (l19 e2 e4) ?_ ?_
      · intro e5
        replace e5 : (s 38 6) ≤ 0 := e5
        refine r_bipush F_143_119 bi_8 ?_
        refine r_virt2 (A := [vI 8]) (r := []) (n := 1) F_143_121 o_143 il_5_188 rfl rfl rfl rfl ty_38 vy_82 (lay_le n_82 rfl) ?_
        refine sp_act (l20 e2 e4 e5) (l21 e2 e4 e5) (by decide) (by decide) (l22 e2 e4 e5) (l23 e2 e4 e5) ?_
        show Rn _ _ _ _ _ [] _ _
        refine r_iinc (m := 5) (e := (i + 1)) (L' := [some (vR 0), some (vI n), some (vI z), some (vJ ((u * 48271) % 2147483647)), none, some (vI (i + 1)), some (vI ((((u * 48271) % 2147483647) / 8) % 8))]) F_143_124 rfl rfl rfl rfl ?_
        refine r_goto (t := 60) F_143_127 rfl ?_
        exact (l24 e2 e4 e5)
      · intro e6
        replace e6 : 0 < (s 38 6) := (Int.not_le.mp e6)
        refine r_ldI (m := 6) F_143_114 rfl ?_
        refine r_goto (t := 121) F_143_116 rfl ?_
        refine r_virt2 (A := [vI ((((u * 48271) % 2147483647) / 8) % 8)]) (r := []) (n := 1) F_143_121 o_143 il_5_188 rfl rfl rfl rfl ty_38 vy_82 (lay_le n_82 rfl) ?_
        refine sp_act (l25 e2 e4 e6) (l26 e2 e4 e6) (l12 e2) (l27 e2 e4 e6) (l28 e2 e4 e6) (l29 e2 e4 e6) ?_
        show Rn _ _ _ _ _ [] _ _
        refine r_iinc (m := 5) (e := (i + 1)) (L' := [some (vR 0), some (vI n), some (vI z), some (vJ ((u * 48271) % 2147483647)), none, some (vI (i + 1)), some (vI ((((u * 48271) % 2147483647) / 8) % 8))]) F_143_124 rfl rfl rfl rfl ?_
        refine r_goto (t := 60) F_143_127 rfl ?_
        exact (l30 e2 e4 e6)
theorem t_X5_asked {X : List Int32} {d : Nat} {s : m_St} {P : Option Value → m_St → Prop}
    (l1 : P (some (vI (s 0 9))) s)
    : Cl X d 144 [vR 0] s P := by
  refine Cl_of n_144 rfl ?_
  show Rn _ _ _ _ [some (vR 0)] [] _ _
  refine r_ldR_n (m := 0) F_144_0 rfl ?_
  refine r_getI (J := 9) (e := (s 0 9)) F_144_1 o_144 fl_5_60 ty_0 (by decide) rfl kd_0_9 rfl ?_
  refine r_ireturn F_144_4 rt_144 ?_
  exact l1
theorem t_X5_upper {X : List Int32} {d : Nat} {s : m_St} {P : Option Value → m_St → Prop}
    (l1 : P (some (vJ (s 0 10))) s)
    : Cl X d 145 [vR 0] s P := by
  refine Cl_of n_145 rfl ?_
  show Rn _ _ _ _ [some (vR 0)] [] _ _
  refine r_ldR_n (m := 0) F_145_0 rfl ?_
  refine r_getJ (J := 10) (e := (s 0 10)) F_145_1 o_145 fl_5_63 ty_0 (by decide) rfl kd_0_10 rfl ?_
  refine r_lreturn F_145_4 rt_145 ?_
  exact l1
theorem t_X5_lower {X : List Int32} {d : Nat} {s : m_St} {P : Option Value → m_St → Prop}
    (l1 : P (some (vJ (s 0 11))) s)
    : Cl X d 146 [vR 0] s P := by
  refine Cl_of n_146 rfl ?_
  show Rn _ _ _ _ [some (vR 0)] [] _ _
  refine r_ldR_n (m := 0) F_146_0 rfl ?_
  refine r_getJ (J := 11) (e := (s 0 11)) F_146_1 o_146 fl_5_67 ty_0 (by decide) rfl kd_0_11 rfl ?_
  refine r_lreturn F_146_4 rt_146 ?_
  exact l1
theorem t_X5_count {X : List Int32} {d : Nat} {s : m_St} {P : Option Value → m_St → Prop} {w : Int}
    (l1 : inR w)
    (l2 : w = 0 → P (some (vI (s 38 3))) s)
    (l3 : w = 1 → P (some (vI (s 38 6))) s)
    (l4 : w = 2 → P (some (vI (s 38 9))) s)
    (l5 : w = 3 → 0 ≤ (s 38 9))
    (l6 : w = 3 → (s 38 9) ≤ 40)
    (l7 : w = 3 → ∀ i, 0 ≤ i → i < s 38 9 → inR (s 41 i))
    (l8 : w = 3 → P (some (vI (syd s))) s)
    (l9 : w = 4 → inR (s 38 7))
    (l10 : w = 4 → (s 38 7) = (-1) → P (some (vI 0)) s)
    (l11 : w = 4 → ¬ (s 38 7) = (-1) → P (some (vI ((10 * (s 38 7)) + (s 38 8)))) s)
    (l12 : w = 5 → 0 ≤ (s 38 5))
    (l13 : w = 5 → (s 38 5) < 65536)
    (l14 : w = 5 → P (some (vI (bc (s 38 5)))) s)
    (l15 : w = 6 → 0 ≤ (s 38 3))
    (l16 : w = 6 → (s 38 3) ≤ 6)
    (l17 : w = 6 → P (some (vI (hba s (Int.toNat (s 38 3))))) s)
    (l18 : w = 7 → 0 ≤ (s 38 3))
    (l19 : w = 7 → (s 38 3) ≤ 6)
    (l20 : w = 7 → ∀ i, 0 ≤ i → i < s 38 3 → inR (s (44 + 4 * i) 1))
    (l21 : w = 7 → P (some (vI (bsh s))) s)
    (l22 : w = 8 → ∀ r, 0 ≤ r → r < 6 → inR (s 2 r))
    (l23 : w = 8 → P (some (vI (thr1 s))) s)
    (l24 : w = 9 → ∀ r, 0 ≤ r → r < 4 → inR (s 11 r))
    (l25 : w = 9 → P (some (vI (thr10 s))) s)
    (l26 : w = 10 → ∀ r, 0 ≤ r → r < 3 → inR (s 18 r))
    (l27 : w = 10 → P (some (vI (thr17 s))) s)
    (l28 : (w < 0 ∨ 10 < w) → P (some (vI (-1))) s)
    : Cl X (d + 4) 147 [vR 0, vI w] s P := by
  refine Cl_of n_147 rfl ?_
  show Rn _ _ _ _ [some (vR 0), some (vI w)] [] _ _
  refine r_ldI_n (m := 1) F_147_0 rfl ?_
  rcases (show w = 0 ∨ w = 1 ∨ w = 2 ∨ w = 3 ∨ w = 4 ∨ w = 5 ∨ w = 6 ∨ w = 7 ∨ w = 8 ∨ w = 9 ∨ w = 10 ∨ (w < 0 ∨ 10 < w) by omega) with hh | hh | hh | hh | hh | hh | hh | hh | hh | hh | hh | hh
  · have e1 := hh
    refine r_tswI (t := 60) (z := 59) (i := 0) F_147_1 l1 rfl rfl (by omega) (by decide) ?_
    refine r_ldR_n (m := 0) F_147_60 rfl ?_
    refine r_getR (J := 4) F_147_61 o_147 fl_5_34 ty_0 (by decide) rfl (kd2 kd_0_4 (by decide)) (kd9 kd_0_4 (by decide)) rf_0_4 ?_
    refine r_virt2 (A := []) (r := []) (n := 0) F_147_64 o_147 il_5_132 rfl rfl rfl rfl ty_38 vy_64 (lay_le n_64 rfl) ?_
    refine Cl_of n_64 rfl ?_
    show Rn _ _ _ _ [some (vR 38)] [] _ _
    refine r_ldR_n (m := 0) F_64_0 rfl ?_
    refine r_getI (J := 3) (e := (s 38 3)) F_64_1 o_64 fl_1_24 ty_38 (by decide) rfl kd_38_3 rfl ?_
    refine r_ireturn F_64_4 rt_64 ?_
    show Rn _ _ _ _ _ [vI (s 38 3)] _ _
    refine r_ireturn F_147_67 rt_147 ?_
    exact (l2 e1)
  · have e2 := hh
    refine r_tswI (t := 68) (z := 67) (i := 1) F_147_1 l1 rfl rfl (by omega) (by decide) ?_
    refine r_ldR_n (m := 0) F_147_68 rfl ?_
    refine r_getR (J := 4) F_147_69 o_147 fl_5_34 ty_0 (by decide) rfl (kd2 kd_0_4 (by decide)) (kd9 kd_0_4 (by decide)) rf_0_4 ?_
    refine r_virt2 (A := []) (r := []) (n := 0) F_147_72 o_147 il_5_200 rfl rfl rfl rfl ty_38 vy_88 (lay_le n_88 rfl) ?_
    refine Cl_of n_88 rfl ?_
    show Rn _ _ _ _ [some (vR 38)] [] _ _
    refine r_ldR_n (m := 0) F_88_0 rfl ?_
    refine r_getI (J := 6) (e := (s 38 6)) F_88_1 o_88 fl_1_34 ty_38 (by decide) rfl kd_38_6 rfl ?_
    refine r_ireturn F_88_4 rt_88 ?_
    show Rn _ _ _ _ _ [vI (s 38 6)] _ _
    refine r_ireturn F_147_75 rt_147 ?_
    exact (l3 e2)
  · have e3 := hh
    refine r_tswI (t := 76) (z := 75) (i := 2) F_147_1 l1 rfl rfl (by omega) (by decide) ?_
    refine r_ldR_n (m := 0) F_147_76 rfl ?_
    refine r_getR (J := 4) F_147_77 o_147 fl_5_34 ty_0 (by decide) rfl (kd2 kd_0_4 (by decide)) (kd9 kd_0_4 (by decide)) rf_0_4 ?_
    refine r_virt2 (A := []) (r := []) (n := 0) F_147_80 o_147 il_5_212 rfl rfl rfl rfl ty_38 vy_92 (lay_le n_92 rfl) ?_
    refine Cl_of n_92 rfl ?_
    show Rn _ _ _ _ [some (vR 38)] [] _ _
    refine r_ldR_n (m := 0) F_92_0 rfl ?_
    refine r_getI (J := 9) (e := (s 38 9)) F_92_1 o_92 fl_1_43 ty_38 (by decide) rfl kd_38_9 rfl ?_
    refine r_ireturn F_92_4 rt_92 ?_
    show Rn _ _ _ _ _ [vI (s 38 9)] _ _
    refine r_ireturn F_147_83 rt_147 ?_
    exact (l4 e3)
  · have e4 := hh
    refine r_tswI (t := 84) (z := 83) (i := 3) F_147_1 l1 rfl rfl (by omega) (by decide) ?_
    refine r_ldR_n (m := 0) F_147_84 rfl ?_
    refine r_getR (J := 4) F_147_85 o_147 fl_5_34 ty_0 (by decide) rfl (kd2 kd_0_4 (by decide)) (kd9 kd_0_4 (by decide)) rf_0_4 ?_
    refine r_virt2 (A := []) (r := []) (n := 0) F_147_88 o_147 il_5_297 rfl rfl rfl rfl ty_38 vy_148 (lay_le n_148 rfl) ?_
    refine sp_sayingsDone (l5 e4) (l6 e4) (l7 e4) ?_
    show Rn _ _ _ _ _ [vI (syd s)] _ _
    refine r_ireturn F_147_91 rt_147 ?_
    exact (l8 e4)
  · have e5 := hh
    refine r_tswI (t := 92) (z := 91) (i := 4) F_147_1 l1 rfl rfl (by omega) (by decide) ?_
    refine r_ldR_n (m := 0) F_147_92 rfl ?_
    refine r_getR (J := 4) F_147_93 o_147 fl_5_34 ty_0 (by decide) rfl (kd2 kd_0_4 (by decide)) (kd9 kd_0_4 (by decide)) rf_0_4 ?_
    refine r_virt2 (A := []) (r := []) (n := 0) F_147_96 o_147 il_5_300 rfl rfl rfl rfl ty_38 vy_149 (lay_le n_149 rfl) ?_
    refine Cl_of n_149 rfl ?_
    show Rn _ _ _ _ [some (vR 38)] [] _ _
    refine r_ldR_n (m := 0) F_149_0 rfl ?_
    refine r_virt2 (A := []) (r := []) (n := 0) F_149_1 o_149 il_1_114 rfl rfl rfl rfl ty_38 vy_84 (lay_le n_84 rfl) ?_
    refine Cl_of n_84 rfl ?_
    show Rn _ _ _ _ [some (vR 38)] [] _ _
    refine r_ldR_n (m := 0) F_84_0 rfl ?_
    refine r_getI (J := 7) (e := (s 38 7)) F_84_1 o_84 fl_1_37 ty_38 (by decide) rfl kd_38_7 rfl ?_
    refine r_iconst F_84_4 ?_
    refine r_icmp (t := 12) F_84_5 rfl (l9 e5) (by decide) ?_ ?_
    · intro e6
      replace e6 : (s 38 7) = (-1) := e6
      refine r_iconst F_84_12 ?_
      refine r_zreturn F_84_13 rt_84 (Or.inl rfl) ?_
      show Rn _ _ _ _ _ [vI 0] _ _
      refine r_ifT (t := 22) F_149_4 rfl (by decide) (by show (0 : Int) = 0; decide) ?_
      refine r_iconst F_149_22 ?_
      refine r_ireturn F_149_23 rt_149 ?_
      show Rn _ _ _ _ _ [vI 0] _ _
      refine r_ireturn F_147_99 rt_147 ?_
      exact (l10 e5 e6)
    · intro e7
      replace e7 : ¬ (s 38 7) = (-1) := e7
      refine r_iconst F_84_8 ?_
      refine r_goto (t := 13) F_84_9 rfl ?_
      refine r_zreturn F_84_13 rt_84 (Or.inr rfl) ?_
      show Rn _ _ _ _ _ [vI 1] _ _
      refine r_ifF (t := 22) F_149_4 rfl (by decide) (by show ¬ ((1 : Int) = 0); decide) ?_
      refine r_bipush F_149_7 bi_10 ?_
      refine r_ldR_n (m := 0) F_149_9 rfl ?_
      refine r_getI (J := 7) (e := (s 38 7)) F_149_10 o_149 fl_1_37 ty_38 (by decide) rfl kd_38_7 rfl ?_
      refine r_imul F_149_13 rfl ?_
      refine r_ldR_n (m := 0) F_149_14 rfl ?_
      refine r_getI (J := 8) (e := (s 38 8)) F_149_15 o_149 fl_1_40 ty_38 (by decide) rfl kd_38_8 rfl ?_
      refine r_iadd F_149_18 rfl ?_
      refine r_goto (t := 23) F_149_19 rfl ?_
      refine r_ireturn F_149_23 rt_149 ?_
      show Rn _ _ _ _ _ [vI ((10 * (s 38 7)) + (s 38 8))] _ _
      refine r_ireturn F_147_99 rt_147 ?_
      exact (l11 e5 e7)
  · have e8 := hh
    refine r_tswI (t := 100) (z := 99) (i := 5) F_147_1 l1 rfl rfl (by omega) (by decide) ?_
    refine r_ldR_n (m := 0) F_147_100 rfl ?_
    refine r_getR (J := 4) F_147_101 o_147 fl_5_34 ty_0 (by decide) rfl (kd2 kd_0_4 (by decide)) (kd9 kd_0_4 (by decide)) rf_0_4 ?_
    refine r_virt2 (A := []) (r := []) (n := 0) F_147_104 o_147 il_5_149 rfl rfl rfl rfl ty_38 vy_71 (lay_le n_71 rfl) ?_
    refine Cl_of n_71 rfl ?_
    show Rn _ _ _ _ [some (vR 38)] [] _ _
    refine r_ldR_n (m := 0) F_71_0 rfl ?_
    refine r_getI (J := 5) (e := (s 38 5)) F_71_1 o_71 fl_1_31 ty_38 (by decide) rfl kd_38_5 rfl ?_
    refine r_ireturn F_71_4 rt_71 ?_
    show Rn _ _ _ _ _ [vI (s 38 5)] _ _
    refine r_stat2 (A := [vI (s 38 5)]) (r := []) (n := 1) F_147_107 o_147 il_5_161 (by decide) rfl rfl rfl rfl (lay_le n_74 rfl) ?_
    refine sp_bitCount (l12 e8) (l13 e8) ?_
    show Rn _ _ _ _ _ [vI (bc (s 38 5))] _ _
    refine r_ireturn F_147_110 rt_147 ?_
    exact (l14 e8)
  · have e9 := hh
    refine r_tswI (t := 111) (z := 110) (i := 6) F_147_1 l1 rfl rfl (by omega) (by decide) ?_
    refine r_ldR_n (m := 0) F_147_111 rfl ?_
    refine r_getR (J := 4) F_147_112 o_147 fl_5_34 ty_0 (by decide) rfl (kd2 kd_0_4 (by decide)) (kd9 kd_0_4 (by decide)) rf_0_4 ?_
    refine r_virt2 (A := []) (r := []) (n := 0) F_147_115 o_147 il_5_303 rfl rfl rfl rfl ty_38 vy_150 (lay_le n_150 rfl) ?_
    refine sp_heldByAll (l15 e9) (l16 e9) ?_
    show Rn _ _ _ _ _ [vI (hba s (Int.toNat (s 38 3)))] _ _
    refine r_ireturn F_147_118 rt_147 ?_
    exact (l17 e9)
  · have e10 := hh
    refine r_tswI (t := 119) (z := 118) (i := 7) F_147_1 l1 rfl rfl (by omega) (by decide) ?_
    refine r_ldR_n (m := 0) F_147_119 rfl ?_
    refine r_getR (J := 4) F_147_120 o_147 fl_5_34 ty_0 (by decide) rfl (kd2 kd_0_4 (by decide)) (kd9 kd_0_4 (by decide)) rf_0_4 ?_
    refine r_virt2 (A := []) (r := []) (n := 0) F_147_123 o_147 il_5_306 rfl rfl rfl rfl ty_38 vy_151 (lay_le n_151 rfl) ?_
    refine sp_bishops (l18 e10) (l19 e10) (l20 e10) ?_
    show Rn _ _ _ _ _ [vI (bsh s)] _ _
    refine r_ireturn F_147_126 rt_147 ?_
    exact (l21 e10)
  · have e11 := hh
    refine r_tswI (t := 127) (z := 126) (i := 8) F_147_1 l1 rfl rfl (by omega) (by decide) ?_
    refine r_ldR_n (m := 0) F_147_127 rfl ?_
    refine r_getR (J := 0) F_147_128 o_147 fl_5_14 ty_0 (by decide) rfl (kd2 kd_0_0 (by decide)) (kd9 kd_0_0 (by decide)) rf_0_0 ?_
    refine r_virt2 (A := []) (r := []) (n := 0) F_147_131 o_147 il_5_309 rfl rfl rfl rfl ty_1 vy_152 (lay_le n_152 rfl) ?_
    refine sp_there1 (l22 e11) ?_
    show Rn _ _ _ _ _ [vI (thr1 s)] _ _
    refine r_ireturn F_147_134 rt_147 ?_
    exact (l23 e11)
  · have e12 := hh
    refine r_tswI (t := 135) (z := 134) (i := 9) F_147_1 l1 rfl rfl (by omega) (by decide) ?_
    refine r_ldR_n (m := 0) F_147_135 rfl ?_
    refine r_getR (J := 1) F_147_136 o_147 fl_5_18 ty_0 (by decide) rfl (kd2 kd_0_1 (by decide)) (kd9 kd_0_1 (by decide)) rf_0_1 ?_
    refine r_virt2 (A := []) (r := []) (n := 0) F_147_139 o_147 il_5_309 rfl rfl rfl rfl ty_10 vy_152 (lay_le n_152 rfl) ?_
    refine sp_there10 (l24 e12) ?_
    show Rn _ _ _ _ _ [vI (thr10 s)] _ _
    refine r_ireturn F_147_142 rt_147 ?_
    exact (l25 e12)
  · have e13 := hh
    refine r_tswI (t := 143) (z := 142) (i := 10) F_147_1 l1 rfl rfl (by omega) (by decide) ?_
    refine r_ldR_n (m := 0) F_147_143 rfl ?_
    refine r_getR (J := 2) F_147_144 o_147 fl_5_21 ty_0 (by decide) rfl (kd2 kd_0_2 (by decide)) (kd9 kd_0_2 (by decide)) rf_0_2 ?_
    refine r_virt2 (A := []) (r := []) (n := 0) F_147_147 o_147 il_5_309 rfl rfl rfl rfl ty_17 vy_152 (lay_le n_152 rfl) ?_
    refine sp_there17 (l26 e13) ?_
    show Rn _ _ _ _ _ [vI (thr17 s)] _ _
    refine r_ireturn F_147_150 rt_147 ?_
    exact (l27 e13)
  · have e14 := hh
    refine r_tswD (t := 151) F_147_1 l1 rfl e14 ?_
    refine r_iconst F_147_151 ?_
    refine r_ireturn F_147_152 rt_147 ?_
    exact (l28 e14)
theorem t_X5_finding {X : List Int32} {d : Nat} {s : m_St} {P : Option Value → m_St → Prop}
    (l1 : P (some (vI (s 0 8))) s)
    : Cl X d 153 [vR 0] s P := by
  refine Cl_of n_153 rfl ?_
  show Rn _ _ _ _ [some (vR 0)] [] _ _
  refine r_ldR_n (m := 0) F_153_0 rfl ?_
  refine r_getI (J := 8) (e := (s 0 8)) F_153_1 o_153 fl_5_56 ty_0 (by decide) rfl kd_0_8 rfl ?_
  refine r_ireturn F_153_4 rt_153 ?_
  exact l1
theorem t_X5_findings {X : List Int32} {d : Nat} {s : m_St} {P : Option Value → m_St → Prop} {f : Int}
    (l1 : inR f)
    (l2 : f < 1 → P (some (vI (-1))) s)
    (l3 : 1 ≤ f → f ≤ 5 → 0 ≤ f)
    (l4 : 1 ≤ f → f ≤ 5 → f < 6)
    (l5 : 1 ≤ f → f ≤ 5 → P (some (vI (s 76 f))) s)
    (l6 : 1 ≤ f → 5 < f → P (some (vI (-1))) s)
    : Cl X d 154 [vR 0, vI f] s P := by
  refine Cl_of n_154 rfl ?_
  show Rn _ _ _ _ [some (vR 0), some (vI f)] [] _ _
  refine r_ldI_n (m := 1) F_154_0 rfl ?_
  refine r_iconst F_154_1 ?_
  refine r_icmp (t := 10) F_154_2 rfl l1 (by decide) ?_ ?_
  · intro e1
    replace e1 : f < 1 := e1
    refine r_iconst F_154_10 ?_
    refine r_goto (t := 20) F_154_11 rfl ?_
    refine r_ireturn F_154_20 rt_154 ?_
    exact (l2 e1)
  · intro e2
    replace e2 : 1 ≤ f := (Int.not_lt.mp e2)
    refine r_ldI_n (m := 1) F_154_5 rfl ?_
    refine r_iconst F_154_6 ?_
    refine r_icmp (t := 14) F_154_7 rfl l1 (by decide) ?_ ?_
    · intro e3
      replace e3 : f ≤ 5 := e3
      refine r_ldR_n (m := 0) F_154_14 rfl ?_
      refine r_getR (J := 7) F_154_15 o_154 fl_5_52 ty_0 (by decide) rfl (kd2 kd_0_7 (by decide)) (kd9 kd_0_7 (by decide)) rf_0_7 ?_
      refine r_ldI_n (m := 1) F_154_18 rfl ?_
      refine r_iald (e := (s 76 f)) F_154_19 ty_76 (l3 e2 e3) (lt_ln ln_76 (l4 e2 e3)) rfl ?_
      refine r_ireturn F_154_20 rt_154 ?_
      exact (l5 e2 e3)
    · intro e4
      replace e4 : 5 < f := (Int.not_le.mp e4)
      refine r_iconst F_154_10 ?_
      refine r_goto (t := 20) F_154_11 rfl ?_
      refine r_ireturn F_154_20 rt_154 ?_
      exact (l6 e2 e4)
