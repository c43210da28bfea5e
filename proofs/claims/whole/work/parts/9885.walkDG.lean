/-! walks: digests -/
theorem n_155 : m_n 155 = 5 := by decide +kernel
theorem F_155_0 : F 155 0 (.ldc2_w 312) 3 := ⟨3, by decide +kernel, rfl, rfl⟩
theorem kj_5_312 : m_k64.lookup (5, 312) = some (17, 4131) := by decide +kernel
theorem oj_17 : (17 : Int64) = Int64.ofInt 17 := by decide +kernel
theorem o_155 : m_o 155 = 5 := by decide +kernel
theorem F_155_3 : F 155 3 (.lstore_n 1) 4 := ⟨1, by decide +kernel, rfl, rfl⟩
theorem F_155_4 : F 155 4 (.iconst 0) 5 := ⟨1, by decide +kernel, rfl, rfl⟩
theorem F_155_5 : F 155 5 (.istore_n 3) 6 := ⟨1, by decide +kernel, rfl, rfl⟩
theorem F_155_6 : F 155 6 (.iload_n 3) 7 := ⟨1, by decide +kernel, rfl, rfl⟩
theorem F_155_7 : F 155 7 (.bipush 11) 9 := ⟨2, by decide +kernel, rfl, rfl⟩
theorem bi_11 : (Int8.ofInt 11).toInt32 = Int32.ofInt 11 := by decide +kernel
theorem F_155_9 : F 155 9 (.if_icmp .ge 22) 12 := ⟨3, by decide +kernel, rfl, rfl⟩
theorem F_155_31 : F 155 31 (.iconst 0) 32 := ⟨1, by decide +kernel, rfl, rfl⟩
theorem F_155_32 : F 155 32 (.istore_n 3) 33 := ⟨1, by decide +kernel, rfl, rfl⟩
theorem F_155_12 : F 155 12 (.ldc2_w 314) 15 := ⟨3, by decide +kernel, rfl, rfl⟩
theorem kj_5_314 : m_k64.lookup (5, 314) = some (31, 4132) := by decide +kernel
theorem F_155_15 : F 155 15 (.lload_n 1) 16 := ⟨1, by decide +kernel, rfl, rfl⟩
theorem F_155_16 : F 155 16 (.lmul) 17 := ⟨1, by decide +kernel, rfl, rfl⟩
theorem F_155_17 : F 155 17 (.aload_n 0) 18 := ⟨1, by decide +kernel, rfl, rfl⟩
theorem F_155_18 : F 155 18 (.iload_n 3) 19 := ⟨1, by decide +kernel, rfl, rfl⟩
theorem F_155_19 : F 155 19 (.invokevirtual 316) 22 := ⟨3, by decide +kernel, rfl, rfl⟩
theorem il_5_316 : ilq 5 316 0 147 1 = true := by decide +kernel
theorem vy_147 : (m_cls 5).1 = (m_y 147).cls ∧ 5 < m_cl.length := by decide +kernel
theorem F_155_22 : F 155 22 (.i2l) 23 := ⟨1, by decide +kernel, rfl, rfl⟩
theorem F_155_23 : F 155 23 (.ladd) 24 := ⟨1, by decide +kernel, rfl, rfl⟩
theorem F_155_24 : F 155 24 (.lstore_n 1) 25 := ⟨1, by decide +kernel, rfl, rfl⟩
theorem F_155_25 : F 155 25 (.iinc 3 1) 28 := ⟨3, by decide +kernel, rfl, rfl⟩
theorem F_155_28 : F 155 28 (.goto (-22)) 31 := ⟨3, by decide +kernel, rfl, rfl⟩
theorem F_155_33 : F 155 33 (.iload_n 3) 34 := ⟨1, by decide +kernel, rfl, rfl⟩
theorem F_155_34 : F 155 34 (.iconst 4) 35 := ⟨1, by decide +kernel, rfl, rfl⟩
theorem F_155_35 : F 155 35 (.if_icmp .ge 27) 38 := ⟨3, by decide +kernel, rfl, rfl⟩
theorem F_155_62 : F 155 62 (.iconst 0) 63 := ⟨1, by decide +kernel, rfl, rfl⟩
theorem F_155_63 : F 155 63 (.istore_n 3) 64 := ⟨1, by decide +kernel, rfl, rfl⟩
theorem F_155_38 : F 155 38 (.ldc2_w 314) 41 := ⟨3, by decide +kernel, rfl, rfl⟩
theorem F_155_41 : F 155 41 (.lload_n 1) 42 := ⟨1, by decide +kernel, rfl, rfl⟩
theorem F_155_42 : F 155 42 (.lmul) 43 := ⟨1, by decide +kernel, rfl, rfl⟩
theorem F_155_43 : F 155 43 (.aload_n 0) 44 := ⟨1, by decide +kernel, rfl, rfl⟩
theorem F_155_44 : F 155 44 (.getfield 34) 47 := ⟨3, by decide +kernel, rfl, rfl⟩
theorem F_155_47 : F 155 47 (.iconst 1) 48 := ⟨1, by decide +kernel, rfl, rfl⟩
theorem F_155_48 : F 155 48 (.iload_n 3) 49 := ⟨1, by decide +kernel, rfl, rfl⟩
theorem F_155_49 : F 155 49 (.ishl) 50 := ⟨1, by decide +kernel, rfl, rfl⟩
theorem F_155_50 : F 155 50 (.invokevirtual 172) 53 := ⟨3, by decide +kernel, rfl, rfl⟩
theorem F_155_53 : F 155 53 (.i2l) 54 := ⟨1, by decide +kernel, rfl, rfl⟩
theorem F_155_54 : F 155 54 (.ladd) 55 := ⟨1, by decide +kernel, rfl, rfl⟩
theorem F_155_55 : F 155 55 (.lstore_n 1) 56 := ⟨1, by decide +kernel, rfl, rfl⟩
theorem F_155_56 : F 155 56 (.iinc 3 1) 59 := ⟨3, by decide +kernel, rfl, rfl⟩
theorem F_155_59 : F 155 59 (.goto (-26)) 62 := ⟨3, by decide +kernel, rfl, rfl⟩
theorem F_155_64 : F 155 64 (.iload_n 3) 65 := ⟨1, by decide +kernel, rfl, rfl⟩
theorem F_155_65 : F 155 65 (.aload_n 0) 66 := ⟨1, by decide +kernel, rfl, rfl⟩
theorem F_155_66 : F 155 66 (.getfield 34) 69 := ⟨3, by decide +kernel, rfl, rfl⟩
theorem F_155_69 : F 155 69 (.invokevirtual 132) 72 := ⟨3, by decide +kernel, rfl, rfl⟩
theorem F_155_72 : F 155 72 (.if_icmp .ge 43) 75 := ⟨3, by decide +kernel, rfl, rfl⟩
theorem F_155_115 : F 155 115 (.iconst 0) 116 := ⟨1, by decide +kernel, rfl, rfl⟩
theorem F_155_116 : F 155 116 (.istore_n 3) 117 := ⟨1, by decide +kernel, rfl, rfl⟩
theorem F_155_75 : F 155 75 (.iconst 0) 76 := ⟨1, by decide +kernel, rfl, rfl⟩
theorem F_155_76 : F 155 76 (.istore 4) 78 := ⟨2, by decide +kernel, rfl, rfl⟩
theorem F_155_117 : F 155 117 (.iload_n 3) 118 := ⟨1, by decide +kernel, rfl, rfl⟩
theorem F_155_118 : F 155 118 (.iconst 3) 119 := ⟨1, by decide +kernel, rfl, rfl⟩
theorem F_155_119 : F 155 119 (.if_icmp .ge 25) 122 := ⟨3, by decide +kernel, rfl, rfl⟩
theorem F_155_144 : F 155 144 (.aload_n 0) 145 := ⟨1, by decide +kernel, rfl, rfl⟩
theorem F_155_145 : F 155 145 (.getfield 18) 148 := ⟨3, by decide +kernel, rfl, rfl⟩
theorem F_155_148 : F 155 148 (.aload_n 0) 149 := ⟨1, by decide +kernel, rfl, rfl⟩
theorem F_155_149 : F 155 149 (.getfield 14) 152 := ⟨3, by decide +kernel, rfl, rfl⟩
theorem F_155_152 : F 155 152 (.lload_n 1) 153 := ⟨1, by decide +kernel, rfl, rfl⟩
theorem F_155_153 : F 155 153 (.invokevirtual 319) 156 := ⟨3, by decide +kernel, rfl, rfl⟩
theorem il_5_319 : ilq 5 319 0 156 1 = true := by decide +kernel
theorem vy_156 : (m_cls 3).1 = (m_y 156).cls ∧ 3 < m_cl.length := by decide +kernel
theorem F_155_156 : F 155 156 (.invokevirtual 319) 159 := ⟨3, by decide +kernel, rfl, rfl⟩
theorem F_155_159 : F 155 159 (.lreturn) 160 := ⟨1, by decide +kernel, rfl, rfl⟩
theorem rt_155 : m_r 155 = (some .long) := by decide +kernel
theorem F_155_122 : F 155 122 (.ldc2_w 314) 125 := ⟨3, by decide +kernel, rfl, rfl⟩
theorem F_155_125 : F 155 125 (.lload_n 1) 126 := ⟨1, by decide +kernel, rfl, rfl⟩
theorem F_155_126 : F 155 126 (.lmul) 127 := ⟨1, by decide +kernel, rfl, rfl⟩
theorem F_155_127 : F 155 127 (.aload_n 0) 128 := ⟨1, by decide +kernel, rfl, rfl⟩
theorem F_155_128 : F 155 128 (.getfield 21) 131 := ⟨3, by decide +kernel, rfl, rfl⟩
theorem F_155_131 : F 155 131 (.iload_n 3) 132 := ⟨1, by decide +kernel, rfl, rfl⟩
theorem F_155_132 : F 155 132 (.invokevirtual 115) 135 := ⟨3, by decide +kernel, rfl, rfl⟩
theorem F_155_135 : F 155 135 (.i2l) 136 := ⟨1, by decide +kernel, rfl, rfl⟩
theorem F_155_136 : F 155 136 (.ladd) 137 := ⟨1, by decide +kernel, rfl, rfl⟩
theorem F_155_137 : F 155 137 (.lstore_n 1) 138 := ⟨1, by decide +kernel, rfl, rfl⟩
theorem F_155_138 : F 155 138 (.iinc 3 1) 141 := ⟨3, by decide +kernel, rfl, rfl⟩
theorem F_155_141 : F 155 141 (.goto (-24)) 144 := ⟨3, by decide +kernel, rfl, rfl⟩
theorem F_155_78 : F 155 78 (.iload 4) 80 := ⟨2, by decide +kernel, rfl, rfl⟩
theorem F_155_80 : F 155 80 (.bipush 7) 82 := ⟨2, by decide +kernel, rfl, rfl⟩
theorem F_155_82 : F 155 82 (.if_icmp .ge 27) 85 := ⟨3, by decide +kernel, rfl, rfl⟩
theorem F_155_109 : F 155 109 (.iinc 3 1) 112 := ⟨3, by decide +kernel, rfl, rfl⟩
theorem F_155_112 : F 155 112 (.goto (-48)) 115 := ⟨3, by decide +kernel, rfl, rfl⟩
theorem F_155_85 : F 155 85 (.ldc2_w 314) 88 := ⟨3, by decide +kernel, rfl, rfl⟩
theorem F_155_88 : F 155 88 (.lload_n 1) 89 := ⟨1, by decide +kernel, rfl, rfl⟩
theorem F_155_89 : F 155 89 (.lmul) 90 := ⟨1, by decide +kernel, rfl, rfl⟩
theorem F_155_90 : F 155 90 (.aload_n 0) 91 := ⟨1, by decide +kernel, rfl, rfl⟩
theorem F_155_91 : F 155 91 (.getfield 34) 94 := ⟨3, by decide +kernel, rfl, rfl⟩
theorem F_155_94 : F 155 94 (.iload_n 3) 95 := ⟨1, by decide +kernel, rfl, rfl⟩
theorem F_155_95 : F 155 95 (.iload 4) 97 := ⟨2, by decide +kernel, rfl, rfl⟩
theorem F_155_97 : F 155 97 (.invokevirtual 139) 100 := ⟨3, by decide +kernel, rfl, rfl⟩
theorem F_155_100 : F 155 100 (.i2l) 101 := ⟨1, by decide +kernel, rfl, rfl⟩
theorem F_155_101 : F 155 101 (.ladd) 102 := ⟨1, by decide +kernel, rfl, rfl⟩
theorem F_155_102 : F 155 102 (.lstore_n 1) 103 := ⟨1, by decide +kernel, rfl, rfl⟩
theorem F_155_103 : F 155 103 (.iinc 4 1) 106 := ⟨3, by decide +kernel, rfl, rfl⟩
theorem F_155_106 : F 155 106 (.goto (-28)) 109 := ⟨3, by decide +kernel, rfl, rfl⟩
theorem n_254 : m_n 254 = 5 := by decide +kernel
theorem F_254_0 : F 254 0 (.ldc2_w 270) 3 := ⟨3, by decide +kernel, rfl, rfl⟩
theorem kj_6_270 : m_k64.lookup (6, 270) = some (17, 6109) := by decide +kernel
theorem o_254 : m_o 254 = 6 := by decide +kernel
theorem F_254_3 : F 254 3 (.lstore_n 1) 4 := ⟨1, by decide +kernel, rfl, rfl⟩
theorem F_254_4 : F 254 4 (.iconst 0) 5 := ⟨1, by decide +kernel, rfl, rfl⟩
theorem F_254_5 : F 254 5 (.istore_n 3) 6 := ⟨1, by decide +kernel, rfl, rfl⟩
theorem F_254_6 : F 254 6 (.iload_n 3) 7 := ⟨1, by decide +kernel, rfl, rfl⟩
theorem F_254_7 : F 254 7 (.bipush 11) 9 := ⟨2, by decide +kernel, rfl, rfl⟩
theorem F_254_9 : F 254 9 (.if_icmp .ge 22) 12 := ⟨3, by decide +kernel, rfl, rfl⟩
theorem F_254_31 : F 254 31 (.iconst 0) 32 := ⟨1, by decide +kernel, rfl, rfl⟩
theorem F_254_32 : F 254 32 (.istore_n 3) 33 := ⟨1, by decide +kernel, rfl, rfl⟩
theorem F_254_12 : F 254 12 (.ldc2_w 272) 15 := ⟨3, by decide +kernel, rfl, rfl⟩
theorem kj_6_272 : m_k64.lookup (6, 272) = some (31, 6110) := by decide +kernel
theorem F_254_15 : F 254 15 (.lload_n 1) 16 := ⟨1, by decide +kernel, rfl, rfl⟩
theorem F_254_16 : F 254 16 (.lmul) 17 := ⟨1, by decide +kernel, rfl, rfl⟩
theorem F_254_17 : F 254 17 (.aload_n 0) 18 := ⟨1, by decide +kernel, rfl, rfl⟩
theorem F_254_18 : F 254 18 (.iload_n 3) 19 := ⟨1, by decide +kernel, rfl, rfl⟩
theorem F_254_19 : F 254 19 (.invokevirtual 274) 22 := ⟨3, by decide +kernel, rfl, rfl⟩
theorem il_6_274 : ilq 6 274 0 250 1 = true := by decide +kernel
theorem vy_250 : (m_cls 6).1 = (m_y 250).cls ∧ 6 < m_cl.length := by decide +kernel
theorem F_254_22 : F 254 22 (.i2l) 23 := ⟨1, by decide +kernel, rfl, rfl⟩
theorem F_254_23 : F 254 23 (.ladd) 24 := ⟨1, by decide +kernel, rfl, rfl⟩
theorem F_254_24 : F 254 24 (.lstore_n 1) 25 := ⟨1, by decide +kernel, rfl, rfl⟩
theorem F_254_25 : F 254 25 (.iinc 3 1) 28 := ⟨3, by decide +kernel, rfl, rfl⟩
theorem F_254_28 : F 254 28 (.goto (-22)) 31 := ⟨3, by decide +kernel, rfl, rfl⟩
theorem F_254_33 : F 254 33 (.iload_n 3) 34 := ⟨1, by decide +kernel, rfl, rfl⟩
theorem F_254_34 : F 254 34 (.iconst 4) 35 := ⟨1, by decide +kernel, rfl, rfl⟩
theorem F_254_35 : F 254 35 (.if_icmp .ge 24) 38 := ⟨3, by decide +kernel, rfl, rfl⟩
theorem F_254_59 : F 254 59 (.iconst 0) 60 := ⟨1, by decide +kernel, rfl, rfl⟩
theorem F_254_60 : F 254 60 (.istore_n 3) 61 := ⟨1, by decide +kernel, rfl, rfl⟩
theorem F_254_38 : F 254 38 (.ldc2_w 272) 41 := ⟨3, by decide +kernel, rfl, rfl⟩
theorem F_254_41 : F 254 41 (.lload_n 1) 42 := ⟨1, by decide +kernel, rfl, rfl⟩
theorem F_254_42 : F 254 42 (.lmul) 43 := ⟨1, by decide +kernel, rfl, rfl⟩
theorem F_254_43 : F 254 43 (.aload_n 0) 44 := ⟨1, by decide +kernel, rfl, rfl⟩
theorem F_254_44 : F 254 44 (.iconst 1) 45 := ⟨1, by decide +kernel, rfl, rfl⟩
theorem F_254_45 : F 254 45 (.iload_n 3) 46 := ⟨1, by decide +kernel, rfl, rfl⟩
theorem F_254_46 : F 254 46 (.ishl) 47 := ⟨1, by decide +kernel, rfl, rfl⟩
theorem F_254_47 : F 254 47 (.invokevirtual 162) 50 := ⟨3, by decide +kernel, rfl, rfl⟩
theorem F_254_50 : F 254 50 (.i2l) 51 := ⟨1, by decide +kernel, rfl, rfl⟩
theorem F_254_51 : F 254 51 (.ladd) 52 := ⟨1, by decide +kernel, rfl, rfl⟩
theorem F_254_52 : F 254 52 (.lstore_n 1) 53 := ⟨1, by decide +kernel, rfl, rfl⟩
theorem F_254_53 : F 254 53 (.iinc 3 1) 56 := ⟨3, by decide +kernel, rfl, rfl⟩
theorem F_254_56 : F 254 56 (.goto (-23)) 59 := ⟨3, by decide +kernel, rfl, rfl⟩
theorem F_254_61 : F 254 61 (.iload_n 3) 62 := ⟨1, by decide +kernel, rfl, rfl⟩
theorem F_254_62 : F 254 62 (.bipush 7) 64 := ⟨2, by decide +kernel, rfl, rfl⟩
theorem F_254_64 : F 254 64 (.aload_n 0) 65 := ⟨1, by decide +kernel, rfl, rfl⟩
theorem F_254_65 : F 254 65 (.getfield 25) 68 := ⟨3, by decide +kernel, rfl, rfl⟩
theorem F_254_68 : F 254 68 (.iconst 0) 69 := ⟨1, by decide +kernel, rfl, rfl⟩
theorem F_254_69 : F 254 69 (.iaload) 70 := ⟨1, by decide +kernel, rfl, rfl⟩
theorem F_254_70 : F 254 70 (.imul) 71 := ⟨1, by decide +kernel, rfl, rfl⟩
theorem F_254_71 : F 254 71 (.if_icmp .ge 29) 74 := ⟨3, by decide +kernel, rfl, rfl⟩
theorem F_254_100 : F 254 100 (.iconst 0) 101 := ⟨1, by decide +kernel, rfl, rfl⟩
theorem F_254_101 : F 254 101 (.istore_n 3) 102 := ⟨1, by decide +kernel, rfl, rfl⟩
theorem F_254_74 : F 254 74 (.ldc2_w 272) 77 := ⟨3, by decide +kernel, rfl, rfl⟩
theorem F_254_77 : F 254 77 (.lload_n 1) 78 := ⟨1, by decide +kernel, rfl, rfl⟩
theorem F_254_78 : F 254 78 (.lmul) 79 := ⟨1, by decide +kernel, rfl, rfl⟩
theorem F_254_79 : F 254 79 (.aload_n 0) 80 := ⟨1, by decide +kernel, rfl, rfl⟩
theorem F_254_80 : F 254 80 (.iload_n 3) 81 := ⟨1, by decide +kernel, rfl, rfl⟩
theorem F_254_81 : F 254 81 (.bipush 7) 83 := ⟨2, by decide +kernel, rfl, rfl⟩
theorem F_254_83 : F 254 83 (.idiv) 84 := ⟨1, by decide +kernel, rfl, rfl⟩
theorem F_254_84 : F 254 84 (.iload_n 3) 85 := ⟨1, by decide +kernel, rfl, rfl⟩
theorem F_254_85 : F 254 85 (.bipush 7) 87 := ⟨2, by decide +kernel, rfl, rfl⟩
theorem F_254_87 : F 254 87 (.irem) 88 := ⟨1, by decide +kernel, rfl, rfl⟩
theorem F_254_88 : F 254 88 (.invokevirtual 153) 91 := ⟨3, by decide +kernel, rfl, rfl⟩
theorem F_254_91 : F 254 91 (.i2l) 92 := ⟨1, by decide +kernel, rfl, rfl⟩
theorem F_254_92 : F 254 92 (.ladd) 93 := ⟨1, by decide +kernel, rfl, rfl⟩
theorem F_254_93 : F 254 93 (.lstore_n 1) 94 := ⟨1, by decide +kernel, rfl, rfl⟩
theorem F_254_94 : F 254 94 (.iinc 3 1) 97 := ⟨3, by decide +kernel, rfl, rfl⟩
theorem F_254_97 : F 254 97 (.goto (-36)) 100 := ⟨3, by decide +kernel, rfl, rfl⟩
theorem F_254_102 : F 254 102 (.iload_n 3) 103 := ⟨1, by decide +kernel, rfl, rfl⟩
theorem F_254_103 : F 254 103 (.iconst 3) 104 := ⟨1, by decide +kernel, rfl, rfl⟩
theorem F_254_104 : F 254 104 (.if_icmp .ge 42) 107 := ⟨3, by decide +kernel, rfl, rfl⟩
theorem F_254_146 : F 254 146 (.iconst 0) 147 := ⟨1, by decide +kernel, rfl, rfl⟩
theorem F_254_147 : F 254 147 (.istore_n 3) 148 := ⟨1, by decide +kernel, rfl, rfl⟩
theorem F_254_107 : F 254 107 (.ldc2_w 272) 110 := ⟨3, by decide +kernel, rfl, rfl⟩
theorem F_254_110 : F 254 110 (.lload_n 1) 111 := ⟨1, by decide +kernel, rfl, rfl⟩
theorem F_254_111 : F 254 111 (.lmul) 112 := ⟨1, by decide +kernel, rfl, rfl⟩
theorem F_254_112 : F 254 112 (.aload_n 0) 113 := ⟨1, by decide +kernel, rfl, rfl⟩
theorem F_254_113 : F 254 113 (.getfield 34) 116 := ⟨3, by decide +kernel, rfl, rfl⟩
theorem F_254_116 : F 254 116 (.iload_n 3) 117 := ⟨1, by decide +kernel, rfl, rfl⟩
theorem F_254_117 : F 254 117 (.baload) 118 := ⟨1, by decide +kernel, rfl, rfl⟩
theorem F_254_118 : F 254 118 (.ifCond .eq 18) 121 := ⟨3, by decide +kernel, rfl, rfl⟩
theorem F_254_136 : F 254 136 (.iconst (-1)) 137 := ⟨1, by decide +kernel, rfl, rfl⟩
theorem F_254_137 : F 254 137 (.i2l) 138 := ⟨1, by decide +kernel, rfl, rfl⟩
theorem F_254_138 : F 254 138 (.ladd) 139 := ⟨1, by decide +kernel, rfl, rfl⟩
theorem F_254_139 : F 254 139 (.lstore_n 1) 140 := ⟨1, by decide +kernel, rfl, rfl⟩
theorem F_254_140 : F 254 140 (.iinc 3 1) 143 := ⟨3, by decide +kernel, rfl, rfl⟩
theorem F_254_143 : F 254 143 (.goto (-41)) 146 := ⟨3, by decide +kernel, rfl, rfl⟩
theorem F_254_121 : F 254 121 (.aload_n 0) 122 := ⟨1, by decide +kernel, rfl, rfl⟩
theorem F_254_122 : F 254 122 (.getfield 31) 125 := ⟨3, by decide +kernel, rfl, rfl⟩
theorem F_254_125 : F 254 125 (.sipush 198) 128 := ⟨3, by decide +kernel, rfl, rfl⟩
theorem F_254_128 : F 254 128 (.iload_n 3) 129 := ⟨1, by decide +kernel, rfl, rfl⟩
theorem F_254_129 : F 254 129 (.imul) 130 := ⟨1, by decide +kernel, rfl, rfl⟩
theorem F_254_130 : F 254 130 (.iconst 3) 131 := ⟨1, by decide +kernel, rfl, rfl⟩
theorem F_254_131 : F 254 131 (.iadd) 132 := ⟨1, by decide +kernel, rfl, rfl⟩
theorem F_254_132 : F 254 132 (.iaload) 133 := ⟨1, by decide +kernel, rfl, rfl⟩
theorem F_254_133 : F 254 133 (.goto 4) 136 := ⟨3, by decide +kernel, rfl, rfl⟩
theorem F_254_148 : F 254 148 (.iload_n 3) 149 := ⟨1, by decide +kernel, rfl, rfl⟩
theorem F_254_149 : F 254 149 (.bipush 6) 151 := ⟨2, by decide +kernel, rfl, rfl⟩
theorem F_254_151 : F 254 151 (.if_icmp .ge 63) 154 := ⟨3, by decide +kernel, rfl, rfl⟩
theorem F_254_214 : F 254 214 (.iconst 0) 215 := ⟨1, by decide +kernel, rfl, rfl⟩
theorem F_254_215 : F 254 215 (.istore_n 3) 216 := ⟨1, by decide +kernel, rfl, rfl⟩
theorem F_254_154 : F 254 154 (.ldc2_w 272) 157 := ⟨3, by decide +kernel, rfl, rfl⟩
theorem F_254_157 : F 254 157 (.lload_n 1) 158 := ⟨1, by decide +kernel, rfl, rfl⟩
theorem F_254_158 : F 254 158 (.lmul) 159 := ⟨1, by decide +kernel, rfl, rfl⟩
theorem F_254_159 : F 254 159 (.aload_n 0) 160 := ⟨1, by decide +kernel, rfl, rfl⟩
theorem F_254_160 : F 254 160 (.getfield 7) 163 := ⟨3, by decide +kernel, rfl, rfl⟩
theorem F_254_163 : F 254 163 (.iload_n 3) 164 := ⟨1, by decide +kernel, rfl, rfl⟩
theorem F_254_164 : F 254 164 (.iaload) 165 := ⟨1, by decide +kernel, rfl, rfl⟩
theorem F_254_165 : F 254 165 (.i2l) 166 := ⟨1, by decide +kernel, rfl, rfl⟩
theorem F_254_166 : F 254 166 (.ladd) 167 := ⟨1, by decide +kernel, rfl, rfl⟩
theorem F_254_167 : F 254 167 (.lstore_n 1) 168 := ⟨1, by decide +kernel, rfl, rfl⟩
theorem F_254_168 : F 254 168 (.iconst 0) 169 := ⟨1, by decide +kernel, rfl, rfl⟩
theorem F_254_169 : F 254 169 (.istore 4) 171 := ⟨2, by decide +kernel, rfl, rfl⟩
theorem F_254_216 : F 254 216 (.iload_n 3) 217 := ⟨1, by decide +kernel, rfl, rfl⟩
theorem F_254_217 : F 254 217 (.iconst 4) 218 := ⟨1, by decide +kernel, rfl, rfl⟩
theorem F_254_218 : F 254 218 (.if_icmp .ge 63) 221 := ⟨3, by decide +kernel, rfl, rfl⟩
theorem F_254_281 : F 254 281 (.lload_n 1) 282 := ⟨1, by decide +kernel, rfl, rfl⟩
theorem F_254_282 : F 254 282 (.lreturn) 283 := ⟨1, by decide +kernel, rfl, rfl⟩
theorem rt_254 : m_r 254 = (some .long) := by decide +kernel
theorem F_254_221 : F 254 221 (.ldc2_w 272) 224 := ⟨3, by decide +kernel, rfl, rfl⟩
theorem F_254_224 : F 254 224 (.lload_n 1) 225 := ⟨1, by decide +kernel, rfl, rfl⟩
theorem F_254_225 : F 254 225 (.lmul) 226 := ⟨1, by decide +kernel, rfl, rfl⟩
theorem F_254_226 : F 254 226 (.aload_n 0) 227 := ⟨1, by decide +kernel, rfl, rfl⟩
theorem F_254_227 : F 254 227 (.getfield 19) 230 := ⟨3, by decide +kernel, rfl, rfl⟩
theorem F_254_230 : F 254 230 (.iload_n 3) 231 := ⟨1, by decide +kernel, rfl, rfl⟩
theorem F_254_231 : F 254 231 (.iaload) 232 := ⟨1, by decide +kernel, rfl, rfl⟩
theorem F_254_232 : F 254 232 (.i2l) 233 := ⟨1, by decide +kernel, rfl, rfl⟩
theorem F_254_233 : F 254 233 (.ladd) 234 := ⟨1, by decide +kernel, rfl, rfl⟩
theorem F_254_234 : F 254 234 (.lstore_n 1) 235 := ⟨1, by decide +kernel, rfl, rfl⟩
theorem F_254_235 : F 254 235 (.iconst 0) 236 := ⟨1, by decide +kernel, rfl, rfl⟩
theorem F_254_236 : F 254 236 (.istore 4) 238 := ⟨2, by decide +kernel, rfl, rfl⟩
theorem F_254_171 : F 254 171 (.iload 4) 173 := ⟨2, by decide +kernel, rfl, rfl⟩
theorem F_254_173 : F 254 173 (.aload_n 0) 174 := ⟨1, by decide +kernel, rfl, rfl⟩
theorem F_254_174 : F 254 174 (.getfield 7) 177 := ⟨3, by decide +kernel, rfl, rfl⟩
theorem F_254_177 : F 254 177 (.iload_n 3) 178 := ⟨1, by decide +kernel, rfl, rfl⟩
theorem F_254_178 : F 254 178 (.iaload) 179 := ⟨1, by decide +kernel, rfl, rfl⟩
theorem F_254_179 : F 254 179 (.if_icmp .ge 29) 182 := ⟨3, by decide +kernel, rfl, rfl⟩
theorem F_254_208 : F 254 208 (.iinc 3 1) 211 := ⟨3, by decide +kernel, rfl, rfl⟩
theorem F_254_211 : F 254 211 (.goto (-63)) 214 := ⟨3, by decide +kernel, rfl, rfl⟩
theorem F_254_182 : F 254 182 (.ldc2_w 272) 185 := ⟨3, by decide +kernel, rfl, rfl⟩
theorem F_254_185 : F 254 185 (.lload_n 1) 186 := ⟨1, by decide +kernel, rfl, rfl⟩
theorem F_254_186 : F 254 186 (.lmul) 187 := ⟨1, by decide +kernel, rfl, rfl⟩
theorem F_254_187 : F 254 187 (.aload_n 0) 188 := ⟨1, by decide +kernel, rfl, rfl⟩
theorem F_254_188 : F 254 188 (.getfield 13) 191 := ⟨3, by decide +kernel, rfl, rfl⟩
theorem F_254_191 : F 254 191 (.bipush 40) 193 := ⟨2, by decide +kernel, rfl, rfl⟩
theorem F_254_193 : F 254 193 (.iload_n 3) 194 := ⟨1, by decide +kernel, rfl, rfl⟩
theorem F_254_194 : F 254 194 (.imul) 195 := ⟨1, by decide +kernel, rfl, rfl⟩
theorem F_254_195 : F 254 195 (.iload 4) 197 := ⟨2, by decide +kernel, rfl, rfl⟩
theorem F_254_197 : F 254 197 (.iadd) 198 := ⟨1, by decide +kernel, rfl, rfl⟩
theorem F_254_198 : F 254 198 (.iaload) 199 := ⟨1, by decide +kernel, rfl, rfl⟩
theorem F_254_199 : F 254 199 (.i2l) 200 := ⟨1, by decide +kernel, rfl, rfl⟩
theorem F_254_200 : F 254 200 (.ladd) 201 := ⟨1, by decide +kernel, rfl, rfl⟩
theorem F_254_201 : F 254 201 (.lstore_n 1) 202 := ⟨1, by decide +kernel, rfl, rfl⟩
theorem F_254_202 : F 254 202 (.iinc 4 1) 205 := ⟨3, by decide +kernel, rfl, rfl⟩
theorem F_254_205 : F 254 205 (.goto (-34)) 208 := ⟨3, by decide +kernel, rfl, rfl⟩
theorem F_254_238 : F 254 238 (.iload 4) 240 := ⟨2, by decide +kernel, rfl, rfl⟩
theorem F_254_240 : F 254 240 (.aload_n 0) 241 := ⟨1, by decide +kernel, rfl, rfl⟩
theorem F_254_241 : F 254 241 (.getfield 19) 244 := ⟨3, by decide +kernel, rfl, rfl⟩
theorem F_254_244 : F 254 244 (.iload_n 3) 245 := ⟨1, by decide +kernel, rfl, rfl⟩
theorem F_254_245 : F 254 245 (.iaload) 246 := ⟨1, by decide +kernel, rfl, rfl⟩
theorem F_254_246 : F 254 246 (.if_icmp .ge 29) 249 := ⟨3, by decide +kernel, rfl, rfl⟩
theorem F_254_275 : F 254 275 (.iinc 3 1) 278 := ⟨3, by decide +kernel, rfl, rfl⟩
theorem F_254_278 : F 254 278 (.goto (-62)) 281 := ⟨3, by decide +kernel, rfl, rfl⟩
theorem F_254_249 : F 254 249 (.ldc2_w 272) 252 := ⟨3, by decide +kernel, rfl, rfl⟩
theorem F_254_252 : F 254 252 (.lload_n 1) 253 := ⟨1, by decide +kernel, rfl, rfl⟩
theorem F_254_253 : F 254 253 (.lmul) 254 := ⟨1, by decide +kernel, rfl, rfl⟩
theorem F_254_254 : F 254 254 (.aload_n 0) 255 := ⟨1, by decide +kernel, rfl, rfl⟩
theorem F_254_255 : F 254 255 (.getfield 22) 258 := ⟨3, by decide +kernel, rfl, rfl⟩
theorem F_254_258 : F 254 258 (.bipush 60) 260 := ⟨2, by decide +kernel, rfl, rfl⟩
theorem F_254_260 : F 254 260 (.iload_n 3) 261 := ⟨1, by decide +kernel, rfl, rfl⟩
theorem F_254_261 : F 254 261 (.imul) 262 := ⟨1, by decide +kernel, rfl, rfl⟩
theorem F_254_262 : F 254 262 (.iload 4) 264 := ⟨2, by decide +kernel, rfl, rfl⟩
theorem F_254_264 : F 254 264 (.iadd) 265 := ⟨1, by decide +kernel, rfl, rfl⟩
theorem F_254_265 : F 254 265 (.iaload) 266 := ⟨1, by decide +kernel, rfl, rfl⟩
theorem F_254_266 : F 254 266 (.i2l) 267 := ⟨1, by decide +kernel, rfl, rfl⟩
theorem F_254_267 : F 254 267 (.ladd) 268 := ⟨1, by decide +kernel, rfl, rfl⟩
theorem F_254_268 : F 254 268 (.lstore_n 1) 269 := ⟨1, by decide +kernel, rfl, rfl⟩
theorem F_254_269 : F 254 269 (.iinc 4 1) 272 := ⟨3, by decide +kernel, rfl, rfl⟩
theorem F_254_272 : F 254 272 (.goto (-34)) 275 := ⟨3, by decide +kernel, rfl, rfl⟩
theorem t_X5_digest {X : List Int32} {d : Nat} {s : m_St} {P : Option Value → m_St → Prop}
    (l1 : Rn X (d + 13) 155 6 [some (vR 0), some (vJ 17), none, some (vI 0), none] [] s P)
    : Cl X (d + 13) 155 [vR 0] s P := by
  refine Cl_of n_155 rfl ?_
  show Rn _ _ _ _ [some (vR 0), none, none, none, none] [] _ _
  refine r_ldcJ F_155_0 o_155 kj_5_312 oj_17 ?_
  refine r_stJ_n (m := 1) (L' := [some (vR 0), some (vJ 17), none, none, none]) F_155_3 rfl rfl ?_
  refine r_iconst F_155_4 ?_
  refine r_stI_n (m := 3) (L' := [some (vR 0), some (vJ 17), none, some (vI 0), none]) F_155_5 rfl rfl ?_
  exact l1
theorem t_X5_digest_6 {X : List Int32} {d : Nat} {s : m_St} {P : Option Value → m_St → Prop} {u k : Int} (k0 : 0 ≤ k)
    (l1 : inR k)
    (l2 : 11 ≤ k → Rn X (d + 13) 155 33 [some (vR 0), some (vJ u), none, some (vI 0), none] [] s P)
    (l3 : k < 11 → J s)
    (l4 : k < 11 → inR (cnv s k))
    (l5 : k < 11 → Rn X (d + 13) 155 6 [some (vR 0), some (vJ ((31 * u) + (cnv s k))), none, some (vI (k + 1)), none] [] s P)
    : Rn X (d + 13) 155 6 [some (vR 0), some (vJ u), none, some (vI k), none] [] s P := by
  refine r_ldI_n (m := 3) F_155_6 rfl ?_
  refine r_bipush F_155_7 bi_11 ?_
  refine r_icmp (t := 31) F_155_9 rfl l1 (by decide) ?_ ?_
  · intro e1
    replace e1 : 11 ≤ k := e1
    refine r_iconst F_155_31 ?_
    refine r_stI_n (m := 3) (L' := [some (vR 0), some (vJ u), none, some (vI 0), none]) F_155_32 rfl rfl ?_
    exact (l2 e1)
  · intro e2
    replace e2 : k < 11 := (Int.not_le.mp e2)
    refine r_ldcJ F_155_12 o_155 kj_5_314 oj_31 ?_
    refine r_ldJ_n (m := 1) F_155_15 rfl ?_
    refine r_lmul F_155_16 rfl ?_
    refine r_ldR_n (m := 0) F_155_17 rfl ?_
    refine r_ldI_n (m := 3) F_155_18 rfl ?_
    refine r_virt2 (A := [vI k]) (r := [vJ (31 * u)]) (n := 1) F_155_19 o_155 il_5_316 rfl rfl rfl rfl ty_0 vy_147 (lay_le n_147 rfl) ?_
    refine count_C (l3 e2) l1 ?_
    show Rn _ _ _ _ _ [vI (cnv s k), vJ (31 * u)] _ _
    refine r_i2l F_155_22 (l4 e2) ?_
    refine r_ladd F_155_23 rfl ?_
    refine r_stJ_n (m := 1) (L' := [some (vR 0), some (vJ ((31 * u) + (cnv s k))), none, some (vI k), none]) F_155_24 rfl rfl ?_
    refine r_iinc (m := 3) (e := (k + 1)) (L' := [some (vR 0), some (vJ ((31 * u) + (cnv s k))), none, some (vI (k + 1)), none]) F_155_25 rfl rfl rfl rfl ?_
    refine r_goto (t := 6) F_155_28 rfl ?_
    exact (l5 e2)
theorem t_X5_digest_33 {X : List Int32} {d : Nat} {s : m_St} {P : Option Value → m_St → Prop} {u k : Int} (k0 : 0 ≤ k)
    (l1 : inR k)
    (l2 : 4 ≤ k → Rn X (d + 13) 155 64 [some (vR 0), some (vJ u), none, some (vI 0), none] [] s P)
    (l3 : k < 4 → inR (clo (s 38 5) (iShl 1 k)))
    (l4 : k < 4 → Rn X (d + 13) 155 33 [some (vR 0), some (vJ ((31 * u) + (clo (s 38 5) (iShl 1 k)))), none, some (vI (k + 1)), none] [] s P)
    : Rn X (d + 13) 155 33 [some (vR 0), some (vJ u), none, some (vI k), none] [] s P := by
  refine r_ldI_n (m := 3) F_155_33 rfl ?_
  refine r_iconst F_155_34 ?_
  refine r_icmp (t := 62) F_155_35 rfl l1 (by decide) ?_ ?_
  · intro e1
    replace e1 : 4 ≤ k := e1
    refine r_iconst F_155_62 ?_
    refine r_stI_n (m := 3) (L' := [some (vR 0), some (vJ u), none, some (vI 0), none]) F_155_63 rfl rfl ?_
    exact (l2 e1)
  · intro e2
    replace e2 : k < 4 := (Int.not_le.mp e2)
    refine r_ldcJ F_155_38 o_155 kj_5_314 oj_31 ?_
    refine r_ldJ_n (m := 1) F_155_41 rfl ?_
    refine r_lmul F_155_42 rfl ?_
    refine r_ldR_n (m := 0) F_155_43 rfl ?_
    refine r_getR (J := 4) F_155_44 o_155 fl_5_34 ty_0 (by decide) rfl (kd2 kd_0_4 (by decide)) (kd9 kd_0_4 (by decide)) rf_0_4 ?_
    refine r_iconst F_155_47 ?_
    refine r_ldI_n (m := 3) F_155_48 rfl ?_
    refine r_ishl F_155_49 rfl ?_
    refine r_virt2 (A := [vI (iShl 1 k)]) (r := [vJ (31 * u)]) (n := 1) F_155_50 o_155 il_5_172 rfl rfl rfl rfl ty_38 vy_77 (lay_le n_77 rfl) ?_
    refine sp_closed  ?_
    show Rn _ _ _ _ _ [vI (clo (s 38 5) (iShl 1 k)), vJ (31 * u)] _ _
    refine r_i2l F_155_53 (l3 e2) ?_
    refine r_ladd F_155_54 rfl ?_
    refine r_stJ_n (m := 1) (L' := [some (vR 0), some (vJ ((31 * u) + (clo (s 38 5) (iShl 1 k)))), none, some (vI k), none]) F_155_55 rfl rfl ?_
    refine r_iinc (m := 3) (e := (k + 1)) (L' := [some (vR 0), some (vJ ((31 * u) + (clo (s 38 5) (iShl 1 k)))), none, some (vI (k + 1)), none]) F_155_56 rfl rfl rfl rfl ?_
    refine r_goto (t := 33) F_155_59 rfl ?_
    exact (l4 e2)
theorem t_X5_digest_64 {X : List Int32} {d : Nat} {s : m_St} {P : Option Value → m_St → Prop} {u k : Int} {z4 : Option Value} (k0 : 0 ≤ k)
    (l1 : inR k)
    (l2 : inR (s 38 3))
    (l3 : (s 38 3) ≤ k → Rn X (d + 13) 155 117 [some (vR 0), some (vJ u), none, some (vI 0), z4] [] s P)
    (l4 : k < (s 38 3) → Rn X (d + 13) 155 78 [some (vR 0), some (vJ u), none, some (vI k), some (vI 0)] [] s P)
    : Rn X (d + 13) 155 64 [some (vR 0), some (vJ u), none, some (vI k), z4] [] s P := by
  refine r_ldI_n (m := 3) F_155_64 rfl ?_
  refine r_ldR_n (m := 0) F_155_65 rfl ?_
  refine r_getR (J := 4) F_155_66 o_155 fl_5_34 ty_0 (by decide) rfl (kd2 kd_0_4 (by decide)) (kd9 kd_0_4 (by decide)) rf_0_4 ?_
  refine r_virt2 (A := []) (r := [vI k]) (n := 0) F_155_69 o_155 il_5_132 rfl rfl rfl rfl ty_38 vy_64 (lay_le n_64 rfl) ?_
  refine Cl_of n_64 rfl ?_
  show Rn _ _ _ _ [some (vR 38)] [] _ _
  refine r_ldR_n (m := 0) F_64_0 rfl ?_
  refine r_getI (J := 3) (e := (s 38 3)) F_64_1 o_64 fl_1_24 ty_38 (by decide) rfl kd_38_3 rfl ?_
  refine r_ireturn F_64_4 rt_64 ?_
  show Rn _ _ _ _ _ [vI (s 38 3), vI k] _ _
  refine r_icmp (t := 115) F_155_72 rfl l1 l2 ?_ ?_
  · intro e1
    replace e1 : (s 38 3) ≤ k := e1
    refine r_iconst F_155_115 ?_
    refine r_stI_n (m := 3) (L' := [some (vR 0), some (vJ u), none, some (vI 0), z4]) F_155_116 rfl rfl ?_
    exact (l3 e1)
  · intro e2
    replace e2 : k < (s 38 3) := (Int.not_le.mp e2)
    refine r_iconst F_155_75 ?_
    refine r_stI (m := 4) (L' := [some (vR 0), some (vJ u), none, some (vI k), some (vI 0)]) F_155_76 rfl rfl ?_
    exact (l4 e2)
theorem t_X5_digest_117 {X : List Int32} {d : Nat} {s : m_St} {P : Option Value → m_St → Prop} {u k : Int} {z4 : Option Value} (k0 : 0 ≤ k)
    (l1 : inR k)
    (l2 : 3 ≤ k → ∀ r, 0 ≤ r → r < 6 → -1 ≤ s 2 r ∧ s 2 r ≤ 40)
    (l3 : 3 ≤ k → ∀ r j, 0 ≤ r → r < 6 → 0 ≤ j → j < s 2 r → inR (s (4 + r) j))
    (l4 : 3 ≤ k → ∀ r, 0 ≤ r → r < 4 → -1 ≤ s 11 r ∧ s 11 r ≤ 60)
    (l5 : 3 ≤ k → ∀ r j, 0 ≤ r → r < 4 → 0 ≤ j → j < s 11 r → inR (s (13 + r) j))
    (l6 : 3 ≤ k → P (some (vJ (hrs (s 11) (fun r => s (13 + r)) (hrs (s 2) (fun r => s (4 + r)) u 6) 4))) s)
    (l7 : k < 3 → inR (s 18 k))
    (l8 : k < 3 → Rn X (d + 13) 155 117 [some (vR 0), some (vJ ((31 * u) + (s 18 k))), none, some (vI (k + 1)), z4] [] s P)
    : Rn X (d + 13) 155 117 [some (vR 0), some (vJ u), none, some (vI k), z4] [] s P := by
  refine r_ldI_n (m := 3) F_155_117 rfl ?_
  refine r_iconst F_155_118 ?_
  refine r_icmp (t := 144) F_155_119 rfl l1 (by decide) ?_ ?_
  · intro e1
    replace e1 : 3 ≤ k := e1
    refine r_ldR_n (m := 0) F_155_144 rfl ?_
    refine r_getR (J := 1) F_155_145 o_155 fl_5_18 ty_0 (by decide) rfl (kd2 kd_0_1 (by decide)) (kd9 kd_0_1 (by decide)) rf_0_1 ?_
    refine r_ldR_n (m := 0) F_155_148 rfl ?_
    refine r_getR (J := 0) F_155_149 o_155 fl_5_14 ty_0 (by decide) rfl (kd2 kd_0_0 (by decide)) (kd9 kd_0_0 (by decide)) rf_0_0 ?_
    refine r_ldJ_n (m := 1) F_155_152 rfl ?_
    refine r_virt2 (A := [vJ u]) (r := [vR 10]) (n := 1) F_155_153 o_155 il_5_319 rfl rfl rfl rfl ty_1 vy_156 (lay_le n_156 rfl) ?_
    refine sp_mixed1 (l2 e1) (l3 e1) ?_
    show Rn _ _ _ _ _ [vJ (hrs (s 2) (fun r => s (4 + r)) u 6), vR 10] _ _
    refine r_virt2 (A := [vJ (hrs (s 2) (fun r => s (4 + r)) u 6)]) (r := []) (n := 1) F_155_156 o_155 il_5_319 rfl rfl rfl rfl ty_10 vy_156 (lay_le n_156 rfl) ?_
    refine sp_mixed10 (l4 e1) (l5 e1) ?_
    show Rn _ _ _ _ _ [vJ (hrs (s 11) (fun r => s (13 + r)) (hrs (s 2) (fun r => s (4 + r)) u 6) 4)] _ _
    refine r_lreturn F_155_159 rt_155 ?_
    exact (l6 e1)
  · intro e2
    replace e2 : k < 3 := (Int.not_le.mp e2)
    refine r_ldcJ F_155_122 o_155 kj_5_314 oj_31 ?_
    refine r_ldJ_n (m := 1) F_155_125 rfl ?_
    refine r_lmul F_155_126 rfl ?_
    refine r_ldR_n (m := 0) F_155_127 rfl ?_
    refine r_getR (J := 2) F_155_128 o_155 fl_5_21 ty_0 (by decide) rfl (kd2 kd_0_2 (by decide)) (kd9 kd_0_2 (by decide)) rf_0_2 ?_
    refine r_ldI_n (m := 3) F_155_131 rfl ?_
    refine r_virt2 (A := [vI k]) (r := [vJ (31 * u)]) (n := 1) F_155_132 o_155 il_5_115 rfl rfl rfl rfl ty_17 vy_16 (lay_le n_16 rfl) ?_
    refine Cl_of n_16 rfl ?_
    show Rn _ _ _ _ [some (vR 17), some (vI k)] [] _ _
    refine r_ldR_n (m := 0) F_16_0 rfl ?_
    refine r_ldI_n (m := 1) F_16_1 rfl ?_
    refine r_virt2 (A := [vI k]) (r := []) (n := 1) F_16_2 o_16 il_3_32 rfl rfl rfl rfl ty_17 vy_9 (lay_le n_9 rfl) ?_
    refine Cl_of n_9 rfl ?_
    show Rn _ _ _ _ [some (vR 17), some (vI k)] [] _ _
    refine r_ldI_n (m := 1) F_9_0 rfl ?_
    refine r_ifF (t := 17) F_9_1 rfl l1 (Int.not_lt.mpr k0) ?_
    refine r_ldI_n (m := 1) F_9_4 rfl ?_
    refine r_ldR_n (m := 0) F_9_5 rfl ?_
    refine r_getR (J := 0) F_9_6 o_9 fl_3_19 ty_17 (by decide) rfl (kd2 kd_17_0 (by decide)) (kd9 kd_17_0 (by decide)) rf_17_0 ?_
    refine r_alen F_9_9 ty_18 (by decide) ln_18 ?_
    refine r_icmpF (t := 17) F_9_10 rfl l1 (by decide) (Int.not_le.mpr e2) ?_
    refine r_iconst F_9_13 ?_
    refine r_goto (t := 18) F_9_14 rfl ?_
    refine r_zreturn F_9_18 rt_9 (Or.inr rfl) ?_
    show Rn _ _ _ _ _ [vI 1] _ _
    refine r_ifF (t := 17) F_16_5 rfl (by decide) (by show ¬ ((1 : Int) = 0); decide) ?_
    refine r_ldR_n (m := 0) F_16_8 rfl ?_
    refine r_getR (J := 0) F_16_9 o_16 fl_3_19 ty_17 (by decide) rfl (kd2 kd_17_0 (by decide)) (kd9 kd_17_0 (by decide)) rf_17_0 ?_
    refine r_ldI_n (m := 1) F_16_12 rfl ?_
    refine r_iald (e := (s 18 k)) F_16_13 ty_18 k0 (lt_ln ln_18 e2) rfl ?_
    refine r_goto (t := 18) F_16_14 rfl ?_
    refine r_ireturn F_16_18 rt_16 ?_
    show Rn _ _ _ _ _ [vI (s 18 k), vJ (31 * u)] _ _
    refine r_i2l F_155_135 (l7 e2) ?_
    refine r_ladd F_155_136 rfl ?_
    refine r_stJ_n (m := 1) (L' := [some (vR 0), some (vJ ((31 * u) + (s 18 k))), none, some (vI k), z4]) F_155_137 rfl rfl ?_
    refine r_iinc (m := 3) (e := (k + 1)) (L' := [some (vR 0), some (vJ ((31 * u) + (s 18 k))), none, some (vI (k + 1)), z4]) F_155_138 rfl rfl rfl rfl ?_
    refine r_goto (t := 117) F_155_141 rfl ?_
    exact (l8 e2)
theorem t_X5_digest_78 {X : List Int32} {d : Nat} {s : m_St} {P : Option Value → m_St → Prop} {u k w : Int} (k0 : 0 ≤ k)
    (l1 : inR w)
    (l2 : 7 ≤ w → Rn X (d + 13) 155 64 [some (vR 0), some (vJ u), none, some (vI (k + 1)), some (vI w)] [] s P)
    (l3 : w < 7 → inR k)
    (l4 : w < 7 → 6 ≤ k → w = 0 → inR (s 44 1))
    (l5 : w < 7 → 6 ≤ k → w = 0 → Rn X (d + 13) 155 78 [some (vR 0), some (vJ ((31 * u) + (s 44 1))), none, some (vI k), some (vI (w + 1))] [] s P)
    (l6 : w < 7 → 6 ≤ k → w = 5 → inR (s 44 2))
    (l7 : w < 7 → 6 ≤ k → w = 5 → Rn X (d + 13) 155 78 [some (vR 0), some (vJ ((31 * u) + (s 44 2))), none, some (vI k), some (vI (w + 1))] [] s P)
    (l8 : w < 7 → 6 ≤ k → w = 6 → inR (s 38 7))
    (l9 : w < 7 → 6 ≤ k → w = 6 → ¬ k = (s 38 7) → inR (s 38 8))
    (l10 : w < 7 → 6 ≤ k → w = 6 → ¬ k = (s 38 7) → ¬ k = (s 38 8) → Rn X (d + 13) 155 78 [some (vR 0), some (vJ (31 * u)), none, some (vI k), some (vI (w + 1))] [] s P)
    (l11 : w < 7 → 6 ≤ k → w = 6 → ¬ k = (s 38 7) → k = (s 38 8) → Rn X (d + 13) 155 78 [some (vR 0), some (vJ ((31 * u) + 2)), none, some (vI k), some (vI (w + 1))] [] s P)
    (l12 : w < 7 → 6 ≤ k → w = 6 → k = (s 38 7) → Rn X (d + 13) 155 78 [some (vR 0), some (vJ ((31 * u) + 1)), none, some (vI k), some (vI (w + 1))] [] s P)
    (l13 : w < 7 → 6 ≤ k → (¬ w = 0 ∧ ¬ w = 5 ∧ ¬ w = 6) → inR (w - 1))
    (l14 : w < 7 → 6 ≤ k → (¬ w = 0 ∧ ¬ w = 5 ∧ ¬ w = 6) → (w - 1) < 0 → Rn X (d + 13) 155 78 [some (vR 0), some (vJ (31 * u)), none, some (vI k), some (vI (w + 1))] [] s P)
    (l15 : w < 7 → 6 ≤ k → (¬ w = 0 ∧ ¬ w = 5 ∧ ¬ w = 6) → 0 ≤ (w - 1) → 4 ≤ (w - 1) → Rn X (d + 13) 155 78 [some (vR 0), some (vJ (31 * u)), none, some (vI k), some (vI (w + 1))] [] s P)
    (l16 : w < 7 → 6 ≤ k → (¬ w = 0 ∧ ¬ w = 5 ∧ ¬ w = 6) → 0 ≤ (w - 1) → (w - 1) < 4 → inR (s 45 (w - 1)))
    (l17 : w < 7 → 6 ≤ k → (¬ w = 0 ∧ ¬ w = 5 ∧ ¬ w = 6) → 0 ≤ (w - 1) → (w - 1) < 4 → Rn X (d + 13) 155 78 [some (vR 0), some (vJ ((31 * u) + (s 45 (w - 1)))), none, some (vI k), some (vI (w + 1))] [] s P)
    (l18 : w < 7 → k < 6 → w = 0 → inR (s (44 + 4 * k) 1))
    (l19 : w < 7 → k < 6 → w = 0 → Rn X (d + 13) 155 78 [some (vR 0), some (vJ ((31 * u) + (s (44 + 4 * k) 1))), none, some (vI k), some (vI (w + 1))] [] s P)
    (l20 : w < 7 → k < 6 → w = 5 → inR (s (44 + 4 * k) 2))
    (l21 : w < 7 → k < 6 → w = 5 → Rn X (d + 13) 155 78 [some (vR 0), some (vJ ((31 * u) + (s (44 + 4 * k) 2))), none, some (vI k), some (vI (w + 1))] [] s P)
    (l22 : w < 7 → k < 6 → w = 6 → inR (s 38 7))
    (l23 : w < 7 → k < 6 → w = 6 → ¬ k = (s 38 7) → inR (s 38 8))
    (l24 : w < 7 → k < 6 → w = 6 → ¬ k = (s 38 7) → ¬ k = (s 38 8) → Rn X (d + 13) 155 78 [some (vR 0), some (vJ (31 * u)), none, some (vI k), some (vI (w + 1))] [] s P)
    (l25 : w < 7 → k < 6 → w = 6 → ¬ k = (s 38 7) → k = (s 38 8) → Rn X (d + 13) 155 78 [some (vR 0), some (vJ ((31 * u) + 2)), none, some (vI k), some (vI (w + 1))] [] s P)
    (l26 : w < 7 → k < 6 → w = 6 → k = (s 38 7) → Rn X (d + 13) 155 78 [some (vR 0), some (vJ ((31 * u) + 1)), none, some (vI k), some (vI (w + 1))] [] s P)
    (l27 : w < 7 → k < 6 → (¬ w = 0 ∧ ¬ w = 5 ∧ ¬ w = 6) → inR (w - 1))
    (l28 : w < 7 → k < 6 → (¬ w = 0 ∧ ¬ w = 5 ∧ ¬ w = 6) → (w - 1) < 0 → Rn X (d + 13) 155 78 [some (vR 0), some (vJ (31 * u)), none, some (vI k), some (vI (w + 1))] [] s P)
    (l29 : w < 7 → k < 6 → (¬ w = 0 ∧ ¬ w = 5 ∧ ¬ w = 6) → 0 ≤ (w - 1) → 4 ≤ (w - 1) → Rn X (d + 13) 155 78 [some (vR 0), some (vJ (31 * u)), none, some (vI k), some (vI (w + 1))] [] s P)
    (l30 : w < 7 → k < 6 → (¬ w = 0 ∧ ¬ w = 5 ∧ ¬ w = 6) → 0 ≤ (w - 1) → (w - 1) < 4 → inR (s ((44 + 4 * k) + 1) (w - 1)))
    (l31 : w < 7 → k < 6 → (¬ w = 0 ∧ ¬ w = 5 ∧ ¬ w = 6) → 0 ≤ (w - 1) → (w - 1) < 4 → Rn X (d + 13) 155 78 [some (vR 0), some (vJ ((31 * u) + (s ((44 + 4 * k) + 1) (w - 1)))), none, some (vI k), some (vI (w + 1))] [] s P)
    : Rn X (d + 13) 155 78 [some (vR 0), some (vJ u), none, some (vI k), some (vI w)] [] s P := by
  refine r_ldI (m := 4) F_155_78 rfl ?_
  refine r_bipush F_155_80 bi_7 ?_
  refine r_icmp (t := 109) F_155_82 rfl l1 (by decide) ?_ ?_
  · intro e1
    replace e1 : 7 ≤ w := e1
    refine r_iinc (m := 3) (e := (k + 1)) (L' := [some (vR 0), some (vJ u), none, some (vI (k + 1)), some (vI w)]) F_155_109 rfl rfl rfl rfl ?_
    refine r_goto (t := 64) F_155_112 rfl ?_
    exact (l2 e1)
  · intro e2
    replace e2 : w < 7 := (Int.not_le.mp e2)
    refine r_ldcJ F_155_85 o_155 kj_5_314 oj_31 ?_
    refine r_ldJ_n (m := 1) F_155_88 rfl ?_
    refine r_lmul F_155_89 rfl ?_
    refine r_ldR_n (m := 0) F_155_90 rfl ?_
    refine r_getR (J := 4) F_155_91 o_155 fl_5_34 ty_0 (by decide) rfl (kd2 kd_0_4 (by decide)) (kd9 kd_0_4 (by decide)) rf_0_4 ?_
    refine r_ldI_n (m := 3) F_155_94 rfl ?_
    refine r_ldI (m := 4) F_155_95 rfl ?_
    refine r_virt2 (A := [vI k, vI w]) (r := [vJ (31 * u)]) (n := 2) F_155_97 o_155 il_5_139 rfl rfl rfl rfl ty_38 vy_67 (lay_le n_67 rfl) ?_
    refine Cl_of n_67 rfl ?_
    show Rn _ _ _ _ [some (vR 38), some (vI k), some (vI w), none] [] _ _
    refine r_ldR_n (m := 0) F_67_0 rfl ?_
    refine r_ldI_n (m := 1) F_67_1 rfl ?_
    refine r_virt2 (A := [vI k]) (r := []) (n := 1) F_67_2 o_67 il_1_107 rfl rfl rfl rfl ty_38 vy_58 (lay_le n_58 rfl) ?_
    refine Cl_of n_58 rfl ?_
    show Rn _ _ _ _ [some (vR 38), some (vI k)] [] _ _
    refine r_ldR_n (m := 0) F_58_0 rfl ?_
    refine r_getR (J := 1) F_58_1 o_58 fl_1_17 ty_38 (by decide) rfl (kd2 kd_38_1 (by decide)) (kd9 kd_38_1 (by decide)) rf_38_1 ?_
    refine r_ldI_n (m := 1) F_58_4 rfl ?_
    refine r_ifF (t := 18) F_58_5 rfl (l3 e2) (Int.not_lt.mpr k0) ?_
    refine r_ldI_n (m := 1) F_58_8 rfl ?_
    refine r_bipush F_58_9 bi_6 ?_
    refine r_icmp (t := 18) F_58_11 rfl (l3 e2) (by decide) ?_ ?_
    · intro e3
      replace e3 : 6 ≤ k := e3
      refine r_iconst F_58_18 ?_
      refine r_aald F_58_19 ty_40 (by decide) (by decide) (lt_ln ln_40 (by decide)) rf_40_0 ?_
      refine r_areturn F_58_20 rob_58 ?_
      show Rn _ _ _ _ _ [vR 44] _ _
      refine r_stR_n (m := 3) (L' := [some (vR 38), some (vI k), some (vI w), some (vR 44)]) F_67_5 rfl rfl ?_
      refine r_ldI_n (m := 2) F_67_6 rfl ?_
      rcases (show w = 0 ∨ w = 5 ∨ w = 6 ∨ (¬ w = 0 ∧ ¬ w = 5 ∧ ¬ w = 6) by omega) with hh | hh | hh | hh
      · have e4 := hh
        refine r_lsw (t := 40) (z := 33) F_67_7 l1 (by decide) (by rw [hh]; rfl) rfl ?_
        refine r_ldR_n (m := 3) F_67_40 rfl ?_
        refine r_virt2 (A := []) (r := []) (n := 0) F_67_41 o_67 il_1_68 rfl rfl rfl rfl ty_44 vy_52 (lay_le n_52 rfl) ?_
        refine Cl_of n_52 rfl ?_
        show Rn _ _ _ _ [some (vR 44)] [] _ _
        refine r_ldR_n (m := 0) F_52_0 rfl ?_
        refine r_getI (J := 1) (e := (s 44 1)) F_52_1 o_52 fl_0_15 ty_44 (by decide) rfl kd_44_1 rfl ?_
        refine r_ireturn F_52_4 rt_52 ?_
        show Rn _ _ _ _ _ [vI (s 44 1)] _ _
        refine r_ireturn F_67_44 rt_67 ?_
        show Rn _ _ _ _ _ [vI (s 44 1), vJ (31 * u)] _ _
        refine r_i2l F_155_100 (l4 e2 e3 e4) ?_
        refine r_ladd F_155_101 rfl ?_
        refine r_stJ_n (m := 1) (L' := [some (vR 0), some (vJ ((31 * u) + (s 44 1))), none, some (vI k), some (vI w)]) F_155_102 rfl rfl ?_
        refine r_iinc (m := 4) (e := (w + 1)) (L' := [some (vR 0), some (vJ ((31 * u) + (s 44 1))), none, some (vI k), some (vI (w + 1))]) F_155_103 rfl rfl rfl rfl ?_
        refine r_goto (t := 78) F_155_106 rfl ?_
        exact (l5 e2 e3 e4)
      · have e5 := hh
        refine r_lsw (t := 45) (z := 38) F_67_7 l1 (by decide) (by rw [hh]; rfl) rfl ?_
        refine r_ldR_n (m := 3) F_67_45 rfl ?_
        refine r_virt2 (A := []) (r := []) (n := 0) F_67_46 o_67 il_1_108 rfl rfl rfl rfl ty_44 vy_68 (lay_le n_68 rfl) ?_
        refine Cl_of n_68 rfl ?_
        show Rn _ _ _ _ [some (vR 44)] [] _ _
        refine r_ldR_n (m := 0) F_68_0 rfl ?_
        refine r_getI (J := 2) (e := (s 44 2)) F_68_1 o_68 fl_0_19 ty_44 (by decide) rfl kd_44_2 rfl ?_
        refine r_ireturn F_68_4 rt_68 ?_
        show Rn _ _ _ _ _ [vI (s 44 2)] _ _
        refine r_ireturn F_67_49 rt_67 ?_
        show Rn _ _ _ _ _ [vI (s 44 2), vJ (31 * u)] _ _
        refine r_i2l F_155_100 (l6 e2 e3 e5) ?_
        refine r_ladd F_155_101 rfl ?_
        refine r_stJ_n (m := 1) (L' := [some (vR 0), some (vJ ((31 * u) + (s 44 2))), none, some (vI k), some (vI w)]) F_155_102 rfl rfl ?_
        refine r_iinc (m := 4) (e := (w + 1)) (L' := [some (vR 0), some (vJ ((31 * u) + (s 44 2))), none, some (vI k), some (vI (w + 1))]) F_155_103 rfl rfl rfl rfl ?_
        refine r_goto (t := 78) F_155_106 rfl ?_
        exact (l7 e2 e3 e5)
      · have e6 := hh
        refine r_lsw (t := 50) (z := 43) F_67_7 l1 (by decide) (by rw [hh]; rfl) rfl ?_
        refine r_ldI_n (m := 1) F_67_50 rfl ?_
        refine r_ldR_n (m := 0) F_67_51 rfl ?_
        refine r_getI (J := 7) (e := (s 38 7)) F_67_52 o_67 fl_1_37 ty_38 (by decide) rfl kd_38_7 rfl ?_
        refine r_icmp (t := 62) F_67_55 rfl (l3 e2) (l8 e2 e3 e6) ?_ ?_
        · intro e7
          replace e7 : ¬ k = (s 38 7) := e7
          refine r_ldI_n (m := 1) F_67_62 rfl ?_
          refine r_ldR_n (m := 0) F_67_63 rfl ?_
          refine r_getI (J := 8) (e := (s 38 8)) F_67_64 o_67 fl_1_40 ty_38 (by decide) rfl kd_38_8 rfl ?_
          refine r_icmp (t := 74) F_67_67 rfl (l3 e2) (l9 e2 e3 e6 e7) ?_ ?_
          · intro e8
            replace e8 : ¬ k = (s 38 8) := e8
            refine r_iconst F_67_74 ?_
            refine r_ireturn F_67_75 rt_67 ?_
            show Rn _ _ _ _ _ [vI 0, vJ (31 * u)] _ _
            refine r_i2l F_155_100 (by decide) ?_
            refine r_ladd (e := (31 * u)) F_155_101 (Int.add_zero _) ?_
            refine r_stJ_n (m := 1) (L' := [some (vR 0), some (vJ (31 * u)), none, some (vI k), some (vI w)]) F_155_102 rfl rfl ?_
            refine r_iinc (m := 4) (e := (w + 1)) (L' := [some (vR 0), some (vJ (31 * u)), none, some (vI k), some (vI (w + 1))]) F_155_103 rfl rfl rfl rfl ?_
            refine r_goto (t := 78) F_155_106 rfl ?_
            exact (l10 e2 e3 e6 e7 e8)
          · intro e9
            replace e9 : k = (s 38 8) := (Classical.not_not.mp e9)
            refine r_iconst F_67_70 ?_
            refine r_goto (t := 75) F_67_71 rfl ?_
            refine r_ireturn F_67_75 rt_67 ?_
            show Rn _ _ _ _ _ [vI 2, vJ (31 * u)] _ _
            refine r_i2l F_155_100 (by decide) ?_
            refine r_ladd F_155_101 rfl ?_
            refine r_stJ_n (m := 1) (L' := [some (vR 0), some (vJ ((31 * u) + 2)), none, some (vI k), some (vI w)]) F_155_102 rfl rfl ?_
            refine r_iinc (m := 4) (e := (w + 1)) (L' := [some (vR 0), some (vJ ((31 * u) + 2)), none, some (vI k), some (vI (w + 1))]) F_155_103 rfl rfl rfl rfl ?_
            refine r_goto (t := 78) F_155_106 rfl ?_
            exact (l11 e2 e3 e6 e7 e9)
        · intro e10
          replace e10 : k = (s 38 7) := (Classical.not_not.mp e10)
          refine r_iconst F_67_58 ?_
          refine r_goto (t := 75) F_67_59 rfl ?_
          refine r_ireturn F_67_75 rt_67 ?_
          show Rn _ _ _ _ _ [vI 1, vJ (31 * u)] _ _
          refine r_i2l F_155_100 (by decide) ?_
          refine r_ladd F_155_101 rfl ?_
          refine r_stJ_n (m := 1) (L' := [some (vR 0), some (vJ ((31 * u) + 1)), none, some (vI k), some (vI w)]) F_155_102 rfl rfl ?_
          refine r_iinc (m := 4) (e := (w + 1)) (L' := [some (vR 0), some (vJ ((31 * u) + 1)), none, some (vI k), some (vI (w + 1))]) F_155_103 rfl rfl rfl rfl ?_
          refine r_goto (t := 78) F_155_106 rfl ?_
          exact (l12 e2 e3 e6 e10)
      · have e11 := hh
        refine r_lsw (t := 76) (z := 69) F_67_7 l1 (by decide) (by show Op.lookupswitch.offset [(0, 33), (5, 38), (6, 43)] 69 w = 69; simp only [Op.lookupswitch.offset]; repeat (rw [if_neg (by omega)])) rfl ?_
        refine r_ldR_n (m := 3) F_67_76 rfl ?_
        refine r_ldI_n (m := 2) F_67_77 rfl ?_
        refine r_iconst F_67_78 ?_
        refine r_isub F_67_79 rfl ?_
        refine r_virt2 (A := [vI (w - 1)]) (r := []) (n := 1) F_67_80 o_67 il_1_111 rfl rfl rfl rfl ty_44 vy_54 (lay_le n_54 rfl) ?_
        refine Cl_of n_54 rfl ?_
        show Rn _ _ _ _ [some (vR 44), some (vI (w - 1))] [] _ _
        refine r_ldI_n (m := 1) F_54_0 rfl ?_
        refine r_stat2 (A := [vI (w - 1)]) (r := []) (n := 1) F_54_1 o_54 il_0_33 (by decide) rfl rfl rfl rfl (lay_le n_46 rfl) ?_
        refine Cl_of n_46 rfl ?_
        show Rn _ _ _ _ [some (vI (w - 1))] [] _ _
        refine r_ldI_n (m := 0) F_46_0 rfl ?_
        refine r_if (t := 13) F_46_1 rfl (l13 e2 e3 e11) ?_ ?_
        · intro e12
          replace e12 : (w - 1) < 0 := e12
          refine r_iconst F_46_13 ?_
          refine r_zreturn F_46_14 rt_46 (Or.inl rfl) ?_
          show Rn _ _ _ _ _ [vI 0] _ _
          refine r_ifT (t := 16) F_54_4 rfl (by decide) (by show (0 : Int) = 0; decide) ?_
          refine r_iconst F_54_16 ?_
          refine r_ireturn F_54_17 rt_54 ?_
          show Rn _ _ _ _ _ [vI 0] _ _
          refine r_ireturn F_67_83 rt_67 ?_
          show Rn _ _ _ _ _ [vI 0, vJ (31 * u)] _ _
          refine r_i2l F_155_100 (by decide) ?_
          refine r_ladd (e := (31 * u)) F_155_101 (Int.add_zero _) ?_
          refine r_stJ_n (m := 1) (L' := [some (vR 0), some (vJ (31 * u)), none, some (vI k), some (vI w)]) F_155_102 rfl rfl ?_
          refine r_iinc (m := 4) (e := (w + 1)) (L' := [some (vR 0), some (vJ (31 * u)), none, some (vI k), some (vI (w + 1))]) F_155_103 rfl rfl rfl rfl ?_
          refine r_goto (t := 78) F_155_106 rfl ?_
          exact (l14 e2 e3 e11 e12)
        · intro e13
          replace e13 : 0 ≤ (w - 1) := (Int.not_lt.mp e13)
          refine r_ldI_n (m := 0) F_46_4 rfl ?_
          refine r_iconst F_46_5 ?_
          refine r_icmp (t := 13) F_46_6 rfl (l13 e2 e3 e11) (by decide) ?_ ?_
          · intro e14
            replace e14 : 4 ≤ (w - 1) := e14
            refine r_iconst F_46_13 ?_
            refine r_zreturn F_46_14 rt_46 (Or.inl rfl) ?_
            show Rn _ _ _ _ _ [vI 0] _ _
            refine r_ifT (t := 16) F_54_4 rfl (by decide) (by show (0 : Int) = 0; decide) ?_
            refine r_iconst F_54_16 ?_
            refine r_ireturn F_54_17 rt_54 ?_
            show Rn _ _ _ _ _ [vI 0] _ _
            refine r_ireturn F_67_83 rt_67 ?_
            show Rn _ _ _ _ _ [vI 0, vJ (31 * u)] _ _
            refine r_i2l F_155_100 (by decide) ?_
            refine r_ladd (e := (31 * u)) F_155_101 (Int.add_zero _) ?_
            refine r_stJ_n (m := 1) (L' := [some (vR 0), some (vJ (31 * u)), none, some (vI k), some (vI w)]) F_155_102 rfl rfl ?_
            refine r_iinc (m := 4) (e := (w + 1)) (L' := [some (vR 0), some (vJ (31 * u)), none, some (vI k), some (vI (w + 1))]) F_155_103 rfl rfl rfl rfl ?_
            refine r_goto (t := 78) F_155_106 rfl ?_
            exact (l15 e2 e3 e11 e13 e14)
          · intro e15
            replace e15 : (w - 1) < 4 := (Int.not_le.mp e15)
            refine r_iconst F_46_9 ?_
            refine r_goto (t := 14) F_46_10 rfl ?_
            refine r_zreturn F_46_14 rt_46 (Or.inr rfl) ?_
            show Rn _ _ _ _ _ [vI 1] _ _
            refine r_ifF (t := 16) F_54_4 rfl (by decide) (by show ¬ ((1 : Int) = 0); decide) ?_
            refine r_ldR_n (m := 0) F_54_7 rfl ?_
            refine r_getR (J := 0) F_54_8 o_54 fl_0_9 ty_44 (by decide) rfl (kd2 kd_44_0 (by decide)) (kd9 kd_44_0 (by decide)) rf_44_0 ?_
            refine r_ldI_n (m := 1) F_54_11 rfl ?_
            refine r_iald (e := (s 45 (w - 1))) F_54_12 ty_45 e13 (lt_ln ln_45 e15) rfl ?_
            refine r_goto (t := 17) F_54_13 rfl ?_
            refine r_ireturn F_54_17 rt_54 ?_
            show Rn _ _ _ _ _ [vI (s 45 (w - 1))] _ _
            refine r_ireturn F_67_83 rt_67 ?_
            show Rn _ _ _ _ _ [vI (s 45 (w - 1)), vJ (31 * u)] _ _
            refine r_i2l F_155_100 (l16 e2 e3 e11 e13 e15) ?_
            refine r_ladd F_155_101 rfl ?_
            refine r_stJ_n (m := 1) (L' := [some (vR 0), some (vJ ((31 * u) + (s 45 (w - 1)))), none, some (vI k), some (vI w)]) F_155_102 rfl rfl ?_
            refine r_iinc (m := 4) (e := (w + 1)) (L' := [some (vR 0), some (vJ ((31 * u) + (s 45 (w - 1)))), none, some (vI k), some (vI (w + 1))]) F_155_103 rfl rfl rfl rfl ?_
            refine r_goto (t := 78) F_155_106 rfl ?_
            exact (l17 e2 e3 e11 e13 e15)
    · intro e16
      replace e16 : k < 6 := (Int.not_le.mp e16)
      refine r_ldI_n (m := 1) F_58_14 rfl ?_
      refine r_goto (t := 19) F_58_15 rfl ?_
      refine r_aald F_58_19 ty_40 (by decide) k0 (lt_ln ln_40 e16) (rw_40 ⟨k0, e16⟩).2 ?_
      refine r_areturn F_58_20 rob_58 ?_
      show Rn _ _ _ _ _ [vR (44 + 4 * k)] _ _
      refine r_stR_n (m := 3) (L' := [some (vR 38), some (vI k), some (vI w), some (vR (44 + 4 * k))]) F_67_5 rfl rfl ?_
      refine r_ldI_n (m := 2) F_67_6 rfl ?_
      rcases (show w = 0 ∨ w = 5 ∨ w = 6 ∨ (¬ w = 0 ∧ ¬ w = 5 ∧ ¬ w = 6) by omega) with hh | hh | hh | hh
      · have e17 := hh
        refine r_lsw (t := 40) (z := 33) F_67_7 l1 (by decide) (by rw [hh]; rfl) rfl ?_
        refine r_ldR_n (m := 3) F_67_40 rfl ?_
        refine r_virt2 (A := []) (r := []) (n := 0) F_67_41 o_67 il_1_68 rfl rfl rfl rfl (rw_40 ⟨k0, e16⟩).1 vy_52 (lay_le n_52 rfl) ?_
        refine Cl_of n_52 rfl ?_
        show Rn _ _ _ _ [some (vR (44 + 4 * k))] [] _ _
        refine r_ldR_n (m := 0) F_52_0 rfl ?_
        refine r_getI (J := 1) (e := (s (44 + 4 * k) 1)) F_52_1 o_52 fl_0_15 (rw_40 ⟨k0, e16⟩).1 (by decide) rfl (gw (rw_40 ⟨k0, e16⟩).1).2.2.1 rfl ?_
        refine r_ireturn F_52_4 rt_52 ?_
        show Rn _ _ _ _ _ [vI (s (44 + 4 * k) 1)] _ _
        refine r_ireturn F_67_44 rt_67 ?_
        show Rn _ _ _ _ _ [vI (s (44 + 4 * k) 1), vJ (31 * u)] _ _
        refine r_i2l F_155_100 (l18 e2 e16 e17) ?_
        refine r_ladd F_155_101 rfl ?_
        refine r_stJ_n (m := 1) (L' := [some (vR 0), some (vJ ((31 * u) + (s (44 + 4 * k) 1))), none, some (vI k), some (vI w)]) F_155_102 rfl rfl ?_
        refine r_iinc (m := 4) (e := (w + 1)) (L' := [some (vR 0), some (vJ ((31 * u) + (s (44 + 4 * k) 1))), none, some (vI k), some (vI (w + 1))]) F_155_103 rfl rfl rfl rfl ?_
        refine r_goto (t := 78) F_155_106 rfl ?_
        exact (l19 e2 e16 e17)
      · have e18 := hh
        refine r_lsw (t := 45) (z := 38) F_67_7 l1 (by decide) (by rw [hh]; rfl) rfl ?_
        refine r_ldR_n (m := 3) F_67_45 rfl ?_
        refine r_virt2 (A := []) (r := []) (n := 0) F_67_46 o_67 il_1_108 rfl rfl rfl rfl (rw_40 ⟨k0, e16⟩).1 vy_68 (lay_le n_68 rfl) ?_
        refine Cl_of n_68 rfl ?_
        show Rn _ _ _ _ [some (vR (44 + 4 * k))] [] _ _
        refine r_ldR_n (m := 0) F_68_0 rfl ?_
        refine r_getI (J := 2) (e := (s (44 + 4 * k) 2)) F_68_1 o_68 fl_0_19 (rw_40 ⟨k0, e16⟩).1 (by decide) rfl (gw (rw_40 ⟨k0, e16⟩).1).2.2.2.1 rfl ?_
        refine r_ireturn F_68_4 rt_68 ?_
        show Rn _ _ _ _ _ [vI (s (44 + 4 * k) 2)] _ _
        refine r_ireturn F_67_49 rt_67 ?_
        show Rn _ _ _ _ _ [vI (s (44 + 4 * k) 2), vJ (31 * u)] _ _
        refine r_i2l F_155_100 (l20 e2 e16 e18) ?_
        refine r_ladd F_155_101 rfl ?_
        refine r_stJ_n (m := 1) (L' := [some (vR 0), some (vJ ((31 * u) + (s (44 + 4 * k) 2))), none, some (vI k), some (vI w)]) F_155_102 rfl rfl ?_
        refine r_iinc (m := 4) (e := (w + 1)) (L' := [some (vR 0), some (vJ ((31 * u) + (s (44 + 4 * k) 2))), none, some (vI k), some (vI (w + 1))]) F_155_103 rfl rfl rfl rfl ?_
        refine r_goto (t := 78) F_155_106 rfl ?_
        exact (l21 e2 e16 e18)
      · have e19 := hh
        refine r_lsw (t := 50) (z := 43) F_67_7 l1 (by decide) (by rw [hh]; rfl) rfl ?_
        refine r_ldI_n (m := 1) F_67_50 rfl ?_
        refine r_ldR_n (m := 0) F_67_51 rfl ?_
        refine r_getI (J := 7) (e := (s 38 7)) F_67_52 o_67 fl_1_37 ty_38 (by decide) rfl kd_38_7 rfl ?_
        refine r_icmp (t := 62) F_67_55 rfl (l3 e2) (l22 e2 e16 e19) ?_ ?_
        · intro e20
          replace e20 : ¬ k = (s 38 7) := e20
          refine r_ldI_n (m := 1) F_67_62 rfl ?_
          refine r_ldR_n (m := 0) F_67_63 rfl ?_
          refine r_getI (J := 8) (e := (s 38 8)) F_67_64 o_67 fl_1_40 ty_38 (by decide) rfl kd_38_8 rfl ?_
          refine r_icmp (t := 74) F_67_67 rfl (l3 e2) (l23 e2 e16 e19 e20) ?_ ?_
          · intro e21
            replace e21 : ¬ k = (s 38 8) := e21
            refine r_iconst F_67_74 ?_
            refine r_ireturn F_67_75 rt_67 ?_
            show Rn _ _ _ _ _ [vI 0, vJ (31 * u)] _ _
            refine r_i2l F_155_100 (by decide) ?_
            refine r_ladd (e := (31 * u)) F_155_101 (Int.add_zero _) ?_
            refine r_stJ_n (m := 1) (L' := [some (vR 0), some (vJ (31 * u)), none, some (vI k), some (vI w)]) F_155_102 rfl rfl ?_
            refine r_iinc (m := 4) (e := (w + 1)) (L' := [some (vR 0), some (vJ (31 * u)), none, some (vI k), some (vI (w + 1))]) F_155_103 rfl rfl rfl rfl ?_
            refine r_goto (t := 78) F_155_106 rfl ?_
            exact (l24 e2 e16 e19 e20 e21)
          · intro e22
            replace e22 : k = (s 38 8) := (Classical.not_not.mp e22)
            refine r_iconst F_67_70 ?_
            refine r_goto (t := 75) F_67_71 rfl ?_
            refine r_ireturn F_67_75 rt_67 ?_
            show Rn _ _ _ _ _ [vI 2, vJ (31 * u)] _ _
            refine r_i2l F_155_100 (by decide) ?_
            refine r_ladd F_155_101 rfl ?_
            refine r_stJ_n (m := 1) (L' := [some (vR 0), some (vJ ((31 * u) + 2)), none, some (vI k), some (vI w)]) F_155_102 rfl rfl ?_
            refine r_iinc (m := 4) (e := (w + 1)) (L' := [some (vR 0), some (vJ ((31 * u) + 2)), none, some (vI k), some (vI (w + 1))]) F_155_103 rfl rfl rfl rfl ?_
            refine r_goto (t := 78) F_155_106 rfl ?_
            exact (l25 e2 e16 e19 e20 e22)
        · intro e23
          replace e23 : k = (s 38 7) := (Classical.not_not.mp e23)
          refine r_iconst F_67_58 ?_
          refine r_goto (t := 75) F_67_59 rfl ?_
          refine r_ireturn F_67_75 rt_67 ?_
          show Rn _ _ _ _ _ [vI 1, vJ (31 * u)] _ _
          refine r_i2l F_155_100 (by decide) ?_
          refine r_ladd F_155_101 rfl ?_
          refine r_stJ_n (m := 1) (L' := [some (vR 0), some (vJ ((31 * u) + 1)), none, some (vI k), some (vI w)]) F_155_102 rfl rfl ?_
          refine r_iinc (m := 4) (e := (w + 1)) (L' := [some (vR 0), some (vJ ((31 * u) + 1)), none, some (vI k), some (vI (w + 1))]) F_155_103 rfl rfl rfl rfl ?_
          refine r_goto (t := 78) F_155_106 rfl ?_
          exact (l26 e2 e16 e19 e23)
      · have e24 := hh
        refine r_lsw (t := 76) (z := 69) F_67_7 l1 (by decide) (by show Op.lookupswitch.offset [(0, 33), (5, 38), (6, 43)] 69 w = 69; simp only [Op.lookupswitch.offset]; repeat (rw [if_neg (by omega)])) rfl ?_
        refine r_ldR_n (m := 3) F_67_76 rfl ?_
        refine r_ldI_n (m := 2) F_67_77 rfl ?_
        refine r_iconst F_67_78 ?_
        refine r_isub F_67_79 rfl ?_
        refine r_virt2 (A := [vI (w - 1)]) (r := []) (n := 1) F_67_80 o_67 il_1_111 rfl rfl rfl rfl (rw_40 ⟨k0, e16⟩).1 vy_54 (lay_le n_54 rfl) ?_
        refine Cl_of n_54 rfl ?_
        show Rn _ _ _ _ [some (vR (44 + 4 * k)), some (vI (w - 1))] [] _ _
        refine r_ldI_n (m := 1) F_54_0 rfl ?_
        refine r_stat2 (A := [vI (w - 1)]) (r := []) (n := 1) F_54_1 o_54 il_0_33 (by decide) rfl rfl rfl rfl (lay_le n_46 rfl) ?_
        refine Cl_of n_46 rfl ?_
        show Rn _ _ _ _ [some (vI (w - 1))] [] _ _
        refine r_ldI_n (m := 0) F_46_0 rfl ?_
        refine r_if (t := 13) F_46_1 rfl (l27 e2 e16 e24) ?_ ?_
        · intro e25
          replace e25 : (w - 1) < 0 := e25
          refine r_iconst F_46_13 ?_
          refine r_zreturn F_46_14 rt_46 (Or.inl rfl) ?_
          show Rn _ _ _ _ _ [vI 0] _ _
          refine r_ifT (t := 16) F_54_4 rfl (by decide) (by show (0 : Int) = 0; decide) ?_
          refine r_iconst F_54_16 ?_
          refine r_ireturn F_54_17 rt_54 ?_
          show Rn _ _ _ _ _ [vI 0] _ _
          refine r_ireturn F_67_83 rt_67 ?_
          show Rn _ _ _ _ _ [vI 0, vJ (31 * u)] _ _
          refine r_i2l F_155_100 (by decide) ?_
          refine r_ladd (e := (31 * u)) F_155_101 (Int.add_zero _) ?_
          refine r_stJ_n (m := 1) (L' := [some (vR 0), some (vJ (31 * u)), none, some (vI k), some (vI w)]) F_155_102 rfl rfl ?_
          refine r_iinc (m := 4) (e := (w + 1)) (L' := [some (vR 0), some (vJ (31 * u)), none, some (vI k), some (vI (w + 1))]) F_155_103 rfl rfl rfl rfl ?_
          refine r_goto (t := 78) F_155_106 rfl ?_
          exact (l28 e2 e16 e24 e25)
        · intro e26
          replace e26 : 0 ≤ (w - 1) := (Int.not_lt.mp e26)
          refine r_ldI_n (m := 0) F_46_4 rfl ?_
          refine r_iconst F_46_5 ?_
          refine r_icmp (t := 13) F_46_6 rfl (l27 e2 e16 e24) (by decide) ?_ ?_
          · intro e27
            replace e27 : 4 ≤ (w - 1) := e27
            refine r_iconst F_46_13 ?_
            refine r_zreturn F_46_14 rt_46 (Or.inl rfl) ?_
            show Rn _ _ _ _ _ [vI 0] _ _
            refine r_ifT (t := 16) F_54_4 rfl (by decide) (by show (0 : Int) = 0; decide) ?_
            refine r_iconst F_54_16 ?_
            refine r_ireturn F_54_17 rt_54 ?_
            show Rn _ _ _ _ _ [vI 0] _ _
            refine r_ireturn F_67_83 rt_67 ?_
            show Rn _ _ _ _ _ [vI 0, vJ (31 * u)] _ _
            refine r_i2l F_155_100 (by decide) ?_
            refine r_ladd (e := (31 * u)) F_155_101 (Int.add_zero _) ?_
            refine r_stJ_n (m := 1) (L' := [some (vR 0), some (vJ (31 * u)), none, some (vI k), some (vI w)]) F_155_102 rfl rfl ?_
            refine r_iinc (m := 4) (e := (w + 1)) (L' := [some (vR 0), some (vJ (31 * u)), none, some (vI k), some (vI (w + 1))]) F_155_103 rfl rfl rfl rfl ?_
            refine r_goto (t := 78) F_155_106 rfl ?_
            exact (l29 e2 e16 e24 e26 e27)
          · intro e28
            replace e28 : (w - 1) < 4 := (Int.not_le.mp e28)
            refine r_iconst F_46_9 ?_
            refine r_goto (t := 14) F_46_10 rfl ?_
            refine r_zreturn F_46_14 rt_46 (Or.inr rfl) ?_
            show Rn _ _ _ _ _ [vI 1] _ _
            refine r_ifF (t := 16) F_54_4 rfl (by decide) (by show ¬ ((1 : Int) = 0); decide) ?_
            refine r_ldR_n (m := 0) F_54_7 rfl ?_
            refine r_getR (J := 0) F_54_8 o_54 fl_0_9 (rw_40 ⟨k0, e16⟩).1 (by decide) rfl (gw2 (rw_40 ⟨k0, e16⟩).1).1 (gw2 (rw_40 ⟨k0, e16⟩).1).2 (gw (rw_40 ⟨k0, e16⟩).1).2.2.2.2.2.2.1 ?_
            refine r_ldI_n (m := 1) F_54_11 rfl ?_
            refine r_iald (e := (s ((44 + 4 * k) + 1) (w - 1))) F_54_12 (gw (rw_40 ⟨k0, e16⟩).1).2.2.2.2.1 e26 (lt_ln (gw (rw_40 ⟨k0, e16⟩).1).2.2.2.2.2.1 e28) rfl ?_
            refine r_goto (t := 17) F_54_13 rfl ?_
            refine r_ireturn F_54_17 rt_54 ?_
            show Rn _ _ _ _ _ [vI (s ((44 + 4 * k) + 1) (w - 1))] _ _
            refine r_ireturn F_67_83 rt_67 ?_
            show Rn _ _ _ _ _ [vI (s ((44 + 4 * k) + 1) (w - 1)), vJ (31 * u)] _ _
            refine r_i2l F_155_100 (l30 e2 e16 e24 e26 e28) ?_
            refine r_ladd F_155_101 rfl ?_
            refine r_stJ_n (m := 1) (L' := [some (vR 0), some (vJ ((31 * u) + (s ((44 + 4 * k) + 1) (w - 1)))), none, some (vI k), some (vI w)]) F_155_102 rfl rfl ?_
            refine r_iinc (m := 4) (e := (w + 1)) (L' := [some (vR 0), some (vJ ((31 * u) + (s ((44 + 4 * k) + 1) (w - 1)))), none, some (vI k), some (vI (w + 1))]) F_155_103 rfl rfl rfl rfl ?_
            refine r_goto (t := 78) F_155_106 rfl ?_
            exact (l31 e2 e16 e24 e26 e28)
theorem t_X6_digest {X : List Int32} {d : Nat} {s : m_St} {P : Option Value → m_St → Prop}
    (l1 : Rn X (d + 13) 254 6 [some (vR 77), some (vJ 17), none, some (vI 0), none] [] s P)
    : Cl X (d + 13) 254 [vR 77] s P := by
  refine Cl_of n_254 rfl ?_
  show Rn _ _ _ _ [some (vR 77), none, none, none, none] [] _ _
  refine r_ldcJ F_254_0 o_254 kj_6_270 oj_17 ?_
  refine r_stJ_n (m := 1) (L' := [some (vR 77), some (vJ 17), none, none, none]) F_254_3 rfl rfl ?_
  refine r_iconst F_254_4 ?_
  refine r_stI_n (m := 3) (L' := [some (vR 77), some (vJ 17), none, some (vI 0), none]) F_254_5 rfl rfl ?_
  exact l1
theorem t_X6_digest_6 {X : List Int32} {d : Nat} {s : m_St} {P : Option Value → m_St → Prop} {u k : Int} (k0 : 0 ≤ k)
    (l1 : inR k)
    (l2 : 11 ≤ k → Rn X (d + 13) 254 33 [some (vR 77), some (vJ u), none, some (vI 0), none] [] s P)
    (l3 : k < 11 → J s)
    (l4 : k < 11 → inR (cnv s k))
    (l5 : k < 11 → Rn X (d + 13) 254 6 [some (vR 77), some (vJ ((31 * u) + (cnv s k))), none, some (vI (k + 1)), none] [] s P)
    : Rn X (d + 13) 254 6 [some (vR 77), some (vJ u), none, some (vI k), none] [] s P := by
  refine r_ldI_n (m := 3) F_254_6 rfl ?_
  refine r_bipush F_254_7 bi_11 ?_
  refine r_icmp (t := 31) F_254_9 rfl l1 (by decide) ?_ ?_
  · intro e1
    replace e1 : 11 ≤ k := e1
    refine r_iconst F_254_31 ?_
    refine r_stI_n (m := 3) (L' := [some (vR 77), some (vJ u), none, some (vI 0), none]) F_254_32 rfl rfl ?_
    exact (l2 e1)
  · intro e2
    replace e2 : k < 11 := (Int.not_le.mp e2)
    refine r_ldcJ F_254_12 o_254 kj_6_272 oj_31 ?_
    refine r_ldJ_n (m := 1) F_254_15 rfl ?_
    refine r_lmul F_254_16 rfl ?_
    refine r_ldR_n (m := 0) F_254_17 rfl ?_
    refine r_ldI_n (m := 3) F_254_18 rfl ?_
    refine r_virt2 (A := [vI k]) (r := [vJ (31 * u)]) (n := 1) F_254_19 o_254 il_6_274 rfl rfl rfl rfl ty_77 vy_250 (lay_le n_250 rfl) ?_
    refine count_M (l3 e2) l1 ?_
    show Rn _ _ _ _ _ [vI (cnv s k), vJ (31 * u)] _ _
    refine r_i2l F_254_22 (l4 e2) ?_
    refine r_ladd F_254_23 rfl ?_
    refine r_stJ_n (m := 1) (L' := [some (vR 77), some (vJ ((31 * u) + (cnv s k))), none, some (vI k), none]) F_254_24 rfl rfl ?_
    refine r_iinc (m := 3) (e := (k + 1)) (L' := [some (vR 77), some (vJ ((31 * u) + (cnv s k))), none, some (vI (k + 1)), none]) F_254_25 rfl rfl rfl rfl ?_
    refine r_goto (t := 6) F_254_28 rfl ?_
    exact (l5 e2)
theorem t_X6_digest_33 {X : List Int32} {d : Nat} {s : m_St} {P : Option Value → m_St → Prop} {u k : Int} (k0 : 0 ≤ k)
    (l1 : inR k)
    (l2 : 4 ≤ k → Rn X (d + 13) 254 61 [some (vR 77), some (vJ u), none, some (vI 0), none] [] s P)
    (l3 : k < 4 → tr (s 38 5) (s 83 7))
    (l4 : k < 4 → r16 (iShl 1 k))
    (l5 : k < 4 → inR (clo (s 38 5) (iShl 1 k)))
    (l6 : k < 4 → Rn X (d + 13) 254 33 [some (vR 77), some (vJ ((31 * u) + (clo (s 38 5) (iShl 1 k)))), none, some (vI (k + 1)), none] [] s P)
    : Rn X (d + 13) 254 33 [some (vR 77), some (vJ u), none, some (vI k), none] [] s P := by
  refine r_ldI_n (m := 3) F_254_33 rfl ?_
  refine r_iconst F_254_34 ?_
  refine r_icmp (t := 59) F_254_35 rfl l1 (by decide) ?_ ?_
  · intro e1
    replace e1 : 4 ≤ k := e1
    refine r_iconst F_254_59 ?_
    refine r_stI_n (m := 3) (L' := [some (vR 77), some (vJ u), none, some (vI 0), none]) F_254_60 rfl rfl ?_
    exact (l2 e1)
  · intro e2
    replace e2 : k < 4 := (Int.not_le.mp e2)
    refine r_ldcJ F_254_38 o_254 kj_6_272 oj_31 ?_
    refine r_ldJ_n (m := 1) F_254_41 rfl ?_
    refine r_lmul F_254_42 rfl ?_
    refine r_ldR_n (m := 0) F_254_43 rfl ?_
    refine r_iconst F_254_44 ?_
    refine r_ldI_n (m := 3) F_254_45 rfl ?_
    refine r_ishl F_254_46 rfl ?_
    refine r_virt2 (A := [vI (iShl 1 k)]) (r := [vJ (31 * u)]) (n := 1) F_254_47 o_254 il_6_162 rfl rfl rfl rfl ty_77 vy_196 (lay_le n_196 rfl) ?_
    refine sp_closedM (l3 e2) (l4 e2) ?_
    show Rn _ _ _ _ _ [vI (clo (s 38 5) (iShl 1 k)), vJ (31 * u)] _ _
    refine r_i2l F_254_50 (l5 e2) ?_
    refine r_ladd F_254_51 rfl ?_
    refine r_stJ_n (m := 1) (L' := [some (vR 77), some (vJ ((31 * u) + (clo (s 38 5) (iShl 1 k)))), none, some (vI k), none]) F_254_52 rfl rfl ?_
    refine r_iinc (m := 3) (e := (k + 1)) (L' := [some (vR 77), some (vJ ((31 * u) + (clo (s 38 5) (iShl 1 k)))), none, some (vI (k + 1)), none]) F_254_53 rfl rfl rfl rfl ?_
    refine r_goto (t := 33) F_254_56 rfl ?_
    exact (l6 e2)
theorem t_X6_digest_61 {X : List Int32} {d : Nat} {s : m_St} {P : Option Value → m_St → Prop} {u k : Int} (k0 : 0 ≤ k)
    (l1 : inR k)
    (l2 : inR (7 * (s 83 0)))
    (l3 : (7 * (s 83 0)) ≤ k → Rn X (d + 13) 254 102 [some (vR 77), some (vJ u), none, some (vI 0), none] [] s P)
    (l4 : k < (7 * (s 83 0)) → inR (k % 7))
    (l5 : k < (7 * (s 83 0)) → ¬ (k % 7) = 5 → ¬ (k % 7) = 6 → 0 ≤ ((8 + (5 * (k / 7))) + (k % 7)))
    (l6 : k < (7 * (s 83 0)) → ¬ (k % 7) = 5 → ¬ (k % 7) = 6 → ((8 + (5 * (k / 7))) + (k % 7)) < 198)
    (l7 : k < (7 * (s 83 0)) → ¬ (k % 7) = 5 → ¬ (k % 7) = 6 → inR (s 83 ((8 + (5 * (k / 7))) + (k % 7))))
    (l8 : k < (7 * (s 83 0)) → ¬ (k % 7) = 5 → ¬ (k % 7) = 6 → Rn X (d + 13) 254 61 [some (vR 77), some (vJ ((31 * u) + (s 83 ((8 + (5 * (k / 7))) + (k % 7))))), none, some (vI (k + 1)), none] [] s P)
    (l9 : k < (7 * (s 83 0)) → ¬ (k % 7) = 5 → (k % 7) = 6 → inR (s 83 5))
    (l10 : k < (7 * (s 83 0)) → ¬ (k % 7) = 5 → (k % 7) = 6 → inR ((k / 7) + 1))
    (l11 : k < (7 * (s 83 0)) → ¬ (k % 7) = 5 → (k % 7) = 6 → ¬ (s 83 5) = ((k / 7) + 1) → inR (s 83 6))
    (l12 : k < (7 * (s 83 0)) → ¬ (k % 7) = 5 → (k % 7) = 6 → ¬ (s 83 5) = ((k / 7) + 1) → ¬ (s 83 6) = ((k / 7) + 1) → Rn X (d + 13) 254 61 [some (vR 77), some (vJ (31 * u)), none, some (vI (k + 1)), none] [] s P)
    (l13 : k < (7 * (s 83 0)) → ¬ (k % 7) = 5 → (k % 7) = 6 → ¬ (s 83 5) = ((k / 7) + 1) → (s 83 6) = ((k / 7) + 1) → Rn X (d + 13) 254 61 [some (vR 77), some (vJ ((31 * u) + 2)), none, some (vI (k + 1)), none] [] s P)
    (l14 : k < (7 * (s 83 0)) → ¬ (k % 7) = 5 → (k % 7) = 6 → (s 83 5) = ((k / 7) + 1) → Rn X (d + 13) 254 61 [some (vR 77), some (vJ ((31 * u) + 1)), none, some (vI (k + 1)), none] [] s P)
    (l15 : k < (7 * (s 83 0)) → (k % 7) = 5 → mok s)
    (l16 : k < (7 * (s 83 0)) → (k % 7) = 5 → 0 ≤ (k / 7))
    (l17 : k < (7 * (s 83 0)) → (k % 7) = 5 → (k / 7) < (s 83 0))
    (l18 : k < (7 * (s 83 0)) → (k % 7) = 5 → Rn X (d + 13) 254 61 [some (vR 77), some (vJ ((31 * u) + (hld (s 83) (k / 7)))), none, some (vI (k + 1)), none] [] s P)
    : Rn X (d + 13) 254 61 [some (vR 77), some (vJ u), none, some (vI k), none] [] s P := by
  refine r_ldI_n (m := 3) F_254_61 rfl ?_
  refine r_bipush F_254_62 bi_7 ?_
  refine r_ldR_n (m := 0) F_254_64 rfl ?_
  refine r_getR (J := 5) F_254_65 o_254 fl_6_25 ty_77 (by decide) rfl (kd2 kd_77_5 (by decide)) (kd9 kd_77_5 (by decide)) rf_77_5 ?_
  refine r_iconst F_254_68 ?_
  refine r_iald (e := (s 83 0)) F_254_69 ty_83 (by decide) (lt_ln ln_83 (by decide)) rfl ?_
  refine r_imul F_254_70 rfl ?_
  refine r_icmp (t := 100) F_254_71 rfl l1 l2 ?_ ?_
  · intro e1
    replace e1 : (7 * (s 83 0)) ≤ k := e1
    refine r_iconst F_254_100 ?_
    refine r_stI_n (m := 3) (L' := [some (vR 77), some (vJ u), none, some (vI 0), none]) F_254_101 rfl rfl ?_
    exact (l3 e1)
  · intro e2
    replace e2 : k < (7 * (s 83 0)) := (Int.not_le.mp e2)
    refine r_ldcJ F_254_74 o_254 kj_6_272 oj_31 ?_
    refine r_ldJ_n (m := 1) F_254_77 rfl ?_
    refine r_lmul F_254_78 rfl ?_
    refine r_ldR_n (m := 0) F_254_79 rfl ?_
    refine r_ldI_n (m := 3) F_254_80 rfl ?_
    refine r_bipush F_254_81 bi_7 ?_
    refine r_idiv F_254_83 l1 k0 (by decide) (by decide) ?_
    refine r_ldI_n (m := 3) F_254_84 rfl ?_
    refine r_bipush F_254_85 bi_7 ?_
    refine r_irem F_254_87 l1 k0 (by decide) (by decide) ?_
    refine r_virt2 (A := [vI (k / 7), vI (k % 7)]) (r := [vJ (31 * u)]) (n := 2) F_254_88 o_254 il_6_153 rfl rfl rfl rfl ty_77 vy_185 (lay_le n_185 rfl) ?_
    refine Cl_of n_185 rfl ?_
    show Rn _ _ _ _ [some (vR 77), some (vI (k / 7)), some (vI (k % 7))] [] _ _
    refine r_ldI_n (m := 2) F_185_0 rfl ?_
    refine r_iconst F_185_1 ?_
    refine r_icmp (t := 11) F_185_2 rfl (l4 e2) (by decide) ?_ ?_
    · intro e3
      replace e3 : ¬ (k % 7) = 5 := e3
      refine r_ldI_n (m := 2) F_185_11 rfl ?_
      refine r_bipush F_185_12 bi_6 ?_
      refine r_icmp (t := 52) F_185_14 rfl (l4 e2) (by decide) ?_ ?_
      · intro e4
        replace e4 : ¬ (k % 7) = 6 := e4
        refine r_ldR_n (m := 0) F_185_52 rfl ?_
        refine r_getR (J := 5) F_185_53 o_185 fl_6_25 ty_77 (by decide) rfl (kd2 kd_77_5 (by decide)) (kd9 kd_77_5 (by decide)) rf_77_5 ?_
        refine r_bipush F_185_56 bi_8 ?_
        refine r_iconst F_185_58 ?_
        refine r_ldI_n (m := 1) F_185_59 rfl ?_
        refine r_imul F_185_60 rfl ?_
        refine r_iadd F_185_61 rfl ?_
        refine r_ldI_n (m := 2) F_185_62 rfl ?_
        refine r_iadd F_185_63 rfl ?_
        refine r_iald (e := (s 83 ((8 + (5 * (k / 7))) + (k % 7)))) F_185_64 ty_83 (l5 e2 e3 e4) (lt_ln ln_83 (l6 e2 e3 e4)) rfl ?_
        refine r_ireturn F_185_65 rt_185 ?_
        show Rn _ _ _ _ _ [vI (s 83 ((8 + (5 * (k / 7))) + (k % 7))), vJ (31 * u)] _ _
        refine r_i2l F_254_91 (l7 e2 e3 e4) ?_
        refine r_ladd F_254_92 rfl ?_
        refine r_stJ_n (m := 1) (L' := [some (vR 77), some (vJ ((31 * u) + (s 83 ((8 + (5 * (k / 7))) + (k % 7))))), none, some (vI k), none]) F_254_93 rfl rfl ?_
        refine r_iinc (m := 3) (e := (k + 1)) (L' := [some (vR 77), some (vJ ((31 * u) + (s 83 ((8 + (5 * (k / 7))) + (k % 7))))), none, some (vI (k + 1)), none]) F_254_94 rfl rfl rfl rfl ?_
        refine r_goto (t := 61) F_254_97 rfl ?_
        exact (l8 e2 e3 e4)
      · intro e5
        replace e5 : (k % 7) = 6 := (Classical.not_not.mp e5)
        refine r_ldR_n (m := 0) F_185_17 rfl ?_
        refine r_getR (J := 5) F_185_18 o_185 fl_6_25 ty_77 (by decide) rfl (kd2 kd_77_5 (by decide)) (kd9 kd_77_5 (by decide)) rf_77_5 ?_
        refine r_iconst F_185_21 ?_
        refine r_iald (e := (s 83 5)) F_185_22 ty_83 (by decide) (lt_ln ln_83 (by decide)) rfl ?_
        refine r_ldI_n (m := 1) F_185_23 rfl ?_
        refine r_iconst F_185_24 ?_
        refine r_iadd F_185_25 rfl ?_
        refine r_icmp (t := 33) F_185_26 rfl (l9 e2 e3 e5) (l10 e2 e3 e5) ?_ ?_
        · intro e6
          replace e6 : ¬ (s 83 5) = ((k / 7) + 1) := e6
          refine r_ldR_n (m := 0) F_185_33 rfl ?_
          refine r_getR (J := 5) F_185_34 o_185 fl_6_25 ty_77 (by decide) rfl (kd2 kd_77_5 (by decide)) (kd9 kd_77_5 (by decide)) rf_77_5 ?_
          refine r_bipush F_185_37 bi_6 ?_
          refine r_iald (e := (s 83 6)) F_185_39 ty_83 (by decide) (lt_ln ln_83 (by decide)) rfl ?_
          refine r_ldI_n (m := 1) F_185_40 rfl ?_
          refine r_iconst F_185_41 ?_
          refine r_iadd F_185_42 rfl ?_
          refine r_icmp (t := 50) F_185_43 rfl (l11 e2 e3 e5 e6) (l10 e2 e3 e5) ?_ ?_
          · intro e7
            replace e7 : ¬ (s 83 6) = ((k / 7) + 1) := e7
            refine r_iconst F_185_50 ?_
            refine r_ireturn F_185_51 rt_185 ?_
            show Rn _ _ _ _ _ [vI 0, vJ (31 * u)] _ _
            refine r_i2l F_254_91 (by decide) ?_
            refine r_ladd (e := (31 * u)) F_254_92 (Int.add_zero _) ?_
            refine r_stJ_n (m := 1) (L' := [some (vR 77), some (vJ (31 * u)), none, some (vI k), none]) F_254_93 rfl rfl ?_
            refine r_iinc (m := 3) (e := (k + 1)) (L' := [some (vR 77), some (vJ (31 * u)), none, some (vI (k + 1)), none]) F_254_94 rfl rfl rfl rfl ?_
            refine r_goto (t := 61) F_254_97 rfl ?_
            exact (l12 e2 e3 e5 e6 e7)
          · intro e8
            replace e8 : (s 83 6) = ((k / 7) + 1) := (Classical.not_not.mp e8)
            refine r_iconst F_185_46 ?_
            refine r_goto (t := 51) F_185_47 rfl ?_
            refine r_ireturn F_185_51 rt_185 ?_
            show Rn _ _ _ _ _ [vI 2, vJ (31 * u)] _ _
            refine r_i2l F_254_91 (by decide) ?_
            refine r_ladd F_254_92 rfl ?_
            refine r_stJ_n (m := 1) (L' := [some (vR 77), some (vJ ((31 * u) + 2)), none, some (vI k), none]) F_254_93 rfl rfl ?_
            refine r_iinc (m := 3) (e := (k + 1)) (L' := [some (vR 77), some (vJ ((31 * u) + 2)), none, some (vI (k + 1)), none]) F_254_94 rfl rfl rfl rfl ?_
            refine r_goto (t := 61) F_254_97 rfl ?_
            exact (l13 e2 e3 e5 e6 e8)
        · intro e9
          replace e9 : (s 83 5) = ((k / 7) + 1) := (Classical.not_not.mp e9)
          refine r_iconst F_185_29 ?_
          refine r_goto (t := 51) F_185_30 rfl ?_
          refine r_ireturn F_185_51 rt_185 ?_
          show Rn _ _ _ _ _ [vI 1, vJ (31 * u)] _ _
          refine r_i2l F_254_91 (by decide) ?_
          refine r_ladd F_254_92 rfl ?_
          refine r_stJ_n (m := 1) (L' := [some (vR 77), some (vJ ((31 * u) + 1)), none, some (vI k), none]) F_254_93 rfl rfl ?_
          refine r_iinc (m := 3) (e := (k + 1)) (L' := [some (vR 77), some (vJ ((31 * u) + 1)), none, some (vI (k + 1)), none]) F_254_94 rfl rfl rfl rfl ?_
          refine r_goto (t := 61) F_254_97 rfl ?_
          exact (l14 e2 e3 e5 e9)
    · intro e10
      replace e10 : (k % 7) = 5 := (Classical.not_not.mp e10)
      refine r_ldR_n (m := 0) F_185_5 rfl ?_
      refine r_ldI_n (m := 1) F_185_6 rfl ?_
      refine r_virt2 (A := [vI (k / 7)]) (r := []) (n := 1) F_185_7 o_185 il_6_143 rfl rfl rfl rfl ty_77 vy_186 (lay_le n_186 rfl) ?_
      refine sp_holdsM (l15 e2 e10) (l16 e2 e10) (l17 e2 e10) ?_
      show Rn _ _ _ _ _ [vI (hld (s 83) (k / 7))] _ _
      refine r_ireturn F_185_10 rt_185 ?_
      show Rn _ _ _ _ _ [vI (hld (s 83) (k / 7)), vJ (31 * u)] _ _
      refine r_i2l F_254_91 (inR_hset _ _) ?_
      refine r_ladd F_254_92 rfl ?_
      refine r_stJ_n (m := 1) (L' := [some (vR 77), some (vJ ((31 * u) + (hld (s 83) (k / 7)))), none, some (vI k), none]) F_254_93 rfl rfl ?_
      refine r_iinc (m := 3) (e := (k + 1)) (L' := [some (vR 77), some (vJ ((31 * u) + (hld (s 83) (k / 7)))), none, some (vI (k + 1)), none]) F_254_94 rfl rfl rfl rfl ?_
      refine r_goto (t := 61) F_254_97 rfl ?_
      exact (l18 e2 e10)
theorem t_X6_digest_102 {X : List Int32} {d : Nat} {s : m_St} {P : Option Value → m_St → Prop} {u k : Int} (k0 : 0 ≤ k)
    (l1 : inR k)
    (l2 : 3 ≤ k → Rn X (d + 13) 254 148 [some (vR 77), some (vJ u), none, some (vI 0), none] [] s P)
    (l3 : k < 3 → inR (s 86 k))
    (l4 : k < 3 → (s 86 k) = 0 → Rn X (d + 13) 254 102 [some (vR 77), some (vJ ((31 * u) + (-1))), none, some (vI (k + 1)), none] [] s P)
    (l5 : k < 3 → ¬ (s 86 k) = 0 → 0 ≤ ((198 * k) + 3))
    (l6 : k < 3 → ¬ (s 86 k) = 0 → ((198 * k) + 3) < 594)
    (l7 : k < 3 → ¬ (s 86 k) = 0 → inR (s 85 ((198 * k) + 3)))
    (l8 : k < 3 → ¬ (s 86 k) = 0 → Rn X (d + 13) 254 102 [some (vR 77), some (vJ ((31 * u) + (s 85 ((198 * k) + 3)))), none, some (vI (k + 1)), none] [] s P)
    : Rn X (d + 13) 254 102 [some (vR 77), some (vJ u), none, some (vI k), none] [] s P := by
  refine r_ldI_n (m := 3) F_254_102 rfl ?_
  refine r_iconst F_254_103 ?_
  refine r_icmp (t := 146) F_254_104 rfl l1 (by decide) ?_ ?_
  · intro e1
    replace e1 : 3 ≤ k := e1
    refine r_iconst F_254_146 ?_
    refine r_stI_n (m := 3) (L' := [some (vR 77), some (vJ u), none, some (vI 0), none]) F_254_147 rfl rfl ?_
    exact (l2 e1)
  · intro e2
    replace e2 : k < 3 := (Int.not_le.mp e2)
    refine r_ldcJ F_254_107 o_254 kj_6_272 oj_31 ?_
    refine r_ldJ_n (m := 1) F_254_110 rfl ?_
    refine r_lmul F_254_111 rfl ?_
    refine r_ldR_n (m := 0) F_254_112 rfl ?_
    refine r_getR (J := 8) F_254_113 o_254 fl_6_34 ty_77 (by decide) rfl (kd2 kd_77_8 (by decide)) (kd9 kd_77_8 (by decide)) rf_77_8 ?_
    refine r_ldI_n (m := 3) F_254_116 rfl ?_
    refine r_bald (e := (s 86 k)) F_254_117 ty_86 k0 (lt_ln ln_86 e2) rfl ?_
    refine r_if (t := 136) F_254_118 rfl (l3 e2) ?_ ?_
    · intro e3
      replace e3 : (s 86 k) = 0 := e3
      refine r_iconst F_254_136 ?_
      refine r_i2l F_254_137 (by decide) ?_
      refine r_ladd F_254_138 rfl ?_
      refine r_stJ_n (m := 1) (L' := [some (vR 77), some (vJ ((31 * u) + (-1))), none, some (vI k), none]) F_254_139 rfl rfl ?_
      refine r_iinc (m := 3) (e := (k + 1)) (L' := [some (vR 77), some (vJ ((31 * u) + (-1))), none, some (vI (k + 1)), none]) F_254_140 rfl rfl rfl rfl ?_
      refine r_goto (t := 102) F_254_143 rfl ?_
      exact (l4 e2 e3)
    · intro e4
      replace e4 : ¬ (s 86 k) = 0 := e4
      refine r_ldR_n (m := 0) F_254_121 rfl ?_
      refine r_getR (J := 7) F_254_122 o_254 fl_6_31 ty_77 (by decide) rfl (kd2 kd_77_7 (by decide)) (kd9 kd_77_7 (by decide)) rf_77_7 ?_
      refine r_sipush F_254_125 si_198 ?_
      refine r_ldI_n (m := 3) F_254_128 rfl ?_
      refine r_imul F_254_129 rfl ?_
      refine r_iconst F_254_130 ?_
      refine r_iadd F_254_131 rfl ?_
      refine r_iald (e := (s 85 ((198 * k) + 3))) F_254_132 ty_85 (l5 e2 e4) (lt_ln ln_85 (l6 e2 e4)) rfl ?_
      refine r_goto (t := 137) F_254_133 rfl ?_
      refine r_i2l F_254_137 (l7 e2 e4) ?_
      refine r_ladd F_254_138 rfl ?_
      refine r_stJ_n (m := 1) (L' := [some (vR 77), some (vJ ((31 * u) + (s 85 ((198 * k) + 3)))), none, some (vI k), none]) F_254_139 rfl rfl ?_
      refine r_iinc (m := 3) (e := (k + 1)) (L' := [some (vR 77), some (vJ ((31 * u) + (s 85 ((198 * k) + 3)))), none, some (vI (k + 1)), none]) F_254_140 rfl rfl rfl rfl ?_
      refine r_goto (t := 102) F_254_143 rfl ?_
      exact (l8 e2 e4)
theorem t_X6_digest_148 {X : List Int32} {d : Nat} {s : m_St} {P : Option Value → m_St → Prop} {u k : Int} {z4 : Option Value} (k0 : 0 ≤ k)
    (l1 : inR k)
    (l2 : 6 ≤ k → Rn X (d + 13) 254 216 [some (vR 77), some (vJ u), none, some (vI 0), z4] [] s P)
    (l3 : k < 6 → inR (s 78 k))
    (l4 : k < 6 → Rn X (d + 13) 254 171 [some (vR 77), some (vJ ((31 * u) + (s 78 k))), none, some (vI k), some (vI 0)] [] s P)
    : Rn X (d + 13) 254 148 [some (vR 77), some (vJ u), none, some (vI k), z4] [] s P := by
  refine r_ldI_n (m := 3) F_254_148 rfl ?_
  refine r_bipush F_254_149 bi_6 ?_
  refine r_icmp (t := 214) F_254_151 rfl l1 (by decide) ?_ ?_
  · intro e1
    replace e1 : 6 ≤ k := e1
    refine r_iconst F_254_214 ?_
    refine r_stI_n (m := 3) (L' := [some (vR 77), some (vJ u), none, some (vI 0), z4]) F_254_215 rfl rfl ?_
    exact (l2 e1)
  · intro e2
    replace e2 : k < 6 := (Int.not_le.mp e2)
    refine r_ldcJ F_254_154 o_254 kj_6_272 oj_31 ?_
    refine r_ldJ_n (m := 1) F_254_157 rfl ?_
    refine r_lmul F_254_158 rfl ?_
    refine r_ldR_n (m := 0) F_254_159 rfl ?_
    refine r_getR (J := 0) F_254_160 o_254 fl_6_7 ty_77 (by decide) rfl (kd2 kd_77_0 (by decide)) (kd9 kd_77_0 (by decide)) rf_77_0 ?_
    refine r_ldI_n (m := 3) F_254_163 rfl ?_
    refine r_iald (e := (s 78 k)) F_254_164 ty_78 k0 (lt_ln ln_78 e2) rfl ?_
    refine r_i2l F_254_165 (l3 e2) ?_
    refine r_ladd F_254_166 rfl ?_
    refine r_stJ_n (m := 1) (L' := [some (vR 77), some (vJ ((31 * u) + (s 78 k))), none, some (vI k), z4]) F_254_167 rfl rfl ?_
    refine r_iconst F_254_168 ?_
    refine r_stI (m := 4) (L' := [some (vR 77), some (vJ ((31 * u) + (s 78 k))), none, some (vI k), some (vI 0)]) F_254_169 rfl rfl ?_
    exact (l4 e2)
theorem t_X6_digest_216 {X : List Int32} {d : Nat} {s : m_St} {P : Option Value → m_St → Prop} {u k : Int} {z4 : Option Value} (k0 : 0 ≤ k)
    (l1 : inR k)
    (l2 : 4 ≤ k → P (some (vJ u)) s)
    (l3 : k < 4 → inR (s 81 k))
    (l4 : k < 4 → Rn X (d + 13) 254 238 [some (vR 77), some (vJ ((31 * u) + (s 81 k))), none, some (vI k), some (vI 0)] [] s P)
    : Rn X (d + 13) 254 216 [some (vR 77), some (vJ u), none, some (vI k), z4] [] s P := by
  refine r_ldI_n (m := 3) F_254_216 rfl ?_
  refine r_iconst F_254_217 ?_
  refine r_icmp (t := 281) F_254_218 rfl l1 (by decide) ?_ ?_
  · intro e1
    replace e1 : 4 ≤ k := e1
    refine r_ldJ_n (m := 1) F_254_281 rfl ?_
    refine r_lreturn F_254_282 rt_254 ?_
    exact (l2 e1)
  · intro e2
    replace e2 : k < 4 := (Int.not_le.mp e2)
    refine r_ldcJ F_254_221 o_254 kj_6_272 oj_31 ?_
    refine r_ldJ_n (m := 1) F_254_224 rfl ?_
    refine r_lmul F_254_225 rfl ?_
    refine r_ldR_n (m := 0) F_254_226 rfl ?_
    refine r_getR (J := 3) F_254_227 o_254 fl_6_19 ty_77 (by decide) rfl (kd2 kd_77_3 (by decide)) (kd9 kd_77_3 (by decide)) rf_77_3 ?_
    refine r_ldI_n (m := 3) F_254_230 rfl ?_
    refine r_iald (e := (s 81 k)) F_254_231 ty_81 k0 (lt_ln ln_81 e2) rfl ?_
    refine r_i2l F_254_232 (l3 e2) ?_
    refine r_ladd F_254_233 rfl ?_
    refine r_stJ_n (m := 1) (L' := [some (vR 77), some (vJ ((31 * u) + (s 81 k))), none, some (vI k), z4]) F_254_234 rfl rfl ?_
    refine r_iconst F_254_235 ?_
    refine r_stI (m := 4) (L' := [some (vR 77), some (vJ ((31 * u) + (s 81 k))), none, some (vI k), some (vI 0)]) F_254_236 rfl rfl ?_
    exact (l4 e2)
theorem t_X6_digest_171 {X : List Int32} {d : Nat} {s : m_St} {P : Option Value → m_St → Prop} {u k q : Int} (k0 : 0 ≤ k)
    (l1 : k < 6)
    (l2 : inR q)
    (l3 : inR (s 78 k))
    (l4 : (s 78 k) ≤ q → Rn X (d + 13) 254 148 [some (vR 77), some (vJ u), none, some (vI (k + 1)), some (vI q)] [] s P)
    (l5 : q < (s 78 k) → 0 ≤ ((40 * k) + q))
    (l6 : q < (s 78 k) → ((40 * k) + q) < 240)
    (l7 : q < (s 78 k) → inR (s 79 ((40 * k) + q)))
    (l8 : q < (s 78 k) → Rn X (d + 13) 254 171 [some (vR 77), some (vJ ((31 * u) + (s 79 ((40 * k) + q)))), none, some (vI k), some (vI (q + 1))] [] s P)
    : Rn X (d + 13) 254 171 [some (vR 77), some (vJ u), none, some (vI k), some (vI q)] [] s P := by
  refine r_ldI (m := 4) F_254_171 rfl ?_
  refine r_ldR_n (m := 0) F_254_173 rfl ?_
  refine r_getR (J := 0) F_254_174 o_254 fl_6_7 ty_77 (by decide) rfl (kd2 kd_77_0 (by decide)) (kd9 kd_77_0 (by decide)) rf_77_0 ?_
  refine r_ldI_n (m := 3) F_254_177 rfl ?_
  refine r_iald (e := (s 78 k)) F_254_178 ty_78 k0 (lt_ln ln_78 l1) rfl ?_
  refine r_icmp (t := 208) F_254_179 rfl l2 l3 ?_ ?_
  · intro e1
    replace e1 : (s 78 k) ≤ q := e1
    refine r_iinc (m := 3) (e := (k + 1)) (L' := [some (vR 77), some (vJ u), none, some (vI (k + 1)), some (vI q)]) F_254_208 rfl rfl rfl rfl ?_
    refine r_goto (t := 148) F_254_211 rfl ?_
    exact (l4 e1)
  · intro e2
    replace e2 : q < (s 78 k) := (Int.not_le.mp e2)
    refine r_ldcJ F_254_182 o_254 kj_6_272 oj_31 ?_
    refine r_ldJ_n (m := 1) F_254_185 rfl ?_
    refine r_lmul F_254_186 rfl ?_
    refine r_ldR_n (m := 0) F_254_187 rfl ?_
    refine r_getR (J := 1) F_254_188 o_254 fl_6_13 ty_77 (by decide) rfl (kd2 kd_77_1 (by decide)) (kd9 kd_77_1 (by decide)) rf_77_1 ?_
    refine r_bipush F_254_191 bi_40 ?_
    refine r_ldI_n (m := 3) F_254_193 rfl ?_
    refine r_imul F_254_194 rfl ?_
    refine r_ldI (m := 4) F_254_195 rfl ?_
    refine r_iadd F_254_197 rfl ?_
    refine r_iald (e := (s 79 ((40 * k) + q))) F_254_198 ty_79 (l5 e2) (lt_ln ln_79 (l6 e2)) rfl ?_
    refine r_i2l F_254_199 (l7 e2) ?_
    refine r_ladd F_254_200 rfl ?_
    refine r_stJ_n (m := 1) (L' := [some (vR 77), some (vJ ((31 * u) + (s 79 ((40 * k) + q)))), none, some (vI k), some (vI q)]) F_254_201 rfl rfl ?_
    refine r_iinc (m := 4) (e := (q + 1)) (L' := [some (vR 77), some (vJ ((31 * u) + (s 79 ((40 * k) + q)))), none, some (vI k), some (vI (q + 1))]) F_254_202 rfl rfl rfl rfl ?_
    refine r_goto (t := 171) F_254_205 rfl ?_
    exact (l8 e2)
theorem t_X6_digest_238 {X : List Int32} {d : Nat} {s : m_St} {P : Option Value → m_St → Prop} {u k q : Int} (k0 : 0 ≤ k)
    (l1 : k < 4)
    (l2 : inR q)
    (l3 : inR (s 81 k))
    (l4 : (s 81 k) ≤ q → Rn X (d + 13) 254 216 [some (vR 77), some (vJ u), none, some (vI (k + 1)), some (vI q)] [] s P)
    (l5 : q < (s 81 k) → 0 ≤ ((60 * k) + q))
    (l6 : q < (s 81 k) → ((60 * k) + q) < 240)
    (l7 : q < (s 81 k) → inR (s 82 ((60 * k) + q)))
    (l8 : q < (s 81 k) → Rn X (d + 13) 254 238 [some (vR 77), some (vJ ((31 * u) + (s 82 ((60 * k) + q)))), none, some (vI k), some (vI (q + 1))] [] s P)
    : Rn X (d + 13) 254 238 [some (vR 77), some (vJ u), none, some (vI k), some (vI q)] [] s P := by
  refine r_ldI (m := 4) F_254_238 rfl ?_
  refine r_ldR_n (m := 0) F_254_240 rfl ?_
  refine r_getR (J := 3) F_254_241 o_254 fl_6_19 ty_77 (by decide) rfl (kd2 kd_77_3 (by decide)) (kd9 kd_77_3 (by decide)) rf_77_3 ?_
  refine r_ldI_n (m := 3) F_254_244 rfl ?_
  refine r_iald (e := (s 81 k)) F_254_245 ty_81 k0 (lt_ln ln_81 l1) rfl ?_
  refine r_icmp (t := 275) F_254_246 rfl l2 l3 ?_ ?_
  · intro e1
    replace e1 : (s 81 k) ≤ q := e1
    refine r_iinc (m := 3) (e := (k + 1)) (L' := [some (vR 77), some (vJ u), none, some (vI (k + 1)), some (vI q)]) F_254_275 rfl rfl rfl rfl ?_
    refine r_goto (t := 216) F_254_278 rfl ?_
    exact (l4 e1)
  · intro e2
    replace e2 : q < (s 81 k) := (Int.not_le.mp e2)
    refine r_ldcJ F_254_249 o_254 kj_6_272 oj_31 ?_
    refine r_ldJ_n (m := 1) F_254_252 rfl ?_
    refine r_lmul F_254_253 rfl ?_
    refine r_ldR_n (m := 0) F_254_254 rfl ?_
    refine r_getR (J := 4) F_254_255 o_254 fl_6_22 ty_77 (by decide) rfl (kd2 kd_77_4 (by decide)) (kd9 kd_77_4 (by decide)) rf_77_4 ?_
    refine r_bipush F_254_258 bi_60 ?_
    refine r_ldI_n (m := 3) F_254_260 rfl ?_
    refine r_imul F_254_261 rfl ?_
    refine r_ldI (m := 4) F_254_262 rfl ?_
    refine r_iadd F_254_264 rfl ?_
    refine r_iald (e := (s 82 ((60 * k) + q))) F_254_265 ty_82 (l5 e2) (lt_ln ln_82 (l6 e2)) rfl ?_
    refine r_i2l F_254_266 (l7 e2) ?_
    refine r_ladd F_254_267 rfl ?_
    refine r_stJ_n (m := 1) (L' := [some (vR 77), some (vJ ((31 * u) + (s 82 ((60 * k) + q)))), none, some (vI k), some (vI q)]) F_254_268 rfl rfl ?_
    refine r_iinc (m := 4) (e := (q + 1)) (L' := [some (vR 77), some (vJ ((31 * u) + (s 82 ((60 * k) + q)))), none, some (vI k), some (vI (q + 1))]) F_254_269 rfl rfl rfl rfl ?_
    refine r_goto (t := 238) F_254_272 rfl ?_
    exact (l8 e2)
