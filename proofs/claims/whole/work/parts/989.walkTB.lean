/-! walks: talks of the reference, one after another -/
theorem n_217 : m_n 217 = 4 := by decide +kernel
theorem F_217_0 : F 217 0 (.iload_n 1) 1 := ⟨1, by decide +kernel, rfl, rfl⟩
theorem F_217_1 : F 217 1 (.invokestatic 71) 4 := ⟨3, by decide +kernel, rfl, rfl⟩
theorem o_217 : m_o 217 = 6 := by decide +kernel
theorem F_217_4 : F 217 4 (.ifCond .ne 5) 7 := ⟨3, by decide +kernel, rfl, rfl⟩
theorem F_217_7 : F 217 7 (.iconst (-1)) 8 := ⟨1, by decide +kernel, rfl, rfl⟩
theorem F_217_8 : F 217 8 (.ireturn) 9 := ⟨1, by decide +kernel, rfl, rfl⟩
theorem rt_217 : m_r 217 = (some .int) := by decide +kernel
theorem F_217_9 : F 217 9 (.aload_n 0) 10 := ⟨1, by decide +kernel, rfl, rfl⟩
theorem F_217_10 : F 217 10 (.invokevirtual 182) 13 := ⟨3, by decide +kernel, rfl, rfl⟩
theorem F_217_13 : F 217 13 (.ifCond .ne 6) 16 := ⟨3, by decide +kernel, rfl, rfl⟩
theorem F_217_16 : F 217 16 (.bipush (-4)) 18 := ⟨2, by decide +kernel, rfl, rfl⟩
theorem F_217_18 : F 217 18 (.ireturn) 19 := ⟨1, by decide +kernel, rfl, rfl⟩
theorem F_217_19 : F 217 19 (.aload_n 0) 20 := ⟨1, by decide +kernel, rfl, rfl⟩
theorem F_217_20 : F 217 20 (.getfield 7) 23 := ⟨3, by decide +kernel, rfl, rfl⟩
theorem F_217_23 : F 217 23 (.iload_n 1) 24 := ⟨1, by decide +kernel, rfl, rfl⟩
theorem F_217_24 : F 217 24 (.iaload) 25 := ⟨1, by decide +kernel, rfl, rfl⟩
theorem F_217_25 : F 217 25 (.ifCond .ge 9) 28 := ⟨3, by decide +kernel, rfl, rfl⟩
theorem F_217_34 : F 217 34 (.aload_n 0) 35 := ⟨1, by decide +kernel, rfl, rfl⟩
theorem F_217_35 : F 217 35 (.iload_n 1) 36 := ⟨1, by decide +kernel, rfl, rfl⟩
theorem F_217_36 : F 217 36 (.invokevirtual 207) 39 := ⟨3, by decide +kernel, rfl, rfl⟩
theorem il_6_207 : ilq 6 207 0 218 1 = true := by decide +kernel
theorem vy_218 : (m_cls 6).1 = (m_y 218).cls ∧ 6 < m_cl.length := by decide +kernel
theorem F_217_39 : F 217 39 (.ifCond .ne 9) 42 := ⟨3, by decide +kernel, rfl, rfl⟩
theorem F_217_48 : F 217 48 (.aload_n 0) 49 := ⟨1, by decide +kernel, rfl, rfl⟩
theorem F_217_49 : F 217 49 (.invokevirtual 210) 52 := ⟨3, by decide +kernel, rfl, rfl⟩
theorem il_6_210 : ilq 6 210 0 219 0 = true := by decide +kernel
theorem vy_219 : (m_cls 6).1 = (m_y 219).cls ∧ 6 < m_cl.length := by decide +kernel
theorem n_219 : m_n 219 = 1 := by decide +kernel
theorem F_219_0 : F 219 0 (.aload_n 0) 1 := ⟨1, by decide +kernel, rfl, rfl⟩
theorem F_219_1 : F 219 1 (.aload_n 0) 2 := ⟨1, by decide +kernel, rfl, rfl⟩
theorem F_219_2 : F 219 2 (.getfield 25) 5 := ⟨3, by decide +kernel, rfl, rfl⟩
theorem o_219 : m_o 219 = 6 := by decide +kernel
theorem F_219_5 : F 219 5 (.iconst 5) 6 := ⟨1, by decide +kernel, rfl, rfl⟩
theorem F_219_6 : F 219 6 (.iaload) 7 := ⟨1, by decide +kernel, rfl, rfl⟩
theorem F_219_7 : F 219 7 (.iconst 1) 8 := ⟨1, by decide +kernel, rfl, rfl⟩
theorem F_219_8 : F 219 8 (.isub) 9 := ⟨1, by decide +kernel, rfl, rfl⟩
theorem F_219_9 : F 219 9 (.aload_n 0) 10 := ⟨1, by decide +kernel, rfl, rfl⟩
theorem F_219_10 : F 219 10 (.getfield 25) 13 := ⟨3, by decide +kernel, rfl, rfl⟩
theorem F_219_13 : F 219 13 (.bipush 6) 15 := ⟨2, by decide +kernel, rfl, rfl⟩
theorem F_219_15 : F 219 15 (.iaload) 16 := ⟨1, by decide +kernel, rfl, rfl⟩
theorem F_219_16 : F 219 16 (.iconst 1) 17 := ⟨1, by decide +kernel, rfl, rfl⟩
theorem F_219_17 : F 219 17 (.isub) 18 := ⟨1, by decide +kernel, rfl, rfl⟩
theorem F_219_18 : F 219 18 (.invokevirtual 201) 21 := ⟨3, by decide +kernel, rfl, rfl⟩
theorem il_6_201 : ilq 6 201 0 220 2 = true := by decide +kernel
theorem vy_220 : (m_cls 6).1 = (m_y 220).cls ∧ 6 < m_cl.length := by decide +kernel
theorem F_219_21 : F 219 21 (.return_) 22 := ⟨1, by decide +kernel, rfl, rfl⟩
theorem rt_219 : m_r 219 = none := by decide +kernel
theorem F_217_52 : F 217 52 (.iconst 0) 53 := ⟨1, by decide +kernel, rfl, rfl⟩
theorem F_217_53 : F 217 53 (.istore_n 2) 54 := ⟨1, by decide +kernel, rfl, rfl⟩
theorem F_217_42 : F 217 42 (.aload_n 0) 43 := ⟨1, by decide +kernel, rfl, rfl⟩
theorem F_217_43 : F 217 43 (.iconst 3) 44 := ⟨1, by decide +kernel, rfl, rfl⟩
theorem F_217_44 : F 217 44 (.invokevirtual 75) 47 := ⟨3, by decide +kernel, rfl, rfl⟩
theorem F_217_47 : F 217 47 (.ireturn) 48 := ⟨1, by decide +kernel, rfl, rfl⟩
theorem F_217_28 : F 217 28 (.aload_n 0) 29 := ⟨1, by decide +kernel, rfl, rfl⟩
theorem F_217_29 : F 217 29 (.iconst 1) 30 := ⟨1, by decide +kernel, rfl, rfl⟩
theorem F_217_30 : F 217 30 (.invokevirtual 75) 33 := ⟨3, by decide +kernel, rfl, rfl⟩
theorem F_217_33 : F 217 33 (.ireturn) 34 := ⟨1, by decide +kernel, rfl, rfl⟩
theorem F_217_54 : F 217 54 (.iload_n 2) 55 := ⟨1, by decide +kernel, rfl, rfl⟩
theorem F_217_55 : F 217 55 (.aload_n 0) 56 := ⟨1, by decide +kernel, rfl, rfl⟩
theorem F_217_56 : F 217 56 (.getfield 7) 59 := ⟨3, by decide +kernel, rfl, rfl⟩
theorem F_217_59 : F 217 59 (.iload_n 1) 60 := ⟨1, by decide +kernel, rfl, rfl⟩
theorem F_217_60 : F 217 60 (.iaload) 61 := ⟨1, by decide +kernel, rfl, rfl⟩
theorem F_217_61 : F 217 61 (.if_icmp .ge 74) 64 := ⟨3, by decide +kernel, rfl, rfl⟩
theorem F_217_135 : F 217 135 (.aload_n 0) 136 := ⟨1, by decide +kernel, rfl, rfl⟩
theorem F_217_136 : F 217 136 (.iload_n 2) 137 := ⟨1, by decide +kernel, rfl, rfl⟩
theorem F_217_137 : F 217 137 (.aload_n 0) 138 := ⟨1, by decide +kernel, rfl, rfl⟩
theorem F_217_138 : F 217 138 (.iconst 0) 139 := ⟨1, by decide +kernel, rfl, rfl⟩
theorem F_217_139 : F 217 139 (.invokevirtual 220) 142 := ⟨3, by decide +kernel, rfl, rfl⟩
theorem il_6_220 : ilq 6 220 0 224 1 = true := by decide +kernel
theorem vy_224 : (m_cls 6).1 = (m_y 224).cls ∧ 6 < m_cl.length := by decide +kernel
theorem n_224 : m_n 224 = 2 := by decide +kernel
theorem F_224_0 : F 224 0 (.aload_n 0) 1 := ⟨1, by decide +kernel, rfl, rfl⟩
theorem F_224_1 : F 224 1 (.iload_n 1) 2 := ⟨1, by decide +kernel, rfl, rfl⟩
theorem F_224_2 : F 224 2 (.iconst 0) 3 := ⟨1, by decide +kernel, rfl, rfl⟩
theorem F_224_3 : F 224 3 (.invokevirtual 204) 6 := ⟨3, by decide +kernel, rfl, rfl⟩
theorem o_224 : m_o 224 = 6 := by decide +kernel
theorem F_224_6 : F 224 6 (.aload_n 0) 7 := ⟨1, by decide +kernel, rfl, rfl⟩
theorem F_224_7 : F 224 7 (.iload_n 1) 8 := ⟨1, by decide +kernel, rfl, rfl⟩
theorem F_224_8 : F 224 8 (.iconst 1) 9 := ⟨1, by decide +kernel, rfl, rfl⟩
theorem F_224_9 : F 224 9 (.invokevirtual 204) 12 := ⟨3, by decide +kernel, rfl, rfl⟩
theorem F_224_12 : F 224 12 (.iand) 13 := ⟨1, by decide +kernel, rfl, rfl⟩
theorem F_224_13 : F 224 13 (.ireturn) 14 := ⟨1, by decide +kernel, rfl, rfl⟩
theorem rt_224 : m_r 224 = (some .int) := by decide +kernel
theorem F_217_142 : F 217 142 (.invokevirtual 87) 145 := ⟨3, by decide +kernel, rfl, rfl⟩
theorem F_217_145 : F 217 145 (.ireturn) 146 := ⟨1, by decide +kernel, rfl, rfl⟩
theorem F_217_64 : F 217 64 (.aload_n 0) 65 := ⟨1, by decide +kernel, rfl, rfl⟩
theorem F_217_65 : F 217 65 (.iconst 0) 66 := ⟨1, by decide +kernel, rfl, rfl⟩
theorem F_217_66 : F 217 66 (.aload_n 0) 67 := ⟨1, by decide +kernel, rfl, rfl⟩
theorem F_217_67 : F 217 67 (.getfield 13) 70 := ⟨3, by decide +kernel, rfl, rfl⟩
theorem F_217_70 : F 217 70 (.bipush 40) 72 := ⟨2, by decide +kernel, rfl, rfl⟩
theorem F_217_72 : F 217 72 (.iload_n 1) 73 := ⟨1, by decide +kernel, rfl, rfl⟩
theorem F_217_73 : F 217 73 (.imul) 74 := ⟨1, by decide +kernel, rfl, rfl⟩
theorem F_217_74 : F 217 74 (.iload_n 2) 75 := ⟨1, by decide +kernel, rfl, rfl⟩
theorem F_217_75 : F 217 75 (.iadd) 76 := ⟨1, by decide +kernel, rfl, rfl⟩
theorem F_217_76 : F 217 76 (.iaload) 77 := ⟨1, by decide +kernel, rfl, rfl⟩
theorem F_217_77 : F 217 77 (.invokevirtual 213) 80 := ⟨3, by decide +kernel, rfl, rfl⟩
theorem il_6_213 : ilq 6 213 0 221 2 = true := by decide +kernel
theorem vy_221 : (m_cls 6).1 = (m_y 221).cls ∧ 6 < m_cl.length := by decide +kernel
theorem n_221 : m_n 221 = 3 := by decide +kernel
theorem F_221_0 : F 221 0 (.aload_n 0) 1 := ⟨1, by decide +kernel, rfl, rfl⟩
theorem F_221_1 : F 221 1 (.iload_n 1) 2 := ⟨1, by decide +kernel, rfl, rfl⟩
theorem F_221_2 : F 221 2 (.iload_n 2) 3 := ⟨1, by decide +kernel, rfl, rfl⟩
theorem F_221_3 : F 221 3 (.iconst 4) 4 := ⟨1, by decide +kernel, rfl, rfl⟩
theorem F_221_4 : F 221 4 (.idiv) 5 := ⟨1, by decide +kernel, rfl, rfl⟩
theorem F_221_5 : F 221 5 (.invokevirtual 204) 8 := ⟨3, by decide +kernel, rfl, rfl⟩
theorem o_221 : m_o 221 = 6 := by decide +kernel
theorem F_221_8 : F 221 8 (.iload_n 2) 9 := ⟨1, by decide +kernel, rfl, rfl⟩
theorem F_221_9 : F 221 9 (.iconst 4) 10 := ⟨1, by decide +kernel, rfl, rfl⟩
theorem F_221_10 : F 221 10 (.irem) 11 := ⟨1, by decide +kernel, rfl, rfl⟩
theorem F_221_11 : F 221 11 (.invokestatic 132) 14 := ⟨3, by decide +kernel, rfl, rfl⟩
theorem F_221_14 : F 221 14 (.ireturn) 15 := ⟨1, by decide +kernel, rfl, rfl⟩
theorem rt_221 : m_r 221 = (some .boolean) := by decide +kernel
theorem F_217_80 : F 217 80 (.ifCond .eq 55) 83 := ⟨3, by decide +kernel, rfl, rfl⟩
theorem F_217_83 : F 217 83 (.aload_n 0) 84 := ⟨1, by decide +kernel, rfl, rfl⟩
theorem F_217_84 : F 217 84 (.iconst 0) 85 := ⟨1, by decide +kernel, rfl, rfl⟩
theorem F_217_85 : F 217 85 (.aload_n 0) 86 := ⟨1, by decide +kernel, rfl, rfl⟩
theorem F_217_86 : F 217 86 (.getfield 13) 89 := ⟨3, by decide +kernel, rfl, rfl⟩
theorem F_217_89 : F 217 89 (.bipush 40) 91 := ⟨2, by decide +kernel, rfl, rfl⟩
theorem F_217_91 : F 217 91 (.iload_n 1) 92 := ⟨1, by decide +kernel, rfl, rfl⟩
theorem F_217_92 : F 217 92 (.imul) 93 := ⟨1, by decide +kernel, rfl, rfl⟩
theorem F_217_93 : F 217 93 (.iload_n 2) 94 := ⟨1, by decide +kernel, rfl, rfl⟩
theorem F_217_94 : F 217 94 (.iadd) 95 := ⟨1, by decide +kernel, rfl, rfl⟩
theorem F_217_95 : F 217 95 (.iaload) 96 := ⟨1, by decide +kernel, rfl, rfl⟩
theorem F_217_96 : F 217 96 (.iconst 1) 97 := ⟨1, by decide +kernel, rfl, rfl⟩
theorem F_217_97 : F 217 97 (.invokevirtual 216) 100 := ⟨3, by decide +kernel, rfl, rfl⟩
theorem il_6_216 : ilq 6 216 0 223 3 = true := by decide +kernel
theorem vy_223 : (m_cls 6).1 = (m_y 223).cls ∧ 6 < m_cl.length := by decide +kernel
theorem F_217_100 : F 217 100 (.iconst 0) 101 := ⟨1, by decide +kernel, rfl, rfl⟩
theorem F_217_101 : F 217 101 (.istore_n 3) 102 := ⟨1, by decide +kernel, rfl, rfl⟩
theorem F_217_102 : F 217 102 (.iload_n 3) 103 := ⟨1, by decide +kernel, rfl, rfl⟩
theorem F_217_103 : F 217 103 (.bipush 8) 105 := ⟨2, by decide +kernel, rfl, rfl⟩
theorem F_217_105 : F 217 105 (.if_icmp .ge 24) 108 := ⟨3, by decide +kernel, rfl, rfl⟩
theorem F_217_129 : F 217 129 (.iinc 2 1) 132 := ⟨3, by decide +kernel, rfl, rfl⟩
theorem F_217_132 : F 217 132 (.goto (-78)) 135 := ⟨3, by decide +kernel, rfl, rfl⟩
theorem F_217_108 : F 217 108 (.aload_n 0) 109 := ⟨1, by decide +kernel, rfl, rfl⟩
theorem F_217_109 : F 217 109 (.getfield 44) 112 := ⟨3, by decide +kernel, rfl, rfl⟩
theorem F_217_112 : F 217 112 (.iload_n 3) 113 := ⟨1, by decide +kernel, rfl, rfl⟩
theorem F_217_113 : F 217 113 (.aload_n 0) 114 := ⟨1, by decide +kernel, rfl, rfl⟩
theorem F_217_114 : F 217 114 (.getfield 44) 117 := ⟨3, by decide +kernel, rfl, rfl⟩
theorem F_217_117 : F 217 117 (.bipush 8) 119 := ⟨2, by decide +kernel, rfl, rfl⟩
theorem F_217_119 : F 217 119 (.iload_n 3) 120 := ⟨1, by decide +kernel, rfl, rfl⟩
theorem F_217_120 : F 217 120 (.iadd) 121 := ⟨1, by decide +kernel, rfl, rfl⟩
theorem F_217_121 : F 217 121 (.iaload) 122 := ⟨1, by decide +kernel, rfl, rfl⟩
theorem F_217_122 : F 217 122 (.iastore) 123 := ⟨1, by decide +kernel, rfl, rfl⟩
theorem F_217_123 : F 217 123 (.iinc 3 1) 126 := ⟨3, by decide +kernel, rfl, rfl⟩
theorem F_217_126 : F 217 126 (.goto (-24)) 129 := ⟨3, by decide +kernel, rfl, rfl⟩
theorem n_227 : m_n 227 = 4 := by decide +kernel
theorem F_227_0 : F 227 0 (.iload_n 2) 1 := ⟨1, by decide +kernel, rfl, rfl⟩
theorem F_227_1 : F 227 1 (.ifCond .eq 7) 4 := ⟨3, by decide +kernel, rfl, rfl⟩
theorem F_227_8 : F 227 8 (.iload_n 1) 9 := ⟨1, by decide +kernel, rfl, rfl⟩
theorem F_227_9 : F 227 9 (.iconst 1) 10 := ⟨1, by decide +kernel, rfl, rfl⟩
theorem F_227_10 : F 227 10 (.isub) 11 := ⟨1, by decide +kernel, rfl, rfl⟩
theorem F_227_11 : F 227 11 (.istore_n 3) 12 := ⟨1, by decide +kernel, rfl, rfl⟩
theorem F_227_12 : F 227 12 (.iload_n 2) 13 := ⟨1, by decide +kernel, rfl, rfl⟩
theorem F_227_13 : F 227 13 (.ifCond .eq 10) 16 := ⟨3, by decide +kernel, rfl, rfl⟩
theorem F_227_4 : F 227 4 (.iconst 0) 5 := ⟨1, by decide +kernel, rfl, rfl⟩
theorem F_227_5 : F 227 5 (.goto 6) 8 := ⟨3, by decide +kernel, rfl, rfl⟩
theorem F_227_16 : F 227 16 (.aload_n 0) 17 := ⟨1, by decide +kernel, rfl, rfl⟩
theorem F_227_17 : F 227 17 (.getfield 47) 20 := ⟨3, by decide +kernel, rfl, rfl⟩
theorem fl_6_47 : m_fl.lookup (6, 47) = some (6, 16, 4161) := by decide +kernel
theorem kd_77_16 : kd 77 16 = 92 := by decide +kernel
theorem o_227 : m_o 227 = 6 := by decide +kernel
theorem rf_77_16 : rf 77 16 = 90 := by decide +kernel
theorem F_227_20 : F 227 20 (.iconst 0) 21 := ⟨1, by decide +kernel, rfl, rfl⟩
theorem F_227_21 : F 227 21 (.iconst (-1)) 22 := ⟨1, by decide +kernel, rfl, rfl⟩
theorem F_227_22 : F 227 22 (.iastore) 23 := ⟨1, by decide +kernel, rfl, rfl⟩
theorem ln_90 : ln 90 = 6 := by decide +kernel
theorem ty_90 : ty 90 = 20 := by decide +kernel
theorem F_227_23 : F 227 23 (.iload_n 3) 24 := ⟨1, by decide +kernel, rfl, rfl⟩
theorem F_227_24 : F 227 24 (.ifCond .lt 82) 27 := ⟨3, by decide +kernel, rfl, rfl⟩
theorem F_227_106 : F 227 106 (.iload_n 1) 107 := ⟨1, by decide +kernel, rfl, rfl⟩
theorem F_227_107 : F 227 107 (.ifCond .ne 11) 110 := ⟨3, by decide +kernel, rfl, rfl⟩
theorem F_227_118 : F 227 118 (.iconst 0) 119 := ⟨1, by decide +kernel, rfl, rfl⟩
theorem F_227_119 : F 227 119 (.ireturn) 120 := ⟨1, by decide +kernel, rfl, rfl⟩
theorem rt_227 : m_r 227 = (some .boolean) := by decide +kernel
theorem F_227_110 : F 227 110 (.iload_n 2) 111 := ⟨1, by decide +kernel, rfl, rfl⟩
theorem F_227_111 : F 227 111 (.ifCond .eq 7) 114 := ⟨3, by decide +kernel, rfl, rfl⟩
theorem F_227_114 : F 227 114 (.iconst 1) 115 := ⟨1, by decide +kernel, rfl, rfl⟩
theorem F_227_115 : F 227 115 (.goto 4) 118 := ⟨3, by decide +kernel, rfl, rfl⟩
theorem F_227_27 : F 227 27 (.iload_n 1) 28 := ⟨1, by decide +kernel, rfl, rfl⟩
theorem F_227_28 : F 227 28 (.ifCond .le 78) 31 := ⟨3, by decide +kernel, rfl, rfl⟩
theorem F_227_31 : F 227 31 (.aload_n 0) 32 := ⟨1, by decide +kernel, rfl, rfl⟩
theorem F_227_32 : F 227 32 (.getfield 47) 35 := ⟨3, by decide +kernel, rfl, rfl⟩
theorem F_227_35 : F 227 35 (.iload_n 3) 36 := ⟨1, by decide +kernel, rfl, rfl⟩
theorem F_227_36 : F 227 36 (.dup2) 37 := ⟨1, by decide +kernel, rfl, rfl⟩
theorem F_227_37 : F 227 37 (.iaload) 38 := ⟨1, by decide +kernel, rfl, rfl⟩
theorem F_227_38 : F 227 38 (.iconst 1) 39 := ⟨1, by decide +kernel, rfl, rfl⟩
theorem F_227_39 : F 227 39 (.iadd) 40 := ⟨1, by decide +kernel, rfl, rfl⟩
theorem F_227_40 : F 227 40 (.iastore) 41 := ⟨1, by decide +kernel, rfl, rfl⟩
theorem F_227_41 : F 227 41 (.aload_n 0) 42 := ⟨1, by decide +kernel, rfl, rfl⟩
theorem F_227_42 : F 227 42 (.getfield 47) 45 := ⟨3, by decide +kernel, rfl, rfl⟩
theorem F_227_45 : F 227 45 (.iload_n 3) 46 := ⟨1, by decide +kernel, rfl, rfl⟩
theorem F_227_46 : F 227 46 (.iaload) 47 := ⟨1, by decide +kernel, rfl, rfl⟩
theorem F_227_47 : F 227 47 (.bipush 7) 49 := ⟨2, by decide +kernel, rfl, rfl⟩
theorem F_227_49 : F 227 49 (.if_icmp .le 9) 52 := ⟨3, by decide +kernel, rfl, rfl⟩
theorem F_227_58 : F 227 58 (.aload_n 0) 59 := ⟨1, by decide +kernel, rfl, rfl⟩
theorem F_227_59 : F 227 59 (.iload_n 3) 60 := ⟨1, by decide +kernel, rfl, rfl⟩
theorem F_227_60 : F 227 60 (.aload_n 0) 61 := ⟨1, by decide +kernel, rfl, rfl⟩
theorem F_227_61 : F 227 61 (.getfield 47) 64 := ⟨3, by decide +kernel, rfl, rfl⟩
theorem F_227_64 : F 227 64 (.iload_n 3) 65 := ⟨1, by decide +kernel, rfl, rfl⟩
theorem F_227_65 : F 227 65 (.iaload) 66 := ⟨1, by decide +kernel, rfl, rfl⟩
theorem F_227_66 : F 227 66 (.invokevirtual 213) 69 := ⟨3, by decide +kernel, rfl, rfl⟩
theorem F_227_69 : F 227 69 (.ifCond .eq (-46)) 72 := ⟨3, by decide +kernel, rfl, rfl⟩
theorem F_227_72 : F 227 72 (.aload_n 0) 73 := ⟨1, by decide +kernel, rfl, rfl⟩
theorem F_227_73 : F 227 73 (.iload_n 3) 74 := ⟨1, by decide +kernel, rfl, rfl⟩
theorem F_227_74 : F 227 74 (.aload_n 0) 75 := ⟨1, by decide +kernel, rfl, rfl⟩
theorem F_227_75 : F 227 75 (.getfield 47) 78 := ⟨3, by decide +kernel, rfl, rfl⟩
theorem F_227_78 : F 227 78 (.iload_n 3) 79 := ⟨1, by decide +kernel, rfl, rfl⟩
theorem F_227_79 : F 227 79 (.iaload) 80 := ⟨1, by decide +kernel, rfl, rfl⟩
theorem F_227_80 : F 227 80 (.iconst 1) 81 := ⟨1, by decide +kernel, rfl, rfl⟩
theorem F_227_81 : F 227 81 (.invokevirtual 216) 84 := ⟨3, by decide +kernel, rfl, rfl⟩
theorem F_227_84 : F 227 84 (.iload_n 3) 85 := ⟨1, by decide +kernel, rfl, rfl⟩
theorem F_227_85 : F 227 85 (.iload_n 1) 86 := ⟨1, by decide +kernel, rfl, rfl⟩
theorem F_227_86 : F 227 86 (.iconst 1) 87 := ⟨1, by decide +kernel, rfl, rfl⟩
theorem F_227_87 : F 227 87 (.isub) 88 := ⟨1, by decide +kernel, rfl, rfl⟩
theorem F_227_88 : F 227 88 (.if_icmp .ne 5) 91 := ⟨3, by decide +kernel, rfl, rfl⟩
theorem F_227_93 : F 227 93 (.iinc 3 1) 96 := ⟨3, by decide +kernel, rfl, rfl⟩
theorem F_227_96 : F 227 96 (.aload_n 0) 97 := ⟨1, by decide +kernel, rfl, rfl⟩
theorem F_227_97 : F 227 97 (.getfield 47) 100 := ⟨3, by decide +kernel, rfl, rfl⟩
theorem F_227_100 : F 227 100 (.iload_n 3) 101 := ⟨1, by decide +kernel, rfl, rfl⟩
theorem F_227_101 : F 227 101 (.iconst (-1)) 102 := ⟨1, by decide +kernel, rfl, rfl⟩
theorem F_227_102 : F 227 102 (.iastore) 103 := ⟨1, by decide +kernel, rfl, rfl⟩
theorem F_227_103 : F 227 103 (.goto (-80)) 106 := ⟨3, by decide +kernel, rfl, rfl⟩
theorem F_227_91 : F 227 91 (.iconst 1) 92 := ⟨1, by decide +kernel, rfl, rfl⟩
theorem F_227_92 : F 227 92 (.ireturn) 93 := ⟨1, by decide +kernel, rfl, rfl⟩
theorem F_227_52 : F 227 52 (.iinc 3 (-1)) 55 := ⟨3, by decide +kernel, rfl, rfl⟩
theorem F_227_55 : F 227 55 (.goto (-32)) 58 := ⟨3, by decide +kernel, rfl, rfl⟩
theorem t_X6_talk {X : List Int32} {d : Nat} {s : m_St} {P : Option Value → m_St → Prop} {r : Int}
    (l1 : inR r)
    (l2 : r < 0 → P (some (vI (-1))) s)
    (l3 : 0 ≤ r → 5 < r → P (some (vI (-1))) s)
    (l4 : 0 ≤ r → r ≤ 5 → inR (s 83 5))
    (l5 : 0 ≤ r → r ≤ 5 → (s 83 5) ≤ 0 → P (some (vI (-4))) s)
    (l6 : 0 ≤ r → r ≤ 5 → 0 < (s 83 5) → r < 6)
    (l7 : 0 ≤ r → r ≤ 5 → 0 < (s 83 5) → inR (s 78 r))
    (l8 : 0 ≤ r → r ≤ 5 → 0 < (s 83 5) → 0 ≤ (s 78 r) → rwM s r)
    (l9 : 0 ≤ r → r ≤ 5 → 0 < (s 83 5) → 0 ≤ (s 78 r) → ¬ (asv s r) = 0 → 0 ≤ ((s 83 5) - 1))
    (l10 : 0 ≤ r → r ≤ 5 → 0 < (s 83 5) → 0 ≤ (s 78 r) → ¬ (asv s r) = 0 → ((s 83 5) - 1) < 6)
    (l11 : 0 ≤ r → r ≤ 5 → 0 < (s 83 5) → 0 ≤ (s 78 r) → ¬ (asv s r) = 0 → 0 ≤ ((s 83 6) - 1))
    (l12 : 0 ≤ r → r ≤ 5 → 0 < (s 83 5) → 0 ≤ (s 78 r) → ¬ (asv s r) = 0 → ((s 83 6) - 1) < 6)
    (l13 : 0 ≤ r → r ≤ 5 → 0 < (s 83 5) → 0 ≤ (s 78 r) → ¬ (asv s r) = 0 → ∀ (s9 : m_St), qOp s ((s 83 5) - 1) ((s 83 6) - 1) s9 → Rn X (d + 4) 217 54 [some (vR 77), some (vI r), some (vI 0), none] [] s9 P)
    (l14 : 0 ≤ r → r ≤ 5 → 0 < (s 83 5) → 0 ≤ (s 78 r) → (asv s r) = 0 → P (some (vI (-3))) (m_upd (m_upd s 77 10 3) 87 3 ((s 87 3) + 1)))
    (l15 : 0 ≤ r → r ≤ 5 → 0 < (s 83 5) → (s 78 r) < 0 → P (some (vI (-3))) (m_upd (m_upd s 77 10 1) 87 1 ((s 87 1) + 1)))
    : Cl X (d + 4) 217 [vR 77, vI r] s P := by
  refine Cl_of n_217 rfl ?_
  show Rn _ _ _ _ [some (vR 77), some (vI r), none, none] [] _ _
  refine r_ldI_n (m := 1) F_217_0 rfl ?_
  refine r_stat2 (A := [vI r]) (r := []) (n := 1) F_217_1 o_217 il_6_71 (by decide) rfl rfl rfl rfl (lay_le n_159 rfl) ?_
  refine Cl_of n_159 rfl ?_
  show Rn _ _ _ _ [some (vI r)] [] _ _
  refine r_ldI_n (m := 0) F_159_0 rfl ?_
  refine r_iconst F_159_1 ?_
  refine r_iconst F_159_2 ?_
  refine r_stat2 (A := [vI r, vI 0, vI 5]) (r := []) (n := 3) F_159_3 o_159 il_6_67 (by decide) rfl rfl rfl rfl (lay_le n_160 rfl) ?_
  refine Cl_of n_160 rfl ?_
  show Rn _ _ _ _ [some (vI r), some (vI 0), some (vI 5)] [] _ _
  refine r_ldI_n (m := 0) F_160_0 rfl ?_
  refine r_ldI_n (m := 1) F_160_1 rfl ?_
  refine r_icmp (t := 14) F_160_2 rfl l1 (by decide) ?_ ?_
  · intro e1
    replace e1 : r < 0 := e1
    refine r_iconst F_160_14 ?_
    refine r_zreturn F_160_15 rt_160 (Or.inl rfl) ?_
    show Rn _ _ _ _ _ [vI 0] _ _
    refine r_zreturn F_159_6 rt_159 (Or.inl rfl) ?_
    show Rn _ _ _ _ _ [vI 0] _ _
    refine r_ifF (t := 9) F_217_4 rfl (by decide) (by show ¬ (¬ (0 : Int) = 0); decide) ?_
    refine r_iconst F_217_7 ?_
    refine r_ireturn F_217_8 rt_217 ?_
    exact (l2 e1)
  · intro e2
    replace e2 : 0 ≤ r := (Int.not_lt.mp e2)
    refine r_ldI_n (m := 0) F_160_5 rfl ?_
    refine r_ldI_n (m := 2) F_160_6 rfl ?_
    refine r_icmp (t := 14) F_160_7 rfl l1 (by decide) ?_ ?_
    · intro e3
      replace e3 : 5 < r := e3
      refine r_iconst F_160_14 ?_
      refine r_zreturn F_160_15 rt_160 (Or.inl rfl) ?_
      show Rn _ _ _ _ _ [vI 0] _ _
      refine r_zreturn F_159_6 rt_159 (Or.inl rfl) ?_
      show Rn _ _ _ _ _ [vI 0] _ _
      refine r_ifF (t := 9) F_217_4 rfl (by decide) (by show ¬ (¬ (0 : Int) = 0); decide) ?_
      refine r_iconst F_217_7 ?_
      refine r_ireturn F_217_8 rt_217 ?_
      exact (l3 e2 e3)
    · intro e4
      replace e4 : r ≤ 5 := (Int.not_lt.mp e4)
      refine r_iconst F_160_10 ?_
      refine r_goto (t := 15) F_160_11 rfl ?_
      refine r_zreturn F_160_15 rt_160 (Or.inr rfl) ?_
      show Rn _ _ _ _ _ [vI 1] _ _
      refine r_zreturn F_159_6 rt_159 (Or.inr rfl) ?_
      show Rn _ _ _ _ _ [vI 1] _ _
      refine r_ifT (t := 9) F_217_4 rfl (by decide) (by show ¬ (1 : Int) = 0; decide) ?_
      refine r_ldR_n (m := 0) F_217_9 rfl ?_
      refine r_virt2 (A := []) (r := []) (n := 0) F_217_10 o_217 il_6_182 rfl rfl rfl rfl ty_77 vy_204 (lay_le n_204 rfl) ?_
      refine Cl_of n_204 rfl ?_
      show Rn _ _ _ _ [some (vR 77)] [] _ _
      refine r_ldR_n (m := 0) F_204_0 rfl ?_
      refine r_getR (J := 5) F_204_1 o_204 fl_6_25 ty_77 (by decide) rfl (kd2 kd_77_5 (by decide)) (kd9 kd_77_5 (by decide)) rf_77_5 ?_
      refine r_iconst F_204_4 ?_
      refine r_iald (e := (s 83 5)) F_204_5 ty_83 (by decide) (lt_ln ln_83 (by decide)) rfl ?_
      refine r_if (t := 13) F_204_6 rfl (l4 e2 e4) ?_ ?_
      · intro e5
        replace e5 : (s 83 5) ≤ 0 := e5
        refine r_iconst F_204_13 ?_
        refine r_zreturn F_204_14 rt_204 (Or.inl rfl) ?_
        show Rn _ _ _ _ _ [vI 0] _ _
        refine r_ifF (t := 19) F_217_13 rfl (by decide) (by show ¬ (¬ (0 : Int) = 0); decide) ?_
        refine r_bipush F_217_16 bi__4 ?_
        refine r_ireturn F_217_18 rt_217 ?_
        exact (l5 e2 e4 e5)
      · intro e6
        replace e6 : 0 < (s 83 5) := (Int.not_le.mp e6)
        refine r_iconst F_204_9 ?_
        refine r_goto (t := 14) F_204_10 rfl ?_
        refine r_zreturn F_204_14 rt_204 (Or.inr rfl) ?_
        show Rn _ _ _ _ _ [vI 1] _ _
        refine r_ifT (t := 19) F_217_13 rfl (by decide) (by show ¬ (1 : Int) = 0; decide) ?_
        refine r_ldR_n (m := 0) F_217_19 rfl ?_
        refine r_getR (J := 0) F_217_20 o_217 fl_6_7 ty_77 (by decide) rfl (kd2 kd_77_0 (by decide)) (kd9 kd_77_0 (by decide)) rf_77_0 ?_
        refine r_ldI_n (m := 1) F_217_23 rfl ?_
        refine r_iald (e := (s 78 r)) F_217_24 ty_78 e2 (lt_ln ln_78 (l6 e2 e4 e6)) rfl ?_
        refine r_if (t := 34) F_217_25 rfl (l7 e2 e4 e6) ?_ ?_
        · intro e7
          replace e7 : 0 ≤ (s 78 r) := e7
          refine r_ldR_n (m := 0) F_217_34 rfl ?_
          refine r_ldI_n (m := 1) F_217_35 rfl ?_
          refine r_virt2 (A := [vI r]) (r := []) (n := 1) F_217_36 o_217 il_6_207 rfl rfl rfl rfl ty_77 vy_218 (lay_le n_218 rfl) ?_
          refine sp_areSayingsV e2 (l6 e2 e4 e6) (l8 e2 e4 e6 e7) ?_
          show Rn _ _ _ _ _ [vI (asv s r)] _ _
          refine r_if (t := 48) F_217_39 rfl (inR_asv _ _) ?_ ?_
          · intro e8
            replace e8 : ¬ (asv s r) = 0 := e8
            refine r_ldR_n (m := 0) F_217_48 rfl ?_
            refine r_virt2 (A := []) (r := []) (n := 0) F_217_49 o_217 il_6_210 rfl rfl rfl rfl ty_77 vy_219 (lay_le n_219 rfl) ?_
            refine Cl_of n_219 rfl ?_
            show Rn _ _ _ _ [some (vR 77)] [] _ _
            refine r_ldR_n (m := 0) F_219_0 rfl ?_
            refine r_ldR_n (m := 0) F_219_1 rfl ?_
            refine r_getR (J := 5) F_219_2 o_219 fl_6_25 ty_77 (by decide) rfl (kd2 kd_77_5 (by decide)) (kd9 kd_77_5 (by decide)) rf_77_5 ?_
            refine r_iconst F_219_5 ?_
            refine r_iald (e := (s 83 5)) F_219_6 ty_83 (by decide) (lt_ln ln_83 (by decide)) rfl ?_
            refine r_iconst F_219_7 ?_
            refine r_isub F_219_8 rfl ?_
            refine r_ldR_n (m := 0) F_219_9 rfl ?_
            refine r_getR (J := 5) F_219_10 o_219 fl_6_25 ty_77 (by decide) rfl (kd2 kd_77_5 (by decide)) (kd9 kd_77_5 (by decide)) rf_77_5 ?_
            refine r_bipush F_219_13 bi_6 ?_
            refine r_iald (e := (s 83 6)) F_219_15 ty_83 (by decide) (lt_ln ln_83 (by decide)) rfl ?_
            refine r_iconst F_219_16 ?_
            refine r_isub F_219_17 rfl ?_
            refine r_virt2 (A := [vI ((s 83 5) - 1), vI ((s 83 6) - 1)]) (r := []) (n := 2) F_219_18 o_219 il_6_201 rfl rfl rfl rfl ty_77 vy_220 (lay_le n_220 rfl) ?_
            refine sp_opens (l9 e2 e4 e6 e7 e8) (l10 e2 e4 e6 e7 e8) (l11 e2 e4 e6 e7 e8) (l12 e2 e4 e6 e7 e8) ?_
            intro s9 q9
            show Rn _ _ _ _ _ [] _ _
            refine r_return F_219_21 rt_219 ?_
            show Rn _ _ _ _ _ [] _ _
            refine r_iconst F_217_52 ?_
            refine r_stI_n (m := 2) (L' := [some (vR 77), some (vI r), some (vI 0), none]) F_217_53 rfl rfl ?_
            exact (l13 e2 e4 e6 e7 e8 s9 q9)
          · intro e10
            replace e10 : (asv s r) = 0 := (Classical.not_not.mp e10)
            refine r_ldR_n (m := 0) F_217_42 rfl ?_
            refine r_iconst F_217_43 ?_
            refine r_virt2 (A := [vI 3]) (r := []) (n := 1) F_217_44 o_217 il_6_75 rfl rfl rfl rfl ty_77 vy_161 (lay_le n_161 rfl) ?_
            refine Cl_of n_161 rfl ?_
            show Rn _ _ _ _ [some (vR 77), some (vI 3)] [] _ _
            refine r_ldR_n (m := 0) F_161_0 rfl ?_
            refine r_ldI_n (m := 1) F_161_1 rfl ?_
            refine r_putI (J := 10) F_161_2 o_161 fl_6_57 ty_77 (by decide) rfl kd_77_10 pf_6_10 ?_
            refine r_ldR_n (m := 0) F_161_5 rfl ?_
            refine r_getR (J := 9) F_161_6 o_161 fl_6_38 ty_77 (by decide) rfl (kd2 kd_77_9 (by decide)) (kd9 kd_77_9 (by decide)) rf_77_9 ?_
            refine r_ldI_n (m := 1) F_161_9 rfl ?_
            refine r_dup2 F_161_10 ?_
            refine r_iald (e := (s 87 3)) F_161_11 ty_87 (by decide) (lt_ln ln_87 (by decide)) (upd_nc (by decide)) ?_
            refine r_iconst F_161_12 ?_
            refine r_iadd F_161_13 rfl ?_
            refine r_iast F_161_14 ty_87 (by decide) (lt_ln ln_87 (by decide)) ?_
            refine r_bipush F_161_15 bi__3 ?_
            refine r_ireturn F_161_17 rt_161 ?_
            show Rn _ _ _ _ _ [vI (-3)] _ _
            refine r_ireturn F_217_47 rt_217 ?_
            exact (l14 e2 e4 e6 e7 e10)
        · intro e11
          replace e11 : (s 78 r) < 0 := (Int.not_le.mp e11)
          refine r_ldR_n (m := 0) F_217_28 rfl ?_
          refine r_iconst F_217_29 ?_
          refine r_virt2 (A := [vI 1]) (r := []) (n := 1) F_217_30 o_217 il_6_75 rfl rfl rfl rfl ty_77 vy_161 (lay_le n_161 rfl) ?_
          refine Cl_of n_161 rfl ?_
          show Rn _ _ _ _ [some (vR 77), some (vI 1)] [] _ _
          refine r_ldR_n (m := 0) F_161_0 rfl ?_
          refine r_ldI_n (m := 1) F_161_1 rfl ?_
          refine r_putI (J := 10) F_161_2 o_161 fl_6_57 ty_77 (by decide) rfl kd_77_10 pf_6_10 ?_
          refine r_ldR_n (m := 0) F_161_5 rfl ?_
          refine r_getR (J := 9) F_161_6 o_161 fl_6_38 ty_77 (by decide) rfl (kd2 kd_77_9 (by decide)) (kd9 kd_77_9 (by decide)) rf_77_9 ?_
          refine r_ldI_n (m := 1) F_161_9 rfl ?_
          refine r_dup2 F_161_10 ?_
          refine r_iald (e := (s 87 1)) F_161_11 ty_87 (by decide) (lt_ln ln_87 (by decide)) (upd_nc (by decide)) ?_
          refine r_iconst F_161_12 ?_
          refine r_iadd F_161_13 rfl ?_
          refine r_iast F_161_14 ty_87 (by decide) (lt_ln ln_87 (by decide)) ?_
          refine r_bipush F_161_15 bi__3 ?_
          refine r_ireturn F_161_17 rt_161 ?_
          show Rn _ _ _ _ _ [vI (-3)] _ _
          refine r_ireturn F_217_33 rt_217 ?_
          exact (l15 e2 e4 e6 e11)
theorem t_X6_talk_54 {X : List Int32} {d : Nat} {s : m_St} {P : Option Value → m_St → Prop} {r n : Int} {z3 : Option Value} (h0 : 0 ≤ r) (h6 : r < 6) (n0 : 0 ≤ n)
    (l1 : inR n)
    (l2 : inR (s 78 r))
    (l3 : (s 78 r) ≤ n → opS s)
    (l4 : (s 78 r) ≤ n → (0 : Int) ≤ 6)
    (l5 : (s 78 r) ≤ n → w8 (wt s 0))
    (l6 : (s 78 r) ≤ n → P (some (vI n)) (m_upd s 77 11 (iAnd (hW s 0 0) (hW s 0 1))))
    (l7 : n < (s 78 r) → 0 ≤ ((40 * r) + n))
    (l8 : n < (s 78 r) → ((40 * r) + n) < 240)
    (l9 : n < (s 78 r) → 0 ≤ (s 79 ((40 * r) + n)))
    (l10 : n < (s 78 r) → inR (s 79 ((40 * r) + n)))
    (l11 : n < (s 78 r) → opS s)
    (l12 : n < (s 78 r) → (0 : Int) ≤ 6)
    (l13 : n < (s 78 r) → w8 (wt s 0))
    (l14 : n < (s 78 r) → 0 ≤ ((s 79 ((40 * r) + n)) / 4))
    (l15 : n < (s 78 r) → ((s 79 ((40 * r) + n)) / 4) < 2)
    (l16 : n < (s 78 r) → ¬ (iAnd (iShr (hW s 0 ((s 79 ((40 * r) + n)) / 4)) ((s 79 ((40 * r) + n)) % 4)) 1) = 1 → P (some (vI n)) (m_upd s 77 11 (iAnd (hW s 0 0) (hW s 0 1))))
    (l17 : n < (s 78 r) → (iAnd (iShr (hW s 0 ((s 79 ((40 * r) + n)) / 4)) ((s 79 ((40 * r) + n)) % 4)) 1) = 1 → (0 : Int) ≤ 0)
    (l18 : n < (s 78 r) → (iAnd (iShr (hW s 0 ((s 79 ((40 * r) + n)) / 4)) ((s 79 ((40 * r) + n)) % 4)) 1) = 1 → (0 : Int) ≤ 5)
    (l19 : n < (s 78 r) → (iAnd (iShr (hW s 0 ((s 79 ((40 * r) + n)) / 4)) ((s 79 ((40 * r) + n)) % 4)) 1) = 1 → (0 : Int) ≤ (s 79 ((40 * r) + n)))
    (l20 : n < (s 78 r) → (iAnd (iShr (hW s 0 ((s 79 ((40 * r) + n)) / 4)) ((s 79 ((40 * r) + n)) % 4)) 1) = 1 → ((s 79 ((40 * r) + n)) : Int) < 8)
    (l21 : n < (s 78 r) → (iAnd (iShr (hW s 0 ((s 79 ((40 * r) + n)) / 4)) ((s 79 ((40 * r) + n)) % 4)) 1) = 1 → ∀ (s5 : m_St), qGo s 0 (uW s 0 (s 79 ((40 * r) + n))) s5 → Rn X (d + 4) 217 102 [some (vR 77), some (vI r), some (vI n), some (vI 0)] [] s5 P)
    : Rn X (d + 4) 217 54 [some (vR 77), some (vI r), some (vI n), z3] [] s P := by
  refine r_ldI_n (m := 2) F_217_54 rfl ?_
  refine r_ldR_n (m := 0) F_217_55 rfl ?_
  refine r_getR (J := 0) F_217_56 o_217 fl_6_7 ty_77 (by decide) rfl (kd2 kd_77_0 (by decide)) (kd9 kd_77_0 (by decide)) rf_77_0 ?_
  refine r_ldI_n (m := 1) F_217_59 rfl ?_
  refine r_iald (e := (s 78 r)) F_217_60 ty_78 h0 (lt_ln ln_78 h6) rfl ?_
  refine r_icmp (t := 135) F_217_61 rfl l1 l2 ?_ ?_
  · intro e1
    replace e1 : (s 78 r) ≤ n := e1
    refine r_ldR_n (m := 0) F_217_135 rfl ?_
    refine r_ldI_n (m := 2) F_217_136 rfl ?_
    refine r_ldR_n (m := 0) F_217_137 rfl ?_
    refine r_iconst F_217_138 ?_
    refine r_virt2 (A := [vI 0]) (r := [vI n, vR 77]) (n := 1) F_217_139 o_217 il_6_220 rfl rfl rfl rfl ty_77 vy_224 (lay_le n_224 rfl) ?_
    refine Cl_of n_224 rfl ?_
    show Rn _ _ _ _ [some (vR 77), some (vI 0)] [] _ _
    refine r_ldR_n (m := 0) F_224_0 rfl ?_
    refine r_ldI_n (m := 1) F_224_1 rfl ?_
    refine r_iconst F_224_2 ?_
    refine r_virt2 (A := [vI 0, vI 0]) (r := []) (n := 2) F_224_3 o_224 il_6_204 rfl rfl rfl rfl ty_77 vy_222 (lay_le n_222 rfl) ?_
    refine sp_heldAtS (l3 e1) (by decide) (l4 e1) (l5 e1) (by decide) (by decide) ?_
    show Rn _ _ _ _ _ [vI (hW s 0 0)] _ _
    refine r_ldR_n (m := 0) F_224_6 rfl ?_
    refine r_ldI_n (m := 1) F_224_7 rfl ?_
    refine r_iconst F_224_8 ?_
    refine r_virt2 (A := [vI 0, vI 1]) (r := [vI (hW s 0 0)]) (n := 2) F_224_9 o_224 il_6_204 rfl rfl rfl rfl ty_77 vy_222 (lay_le n_222 rfl) ?_
    refine sp_heldAtS (l3 e1) (by decide) (l4 e1) (l5 e1) (by decide) (by decide) ?_
    show Rn _ _ _ _ _ [vI (hW s 0 1), vI (hW s 0 0)] _ _
    refine r_iand F_224_12 rfl ?_
    refine r_ireturn F_224_13 rt_224 ?_
    show Rn _ _ _ _ _ [vI (iAnd (hW s 0 0) (hW s 0 1)), vI n, vR 77] _ _
    refine r_virt2 (A := [vI n, vI (iAnd (hW s 0 0) (hW s 0 1))]) (r := []) (n := 2) F_217_142 o_217 il_6_87 rfl rfl rfl rfl ty_77 vy_165 (lay_le n_165 rfl) ?_
    refine Cl_of n_165 rfl ?_
    show Rn _ _ _ _ [some (vR 77), some (vI n), some (vI (iAnd (hW s 0 0) (hW s 0 1)))] [] _ _
    refine r_ldR_n (m := 0) F_165_0 rfl ?_
    refine r_ldI_n (m := 2) F_165_1 rfl ?_
    refine r_putI (J := 11) F_165_2 o_165 fl_6_61 ty_77 (by decide) rfl kd_77_11 pf_6_11 ?_
    refine r_ldI_n (m := 1) F_165_5 rfl ?_
    refine r_ireturn F_165_6 rt_165 ?_
    show Rn _ _ _ _ _ [vI n] _ _
    refine r_ireturn F_217_145 rt_217 ?_
    exact (l6 e1)
  · intro e2
    replace e2 : n < (s 78 r) := (Int.not_le.mp e2)
    refine r_ldR_n (m := 0) F_217_64 rfl ?_
    refine r_iconst F_217_65 ?_
    refine r_ldR_n (m := 0) F_217_66 rfl ?_
    refine r_getR (J := 1) F_217_67 o_217 fl_6_13 ty_77 (by decide) rfl (kd2 kd_77_1 (by decide)) (kd9 kd_77_1 (by decide)) rf_77_1 ?_
    refine r_bipush F_217_70 bi_40 ?_
    refine r_ldI_n (m := 1) F_217_72 rfl ?_
    refine r_imul F_217_73 rfl ?_
    refine r_ldI_n (m := 2) F_217_74 rfl ?_
    refine r_iadd F_217_75 rfl ?_
    refine r_iald (e := (s 79 ((40 * r) + n))) F_217_76 ty_79 (l7 e2) (lt_ln ln_79 (l8 e2)) rfl ?_
    refine r_virt2 (A := [vI 0, vI (s 79 ((40 * r) + n))]) (r := []) (n := 2) F_217_77 o_217 il_6_213 rfl rfl rfl rfl ty_77 vy_221 (lay_le n_221 rfl) ?_
    refine Cl_of n_221 rfl ?_
    show Rn _ _ _ _ [some (vR 77), some (vI 0), some (vI (s 79 ((40 * r) + n)))] [] _ _
    refine r_ldR_n (m := 0) F_221_0 rfl ?_
    refine r_ldI_n (m := 1) F_221_1 rfl ?_
    refine r_ldI_n (m := 2) F_221_2 rfl ?_
    refine r_iconst F_221_3 ?_
    refine r_idiv F_221_4 (l10 e2) (l9 e2) (by decide) (by decide) ?_
    refine r_virt2 (A := [vI 0, vI ((s 79 ((40 * r) + n)) / 4)]) (r := []) (n := 2) F_221_5 o_221 il_6_204 rfl rfl rfl rfl ty_77 vy_222 (lay_le n_222 rfl) ?_
    refine sp_heldAtS (l11 e2) (by decide) (l12 e2) (l13 e2) (l14 e2) (l15 e2) ?_
    show Rn _ _ _ _ _ [vI (hW s 0 ((s 79 ((40 * r) + n)) / 4))] _ _
    refine r_ldI_n (m := 2) F_221_8 rfl ?_
    refine r_iconst F_221_9 ?_
    refine r_irem F_221_10 (l10 e2) (l9 e2) (by decide) (by decide) ?_
    refine r_stat2 (A := [vI (hW s 0 ((s 79 ((40 * r) + n)) / 4)), vI ((s 79 ((40 * r) + n)) % 4)]) (r := []) (n := 2) F_221_11 o_221 il_6_132 (by decide) rfl rfl rfl rfl (lay_le n_194 rfl) ?_
    refine Cl_of n_194 rfl ?_
    show Rn _ _ _ _ [some (vI (hW s 0 ((s 79 ((40 * r) + n)) / 4))), some (vI ((s 79 ((40 * r) + n)) % 4))] [] _ _
    refine r_ldI_n (m := 0) F_194_0 rfl ?_
    refine r_ldI_n (m := 1) F_194_1 rfl ?_
    refine r_ishr F_194_2 rfl ?_
    refine r_iconst F_194_3 ?_
    refine r_iand F_194_4 rfl ?_
    refine r_iconst F_194_5 ?_
    refine r_icmp (t := 13) F_194_6 rfl (inR_iAnd _ _) (by decide) ?_ ?_
    · intro e3
      replace e3 : ¬ (iAnd (iShr (hW s 0 ((s 79 ((40 * r) + n)) / 4)) ((s 79 ((40 * r) + n)) % 4)) 1) = 1 := e3
      refine r_iconst F_194_13 ?_
      refine r_zreturn F_194_14 rt_194 (Or.inl rfl) ?_
      show Rn _ _ _ _ _ [vI 0] _ _
      refine r_zreturn F_221_14 rt_221 (Or.inl rfl) ?_
      show Rn _ _ _ _ _ [vI 0] _ _
      refine r_ifT (t := 135) F_217_80 rfl (by decide) (by show (0 : Int) = 0; decide) ?_
      refine r_ldR_n (m := 0) F_217_135 rfl ?_
      refine r_ldI_n (m := 2) F_217_136 rfl ?_
      refine r_ldR_n (m := 0) F_217_137 rfl ?_
      refine r_iconst F_217_138 ?_
      refine r_virt2 (A := [vI 0]) (r := [vI n, vR 77]) (n := 1) F_217_139 o_217 il_6_220 rfl rfl rfl rfl ty_77 vy_224 (lay_le n_224 rfl) ?_
      refine Cl_of n_224 rfl ?_
      show Rn _ _ _ _ [some (vR 77), some (vI 0)] [] _ _
      refine r_ldR_n (m := 0) F_224_0 rfl ?_
      refine r_ldI_n (m := 1) F_224_1 rfl ?_
      refine r_iconst F_224_2 ?_
      refine r_virt2 (A := [vI 0, vI 0]) (r := []) (n := 2) F_224_3 o_224 il_6_204 rfl rfl rfl rfl ty_77 vy_222 (lay_le n_222 rfl) ?_
      refine sp_heldAtS (l11 e2) (by decide) (l12 e2) (l13 e2) (by decide) (by decide) ?_
      show Rn _ _ _ _ _ [vI (hW s 0 0)] _ _
      refine r_ldR_n (m := 0) F_224_6 rfl ?_
      refine r_ldI_n (m := 1) F_224_7 rfl ?_
      refine r_iconst F_224_8 ?_
      refine r_virt2 (A := [vI 0, vI 1]) (r := [vI (hW s 0 0)]) (n := 2) F_224_9 o_224 il_6_204 rfl rfl rfl rfl ty_77 vy_222 (lay_le n_222 rfl) ?_
      refine sp_heldAtS (l11 e2) (by decide) (l12 e2) (l13 e2) (by decide) (by decide) ?_
      show Rn _ _ _ _ _ [vI (hW s 0 1), vI (hW s 0 0)] _ _
      refine r_iand F_224_12 rfl ?_
      refine r_ireturn F_224_13 rt_224 ?_
      show Rn _ _ _ _ _ [vI (iAnd (hW s 0 0) (hW s 0 1)), vI n, vR 77] _ _
      refine r_virt2 (A := [vI n, vI (iAnd (hW s 0 0) (hW s 0 1))]) (r := []) (n := 2) F_217_142 o_217 il_6_87 rfl rfl rfl rfl ty_77 vy_165 (lay_le n_165 rfl) ?_
      refine Cl_of n_165 rfl ?_
      show Rn _ _ _ _ [some (vR 77), some (vI n), some (vI (iAnd (hW s 0 0) (hW s 0 1)))] [] _ _
      refine r_ldR_n (m := 0) F_165_0 rfl ?_
      refine r_ldI_n (m := 2) F_165_1 rfl ?_
      refine r_putI (J := 11) F_165_2 o_165 fl_6_61 ty_77 (by decide) rfl kd_77_11 pf_6_11 ?_
      refine r_ldI_n (m := 1) F_165_5 rfl ?_
      refine r_ireturn F_165_6 rt_165 ?_
      show Rn _ _ _ _ _ [vI n] _ _
      refine r_ireturn F_217_145 rt_217 ?_
      exact (l16 e2 e3)
    · intro e4
      replace e4 : (iAnd (iShr (hW s 0 ((s 79 ((40 * r) + n)) / 4)) ((s 79 ((40 * r) + n)) % 4)) 1) = 1 := (Classical.not_not.mp e4)
      refine r_iconst F_194_9 ?_
      refine r_goto (t := 14) F_194_10 rfl ?_
      refine r_zreturn F_194_14 rt_194 (Or.inr rfl) ?_
      show Rn _ _ _ _ _ [vI 1] _ _
      refine r_zreturn F_221_14 rt_221 (Or.inr rfl) ?_
      show Rn _ _ _ _ _ [vI 1] _ _
      refine r_ifF (t := 135) F_217_80 rfl (by decide) (by show ¬ ((1 : Int) = 0); decide) ?_
      refine r_ldR_n (m := 0) F_217_83 rfl ?_
      refine r_iconst F_217_84 ?_
      refine r_ldR_n (m := 0) F_217_85 rfl ?_
      refine r_getR (J := 1) F_217_86 o_217 fl_6_13 ty_77 (by decide) rfl (kd2 kd_77_1 (by decide)) (kd9 kd_77_1 (by decide)) rf_77_1 ?_
      refine r_bipush F_217_89 bi_40 ?_
      refine r_ldI_n (m := 1) F_217_91 rfl ?_
      refine r_imul F_217_92 rfl ?_
      refine r_ldI_n (m := 2) F_217_93 rfl ?_
      refine r_iadd F_217_94 rfl ?_
      refine r_iald (e := (s 79 ((40 * r) + n))) F_217_95 ty_79 (l7 e2) (lt_ln ln_79 (l8 e2)) rfl ?_
      refine r_iconst F_217_96 ?_
      refine r_virt2 (A := [vI 0, vI (s 79 ((40 * r) + n)), vI 1]) (r := []) (n := 3) F_217_97 o_217 il_6_216 rfl rfl rfl rfl ty_77 vy_223 (lay_le n_223 rfl) ?_
      refine sp_goesT (l11 e2) (l17 e2 e4) (l18 e2 e4) (l19 e2 e4) (l20 e2 e4) (l13 e2) ?_
      intro s5 q5
      show Rn _ _ _ _ _ [] _ _
      refine r_iconst F_217_100 ?_
      refine r_stI_n (m := 3) (L' := [some (vR 77), some (vI r), some (vI n), some (vI 0)]) F_217_101 rfl rfl ?_
      exact (l21 e2 e4 s5 q5)
theorem t_X6_talk_102 {X : List Int32} {d : Nat} {s : m_St} {P : Option Value → m_St → Prop} {r n k : Int} (h0 : 0 ≤ r) (h6 : r < 6) (n0 : 0 ≤ n)
    (l1 : inR k)
    (l2 : 8 ≤ k → Rn X (d + 4) 217 54 [some (vR 77), some (vI r), some (vI (n + 1)), some (vI k)] [] s P)
    (l3 : k < 8 → 0 ≤ (8 + k))
    (l4 : k < 8 → (8 + k) < 56)
    (l5 : k < 8 → 0 ≤ k)
    (l6 : k < 8 → k < 56)
    (l7 : k < 8 → Rn X (d + 4) 217 102 [some (vR 77), some (vI r), some (vI n), some (vI (k + 1))] [] (m_upd s 89 k (s 89 (8 + k))) P)
    : Rn X (d + 4) 217 102 [some (vR 77), some (vI r), some (vI n), some (vI k)] [] s P := by
  refine r_ldI_n (m := 3) F_217_102 rfl ?_
  refine r_bipush F_217_103 bi_8 ?_
  refine r_icmp (t := 129) F_217_105 rfl l1 (by decide) ?_ ?_
  · intro e1
    replace e1 : 8 ≤ k := e1
    refine r_iinc (m := 2) (e := (n + 1)) (L' := [some (vR 77), some (vI r), some (vI (n + 1)), some (vI k)]) F_217_129 rfl rfl rfl rfl ?_
    refine r_goto (t := 54) F_217_132 rfl ?_
    exact (l2 e1)
  · intro e2
    replace e2 : k < 8 := (Int.not_le.mp e2)
    refine r_ldR_n (m := 0) F_217_108 rfl ?_
    refine r_getR (J := 15) F_217_109 o_217 fl_6_44 ty_77 (by decide) rfl (kd2 kd_77_15 (by decide)) (kd9 kd_77_15 (by decide)) rf_77_15 ?_
    refine r_ldI_n (m := 3) F_217_112 rfl ?_
    refine r_ldR_n (m := 0) F_217_113 rfl ?_
    refine r_getR (J := 15) F_217_114 o_217 fl_6_44 ty_77 (by decide) rfl (kd2 kd_77_15 (by decide)) (kd9 kd_77_15 (by decide)) rf_77_15 ?_
    refine r_bipush F_217_117 bi_8 ?_
    refine r_ldI_n (m := 3) F_217_119 rfl ?_
    refine r_iadd F_217_120 rfl ?_
    refine r_iald (e := (s 89 (8 + k))) F_217_121 ty_89 (l3 e2) (lt_ln ln_89 (l4 e2)) rfl ?_
    refine r_iast F_217_122 ty_89 (l5 e2) (lt_ln ln_89 (l6 e2)) ?_
    refine r_iinc (m := 3) (e := (k + 1)) (L' := [some (vR 77), some (vI r), some (vI n), some (vI (k + 1))]) F_217_123 rfl rfl rfl rfl ?_
    refine r_goto (t := 102) F_217_126 rfl ?_
    exact (l7 e2)
theorem t_X6_nextTalk {X : List Int32} {d : Nat} {s : m_St} {P : Option Value → m_St → Prop} {n f : Int} (n0 : 0 ≤ n) (n5 : n ≤ 5)
    (l1 : inR f)
    (l2 : f = 0 → Rn X (d + 4) 227 23 [some (vR 77), some (vI n), some (vI f), some (vI (n - 1))] [] s P)
    (l3 : ¬ f = 0 → Rn X (d + 4) 227 23 [some (vR 77), some (vI n), some (vI f), some (vI 0)] [] (m_upd s 90 0 (-1)) P)
    : Cl X (d + 4) 227 [vR 77, vI n, vI f] s P := by
  refine Cl_of n_227 rfl ?_
  show Rn _ _ _ _ [some (vR 77), some (vI n), some (vI f), none] [] _ _
  refine r_ldI_n (m := 2) F_227_0 rfl ?_
  refine r_if (t := 8) F_227_1 rfl l1 ?_ ?_
  · intro e1
    replace e1 : f = 0 := e1
    refine r_ldI_n (m := 1) F_227_8 rfl ?_
    refine r_iconst F_227_9 ?_
    refine r_isub F_227_10 rfl ?_
    refine r_stI_n (m := 3) (L' := [some (vR 77), some (vI n), some (vI f), some (vI (n - 1))]) F_227_11 rfl rfl ?_
    refine r_ldI_n (m := 2) F_227_12 rfl ?_
    refine r_ifT (t := 23) F_227_13 rfl l1 e1 ?_
    exact (l2 e1)
  · intro e2
    replace e2 : ¬ f = 0 := e2
    refine r_iconst F_227_4 ?_
    refine r_goto (t := 11) F_227_5 rfl ?_
    refine r_stI_n (m := 3) (L' := [some (vR 77), some (vI n), some (vI f), some (vI 0)]) F_227_11 rfl rfl ?_
    refine r_ldI_n (m := 2) F_227_12 rfl ?_
    refine r_ifF (t := 23) F_227_13 rfl l1 e2 ?_
    refine r_ldR_n (m := 0) F_227_16 rfl ?_
    refine r_getR (J := 16) F_227_17 o_227 fl_6_47 ty_77 (by decide) rfl (kd2 kd_77_16 (by decide)) (kd9 kd_77_16 (by decide)) rf_77_16 ?_
    refine r_iconst F_227_20 ?_
    refine r_iconst F_227_21 ?_
    refine r_iast F_227_22 ty_90 (by decide) (lt_ln ln_90 (by decide)) ?_
    exact (l3 e2)
theorem t_X6_nextTalk_23 {X : List Int32} {d : Nat} {s : m_St} {P : Option Value → m_St → Prop} {n f q : Int} (n0 : 0 ≤ n) (n5 : n ≤ 5)
    (l1 : inR q)
    (l2 : q < 0 → inR n)
    (l3 : q < 0 → ¬ n = 0 → P (some (vI 0)) s)
    (l4 : q < 0 → n = 0 → inR f)
    (l5 : q < 0 → n = 0 → f = 0 → P (some (vI 0)) s)
    (l6 : q < 0 → n = 0 → ¬ f = 0 → P (some (vI 1)) s)
    (l7 : 0 ≤ q → inR n)
    (l8 : 0 ≤ q → n ≤ 0 → ¬ n = 0 → P (some (vI 0)) s)
    (l9 : 0 ≤ q → n ≤ 0 → n = 0 → inR f)
    (l10 : 0 ≤ q → n ≤ 0 → n = 0 → f = 0 → P (some (vI 0)) s)
    (l11 : 0 ≤ q → n ≤ 0 → n = 0 → ¬ f = 0 → P (some (vI 1)) s)
    (l12 : 0 ≤ q → 0 < n → q < 6)
    (l13 : 0 ≤ q → 0 < n → inR ((s 90 q) + 1))
    (l14 : 0 ≤ q → 0 < n → ((s 90 q) + 1) ≤ 7 → 0 ≤ ((s 90 q) + 1))
    (l15 : 0 ≤ q → 0 < n → ((s 90 q) + 1) ≤ 7 → opS (m_upd s 90 q ((s 90 q) + 1)))
    (l16 : 0 ≤ q → 0 < n → ((s 90 q) + 1) ≤ 7 → (q : Int) ≤ 6)
    (l17 : 0 ≤ q → 0 < n → ((s 90 q) + 1) ≤ 7 → w8 (wt (m_upd s 90 q ((s 90 q) + 1)) q))
    (l18 : 0 ≤ q → 0 < n → ((s 90 q) + 1) ≤ 7 → 0 ≤ (((s 90 q) + 1) / 4))
    (l19 : 0 ≤ q → 0 < n → ((s 90 q) + 1) ≤ 7 → (((s 90 q) + 1) / 4) < 2)
    (l20 : 0 ≤ q → 0 < n → ((s 90 q) + 1) ≤ 7 → ¬ (iAnd (iShr (hW (m_upd s 90 q ((s 90 q) + 1)) q (((s 90 q) + 1) / 4)) (((s 90 q) + 1) % 4)) 1) = 1 → Rn X (d + 4) 227 23 [some (vR 77), some (vI n), some (vI f), some (vI q)] [] (m_upd s 90 q ((s 90 q) + 1)) P)
    (l21 : 0 ≤ q → 0 < n → ((s 90 q) + 1) ≤ 7 → (iAnd (iShr (hW (m_upd s 90 q ((s 90 q) + 1)) q (((s 90 q) + 1) / 4)) (((s 90 q) + 1) % 4)) 1) = 1 → (0 : Int) ≤ q)
    (l22 : 0 ≤ q → 0 < n → ((s 90 q) + 1) ≤ 7 → (iAnd (iShr (hW (m_upd s 90 q ((s 90 q) + 1)) q (((s 90 q) + 1) / 4)) (((s 90 q) + 1) % 4)) 1) = 1 → (q : Int) ≤ 5)
    (l23 : 0 ≤ q → 0 < n → ((s 90 q) + 1) ≤ 7 → (iAnd (iShr (hW (m_upd s 90 q ((s 90 q) + 1)) q (((s 90 q) + 1) / 4)) (((s 90 q) + 1) % 4)) 1) = 1 → (0 : Int) ≤ ((s 90 q) + 1))
    (l24 : 0 ≤ q → 0 < n → ((s 90 q) + 1) ≤ 7 → (iAnd (iShr (hW (m_upd s 90 q ((s 90 q) + 1)) q (((s 90 q) + 1) / 4)) (((s 90 q) + 1) % 4)) 1) = 1 → (((s 90 q) + 1) : Int) < 8)
    (l25 : 0 ≤ q → 0 < n → ((s 90 q) + 1) ≤ 7 → (iAnd (iShr (hW (m_upd s 90 q ((s 90 q) + 1)) q (((s 90 q) + 1) / 4)) (((s 90 q) + 1) % 4)) 1) = 1 → ∀ (s16 : m_St), qGo (m_upd s 90 q ((s 90 q) + 1)) q (uW (m_upd s 90 q ((s 90 q) + 1)) q ((s 90 q) + 1)) s16 → inR (n - 1))
    (l26 : 0 ≤ q → 0 < n → ((s 90 q) + 1) ≤ 7 → (iAnd (iShr (hW (m_upd s 90 q ((s 90 q) + 1)) q (((s 90 q) + 1) / 4)) (((s 90 q) + 1) % 4)) 1) = 1 → ∀ (s16 : m_St), qGo (m_upd s 90 q ((s 90 q) + 1)) q (uW (m_upd s 90 q ((s 90 q) + 1)) q ((s 90 q) + 1)) s16 → ¬ q = (n - 1) → 0 ≤ (q + 1))
    (l27 : 0 ≤ q → 0 < n → ((s 90 q) + 1) ≤ 7 → (iAnd (iShr (hW (m_upd s 90 q ((s 90 q) + 1)) q (((s 90 q) + 1) / 4)) (((s 90 q) + 1) % 4)) 1) = 1 → ∀ (s16 : m_St), qGo (m_upd s 90 q ((s 90 q) + 1)) q (uW (m_upd s 90 q ((s 90 q) + 1)) q ((s 90 q) + 1)) s16 → ¬ q = (n - 1) → (q + 1) < 6)
    (l28 : 0 ≤ q → 0 < n → ((s 90 q) + 1) ≤ 7 → (iAnd (iShr (hW (m_upd s 90 q ((s 90 q) + 1)) q (((s 90 q) + 1) / 4)) (((s 90 q) + 1) % 4)) 1) = 1 → ∀ (s16 : m_St), qGo (m_upd s 90 q ((s 90 q) + 1)) q (uW (m_upd s 90 q ((s 90 q) + 1)) q ((s 90 q) + 1)) s16 → ¬ q = (n - 1) → Rn X (d + 4) 227 23 [some (vR 77), some (vI n), some (vI f), some (vI (q + 1))] [] (m_upd s16 90 (q + 1) (-1)) P)
    (l29 : 0 ≤ q → 0 < n → ((s 90 q) + 1) ≤ 7 → (iAnd (iShr (hW (m_upd s 90 q ((s 90 q) + 1)) q (((s 90 q) + 1) / 4)) (((s 90 q) + 1) % 4)) 1) = 1 → ∀ (s16 : m_St), qGo (m_upd s 90 q ((s 90 q) + 1)) q (uW (m_upd s 90 q ((s 90 q) + 1)) q ((s 90 q) + 1)) s16 → q = (n - 1) → P (some (vI 1)) s16)
    (l30 : 0 ≤ q → 0 < n → 7 < ((s 90 q) + 1) → Rn X (d + 4) 227 23 [some (vR 77), some (vI n), some (vI f), some (vI (q + (-1)))] [] (m_upd s 90 q ((s 90 q) + 1)) P)
    : Rn X (d + 4) 227 23 [some (vR 77), some (vI n), some (vI f), some (vI q)] [] s P := by
  refine r_ldI_n (m := 3) F_227_23 rfl ?_
  refine r_if (t := 106) F_227_24 rfl l1 ?_ ?_
  · intro e1
    replace e1 : q < 0 := e1
    refine r_ldI_n (m := 1) F_227_106 rfl ?_
    refine r_if (t := 118) F_227_107 rfl (l2 e1) ?_ ?_
    · intro e2
      replace e2 : ¬ n = 0 := e2
      refine r_iconst F_227_118 ?_
      refine r_zreturn F_227_119 rt_227 (Or.inl rfl) ?_
      exact (l3 e1 e2)
    · intro e3
      replace e3 : n = 0 := (Classical.not_not.mp e3)
      refine r_ldI_n (m := 2) F_227_110 rfl ?_
      refine r_if (t := 118) F_227_111 rfl (l4 e1 e3) ?_ ?_
      · intro e4
        replace e4 : f = 0 := e4
        refine r_iconst F_227_118 ?_
        refine r_zreturn F_227_119 rt_227 (Or.inl rfl) ?_
        exact (l5 e1 e3 e4)
      · intro e5
        replace e5 : ¬ f = 0 := e5
        refine r_iconst F_227_114 ?_
        refine r_goto (t := 119) F_227_115 rfl ?_
        refine r_zreturn F_227_119 rt_227 (Or.inr rfl) ?_
        exact (l6 e1 e3 e5)
  · intro e6
    replace e6 : 0 ≤ q := (Int.not_lt.mp e6)
    refine r_ldI_n (m := 1) F_227_27 rfl ?_
    refine r_if (t := 106) F_227_28 rfl (l7 e6) ?_ ?_
    · intro e7
      replace e7 : n ≤ 0 := e7
      refine r_ldI_n (m := 1) F_227_106 rfl ?_
      refine r_if (t := 118) F_227_107 rfl (l7 e6) ?_ ?_
      · intro e8
        replace e8 : ¬ n = 0 := e8
        refine r_iconst F_227_118 ?_
        refine r_zreturn F_227_119 rt_227 (Or.inl rfl) ?_
        exact (l8 e6 e7 e8)
      · intro e9
        replace e9 : n = 0 := (Classical.not_not.mp e9)
        refine r_ldI_n (m := 2) F_227_110 rfl ?_
        refine r_if (t := 118) F_227_111 rfl (l9 e6 e7 e9) ?_ ?_
        · intro e10
          replace e10 : f = 0 := e10
          refine r_iconst F_227_118 ?_
          refine r_zreturn F_227_119 rt_227 (Or.inl rfl) ?_
          exact (l10 e6 e7 e9 e10)
        · intro e11
          replace e11 : ¬ f = 0 := e11
          refine r_iconst F_227_114 ?_
          refine r_goto (t := 119) F_227_115 rfl ?_
          refine r_zreturn F_227_119 rt_227 (Or.inr rfl) ?_
          exact (l11 e6 e7 e9 e11)
    · intro e12
      replace e12 : 0 < n := (Int.not_le.mp e12)
      refine r_ldR_n (m := 0) F_227_31 rfl ?_
      refine r_getR (J := 16) F_227_32 o_227 fl_6_47 ty_77 (by decide) rfl (kd2 kd_77_16 (by decide)) (kd9 kd_77_16 (by decide)) rf_77_16 ?_
      refine r_ldI_n (m := 3) F_227_35 rfl ?_
      refine r_dup2 F_227_36 ?_
      refine r_iald (e := (s 90 q)) F_227_37 ty_90 e6 (lt_ln ln_90 (l12 e6 e12)) rfl ?_
      refine r_iconst F_227_38 ?_
      refine r_iadd F_227_39 rfl ?_
      refine r_iast F_227_40 ty_90 e6 (lt_ln ln_90 (l12 e6 e12)) ?_
      refine r_ldR_n (m := 0) F_227_41 rfl ?_
      refine r_getR (J := 16) F_227_42 o_227 fl_6_47 ty_77 (by decide) rfl (kd2 kd_77_16 (by decide)) (kd9 kd_77_16 (by decide)) rf_77_16 ?_
      refine r_ldI_n (m := 3) F_227_45 rfl ?_
      refine r_iald (e := ((s 90 q) + 1)) F_227_46 ty_90 e6 (lt_ln ln_90 (l12 e6 e12)) upd_eq ?_
      refine r_bipush F_227_47 bi_7 ?_
      refine r_icmp (t := 58) F_227_49 rfl (l13 e6 e12) (by decide) ?_ ?_
      · intro e13
        replace e13 : ((s 90 q) + 1) ≤ 7 := e13
        refine r_ldR_n (m := 0) F_227_58 rfl ?_
        refine r_ldI_n (m := 3) F_227_59 rfl ?_
        refine r_ldR_n (m := 0) F_227_60 rfl ?_
        refine r_getR (J := 16) F_227_61 o_227 fl_6_47 ty_77 (by decide) rfl (kd2 kd_77_16 (by decide)) (kd9 kd_77_16 (by decide)) rf_77_16 ?_
        refine r_ldI_n (m := 3) F_227_64 rfl ?_
        refine r_iald (e := ((s 90 q) + 1)) F_227_65 ty_90 e6 (lt_ln ln_90 (l12 e6 e12)) upd_eq ?_
        refine r_virt2 (A := [vI q, vI ((s 90 q) + 1)]) (r := []) (n := 2) F_227_66 o_227 il_6_213 rfl rfl rfl rfl ty_77 vy_221 (lay_le n_221 rfl) ?_
        refine Cl_of n_221 rfl ?_
        show Rn _ _ _ _ [some (vR 77), some (vI q), some (vI ((s 90 q) + 1))] [] _ _
        refine r_ldR_n (m := 0) F_221_0 rfl ?_
        refine r_ldI_n (m := 1) F_221_1 rfl ?_
        refine r_ldI_n (m := 2) F_221_2 rfl ?_
        refine r_iconst F_221_3 ?_
        refine r_idiv F_221_4 (l13 e6 e12) (l14 e6 e12 e13) (by decide) (by decide) ?_
        refine r_virt2 (A := [vI q, vI (((s 90 q) + 1) / 4)]) (r := []) (n := 2) F_221_5 o_221 il_6_204 rfl rfl rfl rfl ty_77 vy_222 (lay_le n_222 rfl) ?_
        refine sp_heldAtS (l15 e6 e12 e13) e6 (l16 e6 e12 e13) (l17 e6 e12 e13) (l18 e6 e12 e13) (l19 e6 e12 e13) ?_
        show Rn _ _ _ _ _ [vI (hW (m_upd s 90 q ((s 90 q) + 1)) q (((s 90 q) + 1) / 4))] _ _
        refine r_ldI_n (m := 2) F_221_8 rfl ?_
        refine r_iconst F_221_9 ?_
        refine r_irem F_221_10 (l13 e6 e12) (l14 e6 e12 e13) (by decide) (by decide) ?_
        refine r_stat2 (A := [vI (hW (m_upd s 90 q ((s 90 q) + 1)) q (((s 90 q) + 1) / 4)), vI (((s 90 q) + 1) % 4)]) (r := []) (n := 2) F_221_11 o_221 il_6_132 (by decide) rfl rfl rfl rfl (lay_le n_194 rfl) ?_
        refine Cl_of n_194 rfl ?_
        show Rn _ _ _ _ [some (vI (hW (m_upd s 90 q ((s 90 q) + 1)) q (((s 90 q) + 1) / 4))), some (vI (((s 90 q) + 1) % 4))] [] _ _
        refine r_ldI_n (m := 0) F_194_0 rfl ?_
        refine r_ldI_n (m := 1) F_194_1 rfl ?_
        refine r_ishr F_194_2 rfl ?_
        refine r_iconst F_194_3 ?_
        refine r_iand F_194_4 rfl ?_
        refine r_iconst F_194_5 ?_
        refine r_icmp (t := 13) F_194_6 rfl (inR_iAnd _ _) (by decide) ?_ ?_
        · intro e14
          replace e14 : ¬ (iAnd (iShr (hW (m_upd s 90 q ((s 90 q) + 1)) q (((s 90 q) + 1) / 4)) (((s 90 q) + 1) % 4)) 1) = 1 := e14
          refine r_iconst F_194_13 ?_
          refine r_zreturn F_194_14 rt_194 (Or.inl rfl) ?_
          show Rn _ _ _ _ _ [vI 0] _ _
          refine r_zreturn F_221_14 rt_221 (Or.inl rfl) ?_
          show Rn _ _ _ _ _ [vI 0] _ _
          refine r_ifT (t := 23) F_227_69 rfl (by decide) (by show (0 : Int) = 0; decide) ?_
          exact (l20 e6 e12 e13 e14)
        · intro e15
          replace e15 : (iAnd (iShr (hW (m_upd s 90 q ((s 90 q) + 1)) q (((s 90 q) + 1) / 4)) (((s 90 q) + 1) % 4)) 1) = 1 := (Classical.not_not.mp e15)
          refine r_iconst F_194_9 ?_
          refine r_goto (t := 14) F_194_10 rfl ?_
          refine r_zreturn F_194_14 rt_194 (Or.inr rfl) ?_
          show Rn _ _ _ _ _ [vI 1] _ _
          refine r_zreturn F_221_14 rt_221 (Or.inr rfl) ?_
          show Rn _ _ _ _ _ [vI 1] _ _
          refine r_ifF (t := 23) F_227_69 rfl (by decide) (by show ¬ ((1 : Int) = 0); decide) ?_
          refine r_ldR_n (m := 0) F_227_72 rfl ?_
          refine r_ldI_n (m := 3) F_227_73 rfl ?_
          refine r_ldR_n (m := 0) F_227_74 rfl ?_
          refine r_getR (J := 16) F_227_75 o_227 fl_6_47 ty_77 (by decide) rfl (kd2 kd_77_16 (by decide)) (kd9 kd_77_16 (by decide)) rf_77_16 ?_
          refine r_ldI_n (m := 3) F_227_78 rfl ?_
          refine r_iald (e := ((s 90 q) + 1)) F_227_79 ty_90 e6 (lt_ln ln_90 (l12 e6 e12)) upd_eq ?_
          refine r_iconst F_227_80 ?_
          refine r_virt2 (A := [vI q, vI ((s 90 q) + 1), vI 1]) (r := []) (n := 3) F_227_81 o_227 il_6_216 rfl rfl rfl rfl ty_77 vy_223 (lay_le n_223 rfl) ?_
          refine sp_goesT (l15 e6 e12 e13) (l21 e6 e12 e13 e15) (l22 e6 e12 e13 e15) (l23 e6 e12 e13 e15) (l24 e6 e12 e13 e15) (l17 e6 e12 e13) ?_
          intro s16 q16
          show Rn _ _ _ _ _ [] _ _
          refine r_ldI_n (m := 3) F_227_84 rfl ?_
          refine r_ldI_n (m := 1) F_227_85 rfl ?_
          refine r_iconst F_227_86 ?_
          refine r_isub F_227_87 rfl ?_
          refine r_icmp (t := 93) F_227_88 rfl l1 (l25 e6 e12 e13 e15 s16 q16) ?_ ?_
          · intro e17
            replace e17 : ¬ q = (n - 1) := e17
            refine r_iinc (m := 3) (e := (q + 1)) (L' := [some (vR 77), some (vI n), some (vI f), some (vI (q + 1))]) F_227_93 rfl rfl rfl rfl ?_
            refine r_ldR_n (m := 0) F_227_96 rfl ?_
            refine r_getR (J := 16) F_227_97 o_227 fl_6_47 ty_77 (by decide) rfl (kd2 kd_77_16 (by decide)) (kd9 kd_77_16 (by decide)) rf_77_16 ?_
            refine r_ldI_n (m := 3) F_227_100 rfl ?_
            refine r_iconst F_227_101 ?_
            refine r_iast F_227_102 ty_90 (l26 e6 e12 e13 e15 s16 q16 e17) (lt_ln ln_90 (l27 e6 e12 e13 e15 s16 q16 e17)) ?_
            refine r_goto (t := 23) F_227_103 rfl ?_
            exact (l28 e6 e12 e13 e15 s16 q16 e17)
          · intro e18
            replace e18 : q = (n - 1) := (Classical.not_not.mp e18)
            refine r_iconst F_227_91 ?_
            refine r_zreturn F_227_92 rt_227 (Or.inr rfl) ?_
            exact (l29 e6 e12 e13 e15 s16 q16 e18)
      · intro e19
        replace e19 : 7 < ((s 90 q) + 1) := (Int.not_le.mp e19)
        refine r_iinc (m := 3) (e := (q + (-1))) (L' := [some (vR 77), some (vI n), some (vI f), some (vI (q + (-1)))]) F_227_52 rfl rfl rfl rfl ?_
        refine r_goto (t := 23) F_227_55 rfl ?_
        exact (l30 e6 e12 e19)
