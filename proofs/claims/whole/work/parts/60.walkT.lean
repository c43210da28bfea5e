/-! walks: the calls of the class, talks -/
theorem n_106 : m_n 106 = 4 := by decide +kernel
theorem F_106_0 : F 106 0 (.aload_n 0) 1 := ⟨1, by decide +kernel, rfl, rfl⟩
theorem F_106_1 : F 106 1 (.iload_n 1) 2 := ⟨1, by decide +kernel, rfl, rfl⟩
theorem F_106_2 : F 106 2 (.bipush 40) 4 := ⟨2, by decide +kernel, rfl, rfl⟩
theorem F_106_4 : F 106 4 (.invokevirtual 239) 7 := ⟨3, by decide +kernel, rfl, rfl⟩
theorem o_106 : m_o 106 = 5 := by decide +kernel
theorem il_5_239 : ilq 5 239 0 107 2 = true := by decide +kernel
theorem vy_107 : (m_cls 5).1 = (m_y 107).cls ∧ 5 < m_cl.length := by decide +kernel
theorem F_106_7 : F 106 7 (.istore_n 2) 8 := ⟨1, by decide +kernel, rfl, rfl⟩
theorem F_106_8 : F 106 8 (.iload_n 2) 9 := ⟨1, by decide +kernel, rfl, rfl⟩
theorem F_106_9 : F 106 9 (.ifCond .eq 5) 12 := ⟨3, by decide +kernel, rfl, rfl⟩
theorem F_106_14 : F 106 14 (.aload_n 0) 15 := ⟨1, by decide +kernel, rfl, rfl⟩
theorem F_106_15 : F 106 15 (.invokevirtual 229) 18 := ⟨3, by decide +kernel, rfl, rfl⟩
theorem F_106_18 : F 106 18 (.iconst 0) 19 := ⟨1, by decide +kernel, rfl, rfl⟩
theorem F_106_19 : F 106 19 (.istore_n 3) 20 := ⟨1, by decide +kernel, rfl, rfl⟩
theorem F_106_12 : F 106 12 (.iload_n 2) 13 := ⟨1, by decide +kernel, rfl, rfl⟩
theorem F_106_13 : F 106 13 (.ireturn) 14 := ⟨1, by decide +kernel, rfl, rfl⟩
theorem rt_106 : m_r 106 = (some .int) := by decide +kernel
theorem F_106_20 : F 106 20 (.iload_n 3) 21 := ⟨1, by decide +kernel, rfl, rfl⟩
theorem F_106_21 : F 106 21 (.aload_n 0) 22 := ⟨1, by decide +kernel, rfl, rfl⟩
theorem F_106_22 : F 106 22 (.getfield 14) 25 := ⟨3, by decide +kernel, rfl, rfl⟩
theorem F_106_25 : F 106 25 (.iload_n 1) 26 := ⟨1, by decide +kernel, rfl, rfl⟩
theorem F_106_26 : F 106 26 (.invokevirtual 115) 29 := ⟨3, by decide +kernel, rfl, rfl⟩
theorem F_106_29 : F 106 29 (.if_icmp .ge 45) 32 := ⟨3, by decide +kernel, rfl, rfl⟩
theorem F_106_74 : F 106 74 (.aload_n 0) 75 := ⟨1, by decide +kernel, rfl, rfl⟩
theorem F_106_75 : F 106 75 (.aload_n 0) 76 := ⟨1, by decide +kernel, rfl, rfl⟩
theorem F_106_76 : F 106 76 (.getfield 41) 79 := ⟨3, by decide +kernel, rfl, rfl⟩
theorem F_106_79 : F 106 79 (.invokevirtual 235) 82 := ⟨3, by decide +kernel, rfl, rfl⟩
theorem F_106_82 : F 106 82 (.invokevirtual 93) 85 := ⟨3, by decide +kernel, rfl, rfl⟩
theorem F_106_85 : F 106 85 (.pop) 86 := ⟨1, by decide +kernel, rfl, rfl⟩
theorem F_106_86 : F 106 86 (.iload_n 3) 87 := ⟨1, by decide +kernel, rfl, rfl⟩
theorem F_106_87 : F 106 87 (.ireturn) 88 := ⟨1, by decide +kernel, rfl, rfl⟩
theorem F_106_32 : F 106 32 (.aload_n 0) 33 := ⟨1, by decide +kernel, rfl, rfl⟩
theorem F_106_33 : F 106 33 (.getfield 41) 36 := ⟨3, by decide +kernel, rfl, rfl⟩
theorem F_106_36 : F 106 36 (.aload_n 0) 37 := ⟨1, by decide +kernel, rfl, rfl⟩
theorem F_106_37 : F 106 37 (.getfield 14) 40 := ⟨3, by decide +kernel, rfl, rfl⟩
theorem F_106_40 : F 106 40 (.iload_n 1) 41 := ⟨1, by decide +kernel, rfl, rfl⟩
theorem F_106_41 : F 106 41 (.iload_n 3) 42 := ⟨1, by decide +kernel, rfl, rfl⟩
theorem F_106_42 : F 106 42 (.invokevirtual 86) 45 := ⟨3, by decide +kernel, rfl, rfl⟩
theorem F_106_45 : F 106 45 (.invokevirtual 242) 48 := ⟨3, by decide +kernel, rfl, rfl⟩
theorem il_5_242 : ilq 5 242 0 108 1 = true := by decide +kernel
theorem F_106_48 : F 106 48 (.ifCond .eq 26) 51 := ⟨3, by decide +kernel, rfl, rfl⟩
theorem F_106_51 : F 106 51 (.aload_n 0) 52 := ⟨1, by decide +kernel, rfl, rfl⟩
theorem F_106_52 : F 106 52 (.getfield 41) 55 := ⟨3, by decide +kernel, rfl, rfl⟩
theorem F_106_55 : F 106 55 (.aload_n 0) 56 := ⟨1, by decide +kernel, rfl, rfl⟩
theorem F_106_56 : F 106 56 (.getfield 14) 59 := ⟨3, by decide +kernel, rfl, rfl⟩
theorem F_106_59 : F 106 59 (.iload_n 1) 60 := ⟨1, by decide +kernel, rfl, rfl⟩
theorem F_106_60 : F 106 60 (.iload_n 3) 61 := ⟨1, by decide +kernel, rfl, rfl⟩
theorem F_106_61 : F 106 61 (.invokevirtual 86) 64 := ⟨3, by decide +kernel, rfl, rfl⟩
theorem F_106_64 : F 106 64 (.invokevirtual 243) 67 := ⟨3, by decide +kernel, rfl, rfl⟩
theorem il_5_243 : ilq 5 243 0 109 1 = true := by decide +kernel
theorem F_106_67 : F 106 67 (.pop) 68 := ⟨1, by decide +kernel, rfl, rfl⟩
theorem F_106_68 : F 106 68 (.iinc 3 1) 71 := ⟨3, by decide +kernel, rfl, rfl⟩
theorem F_106_71 : F 106 71 (.goto (-51)) 74 := ⟨3, by decide +kernel, rfl, rfl⟩
theorem n_110 : m_n 110 = 5 := by decide +kernel
theorem F_110_0 : F 110 0 (.iload_n 1) 1 := ⟨1, by decide +kernel, rfl, rfl⟩
theorem F_110_1 : F 110 1 (.invokestatic 169) 4 := ⟨3, by decide +kernel, rfl, rfl⟩
theorem o_110 : m_o 110 = 5 := by decide +kernel
theorem F_110_4 : F 110 4 (.ifCond .eq 14) 7 := ⟨3, by decide +kernel, rfl, rfl⟩
theorem F_110_18 : F 110 18 (.iconst (-1)) 19 := ⟨1, by decide +kernel, rfl, rfl⟩
theorem F_110_19 : F 110 19 (.ireturn) 20 := ⟨1, by decide +kernel, rfl, rfl⟩
theorem rt_110 : m_r 110 = (some .int) := by decide +kernel
theorem F_110_7 : F 110 7 (.aload_n 0) 8 := ⟨1, by decide +kernel, rfl, rfl⟩
theorem F_110_8 : F 110 8 (.getfield 14) 11 := ⟨3, by decide +kernel, rfl, rfl⟩
theorem F_110_11 : F 110 11 (.iload_n 2) 12 := ⟨1, by decide +kernel, rfl, rfl⟩
theorem F_110_12 : F 110 12 (.invokevirtual 70) 15 := ⟨3, by decide +kernel, rfl, rfl⟩
theorem F_110_15 : F 110 15 (.ifCond .ne 5) 18 := ⟨3, by decide +kernel, rfl, rfl⟩
theorem F_110_20 : F 110 20 (.aload_n 0) 21 := ⟨1, by decide +kernel, rfl, rfl⟩
theorem F_110_21 : F 110 21 (.getfield 34) 24 := ⟨3, by decide +kernel, rfl, rfl⟩
theorem F_110_24 : F 110 24 (.invokevirtual 225) 27 := ⟨3, by decide +kernel, rfl, rfl⟩
theorem F_110_27 : F 110 27 (.ifCond .ne 6) 30 := ⟨3, by decide +kernel, rfl, rfl⟩
theorem F_110_30 : F 110 30 (.bipush (-4)) 32 := ⟨2, by decide +kernel, rfl, rfl⟩
theorem F_110_32 : F 110 32 (.ireturn) 33 := ⟨1, by decide +kernel, rfl, rfl⟩
theorem F_110_33 : F 110 33 (.aload_n 0) 34 := ⟨1, by decide +kernel, rfl, rfl⟩
theorem F_110_34 : F 110 34 (.invokevirtual 229) 37 := ⟨3, by decide +kernel, rfl, rfl⟩
theorem F_110_37 : F 110 37 (.aload_n 0) 38 := ⟨1, by decide +kernel, rfl, rfl⟩
theorem F_110_38 : F 110 38 (.getfield 41) 41 := ⟨3, by decide +kernel, rfl, rfl⟩
theorem F_110_41 : F 110 41 (.iload_n 1) 42 := ⟨1, by decide +kernel, rfl, rfl⟩
theorem F_110_42 : F 110 42 (.iconst 5) 43 := ⟨1, by decide +kernel, rfl, rfl⟩
theorem F_110_43 : F 110 43 (.invokevirtual 246) 46 := ⟨3, by decide +kernel, rfl, rfl⟩
theorem il_5_246 : ilq 5 246 0 111 2 = true := by decide +kernel
theorem vy_111 : (m_cls 4).1 = (m_y 111).cls ∧ 4 < m_cl.length := by decide +kernel
theorem F_110_46 : F 110 46 (.istore_n 3) 47 := ⟨1, by decide +kernel, rfl, rfl⟩
theorem F_110_47 : F 110 47 (.iload_n 3) 48 := ⟨1, by decide +kernel, rfl, rfl⟩
theorem F_110_48 : F 110 48 (.bipush (-9)) 50 := ⟨2, by decide +kernel, rfl, rfl⟩
theorem F_110_50 : F 110 50 (.if_icmp .eq 47) 53 := ⟨3, by decide +kernel, rfl, rfl⟩
theorem F_110_97 : F 110 97 (.iload_n 3) 98 := ⟨1, by decide +kernel, rfl, rfl⟩
theorem F_110_98 : F 110 98 (.ireturn) 99 := ⟨1, by decide +kernel, rfl, rfl⟩
theorem F_110_53 : F 110 53 (.aload_n 0) 54 := ⟨1, by decide +kernel, rfl, rfl⟩
theorem F_110_54 : F 110 54 (.getfield 14) 57 := ⟨3, by decide +kernel, rfl, rfl⟩
theorem F_110_57 : F 110 57 (.iload_n 2) 58 := ⟨1, by decide +kernel, rfl, rfl⟩
theorem F_110_58 : F 110 58 (.iload_n 3) 59 := ⟨1, by decide +kernel, rfl, rfl⟩
theorem F_110_59 : F 110 59 (.iconst 0) 60 := ⟨1, by decide +kernel, rfl, rfl⟩
theorem F_110_60 : F 110 60 (.invokevirtual 78) 63 := ⟨3, by decide +kernel, rfl, rfl⟩
theorem F_110_63 : F 110 63 (.iconst 0) 64 := ⟨1, by decide +kernel, rfl, rfl⟩
theorem F_110_64 : F 110 64 (.istore 4) 66 := ⟨2, by decide +kernel, rfl, rfl⟩
theorem F_110_66 : F 110 66 (.iload 4) 68 := ⟨2, by decide +kernel, rfl, rfl⟩
theorem F_110_68 : F 110 68 (.iload_n 3) 69 := ⟨1, by decide +kernel, rfl, rfl⟩
theorem F_110_69 : F 110 69 (.if_icmp .ge 28) 72 := ⟨3, by decide +kernel, rfl, rfl⟩
theorem F_110_72 : F 110 72 (.aload_n 0) 73 := ⟨1, by decide +kernel, rfl, rfl⟩
theorem F_110_73 : F 110 73 (.getfield 14) 76 := ⟨3, by decide +kernel, rfl, rfl⟩
theorem F_110_76 : F 110 76 (.iload_n 2) 77 := ⟨1, by decide +kernel, rfl, rfl⟩
theorem F_110_77 : F 110 77 (.iload 4) 79 := ⟨2, by decide +kernel, rfl, rfl⟩
theorem F_110_79 : F 110 79 (.aload_n 0) 80 := ⟨1, by decide +kernel, rfl, rfl⟩
theorem F_110_80 : F 110 80 (.getfield 41) 83 := ⟨3, by decide +kernel, rfl, rfl⟩
theorem F_110_83 : F 110 83 (.iload 4) 85 := ⟨2, by decide +kernel, rfl, rfl⟩
theorem F_110_85 : F 110 85 (.invokevirtual 249) 88 := ⟨3, by decide +kernel, rfl, rfl⟩
theorem il_5_249 : ilq 5 249 0 115 1 = true := by decide +kernel
theorem vy_115 : (m_cls 4).1 = (m_y 115).cls ∧ 4 < m_cl.length := by decide +kernel
theorem n_115 : m_n 115 = 2 := by decide +kernel
theorem F_115_0 : F 115 0 (.iload_n 1) 1 := ⟨1, by decide +kernel, rfl, rfl⟩
theorem F_115_1 : F 115 1 (.ifCond .lt 17) 4 := ⟨3, by decide +kernel, rfl, rfl⟩
theorem F_115_4 : F 115 4 (.iload_n 1) 5 := ⟨1, by decide +kernel, rfl, rfl⟩
theorem F_115_5 : F 115 5 (.iconst 5) 6 := ⟨1, by decide +kernel, rfl, rfl⟩
theorem F_115_6 : F 115 6 (.if_icmp .ge 12) 9 := ⟨3, by decide +kernel, rfl, rfl⟩
theorem F_115_18 : F 115 18 (.iconst 0) 19 := ⟨1, by decide +kernel, rfl, rfl⟩
theorem F_115_19 : F 115 19 (.ireturn) 20 := ⟨1, by decide +kernel, rfl, rfl⟩
theorem rt_115 : m_r 115 = (some .int) := by decide +kernel
theorem F_110_88 : F 110 88 (.invokevirtual 90) 91 := ⟨3, by decide +kernel, rfl, rfl⟩
theorem F_110_91 : F 110 91 (.iinc 4 1) 94 := ⟨3, by decide +kernel, rfl, rfl⟩
theorem F_110_94 : F 110 94 (.goto (-28)) 97 := ⟨3, by decide +kernel, rfl, rfl⟩
theorem F_115_9 : F 115 9 (.aload_n 0) 10 := ⟨1, by decide +kernel, rfl, rfl⟩
theorem F_115_10 : F 115 10 (.getfield 25) 13 := ⟨3, by decide +kernel, rfl, rfl⟩
theorem o_115 : m_o 115 = 4 := by decide +kernel
theorem F_115_13 : F 115 13 (.iload_n 1) 14 := ⟨1, by decide +kernel, rfl, rfl⟩
theorem F_115_14 : F 115 14 (.iaload) 15 := ⟨1, by decide +kernel, rfl, rfl⟩
theorem F_115_15 : F 115 15 (.goto 4) 18 := ⟨3, by decide +kernel, rfl, rfl⟩
theorem n_116 : m_n 116 = 3 := by decide +kernel
theorem F_116_0 : F 116 0 (.iload_n 1) 1 := ⟨1, by decide +kernel, rfl, rfl⟩
theorem F_116_1 : F 116 1 (.invokestatic 169) 4 := ⟨3, by decide +kernel, rfl, rfl⟩
theorem o_116 : m_o 116 = 5 := by decide +kernel
theorem F_116_4 : F 116 4 (.ifCond .eq 12) 7 := ⟨3, by decide +kernel, rfl, rfl⟩
theorem F_116_16 : F 116 16 (.iconst (-1)) 17 := ⟨1, by decide +kernel, rfl, rfl⟩
theorem F_116_17 : F 116 17 (.ireturn) 18 := ⟨1, by decide +kernel, rfl, rfl⟩
theorem rt_116 : m_r 116 = (some .int) := by decide +kernel
theorem F_116_7 : F 116 7 (.iload_n 2) 8 := ⟨1, by decide +kernel, rfl, rfl⟩
theorem F_116_8 : F 116 8 (.ifCond .lt 8) 11 := ⟨3, by decide +kernel, rfl, rfl⟩
theorem F_116_11 : F 116 11 (.iload_n 2) 12 := ⟨1, by decide +kernel, rfl, rfl⟩
theorem F_116_12 : F 116 12 (.iconst 5) 13 := ⟨1, by decide +kernel, rfl, rfl⟩
theorem F_116_13 : F 116 13 (.if_icmp .le 5) 16 := ⟨3, by decide +kernel, rfl, rfl⟩
theorem F_116_18 : F 116 18 (.aload_n 0) 19 := ⟨1, by decide +kernel, rfl, rfl⟩
theorem F_116_19 : F 116 19 (.getfield 34) 22 := ⟨3, by decide +kernel, rfl, rfl⟩
theorem F_116_22 : F 116 22 (.invokevirtual 225) 25 := ⟨3, by decide +kernel, rfl, rfl⟩
theorem F_116_25 : F 116 25 (.ifCond .ne 6) 28 := ⟨3, by decide +kernel, rfl, rfl⟩
theorem F_116_28 : F 116 28 (.bipush (-4)) 30 := ⟨2, by decide +kernel, rfl, rfl⟩
theorem F_116_30 : F 116 30 (.ireturn) 31 := ⟨1, by decide +kernel, rfl, rfl⟩
theorem F_116_31 : F 116 31 (.aload_n 0) 32 := ⟨1, by decide +kernel, rfl, rfl⟩
theorem F_116_32 : F 116 32 (.invokevirtual 229) 35 := ⟨3, by decide +kernel, rfl, rfl⟩
theorem F_116_35 : F 116 35 (.aload_n 0) 36 := ⟨1, by decide +kernel, rfl, rfl⟩
theorem F_116_36 : F 116 36 (.aload_n 0) 37 := ⟨1, by decide +kernel, rfl, rfl⟩
theorem F_116_37 : F 116 37 (.getfield 41) 40 := ⟨3, by decide +kernel, rfl, rfl⟩
theorem F_116_40 : F 116 40 (.iload_n 1) 41 := ⟨1, by decide +kernel, rfl, rfl⟩
theorem F_116_41 : F 116 41 (.iload_n 2) 42 := ⟨1, by decide +kernel, rfl, rfl⟩
theorem F_116_42 : F 116 42 (.invokevirtual 252) 45 := ⟨3, by decide +kernel, rfl, rfl⟩
theorem il_5_252 : ilq 5 252 0 117 2 = true := by decide +kernel
theorem vy_117 : (m_cls 4).1 = (m_y 117).cls ∧ 4 < m_cl.length := by decide +kernel
theorem F_116_45 : F 116 45 (.putfield 63) 48 := ⟨3, by decide +kernel, rfl, rfl⟩
theorem fl_5_63 : m_fl.lookup (5, 63) = some (5, 10, 1180) := by decide +kernel
theorem kd_0_10 : kd 0 10 = 1 := by decide +kernel
theorem pf_5_10 : pfT 5 10 .long = true := by decide +kernel
theorem F_116_48 : F 116 48 (.aload_n 0) 49 := ⟨1, by decide +kernel, rfl, rfl⟩
theorem F_116_49 : F 116 49 (.lconst 1) 50 := ⟨1, by decide +kernel, rfl, rfl⟩
theorem F_116_50 : F 116 50 (.putfield 67) 53 := ⟨3, by decide +kernel, rfl, rfl⟩
theorem fl_5_67 : m_fl.lookup (5, 67) = some (5, 11, 1181) := by decide +kernel
theorem kd_0_11 : kd 0 11 = 1 := by decide +kernel
theorem pf_5_11 : pfT 5 11 .long = true := by decide +kernel
theorem F_116_53 : F 116 53 (.aload_n 0) 54 := ⟨1, by decide +kernel, rfl, rfl⟩
theorem F_116_54 : F 116 54 (.aload_n 0) 55 := ⟨1, by decide +kernel, rfl, rfl⟩
theorem F_116_55 : F 116 55 (.getfield 41) 58 := ⟨3, by decide +kernel, rfl, rfl⟩
theorem F_116_58 : F 116 58 (.invokevirtual 256) 61 := ⟨3, by decide +kernel, rfl, rfl⟩
theorem il_5_256 : ilq 5 256 0 121 0 = true := by decide +kernel
theorem vy_121 : (m_cls 4).1 = (m_y 121).cls ∧ 4 < m_cl.length := by decide +kernel
theorem n_121 : m_n 121 = 1 := by decide +kernel
theorem F_121_0 : F 121 0 (.aload_n 0) 1 := ⟨1, by decide +kernel, rfl, rfl⟩
theorem F_121_1 : F 121 1 (.getfield 32) 4 := ⟨3, by decide +kernel, rfl, rfl⟩
theorem o_121 : m_o 121 = 4 := by decide +kernel
theorem F_121_4 : F 121 4 (.lconst 0) 5 := ⟨1, by decide +kernel, rfl, rfl⟩
theorem F_121_5 : F 121 5 (.lcmp) 6 := ⟨1, by decide +kernel, rfl, rfl⟩
theorem F_121_6 : F 121 6 (.ifCond .ne 7) 9 := ⟨3, by decide +kernel, rfl, rfl⟩
theorem F_121_13 : F 121 13 (.aload_n 0) 14 := ⟨1, by decide +kernel, rfl, rfl⟩
theorem F_121_14 : F 121 14 (.getfield 36) 17 := ⟨3, by decide +kernel, rfl, rfl⟩
theorem F_121_17 : F 121 17 (.ireturn) 18 := ⟨1, by decide +kernel, rfl, rfl⟩
theorem rt_121 : m_r 121 = (some .int) := by decide +kernel
theorem F_116_61 : F 116 61 (.invokevirtual 93) 64 := ⟨3, by decide +kernel, rfl, rfl⟩
theorem F_116_64 : F 116 64 (.ireturn) 65 := ⟨1, by decide +kernel, rfl, rfl⟩
theorem F_121_9 : F 121 9 (.iconst 0) 10 := ⟨1, by decide +kernel, rfl, rfl⟩
theorem F_121_10 : F 121 10 (.goto 7) 13 := ⟨3, by decide +kernel, rfl, rfl⟩
theorem n_122 : m_n 122 = 7 := by decide +kernel
theorem F_122_0 : F 122 0 (.aload_n 0) 1 := ⟨1, by decide +kernel, rfl, rfl⟩
theorem F_122_1 : F 122 1 (.getfield 34) 4 := ⟨3, by decide +kernel, rfl, rfl⟩
theorem o_122 : m_o 122 = 5 := by decide +kernel
theorem F_122_4 : F 122 4 (.invokevirtual 132) 7 := ⟨3, by decide +kernel, rfl, rfl⟩
theorem F_122_7 : F 122 7 (.istore_n 1) 8 := ⟨1, by decide +kernel, rfl, rfl⟩
theorem F_122_8 : F 122 8 (.iload_n 1) 9 := ⟨1, by decide +kernel, rfl, rfl⟩
theorem F_122_9 : F 122 9 (.ifCond .ne 6) 12 := ⟨3, by decide +kernel, rfl, rfl⟩
theorem F_122_15 : F 122 15 (.bipush (-9)) 17 := ⟨2, by decide +kernel, rfl, rfl⟩
theorem F_122_17 : F 122 17 (.istore_n 2) 18 := ⟨1, by decide +kernel, rfl, rfl⟩
theorem F_122_18 : F 122 18 (.iconst 3) 19 := ⟨1, by decide +kernel, rfl, rfl⟩
theorem F_122_19 : F 122 19 (.istore_n 3) 20 := ⟨1, by decide +kernel, rfl, rfl⟩
theorem F_122_20 : F 122 20 (.iconst 0) 21 := ⟨1, by decide +kernel, rfl, rfl⟩
theorem F_122_21 : F 122 21 (.istore 4) 23 := ⟨2, by decide +kernel, rfl, rfl⟩
theorem F_122_12 : F 122 12 (.bipush (-4)) 14 := ⟨2, by decide +kernel, rfl, rfl⟩
theorem F_122_14 : F 122 14 (.ireturn) 15 := ⟨1, by decide +kernel, rfl, rfl⟩
theorem rt_122 : m_r 122 = (some .int) := by decide +kernel
theorem F_122_23 : F 122 23 (.iload 4) 25 := ⟨2, by decide +kernel, rfl, rfl⟩
theorem F_122_25 : F 122 25 (.iload_n 1) 26 := ⟨1, by decide +kernel, rfl, rfl⟩
theorem F_122_26 : F 122 26 (.if_icmp .ge 91) 29 := ⟨3, by decide +kernel, rfl, rfl⟩
theorem F_122_117 : F 122 117 (.iload_n 2) 118 := ⟨1, by decide +kernel, rfl, rfl⟩
theorem F_122_118 : F 122 118 (.bipush (-9)) 120 := ⟨2, by decide +kernel, rfl, rfl⟩
theorem F_122_120 : F 122 120 (.if_icmp .eq 11) 123 := ⟨3, by decide +kernel, rfl, rfl⟩
theorem F_122_131 : F 122 131 (.iload_n 2) 132 := ⟨1, by decide +kernel, rfl, rfl⟩
theorem F_122_132 : F 122 132 (.ireturn) 133 := ⟨1, by decide +kernel, rfl, rfl⟩
theorem F_122_123 : F 122 123 (.aload_n 0) 124 := ⟨1, by decide +kernel, rfl, rfl⟩
theorem F_122_124 : F 122 124 (.iload_n 3) 125 := ⟨1, by decide +kernel, rfl, rfl⟩
theorem F_122_125 : F 122 125 (.iconst 1) 126 := ⟨1, by decide +kernel, rfl, rfl⟩
theorem F_122_126 : F 122 126 (.iadd) 127 := ⟨1, by decide +kernel, rfl, rfl⟩
theorem F_122_127 : F 122 127 (.invokevirtual 93) 130 := ⟨3, by decide +kernel, rfl, rfl⟩
theorem F_122_130 : F 122 130 (.pop) 131 := ⟨1, by decide +kernel, rfl, rfl⟩
theorem F_122_29 : F 122 29 (.iload 4) 31 := ⟨2, by decide +kernel, rfl, rfl⟩
theorem F_122_31 : F 122 31 (.iconst 1) 32 := ⟨1, by decide +kernel, rfl, rfl⟩
theorem F_122_32 : F 122 32 (.iadd) 33 := ⟨1, by decide +kernel, rfl, rfl⟩
theorem F_122_33 : F 122 33 (.istore 5) 35 := ⟨2, by decide +kernel, rfl, rfl⟩
theorem F_122_35 : F 122 35 (.iload 5) 37 := ⟨2, by decide +kernel, rfl, rfl⟩
theorem F_122_37 : F 122 37 (.iload_n 1) 38 := ⟨1, by decide +kernel, rfl, rfl⟩
theorem F_122_38 : F 122 38 (.if_icmp .ge 73) 41 := ⟨3, by decide +kernel, rfl, rfl⟩
theorem F_122_111 : F 122 111 (.iinc 4 1) 114 := ⟨3, by decide +kernel, rfl, rfl⟩
theorem F_122_114 : F 122 114 (.goto (-91)) 117 := ⟨3, by decide +kernel, rfl, rfl⟩
theorem F_122_41 : F 122 41 (.aload_n 0) 42 := ⟨1, by decide +kernel, rfl, rfl⟩
theorem F_122_42 : F 122 42 (.getfield 41) 45 := ⟨3, by decide +kernel, rfl, rfl⟩
theorem F_122_45 : F 122 45 (.aload_n 0) 46 := ⟨1, by decide +kernel, rfl, rfl⟩
theorem F_122_46 : F 122 46 (.getfield 34) 49 := ⟨3, by decide +kernel, rfl, rfl⟩
theorem F_122_49 : F 122 49 (.iload 4) 51 := ⟨2, by decide +kernel, rfl, rfl⟩
theorem F_122_51 : F 122 51 (.invokevirtual 142) 54 := ⟨3, by decide +kernel, rfl, rfl⟩
theorem F_122_54 : F 122 54 (.aload_n 0) 55 := ⟨1, by decide +kernel, rfl, rfl⟩
theorem F_122_55 : F 122 55 (.getfield 34) 58 := ⟨3, by decide +kernel, rfl, rfl⟩
theorem F_122_58 : F 122 58 (.iload 5) 60 := ⟨2, by decide +kernel, rfl, rfl⟩
theorem F_122_60 : F 122 60 (.invokevirtual 142) 63 := ⟨3, by decide +kernel, rfl, rfl⟩
theorem F_122_63 : F 122 63 (.aload_n 0) 64 := ⟨1, by decide +kernel, rfl, rfl⟩
theorem F_122_64 : F 122 64 (.getfield 34) 67 := ⟨3, by decide +kernel, rfl, rfl⟩
theorem F_122_67 : F 122 67 (.invokevirtual 149) 70 := ⟨3, by decide +kernel, rfl, rfl⟩
theorem F_122_70 : F 122 70 (.invokevirtual 259) 73 := ⟨3, by decide +kernel, rfl, rfl⟩
theorem F_122_73 : F 122 73 (.aload_n 0) 74 := ⟨1, by decide +kernel, rfl, rfl⟩
theorem F_122_74 : F 122 74 (.getfield 41) 77 := ⟨3, by decide +kernel, rfl, rfl⟩
theorem F_122_77 : F 122 77 (.iconst 0) 78 := ⟨1, by decide +kernel, rfl, rfl⟩
theorem F_122_78 : F 122 78 (.iload_n 3) 79 := ⟨1, by decide +kernel, rfl, rfl⟩
theorem F_122_79 : F 122 79 (.invokevirtual 246) 82 := ⟨3, by decide +kernel, rfl, rfl⟩
theorem F_122_82 : F 122 82 (.istore 6) 84 := ⟨2, by decide +kernel, rfl, rfl⟩
theorem F_122_84 : F 122 84 (.iload 6) 86 := ⟨2, by decide +kernel, rfl, rfl⟩
theorem F_122_86 : F 122 86 (.bipush (-9)) 88 := ⟨2, by decide +kernel, rfl, rfl⟩
theorem F_122_88 : F 122 88 (.if_icmp .eq 17) 91 := ⟨3, by decide +kernel, rfl, rfl⟩
theorem F_122_105 : F 122 105 (.iinc 5 1) 108 := ⟨3, by decide +kernel, rfl, rfl⟩
theorem F_122_108 : F 122 108 (.goto (-73)) 111 := ⟨3, by decide +kernel, rfl, rfl⟩
theorem F_122_91 : F 122 91 (.bipush 10) 93 := ⟨2, by decide +kernel, rfl, rfl⟩
theorem F_122_93 : F 122 93 (.iload 4) 95 := ⟨2, by decide +kernel, rfl, rfl⟩
theorem F_122_95 : F 122 95 (.imul) 96 := ⟨1, by decide +kernel, rfl, rfl⟩
theorem F_122_96 : F 122 96 (.iload 5) 98 := ⟨2, by decide +kernel, rfl, rfl⟩
theorem F_122_98 : F 122 98 (.iadd) 99 := ⟨1, by decide +kernel, rfl, rfl⟩
theorem F_122_99 : F 122 99 (.istore_n 2) 100 := ⟨1, by decide +kernel, rfl, rfl⟩
theorem F_122_100 : F 122 100 (.iload 6) 102 := ⟨2, by decide +kernel, rfl, rfl⟩
theorem F_122_102 : F 122 102 (.iconst 1) 103 := ⟨1, by decide +kernel, rfl, rfl⟩
theorem F_122_103 : F 122 103 (.isub) 104 := ⟨1, by decide +kernel, rfl, rfl⟩
theorem F_122_104 : F 122 104 (.istore_n 3) 105 := ⟨1, by decide +kernel, rfl, rfl⟩
theorem n_123 : m_n 123 = 4 := by decide +kernel
theorem F_123_0 : F 123 0 (.aload_n 0) 1 := ⟨1, by decide +kernel, rfl, rfl⟩
theorem F_123_1 : F 123 1 (.getfield 34) 4 := ⟨3, by decide +kernel, rfl, rfl⟩
theorem o_123 : m_o 123 = 5 := by decide +kernel
theorem F_123_4 : F 123 4 (.invokevirtual 132) 7 := ⟨3, by decide +kernel, rfl, rfl⟩
theorem F_123_7 : F 123 7 (.ifCond .ne 6) 10 := ⟨3, by decide +kernel, rfl, rfl⟩
theorem F_123_13 : F 123 13 (.iconst 0) 14 := ⟨1, by decide +kernel, rfl, rfl⟩
theorem F_123_14 : F 123 14 (.istore_n 1) 15 := ⟨1, by decide +kernel, rfl, rfl⟩
theorem F_123_15 : F 123 15 (.bipush 15) 17 := ⟨2, by decide +kernel, rfl, rfl⟩
theorem F_123_17 : F 123 17 (.istore_n 2) 18 := ⟨1, by decide +kernel, rfl, rfl⟩
theorem F_123_18 : F 123 18 (.iconst 0) 19 := ⟨1, by decide +kernel, rfl, rfl⟩
theorem F_123_19 : F 123 19 (.istore_n 3) 20 := ⟨1, by decide +kernel, rfl, rfl⟩
theorem F_123_10 : F 123 10 (.bipush (-4)) 12 := ⟨2, by decide +kernel, rfl, rfl⟩
theorem F_123_12 : F 123 12 (.ireturn) 13 := ⟨1, by decide +kernel, rfl, rfl⟩
theorem rt_123 : m_r 123 = (some .int) := by decide +kernel
theorem F_123_20 : F 123 20 (.iload_n 3) 21 := ⟨1, by decide +kernel, rfl, rfl⟩
theorem F_123_21 : F 123 21 (.bipush 15) 23 := ⟨2, by decide +kernel, rfl, rfl⟩
theorem F_123_23 : F 123 23 (.if_icmp .gt 37) 26 := ⟨3, by decide +kernel, rfl, rfl⟩
theorem F_123_60 : F 123 60 (.aload_n 0) 61 := ⟨1, by decide +kernel, rfl, rfl⟩
theorem F_123_61 : F 123 61 (.iload_n 2) 62 := ⟨1, by decide +kernel, rfl, rfl⟩
theorem F_123_62 : F 123 62 (.invokevirtual 93) 65 := ⟨3, by decide +kernel, rfl, rfl⟩
theorem F_123_65 : F 123 65 (.pop) 66 := ⟨1, by decide +kernel, rfl, rfl⟩
theorem F_123_66 : F 123 66 (.iload_n 1) 67 := ⟨1, by decide +kernel, rfl, rfl⟩
theorem F_123_67 : F 123 67 (.ireturn) 68 := ⟨1, by decide +kernel, rfl, rfl⟩
theorem F_123_26 : F 123 26 (.aload_n 0) 27 := ⟨1, by decide +kernel, rfl, rfl⟩
theorem F_123_27 : F 123 27 (.getfield 34) 30 := ⟨3, by decide +kernel, rfl, rfl⟩
theorem F_123_30 : F 123 30 (.iload_n 3) 31 := ⟨1, by decide +kernel, rfl, rfl⟩
theorem F_123_31 : F 123 31 (.invokevirtual 172) 34 := ⟨3, by decide +kernel, rfl, rfl⟩
theorem F_123_34 : F 123 34 (.iload_n 3) 35 := ⟨1, by decide +kernel, rfl, rfl⟩
theorem F_123_35 : F 123 35 (.if_icmp .ne 19) 38 := ⟨3, by decide +kernel, rfl, rfl⟩
theorem F_123_54 : F 123 54 (.iinc 3 1) 57 := ⟨3, by decide +kernel, rfl, rfl⟩
theorem F_123_57 : F 123 57 (.goto (-37)) 60 := ⟨3, by decide +kernel, rfl, rfl⟩
theorem F_123_38 : F 123 38 (.iinc 1 1) 41 := ⟨3, by decide +kernel, rfl, rfl⟩
theorem F_123_41 : F 123 41 (.iload_n 2) 42 := ⟨1, by decide +kernel, rfl, rfl⟩
theorem F_123_42 : F 123 42 (.iload_n 3) 43 := ⟨1, by decide +kernel, rfl, rfl⟩
theorem F_123_43 : F 123 43 (.ifCond .ne 8) 46 := ⟨3, by decide +kernel, rfl, rfl⟩
theorem F_123_51 : F 123 51 (.iload_n 3) 52 := ⟨1, by decide +kernel, rfl, rfl⟩
theorem F_123_52 : F 123 52 (.iand) 53 := ⟨1, by decide +kernel, rfl, rfl⟩
theorem F_123_53 : F 123 53 (.istore_n 2) 54 := ⟨1, by decide +kernel, rfl, rfl⟩
theorem F_123_46 : F 123 46 (.bipush 15) 48 := ⟨2, by decide +kernel, rfl, rfl⟩
theorem F_123_48 : F 123 48 (.goto 4) 51 := ⟨3, by decide +kernel, rfl, rfl⟩
theorem n_124 : m_n 124 = 5 := by decide +kernel
theorem F_124_0 : F 124 0 (.aload_n 0) 1 := ⟨1, by decide +kernel, rfl, rfl⟩
theorem F_124_1 : F 124 1 (.getfield 34) 4 := ⟨3, by decide +kernel, rfl, rfl⟩
theorem o_124 : m_o 124 = 5 := by decide +kernel
theorem F_124_4 : F 124 4 (.iload_n 1) 5 := ⟨1, by decide +kernel, rfl, rfl⟩
theorem F_124_5 : F 124 5 (.invokevirtual 136) 8 := ⟨3, by decide +kernel, rfl, rfl⟩
theorem F_124_8 : F 124 8 (.ifCond .ne 5) 11 := ⟨3, by decide +kernel, rfl, rfl⟩
theorem F_124_11 : F 124 11 (.iconst (-1)) 12 := ⟨1, by decide +kernel, rfl, rfl⟩
theorem F_124_12 : F 124 12 (.ireturn) 13 := ⟨1, by decide +kernel, rfl, rfl⟩
theorem rt_124 : m_r 124 = (some .int) := by decide +kernel
theorem F_124_13 : F 124 13 (.aload_n 0) 14 := ⟨1, by decide +kernel, rfl, rfl⟩
theorem F_124_14 : F 124 14 (.getfield 34) 17 := ⟨3, by decide +kernel, rfl, rfl⟩
theorem F_124_17 : F 124 17 (.iload_n 1) 18 := ⟨1, by decide +kernel, rfl, rfl⟩
theorem F_124_18 : F 124 18 (.invokevirtual 142) 21 := ⟨3, by decide +kernel, rfl, rfl⟩
theorem F_124_21 : F 124 21 (.invokevirtual 158) 24 := ⟨3, by decide +kernel, rfl, rfl⟩
theorem F_124_24 : F 124 24 (.istore_n 2) 25 := ⟨1, by decide +kernel, rfl, rfl⟩
theorem F_124_25 : F 124 25 (.bipush 15) 27 := ⟨2, by decide +kernel, rfl, rfl⟩
theorem F_124_27 : F 124 27 (.istore_n 3) 28 := ⟨1, by decide +kernel, rfl, rfl⟩
theorem F_124_28 : F 124 28 (.bipush 15) 30 := ⟨2, by decide +kernel, rfl, rfl⟩
theorem F_124_30 : F 124 30 (.istore 4) 32 := ⟨2, by decide +kernel, rfl, rfl⟩
theorem F_124_32 : F 124 32 (.iload 4) 34 := ⟨2, by decide +kernel, rfl, rfl⟩
theorem F_124_34 : F 124 34 (.ifCond .lt 42) 37 := ⟨3, by decide +kernel, rfl, rfl⟩
theorem F_124_76 : F 124 76 (.aload_n 0) 77 := ⟨1, by decide +kernel, rfl, rfl⟩
theorem F_124_77 : F 124 77 (.iload_n 3) 78 := ⟨1, by decide +kernel, rfl, rfl⟩
theorem F_124_78 : F 124 78 (.invokevirtual 93) 81 := ⟨3, by decide +kernel, rfl, rfl⟩
theorem F_124_81 : F 124 81 (.pop) 82 := ⟨1, by decide +kernel, rfl, rfl⟩
theorem F_124_82 : F 124 82 (.iload_n 3) 83 := ⟨1, by decide +kernel, rfl, rfl⟩
theorem F_124_83 : F 124 83 (.iload_n 2) 84 := ⟨1, by decide +kernel, rfl, rfl⟩
theorem F_124_84 : F 124 84 (.ixor) 85 := ⟨1, by decide +kernel, rfl, rfl⟩
theorem F_124_85 : F 124 85 (.invokestatic 161) 88 := ⟨3, by decide +kernel, rfl, rfl⟩
theorem F_124_88 : F 124 88 (.ireturn) 89 := ⟨1, by decide +kernel, rfl, rfl⟩
theorem F_124_37 : F 124 37 (.aload_n 0) 38 := ⟨1, by decide +kernel, rfl, rfl⟩
theorem F_124_38 : F 124 38 (.getfield 34) 41 := ⟨3, by decide +kernel, rfl, rfl⟩
theorem F_124_41 : F 124 41 (.iload 4) 43 := ⟨2, by decide +kernel, rfl, rfl⟩
theorem F_124_43 : F 124 43 (.invokevirtual 172) 46 := ⟨3, by decide +kernel, rfl, rfl⟩
theorem F_124_46 : F 124 46 (.iload 4) 48 := ⟨2, by decide +kernel, rfl, rfl⟩
theorem F_124_48 : F 124 48 (.if_icmp .ne 22) 51 := ⟨3, by decide +kernel, rfl, rfl⟩
theorem F_124_70 : F 124 70 (.iinc 4 (-1)) 73 := ⟨3, by decide +kernel, rfl, rfl⟩
theorem F_124_73 : F 124 73 (.goto (-41)) 76 := ⟨3, by decide +kernel, rfl, rfl⟩
theorem F_124_51 : F 124 51 (.iload 4) 53 := ⟨2, by decide +kernel, rfl, rfl⟩
theorem F_124_53 : F 124 53 (.iload_n 2) 54 := ⟨1, by decide +kernel, rfl, rfl⟩
theorem F_124_54 : F 124 54 (.ixor) 55 := ⟨1, by decide +kernel, rfl, rfl⟩
theorem F_124_55 : F 124 55 (.invokestatic 161) 58 := ⟨3, by decide +kernel, rfl, rfl⟩
theorem F_124_58 : F 124 58 (.iload_n 3) 59 := ⟨1, by decide +kernel, rfl, rfl⟩
theorem F_124_59 : F 124 59 (.iload_n 2) 60 := ⟨1, by decide +kernel, rfl, rfl⟩
theorem F_124_60 : F 124 60 (.ixor) 61 := ⟨1, by decide +kernel, rfl, rfl⟩
theorem F_124_61 : F 124 61 (.invokestatic 161) 64 := ⟨3, by decide +kernel, rfl, rfl⟩
theorem F_124_64 : F 124 64 (.if_icmp .gt 6) 67 := ⟨3, by decide +kernel, rfl, rfl⟩
theorem F_124_67 : F 124 67 (.iload 4) 69 := ⟨2, by decide +kernel, rfl, rfl⟩
theorem F_124_69 : F 124 69 (.istore_n 3) 70 := ⟨1, by decide +kernel, rfl, rfl⟩
theorem n_125 : m_n 125 = 4 := by decide +kernel
theorem F_125_0 : F 125 0 (.aload_n 0) 1 := ⟨1, by decide +kernel, rfl, rfl⟩
theorem F_125_1 : F 125 1 (.iload_n 1) 2 := ⟨1, by decide +kernel, rfl, rfl⟩
theorem F_125_2 : F 125 2 (.iload_n 2) 3 := ⟨1, by decide +kernel, rfl, rfl⟩
theorem F_125_3 : F 125 3 (.invokevirtual 263) 6 := ⟨3, by decide +kernel, rfl, rfl⟩
theorem o_125 : m_o 125 = 5 := by decide +kernel
theorem il_5_263 : ilq 5 263 0 126 2 = true := by decide +kernel
theorem vy_126 : (m_cls 5).1 = (m_y 126).cls ∧ 5 < m_cl.length := by decide +kernel
theorem F_125_6 : F 125 6 (.istore_n 3) 7 := ⟨1, by decide +kernel, rfl, rfl⟩
theorem F_125_7 : F 125 7 (.iload_n 3) 8 := ⟨1, by decide +kernel, rfl, rfl⟩
theorem F_125_8 : F 125 8 (.ifCond .eq 7) 11 := ⟨3, by decide +kernel, rfl, rfl⟩
theorem F_125_15 : F 125 15 (.aload_n 0) 16 := ⟨1, by decide +kernel, rfl, rfl⟩
theorem F_125_16 : F 125 16 (.iload_n 1) 17 := ⟨1, by decide +kernel, rfl, rfl⟩
theorem F_125_17 : F 125 17 (.iload_n 2) 18 := ⟨1, by decide +kernel, rfl, rfl⟩
theorem F_125_18 : F 125 18 (.invokevirtual 266) 21 := ⟨3, by decide +kernel, rfl, rfl⟩
theorem il_5_266 : ilq 5 266 0 127 2 = true := by decide +kernel
theorem vy_127 : (m_cls 5).1 = (m_y 127).cls ∧ 5 < m_cl.length := by decide +kernel
theorem F_125_21 : F 125 21 (.ireturn) 22 := ⟨1, by decide +kernel, rfl, rfl⟩
theorem rt_125 : m_r 125 = (some .int) := by decide +kernel
theorem F_125_11 : F 125 11 (.iload_n 3) 12 := ⟨1, by decide +kernel, rfl, rfl⟩
theorem F_125_12 : F 125 12 (.goto 9) 15 := ⟨3, by decide +kernel, rfl, rfl⟩
theorem n_129 : m_n 129 = 9 := by decide +kernel
theorem F_129_0 : F 129 0 (.aload_n 0) 1 := ⟨1, by decide +kernel, rfl, rfl⟩
theorem F_129_1 : F 129 1 (.iload_n 1) 2 := ⟨1, by decide +kernel, rfl, rfl⟩
theorem F_129_2 : F 129 2 (.iload_n 2) 3 := ⟨1, by decide +kernel, rfl, rfl⟩
theorem F_129_3 : F 129 3 (.invokevirtual 263) 6 := ⟨3, by decide +kernel, rfl, rfl⟩
theorem o_129 : m_o 129 = 5 := by decide +kernel
theorem F_129_6 : F 129 6 (.istore_n 3) 7 := ⟨1, by decide +kernel, rfl, rfl⟩
theorem F_129_7 : F 129 7 (.iload_n 3) 8 := ⟨1, by decide +kernel, rfl, rfl⟩
theorem F_129_8 : F 129 8 (.ifCond .eq 5) 11 := ⟨3, by decide +kernel, rfl, rfl⟩
theorem F_129_13 : F 129 13 (.aload_n 0) 14 := ⟨1, by decide +kernel, rfl, rfl⟩
theorem F_129_14 : F 129 14 (.iload_n 1) 15 := ⟨1, by decide +kernel, rfl, rfl⟩
theorem F_129_15 : F 129 15 (.iload_n 2) 16 := ⟨1, by decide +kernel, rfl, rfl⟩
theorem F_129_16 : F 129 16 (.invokevirtual 266) 19 := ⟨3, by decide +kernel, rfl, rfl⟩
theorem F_129_19 : F 129 19 (.istore 4) 21 := ⟨2, by decide +kernel, rfl, rfl⟩
theorem F_129_21 : F 129 21 (.iload 4) 23 := ⟨2, by decide +kernel, rfl, rfl⟩
theorem F_129_23 : F 129 23 (.ifCond .ne 6) 26 := ⟨3, by decide +kernel, rfl, rfl⟩
theorem F_129_29 : F 129 29 (.iconst 0) 30 := ⟨1, by decide +kernel, rfl, rfl⟩
theorem F_129_30 : F 129 30 (.istore 5) 32 := ⟨2, by decide +kernel, rfl, rfl⟩
theorem F_129_32 : F 129 32 (.bipush 7) 34 := ⟨2, by decide +kernel, rfl, rfl⟩
theorem F_129_34 : F 129 34 (.istore 6) 36 := ⟨2, by decide +kernel, rfl, rfl⟩
theorem F_129_36 : F 129 36 (.iconst 0) 37 := ⟨1, by decide +kernel, rfl, rfl⟩
theorem F_129_37 : F 129 37 (.istore 7) 39 := ⟨2, by decide +kernel, rfl, rfl⟩
theorem F_129_26 : F 129 26 (.bipush (-9)) 28 := ⟨2, by decide +kernel, rfl, rfl⟩
theorem F_129_28 : F 129 28 (.ireturn) 29 := ⟨1, by decide +kernel, rfl, rfl⟩
theorem rt_129 : m_r 129 = (some .int) := by decide +kernel
theorem F_129_11 : F 129 11 (.iload_n 3) 12 := ⟨1, by decide +kernel, rfl, rfl⟩
theorem F_129_12 : F 129 12 (.ireturn) 13 := ⟨1, by decide +kernel, rfl, rfl⟩
theorem F_129_39 : F 129 39 (.iload 7) 41 := ⟨2, by decide +kernel, rfl, rfl⟩
theorem F_129_41 : F 129 41 (.iconst 4) 42 := ⟨1, by decide +kernel, rfl, rfl⟩
theorem F_129_42 : F 129 42 (.if_icmp .ge 35) 45 := ⟨3, by decide +kernel, rfl, rfl⟩
theorem F_129_77 : F 129 77 (.aload_n 0) 78 := ⟨1, by decide +kernel, rfl, rfl⟩
theorem F_129_78 : F 129 78 (.iload 6) 80 := ⟨2, by decide +kernel, rfl, rfl⟩
theorem F_129_80 : F 129 80 (.invokevirtual 93) 83 := ⟨3, by decide +kernel, rfl, rfl⟩
theorem F_129_83 : F 129 83 (.pop) 84 := ⟨1, by decide +kernel, rfl, rfl⟩
theorem F_129_84 : F 129 84 (.iload 5) 86 := ⟨2, by decide +kernel, rfl, rfl⟩
theorem F_129_86 : F 129 86 (.ireturn) 87 := ⟨1, by decide +kernel, rfl, rfl⟩
theorem F_129_45 : F 129 45 (.aload_n 0) 46 := ⟨1, by decide +kernel, rfl, rfl⟩
theorem F_129_46 : F 129 46 (.iload_n 1) 47 := ⟨1, by decide +kernel, rfl, rfl⟩
theorem F_129_47 : F 129 47 (.iload 4) 49 := ⟨2, by decide +kernel, rfl, rfl⟩
theorem F_129_49 : F 129 49 (.iload 7) 51 := ⟨2, by decide +kernel, rfl, rfl⟩
theorem F_129_51 : F 129 51 (.invokevirtual 269) 54 := ⟨3, by decide +kernel, rfl, rfl⟩
theorem il_5_269 : ilq 5 269 0 130 3 = true := by decide +kernel
theorem vy_130 : (m_cls 5).1 = (m_y 130).cls ∧ 5 < m_cl.length := by decide +kernel
theorem F_129_54 : F 129 54 (.istore 8) 56 := ⟨2, by decide +kernel, rfl, rfl⟩
theorem F_129_56 : F 129 56 (.iload 8) 58 := ⟨2, by decide +kernel, rfl, rfl⟩
theorem F_129_58 : F 129 58 (.iload 6) 60 := ⟨2, by decide +kernel, rfl, rfl⟩
theorem F_129_60 : F 129 60 (.if_icmp .ge 11) 63 := ⟨3, by decide +kernel, rfl, rfl⟩
theorem F_129_71 : F 129 71 (.iinc 7 1) 74 := ⟨3, by decide +kernel, rfl, rfl⟩
theorem F_129_74 : F 129 74 (.goto (-35)) 77 := ⟨3, by decide +kernel, rfl, rfl⟩
theorem F_129_63 : F 129 63 (.iload 8) 65 := ⟨2, by decide +kernel, rfl, rfl⟩
theorem F_129_65 : F 129 65 (.istore 6) 67 := ⟨2, by decide +kernel, rfl, rfl⟩
theorem F_129_67 : F 129 67 (.iload 7) 69 := ⟨2, by decide +kernel, rfl, rfl⟩
theorem F_129_69 : F 129 69 (.istore 5) 71 := ⟨2, by decide +kernel, rfl, rfl⟩
theorem n_132 : m_n 132 = 2 := by decide +kernel
theorem F_132_0 : F 132 0 (.iload_n 1) 1 := ⟨1, by decide +kernel, rfl, rfl⟩
theorem F_132_1 : F 132 1 (.ifCond .lt 8) 4 := ⟨3, by decide +kernel, rfl, rfl⟩
theorem F_132_9 : F 132 9 (.iconst (-1)) 10 := ⟨1, by decide +kernel, rfl, rfl⟩
theorem F_132_10 : F 132 10 (.ireturn) 11 := ⟨1, by decide +kernel, rfl, rfl⟩
theorem rt_132 : m_r 132 = (some .int) := by decide +kernel
theorem F_132_4 : F 132 4 (.iload_n 1) 5 := ⟨1, by decide +kernel, rfl, rfl⟩
theorem F_132_5 : F 132 5 (.iconst 5) 6 := ⟨1, by decide +kernel, rfl, rfl⟩
theorem F_132_6 : F 132 6 (.if_icmp .le 5) 9 := ⟨3, by decide +kernel, rfl, rfl⟩
theorem F_132_11 : F 132 11 (.aload_n 0) 12 := ⟨1, by decide +kernel, rfl, rfl⟩
theorem F_132_12 : F 132 12 (.getfield 34) 15 := ⟨3, by decide +kernel, rfl, rfl⟩
theorem o_132 : m_o 132 = 5 := by decide +kernel
theorem F_132_15 : F 132 15 (.invokevirtual 225) 18 := ⟨3, by decide +kernel, rfl, rfl⟩
theorem F_132_18 : F 132 18 (.ifCond .ne 6) 21 := ⟨3, by decide +kernel, rfl, rfl⟩
theorem F_132_21 : F 132 21 (.bipush (-4)) 23 := ⟨2, by decide +kernel, rfl, rfl⟩
theorem F_132_23 : F 132 23 (.ireturn) 24 := ⟨1, by decide +kernel, rfl, rfl⟩
theorem F_132_24 : F 132 24 (.aload_n 0) 25 := ⟨1, by decide +kernel, rfl, rfl⟩
theorem F_132_25 : F 132 25 (.invokevirtual 229) 28 := ⟨3, by decide +kernel, rfl, rfl⟩
theorem F_132_28 : F 132 28 (.aload_n 0) 29 := ⟨1, by decide +kernel, rfl, rfl⟩
theorem F_132_29 : F 132 29 (.getfield 41) 32 := ⟨3, by decide +kernel, rfl, rfl⟩
theorem F_132_32 : F 132 32 (.iload_n 1) 33 := ⟨1, by decide +kernel, rfl, rfl⟩
theorem F_132_33 : F 132 33 (.invokevirtual 273) 36 := ⟨3, by decide +kernel, rfl, rfl⟩
theorem il_5_273 : ilq 5 273 0 133 1 = true := by decide +kernel
theorem vy_133 : (m_cls 4).1 = (m_y 133).cls ∧ 4 < m_cl.length := by decide +kernel
theorem F_132_36 : F 132 36 (.ireturn) 37 := ⟨1, by decide +kernel, rfl, rfl⟩
theorem t_X5_talk {X : List Int32} {d : Nat} {s : m_St} {P : Option Value → m_St → Prop} {r : Int}
    (l1 : inR r)
    (l2 : inR (s 38 7))
    (l3 : ∀ r, 0 ≤ r → r < 6 → rwk s r)
    (l4 : ∀ (v1 : Int) (s1 : m_St), qTr s r 40 v1 s1 → inR v1)
    (l5 : ∀ (v1 : Int) (s1 : m_St), qTr s r 40 v1 s1 → v1 = 0 → upk s1)
    (l6 : ∀ (v1 : Int) (s1 : m_St), qTr s r 40 v1 s1 → v1 = 0 → Rn X (d + 6) 106 20 [some (vR 0), some (vI r), some (vI v1), some (vI 0)] [] (tka s1) P)
    (l7 : ∀ (v1 : Int) (s1 : m_St), qTr s r 40 v1 s1 → ¬ v1 = 0 → P (some (vI v1)) s1)
    : Cl X (d + 6) 106 [vR 0, vI r] s P := by
  refine Cl_of n_106 rfl ?_
  show Rn _ _ _ _ [some (vR 0), some (vI r), none, none] [] _ _
  refine r_ldR_n (m := 0) F_106_0 rfl ?_
  refine r_ldI_n (m := 1) F_106_1 rfl ?_
  refine r_bipush F_106_2 bi_40 ?_
  refine r_virt2 (A := [vI r, vI 40]) (r := []) (n := 2) F_106_4 o_106 il_5_239 rfl rfl rfl rfl ty_0 vy_107 (lay_le n_107 rfl) ?_
  refine sp_talkRefusal l1 (by decide) l2 l3 ?_
  intro v1 s1 q1
  show Rn _ _ _ _ _ [vI v1] _ _
  refine r_stI_n (m := 2) (L' := [some (vR 0), some (vI r), some (vI v1), none]) F_106_7 rfl rfl ?_
  refine r_ldI_n (m := 2) F_106_8 rfl ?_
  refine r_if (t := 14) F_106_9 rfl (l4 v1 s1 q1) ?_ ?_
  · intro e2
    replace e2 : v1 = 0 := e2
    refine r_ldR_n (m := 0) F_106_14 rfl ?_
    refine r_virt2 (A := []) (r := []) (n := 0) F_106_15 o_106 il_5_229 rfl rfl rfl rfl ty_0 vy_98 (lay_le n_98 rfl) ?_
    refine sp_takeAside (l5 v1 s1 q1 e2) ?_
    show Rn _ _ _ _ _ [] _ _
    refine r_iconst F_106_18 ?_
    refine r_stI_n (m := 3) (L' := [some (vR 0), some (vI r), some (vI v1), some (vI 0)]) F_106_19 rfl rfl ?_
    exact (l6 v1 s1 q1 e2)
  · intro e3
    replace e3 : ¬ v1 = 0 := e3
    refine r_ldI_n (m := 2) F_106_12 rfl ?_
    refine r_ireturn F_106_13 rt_106 ?_
    exact (l7 v1 s1 q1 e3)
theorem t_X5_talk_20 {X : List Int32} {d : Nat} {s : m_St} {P : Option Value → m_St → Prop} {r x2 n : Int} (h0 : 0 ≤ r) (h6 : r < 6) (n0 : 0 ≤ n)
    (l1 : inR r)
    (l2 : inR n)
    (l3 : inR (s 2 r))
    (l4 : (s 2 r) ≤ n → P (some (vI n)) (m_upd s 0 9 (iAnd (s 67 2) (s 69 2))))
    (l5 : n < (s 2 r) → (s 2 r) ≤ 40)
    (l6 : n < (s 2 r) → inR (s (4 + r) n))
    (l7 : n < (s 2 r) → (cns s (s (4 + r) n)) = 0 → P (some (vI n)) (m_upd s 0 9 (iAnd (s 67 2) (s 69 2))))
    (l8 : n < (s 2 r) → ¬ (cns s (s (4 + r) n)) = 0 → tkok s)
    (l9 : n < (s 2 r) → ¬ (cns s (s (4 + r) n)) = 0 → 0 ≤ (s (4 + r) n))
    (l10 : n < (s 2 r) → ¬ (cns s (s (4 + r) n)) = 0 → (s (4 + r) n) < 8)
    (l11 : n < (s 2 r) → ¬ (cns s (s (4 + r) n)) = 0 → Rn X (d + 6) 106 20 [some (vR 0), some (vI r), some (vI x2), some (vI (n + 1))] [] (utS s (s (4 + r) n)) P)
    : Rn X (d + 6) 106 20 [some (vR 0), some (vI r), some (vI x2), some (vI n)] [] s P := by
  refine r_ldI_n (m := 3) F_106_20 rfl ?_
  refine r_ldR_n (m := 0) F_106_21 rfl ?_
  refine r_getR (J := 0) F_106_22 o_106 fl_5_14 ty_0 (by decide) rfl (kd2 kd_0_0 (by decide)) (kd9 kd_0_0 (by decide)) rf_0_0 ?_
  refine r_ldI_n (m := 1) F_106_25 rfl ?_
  refine r_virt2 (A := [vI r]) (r := [vI n]) (n := 1) F_106_26 o_106 il_5_115 rfl rfl rfl rfl ty_1 vy_16 (lay_le n_16 rfl) ?_
  refine Cl_of n_16 rfl ?_
  show Rn _ _ _ _ [some (vR 1), some (vI r)] [] _ _
  refine r_ldR_n (m := 0) F_16_0 rfl ?_
  refine r_ldI_n (m := 1) F_16_1 rfl ?_
  refine r_virt2 (A := [vI r]) (r := []) (n := 1) F_16_2 o_16 il_3_32 rfl rfl rfl rfl ty_1 vy_9 (lay_le n_9 rfl) ?_
  refine Cl_of n_9 rfl ?_
  show Rn _ _ _ _ [some (vR 1), some (vI r)] [] _ _
  refine r_ldI_n (m := 1) F_9_0 rfl ?_
  refine r_ifF (t := 17) F_9_1 rfl l1 (Int.not_lt.mpr h0) ?_
  refine r_ldI_n (m := 1) F_9_4 rfl ?_
  refine r_ldR_n (m := 0) F_9_5 rfl ?_
  refine r_getR (J := 0) F_9_6 o_9 fl_3_19 ty_1 (by decide) rfl (kd2 kd_1_0 (by decide)) (kd9 kd_1_0 (by decide)) rf_1_0 ?_
  refine r_alen F_9_9 ty_2 (by decide) ln_2 ?_
  refine r_icmpF (t := 17) F_9_10 rfl l1 (by decide) (Int.not_le.mpr h6) ?_
  refine r_iconst F_9_13 ?_
  refine r_goto (t := 18) F_9_14 rfl ?_
  refine r_zreturn F_9_18 rt_9 (Or.inr rfl) ?_
  show Rn _ _ _ _ _ [vI 1] _ _
  refine r_ifF (t := 17) F_16_5 rfl (by decide) (by show ¬ ((1 : Int) = 0); decide) ?_
  refine r_ldR_n (m := 0) F_16_8 rfl ?_
  refine r_getR (J := 0) F_16_9 o_16 fl_3_19 ty_1 (by decide) rfl (kd2 kd_1_0 (by decide)) (kd9 kd_1_0 (by decide)) rf_1_0 ?_
  refine r_ldI_n (m := 1) F_16_12 rfl ?_
  refine r_iald (e := (s 2 r)) F_16_13 ty_2 h0 (lt_ln ln_2 h6) rfl ?_
  refine r_goto (t := 18) F_16_14 rfl ?_
  refine r_ireturn F_16_18 rt_16 ?_
  show Rn _ _ _ _ _ [vI (s 2 r), vI n] _ _
  refine r_icmp (t := 74) F_106_29 rfl l2 l3 ?_ ?_
  · intro e1
    replace e1 : (s 2 r) ≤ n := e1
    refine r_ldR_n (m := 0) F_106_74 rfl ?_
    refine r_ldR_n (m := 0) F_106_75 rfl ?_
    refine r_getR (J := 5) F_106_76 o_106 fl_5_41 ty_0 (by decide) rfl (kd2 kd_0_5 (by decide)) (kd9 kd_0_5 (by decide)) rf_0_5 ?_
    refine r_virt2 (A := []) (r := [vR 0]) (n := 0) F_106_79 o_106 il_5_235 rfl rfl rfl rfl ty_66 vy_103 (lay_le n_103 rfl) ?_
    refine Cl_of n_103 rfl ?_
    show Rn _ _ _ _ [some (vR 66)] [] _ _
    refine r_ldR_n (m := 0) F_103_0 rfl ?_
    refine r_getR (J := 0) F_103_1 o_103 fl_4_12 ty_66 (by decide) rfl (kd2 kd_66_0 (by decide)) (kd9 kd_66_0 (by decide)) rf_66_0 ?_
    refine r_virt2 (A := []) (r := []) (n := 0) F_103_4 o_103 il_4_67 rfl rfl rfl rfl ty_67 vy_68 (lay_le n_68 rfl) ?_
    refine Cl_of n_68 rfl ?_
    show Rn _ _ _ _ [some (vR 67)] [] _ _
    refine r_ldR_n (m := 0) F_68_0 rfl ?_
    refine r_getI (J := 2) (e := (s 67 2)) F_68_1 o_68 fl_0_19 ty_67 (by decide) rfl kd_67_2 rfl ?_
    refine r_ireturn F_68_4 rt_68 ?_
    show Rn _ _ _ _ _ [vI (s 67 2)] _ _
    refine r_ldR_n (m := 0) F_103_7 rfl ?_
    refine r_getR (J := 1) F_103_8 o_103 fl_4_18 ty_66 (by decide) rfl (kd2 kd_66_1 (by decide)) (kd9 kd_66_1 (by decide)) rf_66_1 ?_
    refine r_virt2 (A := []) (r := [vI (s 67 2)]) (n := 0) F_103_11 o_103 il_4_67 rfl rfl rfl rfl ty_69 vy_68 (lay_le n_68 rfl) ?_
    refine Cl_of n_68 rfl ?_
    show Rn _ _ _ _ [some (vR 69)] [] _ _
    refine r_ldR_n (m := 0) F_68_0 rfl ?_
    refine r_getI (J := 2) (e := (s 69 2)) F_68_1 o_68 fl_0_19 ty_69 (by decide) rfl kd_69_2 rfl ?_
    refine r_ireturn F_68_4 rt_68 ?_
    show Rn _ _ _ _ _ [vI (s 69 2), vI (s 67 2)] _ _
    refine r_iand F_103_14 rfl ?_
    refine r_ireturn F_103_15 rt_103 ?_
    show Rn _ _ _ _ _ [vI (iAnd (s 67 2) (s 69 2)), vR 0] _ _
    refine r_virt2 (A := [vI (iAnd (s 67 2) (s 69 2))]) (r := []) (n := 1) F_106_82 o_106 il_5_93 rfl rfl rfl rfl ty_0 vy_20 (lay_le n_20 rfl) ?_
    refine Cl_of n_20 rfl ?_
    show Rn _ _ _ _ [some (vR 0), some (vI (iAnd (s 67 2) (s 69 2)))] [] _ _
    refine r_ldR_n (m := 0) F_20_0 rfl ?_
    refine r_ldI_n (m := 1) F_20_1 rfl ?_
    refine r_putI (J := 9) F_20_2 o_20 fl_5_60 ty_0 (by decide) rfl kd_0_9 pf_5_9 ?_
    refine r_iconst F_20_5 ?_
    refine r_ireturn F_20_6 rt_20 ?_
    show Rn _ _ _ _ _ [vI 1] _ _
    refine r_popI F_106_85 ?_
    refine r_ldI_n (m := 3) F_106_86 rfl ?_
    refine r_ireturn F_106_87 rt_106 ?_
    exact (l4 e1)
  · intro e2
    replace e2 : n < (s 2 r) := (Int.not_le.mp e2)
    refine r_ldR_n (m := 0) F_106_32 rfl ?_
    refine r_getR (J := 5) F_106_33 o_106 fl_5_41 ty_0 (by decide) rfl (kd2 kd_0_5 (by decide)) (kd9 kd_0_5 (by decide)) rf_0_5 ?_
    refine r_ldR_n (m := 0) F_106_36 rfl ?_
    refine r_getR (J := 0) F_106_37 o_106 fl_5_14 ty_0 (by decide) rfl (kd2 kd_0_0 (by decide)) (kd9 kd_0_0 (by decide)) rf_0_0 ?_
    refine r_ldI_n (m := 1) F_106_40 rfl ?_
    refine r_ldI_n (m := 3) F_106_41 rfl ?_
    refine r_virt2 (A := [vI r, vI n]) (r := [vR 66]) (n := 2) F_106_42 o_106 il_5_86 rfl rfl rfl rfl ty_1 vy_18 (lay_le n_18 rfl) ?_
    refine sp_get1 h0 h6 n0 e2 (l5 e2) ?_
    show Rn _ _ _ _ _ [vI (s (4 + r) n), vR 66] _ _
    refine r_virt2 (A := [vI (s (4 + r) n)]) (r := []) (n := 1) F_106_45 o_106 il_5_242 rfl rfl rfl rfl ty_66 vy_108 (lay_le n_108 rfl) ?_
    refine sp_canSayT (l6 e2) ?_
    show Rn _ _ _ _ _ [vI (cns s (s (4 + r) n))] _ _
    refine r_if (t := 74) F_106_48 rfl (inR_cns _ _) ?_ ?_
    · intro e3
      replace e3 : (cns s (s (4 + r) n)) = 0 := e3
      refine r_ldR_n (m := 0) F_106_74 rfl ?_
      refine r_ldR_n (m := 0) F_106_75 rfl ?_
      refine r_getR (J := 5) F_106_76 o_106 fl_5_41 ty_0 (by decide) rfl (kd2 kd_0_5 (by decide)) (kd9 kd_0_5 (by decide)) rf_0_5 ?_
      refine r_virt2 (A := []) (r := [vR 0]) (n := 0) F_106_79 o_106 il_5_235 rfl rfl rfl rfl ty_66 vy_103 (lay_le n_103 rfl) ?_
      refine Cl_of n_103 rfl ?_
      show Rn _ _ _ _ [some (vR 66)] [] _ _
      refine r_ldR_n (m := 0) F_103_0 rfl ?_
      refine r_getR (J := 0) F_103_1 o_103 fl_4_12 ty_66 (by decide) rfl (kd2 kd_66_0 (by decide)) (kd9 kd_66_0 (by decide)) rf_66_0 ?_
      refine r_virt2 (A := []) (r := []) (n := 0) F_103_4 o_103 il_4_67 rfl rfl rfl rfl ty_67 vy_68 (lay_le n_68 rfl) ?_
      refine Cl_of n_68 rfl ?_
      show Rn _ _ _ _ [some (vR 67)] [] _ _
      refine r_ldR_n (m := 0) F_68_0 rfl ?_
      refine r_getI (J := 2) (e := (s 67 2)) F_68_1 o_68 fl_0_19 ty_67 (by decide) rfl kd_67_2 rfl ?_
      refine r_ireturn F_68_4 rt_68 ?_
      show Rn _ _ _ _ _ [vI (s 67 2)] _ _
      refine r_ldR_n (m := 0) F_103_7 rfl ?_
      refine r_getR (J := 1) F_103_8 o_103 fl_4_18 ty_66 (by decide) rfl (kd2 kd_66_1 (by decide)) (kd9 kd_66_1 (by decide)) rf_66_1 ?_
      refine r_virt2 (A := []) (r := [vI (s 67 2)]) (n := 0) F_103_11 o_103 il_4_67 rfl rfl rfl rfl ty_69 vy_68 (lay_le n_68 rfl) ?_
      refine Cl_of n_68 rfl ?_
      show Rn _ _ _ _ [some (vR 69)] [] _ _
      refine r_ldR_n (m := 0) F_68_0 rfl ?_
      refine r_getI (J := 2) (e := (s 69 2)) F_68_1 o_68 fl_0_19 ty_69 (by decide) rfl kd_69_2 rfl ?_
      refine r_ireturn F_68_4 rt_68 ?_
      show Rn _ _ _ _ _ [vI (s 69 2), vI (s 67 2)] _ _
      refine r_iand F_103_14 rfl ?_
      refine r_ireturn F_103_15 rt_103 ?_
      show Rn _ _ _ _ _ [vI (iAnd (s 67 2) (s 69 2)), vR 0] _ _
      refine r_virt2 (A := [vI (iAnd (s 67 2) (s 69 2))]) (r := []) (n := 1) F_106_82 o_106 il_5_93 rfl rfl rfl rfl ty_0 vy_20 (lay_le n_20 rfl) ?_
      refine Cl_of n_20 rfl ?_
      show Rn _ _ _ _ [some (vR 0), some (vI (iAnd (s 67 2) (s 69 2)))] [] _ _
      refine r_ldR_n (m := 0) F_20_0 rfl ?_
      refine r_ldI_n (m := 1) F_20_1 rfl ?_
      refine r_putI (J := 9) F_20_2 o_20 fl_5_60 ty_0 (by decide) rfl kd_0_9 pf_5_9 ?_
      refine r_iconst F_20_5 ?_
      refine r_ireturn F_20_6 rt_20 ?_
      show Rn _ _ _ _ _ [vI 1] _ _
      refine r_popI F_106_85 ?_
      refine r_ldI_n (m := 3) F_106_86 rfl ?_
      refine r_ireturn F_106_87 rt_106 ?_
      exact (l7 e2 e3)
    · intro e4
      replace e4 : ¬ (cns s (s (4 + r) n)) = 0 := e4
      refine r_ldR_n (m := 0) F_106_51 rfl ?_
      refine r_getR (J := 5) F_106_52 o_106 fl_5_41 ty_0 (by decide) rfl (kd2 kd_0_5 (by decide)) (kd9 kd_0_5 (by decide)) rf_0_5 ?_
      refine r_ldR_n (m := 0) F_106_55 rfl ?_
      refine r_getR (J := 0) F_106_56 o_106 fl_5_14 ty_0 (by decide) rfl (kd2 kd_0_0 (by decide)) (kd9 kd_0_0 (by decide)) rf_0_0 ?_
      refine r_ldI_n (m := 1) F_106_59 rfl ?_
      refine r_ldI_n (m := 3) F_106_60 rfl ?_
      refine r_virt2 (A := [vI r, vI n]) (r := [vR 66]) (n := 2) F_106_61 o_106 il_5_86 rfl rfl rfl rfl ty_1 vy_18 (lay_le n_18 rfl) ?_
      refine sp_get1 h0 h6 n0 e2 (l5 e2) ?_
      show Rn _ _ _ _ _ [vI (s (4 + r) n), vR 66] _ _
      refine r_virt2 (A := [vI (s (4 + r) n)]) (r := []) (n := 1) F_106_64 o_106 il_5_243 rfl rfl rfl rfl ty_66 vy_109 (lay_le n_109 rfl) ?_
      refine sp_utter (l8 e2 e4) (l9 e2 e4) (l10 e2 e4) ?_
      show Rn _ _ _ _ _ [vI (olw s (s (4 + r) n))] _ _
      refine r_popI F_106_67 ?_
      refine r_iinc (m := 3) (e := (n + 1)) (L' := [some (vR 0), some (vI r), some (vI x2), some (vI (n + 1))]) F_106_68 rfl rfl rfl rfl ?_
      refine r_goto (t := 20) F_106_71 rfl ?_
      exact (l11 e2 e4)
theorem t_X5_soonest {X : List Int32} {d : Nat} {s : m_St} {P : Option Value → m_St → Prop} {c r : Int}
    (l1 : inR c)
    (l2 : c < 0 → P (some (vI (-1))) s)
    (l3 : 0 ≤ c → 15 < c → P (some (vI (-1))) s)
    (l4 : 0 ≤ c → c ≤ 15 → inR r)
    (l5 : 0 ≤ c → c ≤ 15 → r < 0 → P (some (vI (-1))) s)
    (l6 : 0 ≤ c → c ≤ 15 → 0 ≤ r → 6 ≤ r → P (some (vI (-1))) s)
    (l7 : 0 ≤ c → c ≤ 15 → 0 ≤ r → r < 6 → inR (s 38 7))
    (l8 : 0 ≤ c → c ≤ 15 → 0 ≤ r → r < 6 → (s 38 7) = (-1) → P (some (vI (-4))) s)
    (l9 : 0 ≤ c → c ≤ 15 → 0 ≤ r → r < 6 → ¬ (s 38 7) = (-1) → upk s)
    (l10 : 0 ≤ c → c ≤ 15 → 0 ≤ r → r < 6 → ¬ (s 38 7) = (-1) → tkok (tka s))
    (l11 : 0 ≤ c → c ≤ 15 → 0 ≤ r → r < 6 → ¬ (s 38 7) = (-1) → ∀ (v11 : Int) (s11 : m_St), qFw (tka s) c 5 v11 s11 → inR v11)
    (l12 : 0 ≤ c → c ≤ 15 → 0 ≤ r → r < 6 → ¬ (s 38 7) = (-1) → ∀ (v11 : Int) (s11 : m_St), qFw (tka s) c 5 v11 s11 → v11 = (-9) → P (some (vI v11)) s11)
    (l13 : 0 ≤ c → c ≤ 15 → 0 ≤ r → r < 6 → ¬ (s 38 7) = (-1) → ∀ (v11 : Int) (s11 : m_St), qFw (tka s) c 5 v11 s11 → ¬ v11 = (-9) → 0 ≤ v11)
    (l14 : 0 ≤ c → c ≤ 15 → 0 ≤ r → r < 6 → ¬ (s 38 7) = (-1) → ∀ (v11 : Int) (s11 : m_St), qFw (tka s) c 5 v11 s11 → ¬ v11 = (-9) → v11 ≤ 40)
    (l15 : 0 ≤ c → c ≤ 15 → 0 ≤ r → r < 6 → ¬ (s 38 7) = (-1) → ∀ (v11 : Int) (s11 : m_St), qFw (tka s) c 5 v11 s11 → ¬ v11 = (-9) → (s11 1 2) = 40)
    (l16 : 0 ≤ c → c ≤ 15 → 0 ≤ r → r < 6 → ¬ (s 38 7) = (-1) → ∀ (v11 : Int) (s11 : m_St), qFw (tka s) c 5 v11 s11 → ¬ v11 = (-9) → Rn X (d + 14) 110 66 [some (vR 0), some (vI c), some (vI r), some (vI v11), some (vI 0)] [] (fil (m_upd s11 2 r v11) (4 + r) v11 0) P)
    : Cl X (d + 14) 110 [vR 0, vI c, vI r] s P := by
  refine Cl_of n_110 rfl ?_
  show Rn _ _ _ _ [some (vR 0), some (vI c), some (vI r), none, none] [] _ _
  refine r_ldI_n (m := 1) F_110_0 rfl ?_
  refine r_stat2 (A := [vI c]) (r := []) (n := 1) F_110_1 o_110 il_5_169 (by decide) rfl rfl rfl rfl (lay_le n_76 rfl) ?_
  refine Cl_of n_76 rfl ?_
  show Rn _ _ _ _ [some (vI c)] [] _ _
  refine r_ldI_n (m := 0) F_76_0 rfl ?_
  refine r_if (t := 14) F_76_1 rfl l1 ?_ ?_
  · intro e1
    replace e1 : c < 0 := e1
    refine r_iconst F_76_14 ?_
    refine r_zreturn F_76_15 rt_76 (Or.inl rfl) ?_
    show Rn _ _ _ _ _ [vI 0] _ _
    refine r_ifT (t := 18) F_110_4 rfl (by decide) (by show (0 : Int) = 0; decide) ?_
    refine r_iconst F_110_18 ?_
    refine r_ireturn F_110_19 rt_110 ?_
    exact (l2 e1)
  · intro e2
    replace e2 : 0 ≤ c := (Int.not_lt.mp e2)
    refine r_ldI_n (m := 0) F_76_4 rfl ?_
    refine r_bipush F_76_5 bi_15 ?_
    refine r_icmp (t := 14) F_76_7 rfl l1 (by decide) ?_ ?_
    · intro e3
      replace e3 : 15 < c := e3
      refine r_iconst F_76_14 ?_
      refine r_zreturn F_76_15 rt_76 (Or.inl rfl) ?_
      show Rn _ _ _ _ _ [vI 0] _ _
      refine r_ifT (t := 18) F_110_4 rfl (by decide) (by show (0 : Int) = 0; decide) ?_
      refine r_iconst F_110_18 ?_
      refine r_ireturn F_110_19 rt_110 ?_
      exact (l3 e2 e3)
    · intro e4
      replace e4 : c ≤ 15 := (Int.not_lt.mp e4)
      refine r_iconst F_76_10 ?_
      refine r_goto (t := 15) F_76_11 rfl ?_
      refine r_zreturn F_76_15 rt_76 (Or.inr rfl) ?_
      show Rn _ _ _ _ _ [vI 1] _ _
      refine r_ifF (t := 18) F_110_4 rfl (by decide) (by show ¬ ((1 : Int) = 0); decide) ?_
      refine r_ldR_n (m := 0) F_110_7 rfl ?_
      refine r_getR (J := 0) F_110_8 o_110 fl_5_14 ty_0 (by decide) rfl (kd2 kd_0_0 (by decide)) (kd9 kd_0_0 (by decide)) rf_0_0 ?_
      refine r_ldI_n (m := 2) F_110_11 rfl ?_
      refine r_virt2 (A := [vI r]) (r := []) (n := 1) F_110_12 o_110 il_5_70 rfl rfl rfl rfl ty_1 vy_9 (lay_le n_9 rfl) ?_
      refine Cl_of n_9 rfl ?_
      show Rn _ _ _ _ [some (vR 1), some (vI r)] [] _ _
      refine r_ldI_n (m := 1) F_9_0 rfl ?_
      refine r_if (t := 17) F_9_1 rfl (l4 e2 e4) ?_ ?_
      · intro e5
        replace e5 : r < 0 := e5
        refine r_iconst F_9_17 ?_
        refine r_zreturn F_9_18 rt_9 (Or.inl rfl) ?_
        show Rn _ _ _ _ _ [vI 0] _ _
        refine r_ifF (t := 20) F_110_15 rfl (by decide) (by show ¬ (¬ (0 : Int) = 0); decide) ?_
        refine r_iconst F_110_18 ?_
        refine r_ireturn F_110_19 rt_110 ?_
        exact (l5 e2 e4 e5)
      · intro e6
        replace e6 : 0 ≤ r := (Int.not_lt.mp e6)
        refine r_ldI_n (m := 1) F_9_4 rfl ?_
        refine r_ldR_n (m := 0) F_9_5 rfl ?_
        refine r_getR (J := 0) F_9_6 o_9 fl_3_19 ty_1 (by decide) rfl (kd2 kd_1_0 (by decide)) (kd9 kd_1_0 (by decide)) rf_1_0 ?_
        refine r_alen F_9_9 ty_2 (by decide) ln_2 ?_
        refine r_icmp (t := 17) F_9_10 rfl (l4 e2 e4) (by decide) ?_ ?_
        · intro e7
          replace e7 : 6 ≤ r := e7
          refine r_iconst F_9_17 ?_
          refine r_zreturn F_9_18 rt_9 (Or.inl rfl) ?_
          show Rn _ _ _ _ _ [vI 0] _ _
          refine r_ifF (t := 20) F_110_15 rfl (by decide) (by show ¬ (¬ (0 : Int) = 0); decide) ?_
          refine r_iconst F_110_18 ?_
          refine r_ireturn F_110_19 rt_110 ?_
          exact (l6 e2 e4 e6 e7)
        · intro e8
          replace e8 : r < 6 := (Int.not_le.mp e8)
          refine r_iconst F_9_13 ?_
          refine r_goto (t := 18) F_9_14 rfl ?_
          refine r_zreturn F_9_18 rt_9 (Or.inr rfl) ?_
          show Rn _ _ _ _ _ [vI 1] _ _
          refine r_ifT (t := 20) F_110_15 rfl (by decide) (by show ¬ (1 : Int) = 0; decide) ?_
          refine r_ldR_n (m := 0) F_110_20 rfl ?_
          refine r_getR (J := 4) F_110_21 o_110 fl_5_34 ty_0 (by decide) rfl (kd2 kd_0_4 (by decide)) (kd9 kd_0_4 (by decide)) rf_0_4 ?_
          refine r_virt2 (A := []) (r := []) (n := 0) F_110_24 o_110 il_5_225 rfl rfl rfl rfl ty_38 vy_84 (lay_le n_84 rfl) ?_
          refine Cl_of n_84 rfl ?_
          show Rn _ _ _ _ [some (vR 38)] [] _ _
          refine r_ldR_n (m := 0) F_84_0 rfl ?_
          refine r_getI (J := 7) (e := (s 38 7)) F_84_1 o_84 fl_1_37 ty_38 (by decide) rfl kd_38_7 rfl ?_
          refine r_iconst F_84_4 ?_
          refine r_icmp (t := 12) F_84_5 rfl (l7 e2 e4 e6 e8) (by decide) ?_ ?_
          · intro e9
            replace e9 : (s 38 7) = (-1) := e9
            refine r_iconst F_84_12 ?_
            refine r_zreturn F_84_13 rt_84 (Or.inl rfl) ?_
            show Rn _ _ _ _ _ [vI 0] _ _
            refine r_ifF (t := 33) F_110_27 rfl (by decide) (by show ¬ (¬ (0 : Int) = 0); decide) ?_
            refine r_bipush F_110_30 bi__4 ?_
            refine r_ireturn F_110_32 rt_110 ?_
            exact (l8 e2 e4 e6 e8 e9)
          · intro e10
            replace e10 : ¬ (s 38 7) = (-1) := e10
            refine r_iconst F_84_8 ?_
            refine r_goto (t := 13) F_84_9 rfl ?_
            refine r_zreturn F_84_13 rt_84 (Or.inr rfl) ?_
            show Rn _ _ _ _ _ [vI 1] _ _
            refine r_ifT (t := 33) F_110_27 rfl (by decide) (by show ¬ (1 : Int) = 0; decide) ?_
            refine r_ldR_n (m := 0) F_110_33 rfl ?_
            refine r_virt2 (A := []) (r := []) (n := 0) F_110_34 o_110 il_5_229 rfl rfl rfl rfl ty_0 vy_98 (lay_le n_98 rfl) ?_
            refine sp_takeAside (l9 e2 e4 e6 e8 e10) ?_
            show Rn _ _ _ _ _ [] _ _
            refine r_ldR_n (m := 0) F_110_37 rfl ?_
            refine r_getR (J := 5) F_110_38 o_110 fl_5_41 ty_0 (by decide) rfl (kd2 kd_0_5 (by decide)) (kd9 kd_0_5 (by decide)) rf_0_5 ?_
            refine r_ldI_n (m := 1) F_110_41 rfl ?_
            refine r_iconst F_110_42 ?_
            refine r_virt2 (A := [vI c, vI 5]) (r := []) (n := 2) F_110_43 o_110 il_5_246 rfl rfl rfl rfl ty_66 vy_111 (lay_le n_111 rfl) ?_
            refine sp_fewest (l10 e2 e4 e6 e8 e10) l1 (by decide) (by decide) ?_
            intro v11 s11 q11
            show Rn _ _ _ _ _ [vI v11] _ _
            refine r_stI_n (m := 3) (L' := [some (vR 0), some (vI c), some (vI r), some (vI v11), none]) F_110_46 rfl rfl ?_
            refine r_ldI_n (m := 3) F_110_47 rfl ?_
            refine r_bipush F_110_48 bi__9 ?_
            refine r_icmp (t := 97) F_110_50 rfl (l11 e2 e4 e6 e8 e10 v11 s11 q11) (by decide) ?_ ?_
            · intro e12
              replace e12 : v11 = (-9) := e12
              refine r_ldI_n (m := 3) F_110_97 rfl ?_
              refine r_ireturn F_110_98 rt_110 ?_
              exact (l12 e2 e4 e6 e8 e10 v11 s11 q11 e12)
            · intro e13
              replace e13 : ¬ v11 = (-9) := e13
              refine r_ldR_n (m := 0) F_110_53 rfl ?_
              refine r_getR (J := 0) F_110_54 o_110 fl_5_14 ty_0 (by decide) rfl (kd2 kd_0_0 (by decide)) (kd9 kd_0_0 (by decide)) rf_0_0 ?_
              refine r_ldI_n (m := 2) F_110_57 rfl ?_
              refine r_ldI_n (m := 3) F_110_58 rfl ?_
              refine r_iconst F_110_59 ?_
              refine r_virt2 (A := [vI r, vI v11, vI 0]) (r := []) (n := 3) F_110_60 o_110 il_5_78 rfl rfl rfl rfl ty_1 vy_11 (lay_le n_11 rfl) ?_
              refine sp_make1 e6 e8 (l13 e2 e4 e6 e8 e10 v11 s11 q11 e13) (l14 e2 e4 e6 e8 e10 v11 s11 q11 e13) (l15 e2 e4 e6 e8 e10 v11 s11 q11 e13) ?_
              show Rn _ _ _ _ _ [] _ _
              refine r_iconst F_110_63 ?_
              refine r_stI (m := 4) (L' := [some (vR 0), some (vI c), some (vI r), some (vI v11), some (vI 0)]) F_110_64 rfl rfl ?_
              exact (l16 e2 e4 e6 e8 e10 v11 s11 q11 e13)
theorem t_X5_soonest_66 {X : List Int32} {d : Nat} {s : m_St} {P : Option Value → m_St → Prop} {c r n i : Int} (h0 : 0 ≤ r) (h6 : r < 6) (i0 : 0 ≤ i)
    (l1 : inR i)
    (l2 : inR n)
    (l3 : n ≤ i → P (some (vI n)) s)
    (l4 : i < n → 5 ≤ i → i < (s 2 r))
    (l5 : i < n → 5 ≤ i → (s 2 r) ≤ 40)
    (l6 : i < n → 5 ≤ i → Rn X (d + 14) 110 66 [some (vR 0), some (vI c), some (vI r), some (vI n), some (vI (i + 1))] [] (m_upd s (4 + r) i 0) P)
    (l7 : i < n → i < 5 → i < (s 2 r))
    (l8 : i < n → i < 5 → (s 2 r) ≤ 40)
    (l9 : i < n → i < 5 → Rn X (d + 14) 110 66 [some (vR 0), some (vI c), some (vI r), some (vI n), some (vI (i + 1))] [] (m_upd s (4 + r) i (s 71 i)) P)
    : Rn X (d + 14) 110 66 [some (vR 0), some (vI c), some (vI r), some (vI n), some (vI i)] [] s P := by
  refine r_ldI (m := 4) F_110_66 rfl ?_
  refine r_ldI_n (m := 3) F_110_68 rfl ?_
  refine r_icmp (t := 97) F_110_69 rfl l1 l2 ?_ ?_
  · intro e1
    replace e1 : n ≤ i := e1
    refine r_ldI_n (m := 3) F_110_97 rfl ?_
    refine r_ireturn F_110_98 rt_110 ?_
    exact (l3 e1)
  · intro e2
    replace e2 : i < n := (Int.not_le.mp e2)
    refine r_ldR_n (m := 0) F_110_72 rfl ?_
    refine r_getR (J := 0) F_110_73 o_110 fl_5_14 ty_0 (by decide) rfl (kd2 kd_0_0 (by decide)) (kd9 kd_0_0 (by decide)) rf_0_0 ?_
    refine r_ldI_n (m := 2) F_110_76 rfl ?_
    refine r_ldI (m := 4) F_110_77 rfl ?_
    refine r_ldR_n (m := 0) F_110_79 rfl ?_
    refine r_getR (J := 5) F_110_80 o_110 fl_5_41 ty_0 (by decide) rfl (kd2 kd_0_5 (by decide)) (kd9 kd_0_5 (by decide)) rf_0_5 ?_
    refine r_ldI (m := 4) F_110_83 rfl ?_
    refine r_virt2 (A := [vI i]) (r := [vI i, vI r, vR 1]) (n := 1) F_110_85 o_110 il_5_249 rfl rfl rfl rfl ty_66 vy_115 (lay_le n_115 rfl) ?_
    refine Cl_of n_115 rfl ?_
    show Rn _ _ _ _ [some (vR 66), some (vI i)] [] _ _
    refine r_ldI_n (m := 1) F_115_0 rfl ?_
    refine r_ifF (t := 18) F_115_1 rfl l1 (Int.not_lt.mpr i0) ?_
    refine r_ldI_n (m := 1) F_115_4 rfl ?_
    refine r_iconst F_115_5 ?_
    refine r_icmp (t := 18) F_115_6 rfl l1 (by decide) ?_ ?_
    · intro e3
      replace e3 : 5 ≤ i := e3
      refine r_iconst F_115_18 ?_
      refine r_ireturn F_115_19 rt_115 ?_
      show Rn _ _ _ _ _ [vI 0, vI i, vI r, vR 1] _ _
      refine r_virt2 (A := [vI r, vI i, vI 0]) (r := []) (n := 3) F_110_88 o_110 il_5_90 rfl rfl rfl rfl ty_1 vy_19 (lay_le n_19 rfl) ?_
      refine sp_set1 h0 h6 i0 (l4 e2 e3) (l5 e2 e3) ?_
      show Rn _ _ _ _ _ [] _ _
      refine r_iinc (m := 4) (e := (i + 1)) (L' := [some (vR 0), some (vI c), some (vI r), some (vI n), some (vI (i + 1))]) F_110_91 rfl rfl rfl rfl ?_
      refine r_goto (t := 66) F_110_94 rfl ?_
      exact (l6 e2 e3)
    · intro e4
      replace e4 : i < 5 := (Int.not_le.mp e4)
      refine r_ldR_n (m := 0) F_115_9 rfl ?_
      refine r_getR (J := 3) F_115_10 o_115 fl_4_25 ty_66 (by decide) rfl (kd2 kd_66_3 (by decide)) (kd9 kd_66_3 (by decide)) rf_66_3 ?_
      refine r_ldI_n (m := 1) F_115_13 rfl ?_
      refine r_iald (e := (s 71 i)) F_115_14 ty_71 i0 (lt_ln ln_71 e4) rfl ?_
      refine r_goto (t := 19) F_115_15 rfl ?_
      refine r_ireturn F_115_19 rt_115 ?_
      show Rn _ _ _ _ _ [vI (s 71 i), vI i, vI r, vR 1] _ _
      refine r_virt2 (A := [vI r, vI i, vI (s 71 i)]) (r := []) (n := 3) F_110_88 o_110 il_5_90 rfl rfl rfl rfl ty_1 vy_19 (lay_le n_19 rfl) ?_
      refine sp_set1 h0 h6 i0 (l7 e2 e4) (l8 e2 e4) ?_
      show Rn _ _ _ _ _ [] _ _
      refine r_iinc (m := 4) (e := (i + 1)) (L' := [some (vR 0), some (vI c), some (vI r), some (vI n), some (vI (i + 1))]) F_110_91 rfl rfl rfl rfl ?_
      refine r_goto (t := 66) F_110_94 rfl ?_
      exact (l9 e2 e4)
theorem t_X5_ways {X : List Int32} {d : Nat} {s : m_St} {P : Option Value → m_St → Prop} {c n : Int}
    (l1 : inR c)
    (l2 : c < 0 → P (some (vI (-1))) s)
    (l3 : 0 ≤ c → 15 < c → P (some (vI (-1))) s)
    (l4 : 0 ≤ c → c ≤ 15 → inR n)
    (l5 : 0 ≤ c → c ≤ 15 → n < 0 → P (some (vI (-1))) s)
    (l6 : 0 ≤ c → c ≤ 15 → 0 ≤ n → n ≤ 5 → inR (s 38 7))
    (l7 : 0 ≤ c → c ≤ 15 → 0 ≤ n → n ≤ 5 → (s 38 7) = (-1) → P (some (vI (-4))) s)
    (l8 : 0 ≤ c → c ≤ 15 → 0 ≤ n → n ≤ 5 → ¬ (s 38 7) = (-1) → upk s)
    (l9 : 0 ≤ c → c ≤ 15 → 0 ≤ n → n ≤ 5 → ¬ (s 38 7) = (-1) → tkok (tka s))
    (l10 : 0 ≤ c → c ≤ 15 → 0 ≤ n → n ≤ 5 → ¬ (s 38 7) = (-1) → ¬ (cmpJ ((tlS (tka s) c n) 66 5) 0) = 0 → P (some (vI 1)) (m_upd (m_upd (m_upd (tlS (tka s) c n) 0 10 ((tlS (tka s) c n) 66 5)) 0 11 1) 0 9 ((tlS (tka s) c n) 66 6)))
    (l11 : 0 ≤ c → c ≤ 15 → 0 ≤ n → n ≤ 5 → ¬ (s 38 7) = (-1) → (cmpJ ((tlS (tka s) c n) 66 5) 0) = 0 → P (some (vI 1)) (m_upd (m_upd (m_upd (tlS (tka s) c n) 0 10 ((tlS (tka s) c n) 66 5)) 0 11 1) 0 9 0))
    (l12 : 0 ≤ c → c ≤ 15 → 0 ≤ n → 5 < n → P (some (vI (-1))) s)
    : Cl X (d + 14) 116 [vR 0, vI c, vI n] s P := by
  refine Cl_of n_116 rfl ?_
  show Rn _ _ _ _ [some (vR 0), some (vI c), some (vI n)] [] _ _
  refine r_ldI_n (m := 1) F_116_0 rfl ?_
  refine r_stat2 (A := [vI c]) (r := []) (n := 1) F_116_1 o_116 il_5_169 (by decide) rfl rfl rfl rfl (lay_le n_76 rfl) ?_
  refine Cl_of n_76 rfl ?_
  show Rn _ _ _ _ [some (vI c)] [] _ _
  refine r_ldI_n (m := 0) F_76_0 rfl ?_
  refine r_if (t := 14) F_76_1 rfl l1 ?_ ?_
  · intro e1
    replace e1 : c < 0 := e1
    refine r_iconst F_76_14 ?_
    refine r_zreturn F_76_15 rt_76 (Or.inl rfl) ?_
    show Rn _ _ _ _ _ [vI 0] _ _
    refine r_ifT (t := 16) F_116_4 rfl (by decide) (by show (0 : Int) = 0; decide) ?_
    refine r_iconst F_116_16 ?_
    refine r_ireturn F_116_17 rt_116 ?_
    exact (l2 e1)
  · intro e2
    replace e2 : 0 ≤ c := (Int.not_lt.mp e2)
    refine r_ldI_n (m := 0) F_76_4 rfl ?_
    refine r_bipush F_76_5 bi_15 ?_
    refine r_icmp (t := 14) F_76_7 rfl l1 (by decide) ?_ ?_
    · intro e3
      replace e3 : 15 < c := e3
      refine r_iconst F_76_14 ?_
      refine r_zreturn F_76_15 rt_76 (Or.inl rfl) ?_
      show Rn _ _ _ _ _ [vI 0] _ _
      refine r_ifT (t := 16) F_116_4 rfl (by decide) (by show (0 : Int) = 0; decide) ?_
      refine r_iconst F_116_16 ?_
      refine r_ireturn F_116_17 rt_116 ?_
      exact (l3 e2 e3)
    · intro e4
      replace e4 : c ≤ 15 := (Int.not_lt.mp e4)
      refine r_iconst F_76_10 ?_
      refine r_goto (t := 15) F_76_11 rfl ?_
      refine r_zreturn F_76_15 rt_76 (Or.inr rfl) ?_
      show Rn _ _ _ _ _ [vI 1] _ _
      refine r_ifF (t := 16) F_116_4 rfl (by decide) (by show ¬ ((1 : Int) = 0); decide) ?_
      refine r_ldI_n (m := 2) F_116_7 rfl ?_
      refine r_if (t := 16) F_116_8 rfl (l4 e2 e4) ?_ ?_
      · intro e5
        replace e5 : n < 0 := e5
        refine r_iconst F_116_16 ?_
        refine r_ireturn F_116_17 rt_116 ?_
        exact (l5 e2 e4 e5)
      · intro e6
        replace e6 : 0 ≤ n := (Int.not_lt.mp e6)
        refine r_ldI_n (m := 2) F_116_11 rfl ?_
        refine r_iconst F_116_12 ?_
        refine r_icmp (t := 18) F_116_13 rfl (l4 e2 e4) (by decide) ?_ ?_
        · intro e7
          replace e7 : n ≤ 5 := e7
          refine r_ldR_n (m := 0) F_116_18 rfl ?_
          refine r_getR (J := 4) F_116_19 o_116 fl_5_34 ty_0 (by decide) rfl (kd2 kd_0_4 (by decide)) (kd9 kd_0_4 (by decide)) rf_0_4 ?_
          refine r_virt2 (A := []) (r := []) (n := 0) F_116_22 o_116 il_5_225 rfl rfl rfl rfl ty_38 vy_84 (lay_le n_84 rfl) ?_
          refine Cl_of n_84 rfl ?_
          show Rn _ _ _ _ [some (vR 38)] [] _ _
          refine r_ldR_n (m := 0) F_84_0 rfl ?_
          refine r_getI (J := 7) (e := (s 38 7)) F_84_1 o_84 fl_1_37 ty_38 (by decide) rfl kd_38_7 rfl ?_
          refine r_iconst F_84_4 ?_
          refine r_icmp (t := 12) F_84_5 rfl (l6 e2 e4 e6 e7) (by decide) ?_ ?_
          · intro e8
            replace e8 : (s 38 7) = (-1) := e8
            refine r_iconst F_84_12 ?_
            refine r_zreturn F_84_13 rt_84 (Or.inl rfl) ?_
            show Rn _ _ _ _ _ [vI 0] _ _
            refine r_ifF (t := 31) F_116_25 rfl (by decide) (by show ¬ (¬ (0 : Int) = 0); decide) ?_
            refine r_bipush F_116_28 bi__4 ?_
            refine r_ireturn F_116_30 rt_116 ?_
            exact (l7 e2 e4 e6 e7 e8)
          · intro e9
            replace e9 : ¬ (s 38 7) = (-1) := e9
            refine r_iconst F_84_8 ?_
            refine r_goto (t := 13) F_84_9 rfl ?_
            refine r_zreturn F_84_13 rt_84 (Or.inr rfl) ?_
            show Rn _ _ _ _ _ [vI 1] _ _
            refine r_ifT (t := 31) F_116_25 rfl (by decide) (by show ¬ (1 : Int) = 0; decide) ?_
            refine r_ldR_n (m := 0) F_116_31 rfl ?_
            refine r_virt2 (A := []) (r := []) (n := 0) F_116_32 o_116 il_5_229 rfl rfl rfl rfl ty_0 vy_98 (lay_le n_98 rfl) ?_
            refine sp_takeAside (l8 e2 e4 e6 e7 e9) ?_
            show Rn _ _ _ _ _ [] _ _
            refine r_ldR_n (m := 0) F_116_35 rfl ?_
            refine r_ldR_n (m := 0) F_116_36 rfl ?_
            refine r_getR (J := 5) F_116_37 o_116 fl_5_41 ty_0 (by decide) rfl (kd2 kd_0_5 (by decide)) (kd9 kd_0_5 (by decide)) rf_0_5 ?_
            refine r_ldI_n (m := 1) F_116_40 rfl ?_
            refine r_ldI_n (m := 2) F_116_41 rfl ?_
            refine r_virt2 (A := [vI c, vI n]) (r := [vR 0]) (n := 2) F_116_42 o_116 il_5_252 rfl rfl rfl rfl ty_66 vy_117 (lay_le n_117 rfl) ?_
            refine sp_talksTo (l9 e2 e4 e6 e7 e9) l1 e6 e7 ?_
            show Rn _ _ _ _ _ [vJ ((tlS (tka s) c n) 66 5), vR 0] _ _
            refine r_putJ (J := 10) F_116_45 o_116 fl_5_63 ty_0 (by decide) rfl kd_0_10 pf_5_10 ?_
            refine r_ldR_n (m := 0) F_116_48 rfl ?_
            refine r_lconst (e := 1) F_116_49 rfl ?_
            refine r_putJ (J := 11) F_116_50 o_116 fl_5_67 ty_0 (by decide) rfl kd_0_11 pf_5_11 ?_
            refine r_ldR_n (m := 0) F_116_53 rfl ?_
            refine r_ldR_n (m := 0) F_116_54 rfl ?_
            refine r_getR (J := 5) F_116_55 o_116 fl_5_41 ty_0 (by decide) rfl (kd2 kd_0_5 (by decide)) (kd9 kd_0_5 (by decide)) rf_0_5 ?_
            refine r_virt2 (A := []) (r := [vR 0]) (n := 0) F_116_58 o_116 il_5_256 rfl rfl rfl rfl ty_66 vy_121 (lay_le n_121 rfl) ?_
            refine Cl_of n_121 rfl ?_
            show Rn _ _ _ _ [some (vR 66)] [] _ _
            refine r_ldR_n (m := 0) F_121_0 rfl ?_
            refine r_getJ (J := 5) (e := ((tlS (tka s) c n) 66 5)) F_121_1 o_121 fl_4_32 ty_66 (by decide) rfl kd_66_5 ((upd_nc (by decide)).trans (upd_nc (by decide))) ?_
            refine r_lconst (e := 0) F_121_4 rfl ?_
            refine r_lcmp F_121_5 ?_
            refine r_if (t := 13) F_121_6 rfl (inR_cmpJ _ _) ?_ ?_
            · intro e10
              replace e10 : ¬ (cmpJ ((tlS (tka s) c n) 66 5) 0) = 0 := e10
              refine r_ldR_n (m := 0) F_121_13 rfl ?_
              refine r_getI (J := 6) (e := ((tlS (tka s) c n) 66 6)) F_121_14 o_121 fl_4_36 ty_66 (by decide) rfl kd_66_6 ((upd_nc (by decide)).trans (upd_nc (by decide))) ?_
              refine r_ireturn F_121_17 rt_121 ?_
              show Rn _ _ _ _ _ [vI ((tlS (tka s) c n) 66 6), vR 0] _ _
              refine r_virt2 (A := [vI ((tlS (tka s) c n) 66 6)]) (r := []) (n := 1) F_116_61 o_116 il_5_93 rfl rfl rfl rfl ty_0 vy_20 (lay_le n_20 rfl) ?_
              refine Cl_of n_20 rfl ?_
              show Rn _ _ _ _ [some (vR 0), some (vI ((tlS (tka s) c n) 66 6))] [] _ _
              refine r_ldR_n (m := 0) F_20_0 rfl ?_
              refine r_ldI_n (m := 1) F_20_1 rfl ?_
              refine r_putI (J := 9) F_20_2 o_20 fl_5_60 ty_0 (by decide) rfl kd_0_9 pf_5_9 ?_
              refine r_iconst F_20_5 ?_
              refine r_ireturn F_20_6 rt_20 ?_
              show Rn _ _ _ _ _ [vI 1] _ _
              refine r_ireturn F_116_64 rt_116 ?_
              exact (l10 e2 e4 e6 e7 e9 e10)
            · intro e11
              replace e11 : (cmpJ ((tlS (tka s) c n) 66 5) 0) = 0 := (Classical.not_not.mp e11)
              refine r_iconst F_121_9 ?_
              refine r_goto (t := 17) F_121_10 rfl ?_
              refine r_ireturn F_121_17 rt_121 ?_
              show Rn _ _ _ _ _ [vI 0, vR 0] _ _
              refine r_virt2 (A := [vI 0]) (r := []) (n := 1) F_116_61 o_116 il_5_93 rfl rfl rfl rfl ty_0 vy_20 (lay_le n_20 rfl) ?_
              refine Cl_of n_20 rfl ?_
              show Rn _ _ _ _ [some (vR 0), some (vI 0)] [] _ _
              refine r_ldR_n (m := 0) F_20_0 rfl ?_
              refine r_ldI_n (m := 1) F_20_1 rfl ?_
              refine r_putI (J := 9) F_20_2 o_20 fl_5_60 ty_0 (by decide) rfl kd_0_9 pf_5_9 ?_
              refine r_iconst F_20_5 ?_
              refine r_ireturn F_20_6 rt_20 ?_
              show Rn _ _ _ _ _ [vI 1] _ _
              refine r_ireturn F_116_64 rt_116 ?_
              exact (l11 e2 e4 e6 e7 e9 e11)
        · intro e12
          replace e12 : 5 < n := (Int.not_le.mp e12)
          refine r_iconst F_116_16 ?_
          refine r_ireturn F_116_17 rt_116 ?_
          exact (l12 e2 e4 e6 e12)
theorem t_X5_match {X : List Int32} {d : Nat} {s : m_St} {P : Option Value → m_St → Prop}
    (l1 : inR (s 38 3))
    (l2 : ¬ (s 38 3) = 0 → Rn X (d + 14) 122 23 [some (vR 0), some (vI (s 38 3)), some (vI (-9)), some (vI 3), some (vI 0), none, none] [] s P)
    (l3 : (s 38 3) = 0 → P (some (vI (-4))) s)
    : Cl X (d + 14) 122 [vR 0] s P := by
  refine Cl_of n_122 rfl ?_
  show Rn _ _ _ _ [some (vR 0), none, none, none, none, none, none] [] _ _
  refine r_ldR_n (m := 0) F_122_0 rfl ?_
  refine r_getR (J := 4) F_122_1 o_122 fl_5_34 ty_0 (by decide) rfl (kd2 kd_0_4 (by decide)) (kd9 kd_0_4 (by decide)) rf_0_4 ?_
  refine r_virt2 (A := []) (r := []) (n := 0) F_122_4 o_122 il_5_132 rfl rfl rfl rfl ty_38 vy_64 (lay_le n_64 rfl) ?_
  refine Cl_of n_64 rfl ?_
  show Rn _ _ _ _ [some (vR 38)] [] _ _
  refine r_ldR_n (m := 0) F_64_0 rfl ?_
  refine r_getI (J := 3) (e := (s 38 3)) F_64_1 o_64 fl_1_24 ty_38 (by decide) rfl kd_38_3 rfl ?_
  refine r_ireturn F_64_4 rt_64 ?_
  show Rn _ _ _ _ _ [vI (s 38 3)] _ _
  refine r_stI_n (m := 1) (L' := [some (vR 0), some (vI (s 38 3)), none, none, none, none, none]) F_122_7 rfl rfl ?_
  refine r_ldI_n (m := 1) F_122_8 rfl ?_
  refine r_if (t := 15) F_122_9 rfl l1 ?_ ?_
  · intro e1
    replace e1 : ¬ (s 38 3) = 0 := e1
    refine r_bipush F_122_15 bi__9 ?_
    refine r_stI_n (m := 2) (L' := [some (vR 0), some (vI (s 38 3)), some (vI (-9)), none, none, none, none]) F_122_17 rfl rfl ?_
    refine r_iconst F_122_18 ?_
    refine r_stI_n (m := 3) (L' := [some (vR 0), some (vI (s 38 3)), some (vI (-9)), some (vI 3), none, none, none]) F_122_19 rfl rfl ?_
    refine r_iconst F_122_20 ?_
    refine r_stI (m := 4) (L' := [some (vR 0), some (vI (s 38 3)), some (vI (-9)), some (vI 3), some (vI 0), none, none]) F_122_21 rfl rfl ?_
    exact (l2 e1)
  · intro e2
    replace e2 : (s 38 3) = 0 := (Classical.not_not.mp e2)
    refine r_bipush F_122_12 bi__4 ?_
    refine r_ireturn F_122_14 rt_122 ?_
    exact (l3 e2)
theorem t_X5_match_23 {X : List Int32} {d : Nat} {s : m_St} {P : Option Value → m_St → Prop} {n t m i : Int} {z5 z6 : Option Value} (i0 : 0 ≤ i)
    (l1 : inR i)
    (l2 : inR n)
    (l3 : n ≤ i → inR t)
    (l4 : n ≤ i → t = (-9) → P (some (vI t)) s)
    (l5 : n ≤ i → ¬ t = (-9) → P (some (vI t)) (m_upd s 0 9 (m + 1)))
    (l6 : i < n → Rn X (d + 14) 122 35 [some (vR 0), some (vI n), some (vI t), some (vI m), some (vI i), some (vI (i + 1)), z6] [] s P)
    : Rn X (d + 14) 122 23 [some (vR 0), some (vI n), some (vI t), some (vI m), some (vI i), z5, z6] [] s P := by
  refine r_ldI (m := 4) F_122_23 rfl ?_
  refine r_ldI_n (m := 1) F_122_25 rfl ?_
  refine r_icmp (t := 117) F_122_26 rfl l1 l2 ?_ ?_
  · intro e1
    replace e1 : n ≤ i := e1
    refine r_ldI_n (m := 2) F_122_117 rfl ?_
    refine r_bipush F_122_118 bi__9 ?_
    refine r_icmp (t := 131) F_122_120 rfl (l3 e1) (by decide) ?_ ?_
    · intro e2
      replace e2 : t = (-9) := e2
      refine r_ldI_n (m := 2) F_122_131 rfl ?_
      refine r_ireturn F_122_132 rt_122 ?_
      exact (l4 e1 e2)
    · intro e3
      replace e3 : ¬ t = (-9) := e3
      refine r_ldR_n (m := 0) F_122_123 rfl ?_
      refine r_ldI_n (m := 3) F_122_124 rfl ?_
      refine r_iconst F_122_125 ?_
      refine r_iadd F_122_126 rfl ?_
      refine r_virt2 (A := [vI (m + 1)]) (r := []) (n := 1) F_122_127 o_122 il_5_93 rfl rfl rfl rfl ty_0 vy_20 (lay_le n_20 rfl) ?_
      refine Cl_of n_20 rfl ?_
      show Rn _ _ _ _ [some (vR 0), some (vI (m + 1))] [] _ _
      refine r_ldR_n (m := 0) F_20_0 rfl ?_
      refine r_ldI_n (m := 1) F_20_1 rfl ?_
      refine r_putI (J := 9) F_20_2 o_20 fl_5_60 ty_0 (by decide) rfl kd_0_9 pf_5_9 ?_
      refine r_iconst F_20_5 ?_
      refine r_ireturn F_20_6 rt_20 ?_
      show Rn _ _ _ _ _ [vI 1] _ _
      refine r_popI F_122_130 ?_
      refine r_ldI_n (m := 2) F_122_131 rfl ?_
      refine r_ireturn F_122_132 rt_122 ?_
      exact (l5 e1 e3)
  · intro e4
    replace e4 : i < n := (Int.not_le.mp e4)
    refine r_ldI (m := 4) F_122_29 rfl ?_
    refine r_iconst F_122_31 ?_
    refine r_iadd F_122_32 rfl ?_
    refine r_stI (m := 5) (L' := [some (vR 0), some (vI n), some (vI t), some (vI m), some (vI i), some (vI (i + 1)), z6]) F_122_33 rfl rfl ?_
    exact (l6 e4)
theorem t_X5_match_35 {X : List Int32} {d : Nat} {s : m_St} {P : Option Value → m_St → Prop} {n t m i j : Int} {z6 : Option Value} (i0 : 0 ≤ i) (j0 : 0 ≤ j) (i6 : i < 6)
    (l1 : inR j)
    (l2 : inR n)
    (l3 : n ≤ j → Rn X (d + 14) 122 23 [some (vR 0), some (vI n), some (vI t), some (vI m), some (vI (i + 1)), some (vI j), z6] [] s P)
    (l4 : j < n → inR i)
    (l5 : j < n → 6 ≤ j → gok s (44 + 4 * i))
    (l6 : j < n → 6 ≤ j → gok s 44)
    (l7 : j < n → 6 ≤ j → ((44 + 4 * i) : Int) < 66)
    (l8 : j < n → 6 ≤ j → (44 : Int) < 66)
    (l9 : j < n → 6 ≤ j → tkok (btw s (44 + 4 * i) 44 (s 38 5)))
    (l10 : j < n → 6 ≤ j → -1 ≤ m)
    (l11 : j < n → 6 ≤ j → m ≤ 5)
    (l12 : j < n → 6 ≤ j → ∀ (v4 : Int) (s4 : m_St), qFw (btw s (44 + 4 * i) 44 (s 38 5)) 0 m v4 s4 → inR v4)
    (l13 : j < n → 6 ≤ j → ∀ (v4 : Int) (s4 : m_St), qFw (btw s (44 + 4 * i) 44 (s 38 5)) 0 m v4 s4 → v4 = (-9) → Rn X (d + 14) 122 35 [some (vR 0), some (vI n), some (vI t), some (vI m), some (vI i), some (vI (j + 1)), some (vI v4)] [] s4 P)
    (l14 : j < n → 6 ≤ j → ∀ (v4 : Int) (s4 : m_St), qFw (btw s (44 + 4 * i) 44 (s 38 5)) 0 m v4 s4 → ¬ v4 = (-9) → Rn X (d + 14) 122 35 [some (vR 0), some (vI n), some (vI ((10 * i) + j)), some (vI (v4 - 1)), some (vI i), some (vI (j + 1)), some (vI v4)] [] s4 P)
    (l15 : j < n → j < 6 → gok s (44 + 4 * i))
    (l16 : j < n → j < 6 → gok s (44 + 4 * j))
    (l17 : j < n → j < 6 → ((44 + 4 * i) : Int) < 66)
    (l18 : j < n → j < 6 → ((44 + 4 * j) : Int) < 66)
    (l19 : j < n → j < 6 → tkok (btw s (44 + 4 * i) (44 + 4 * j) (s 38 5)))
    (l20 : j < n → j < 6 → -1 ≤ m)
    (l21 : j < n → j < 6 → m ≤ 5)
    (l22 : j < n → j < 6 → ∀ (v8 : Int) (s8 : m_St), qFw (btw s (44 + 4 * i) (44 + 4 * j) (s 38 5)) 0 m v8 s8 → inR v8)
    (l23 : j < n → j < 6 → ∀ (v8 : Int) (s8 : m_St), qFw (btw s (44 + 4 * i) (44 + 4 * j) (s 38 5)) 0 m v8 s8 → v8 = (-9) → Rn X (d + 14) 122 35 [some (vR 0), some (vI n), some (vI t), some (vI m), some (vI i), some (vI (j + 1)), some (vI v8)] [] s8 P)
    (l24 : j < n → j < 6 → ∀ (v8 : Int) (s8 : m_St), qFw (btw s (44 + 4 * i) (44 + 4 * j) (s 38 5)) 0 m v8 s8 → ¬ v8 = (-9) → Rn X (d + 14) 122 35 [some (vR 0), some (vI n), some (vI ((10 * i) + j)), some (vI (v8 - 1)), some (vI i), some (vI (j + 1)), some (vI v8)] [] s8 P)
    : Rn X (d + 14) 122 35 [some (vR 0), some (vI n), some (vI t), some (vI m), some (vI i), some (vI j), z6] [] s P := by
  refine r_ldI (m := 5) F_122_35 rfl ?_
  refine r_ldI_n (m := 1) F_122_37 rfl ?_
  refine r_icmp (t := 111) F_122_38 rfl l1 l2 ?_ ?_
  · intro e1
    replace e1 : n ≤ j := e1
    refine r_iinc (m := 4) (e := (i + 1)) (L' := [some (vR 0), some (vI n), some (vI t), some (vI m), some (vI (i + 1)), some (vI j), z6]) F_122_111 rfl rfl rfl rfl ?_
    refine r_goto (t := 23) F_122_114 rfl ?_
    exact (l3 e1)
  · intro e2
    replace e2 : j < n := (Int.not_le.mp e2)
    refine r_ldR_n (m := 0) F_122_41 rfl ?_
    refine r_getR (J := 5) F_122_42 o_122 fl_5_41 ty_0 (by decide) rfl (kd2 kd_0_5 (by decide)) (kd9 kd_0_5 (by decide)) rf_0_5 ?_
    refine r_ldR_n (m := 0) F_122_45 rfl ?_
    refine r_getR (J := 4) F_122_46 o_122 fl_5_34 ty_0 (by decide) rfl (kd2 kd_0_4 (by decide)) (kd9 kd_0_4 (by decide)) rf_0_4 ?_
    refine r_ldI (m := 4) F_122_49 rfl ?_
    refine r_virt2 (A := [vI i]) (r := [vR 66]) (n := 1) F_122_51 o_122 il_5_142 rfl rfl rfl rfl ty_38 vy_58 (lay_le n_58 rfl) ?_
    refine Cl_of n_58 rfl ?_
    show Rn _ _ _ _ [some (vR 38), some (vI i)] [] _ _
    refine r_ldR_n (m := 0) F_58_0 rfl ?_
    refine r_getR (J := 1) F_58_1 o_58 fl_1_17 ty_38 (by decide) rfl (kd2 kd_38_1 (by decide)) (kd9 kd_38_1 (by decide)) rf_38_1 ?_
    refine r_ldI_n (m := 1) F_58_4 rfl ?_
    refine r_ifF (t := 18) F_58_5 rfl (l4 e2) (Int.not_lt.mpr i0) ?_
    refine r_ldI_n (m := 1) F_58_8 rfl ?_
    refine r_bipush F_58_9 bi_6 ?_
    refine r_icmpF (t := 18) F_58_11 rfl (l4 e2) (by decide) (Int.not_le.mpr i6) ?_
    refine r_ldI_n (m := 1) F_58_14 rfl ?_
    refine r_goto (t := 19) F_58_15 rfl ?_
    refine r_aald F_58_19 ty_40 (by decide) i0 (lt_ln ln_40 i6) (rw_40 ⟨i0, i6⟩).2 ?_
    refine r_areturn F_58_20 rob_58 ?_
    show Rn _ _ _ _ _ [vR (44 + 4 * i), vR 66] _ _
    refine r_ldR_n (m := 0) F_122_54 rfl ?_
    refine r_getR (J := 4) F_122_55 o_122 fl_5_34 ty_0 (by decide) rfl (kd2 kd_0_4 (by decide)) (kd9 kd_0_4 (by decide)) rf_0_4 ?_
    refine r_ldI (m := 5) F_122_58 rfl ?_
    refine r_virt2 (A := [vI j]) (r := [vR (44 + 4 * i), vR 66]) (n := 1) F_122_60 o_122 il_5_142 rfl rfl rfl rfl ty_38 vy_58 (lay_le n_58 rfl) ?_
    refine Cl_of n_58 rfl ?_
    show Rn _ _ _ _ [some (vR 38), some (vI j)] [] _ _
    refine r_ldR_n (m := 0) F_58_0 rfl ?_
    refine r_getR (J := 1) F_58_1 o_58 fl_1_17 ty_38 (by decide) rfl (kd2 kd_38_1 (by decide)) (kd9 kd_38_1 (by decide)) rf_38_1 ?_
    refine r_ldI_n (m := 1) F_58_4 rfl ?_
    refine r_ifF (t := 18) F_58_5 rfl l1 (Int.not_lt.mpr j0) ?_
    refine r_ldI_n (m := 1) F_58_8 rfl ?_
    refine r_bipush F_58_9 bi_6 ?_
    refine r_icmp (t := 18) F_58_11 rfl l1 (by decide) ?_ ?_
    · intro e3
      replace e3 : 6 ≤ j := e3
      refine r_iconst F_58_18 ?_
      refine r_aald F_58_19 ty_40 (by decide) (by decide) (lt_ln ln_40 (by decide)) rf_40_0 ?_
      refine r_areturn F_58_20 rob_58 ?_
      show Rn _ _ _ _ _ [vR 44, vR (44 + 4 * i), vR 66] _ _
      refine r_ldR_n (m := 0) F_122_63 rfl ?_
      refine r_getR (J := 4) F_122_64 o_122 fl_5_34 ty_0 (by decide) rfl (kd2 kd_0_4 (by decide)) (kd9 kd_0_4 (by decide)) rf_0_4 ?_
      refine r_virt2 (A := []) (r := [vR 44, vR (44 + 4 * i), vR 66]) (n := 0) F_122_67 o_122 il_5_149 rfl rfl rfl rfl ty_38 vy_71 (lay_le n_71 rfl) ?_
      refine Cl_of n_71 rfl ?_
      show Rn _ _ _ _ [some (vR 38)] [] _ _
      refine r_ldR_n (m := 0) F_71_0 rfl ?_
      refine r_getI (J := 5) (e := (s 38 5)) F_71_1 o_71 fl_1_31 ty_38 (by decide) rfl kd_38_5 rfl ?_
      refine r_ireturn F_71_4 rt_71 ?_
      show Rn _ _ _ _ _ [vI (s 38 5), vR 44, vR (44 + 4 * i), vR 66] _ _
      refine r_virt2 (A := [vR (44 + 4 * i), vR 44, vI (s 38 5)]) (r := []) (n := 3) F_122_70 o_122 il_5_259 rfl rfl rfl rfl ty_66 vy_101 (lay_le n_101 rfl) ?_
      refine sp_between (rw_40 ⟨i0, i6⟩).1 ty_44 (l5 e2 e3) (l6 e2 e3) (l7 e2 e3) (l8 e2 e3) ?_
      show Rn _ _ _ _ _ [] _ _
      refine r_ldR_n (m := 0) F_122_73 rfl ?_
      refine r_getR (J := 5) F_122_74 o_122 fl_5_41 ty_0 (by decide) rfl (kd2 kd_0_5 (by decide)) (kd9 kd_0_5 (by decide)) rf_0_5 ?_
      refine r_iconst F_122_77 ?_
      refine r_ldI_n (m := 3) F_122_78 rfl ?_
      refine r_virt2 (A := [vI 0, vI m]) (r := []) (n := 2) F_122_79 o_122 il_5_246 rfl rfl rfl rfl ty_66 vy_111 (lay_le n_111 rfl) ?_
      refine sp_fewest (l9 e2 e3) (by decide) (l10 e2 e3) (l11 e2 e3) ?_
      intro v4 s4 q4
      show Rn _ _ _ _ _ [vI v4] _ _
      refine r_stI (m := 6) (L' := [some (vR 0), some (vI n), some (vI t), some (vI m), some (vI i), some (vI j), some (vI v4)]) F_122_82 rfl rfl ?_
      refine r_ldI (m := 6) F_122_84 rfl ?_
      refine r_bipush F_122_86 bi__9 ?_
      refine r_icmp (t := 105) F_122_88 rfl (l12 e2 e3 v4 s4 q4) (by decide) ?_ ?_
      · intro e5
        replace e5 : v4 = (-9) := e5
        refine r_iinc (m := 5) (e := (j + 1)) (L' := [some (vR 0), some (vI n), some (vI t), some (vI m), some (vI i), some (vI (j + 1)), some (vI v4)]) F_122_105 rfl rfl rfl rfl ?_
        refine r_goto (t := 35) F_122_108 rfl ?_
        exact (l13 e2 e3 v4 s4 q4 e5)
      · intro e6
        replace e6 : ¬ v4 = (-9) := e6
        refine r_bipush F_122_91 bi_10 ?_
        refine r_ldI (m := 4) F_122_93 rfl ?_
        refine r_imul F_122_95 rfl ?_
        refine r_ldI (m := 5) F_122_96 rfl ?_
        refine r_iadd F_122_98 rfl ?_
        refine r_stI_n (m := 2) (L' := [some (vR 0), some (vI n), some (vI ((10 * i) + j)), some (vI m), some (vI i), some (vI j), some (vI v4)]) F_122_99 rfl rfl ?_
        refine r_ldI (m := 6) F_122_100 rfl ?_
        refine r_iconst F_122_102 ?_
        refine r_isub F_122_103 rfl ?_
        refine r_stI_n (m := 3) (L' := [some (vR 0), some (vI n), some (vI ((10 * i) + j)), some (vI (v4 - 1)), some (vI i), some (vI j), some (vI v4)]) F_122_104 rfl rfl ?_
        refine r_iinc (m := 5) (e := (j + 1)) (L' := [some (vR 0), some (vI n), some (vI ((10 * i) + j)), some (vI (v4 - 1)), some (vI i), some (vI (j + 1)), some (vI v4)]) F_122_105 rfl rfl rfl rfl ?_
        refine r_goto (t := 35) F_122_108 rfl ?_
        exact (l14 e2 e3 v4 s4 q4 e6)
    · intro e7
      replace e7 : j < 6 := (Int.not_le.mp e7)
      refine r_ldI_n (m := 1) F_58_14 rfl ?_
      refine r_goto (t := 19) F_58_15 rfl ?_
      refine r_aald F_58_19 ty_40 (by decide) j0 (lt_ln ln_40 e7) (rw_40 ⟨j0, e7⟩).2 ?_
      refine r_areturn F_58_20 rob_58 ?_
      show Rn _ _ _ _ _ [vR (44 + 4 * j), vR (44 + 4 * i), vR 66] _ _
      refine r_ldR_n (m := 0) F_122_63 rfl ?_
      refine r_getR (J := 4) F_122_64 o_122 fl_5_34 ty_0 (by decide) rfl (kd2 kd_0_4 (by decide)) (kd9 kd_0_4 (by decide)) rf_0_4 ?_
      refine r_virt2 (A := []) (r := [vR (44 + 4 * j), vR (44 + 4 * i), vR 66]) (n := 0) F_122_67 o_122 il_5_149 rfl rfl rfl rfl ty_38 vy_71 (lay_le n_71 rfl) ?_
      refine Cl_of n_71 rfl ?_
      show Rn _ _ _ _ [some (vR 38)] [] _ _
      refine r_ldR_n (m := 0) F_71_0 rfl ?_
      refine r_getI (J := 5) (e := (s 38 5)) F_71_1 o_71 fl_1_31 ty_38 (by decide) rfl kd_38_5 rfl ?_
      refine r_ireturn F_71_4 rt_71 ?_
      show Rn _ _ _ _ _ [vI (s 38 5), vR (44 + 4 * j), vR (44 + 4 * i), vR 66] _ _
      refine r_virt2 (A := [vR (44 + 4 * i), vR (44 + 4 * j), vI (s 38 5)]) (r := []) (n := 3) F_122_70 o_122 il_5_259 rfl rfl rfl rfl ty_66 vy_101 (lay_le n_101 rfl) ?_
      refine sp_between (rw_40 ⟨i0, i6⟩).1 (rw_40 ⟨j0, e7⟩).1 (l15 e2 e7) (l16 e2 e7) (l17 e2 e7) (l18 e2 e7) ?_
      show Rn _ _ _ _ _ [] _ _
      refine r_ldR_n (m := 0) F_122_73 rfl ?_
      refine r_getR (J := 5) F_122_74 o_122 fl_5_41 ty_0 (by decide) rfl (kd2 kd_0_5 (by decide)) (kd9 kd_0_5 (by decide)) rf_0_5 ?_
      refine r_iconst F_122_77 ?_
      refine r_ldI_n (m := 3) F_122_78 rfl ?_
      refine r_virt2 (A := [vI 0, vI m]) (r := []) (n := 2) F_122_79 o_122 il_5_246 rfl rfl rfl rfl ty_66 vy_111 (lay_le n_111 rfl) ?_
      refine sp_fewest (l19 e2 e7) (by decide) (l20 e2 e7) (l21 e2 e7) ?_
      intro v8 s8 q8
      show Rn _ _ _ _ _ [vI v8] _ _
      refine r_stI (m := 6) (L' := [some (vR 0), some (vI n), some (vI t), some (vI m), some (vI i), some (vI j), some (vI v8)]) F_122_82 rfl rfl ?_
      refine r_ldI (m := 6) F_122_84 rfl ?_
      refine r_bipush F_122_86 bi__9 ?_
      refine r_icmp (t := 105) F_122_88 rfl (l22 e2 e7 v8 s8 q8) (by decide) ?_ ?_
      · intro e9
        replace e9 : v8 = (-9) := e9
        refine r_iinc (m := 5) (e := (j + 1)) (L' := [some (vR 0), some (vI n), some (vI t), some (vI m), some (vI i), some (vI (j + 1)), some (vI v8)]) F_122_105 rfl rfl rfl rfl ?_
        refine r_goto (t := 35) F_122_108 rfl ?_
        exact (l23 e2 e7 v8 s8 q8 e9)
      · intro e10
        replace e10 : ¬ v8 = (-9) := e10
        refine r_bipush F_122_91 bi_10 ?_
        refine r_ldI (m := 4) F_122_93 rfl ?_
        refine r_imul F_122_95 rfl ?_
        refine r_ldI (m := 5) F_122_96 rfl ?_
        refine r_iadd F_122_98 rfl ?_
        refine r_stI_n (m := 2) (L' := [some (vR 0), some (vI n), some (vI ((10 * i) + j)), some (vI m), some (vI i), some (vI j), some (vI v8)]) F_122_99 rfl rfl ?_
        refine r_ldI (m := 6) F_122_100 rfl ?_
        refine r_iconst F_122_102 ?_
        refine r_isub F_122_103 rfl ?_
        refine r_stI_n (m := 3) (L' := [some (vR 0), some (vI n), some (vI ((10 * i) + j)), some (vI (v8 - 1)), some (vI i), some (vI j), some (vI v8)]) F_122_104 rfl rfl ?_
        refine r_iinc (m := 5) (e := (j + 1)) (L' := [some (vR 0), some (vI n), some (vI ((10 * i) + j)), some (vI (v8 - 1)), some (vI i), some (vI (j + 1)), some (vI v8)]) F_122_105 rfl rfl rfl rfl ?_
        refine r_goto (t := 35) F_122_108 rfl ?_
        exact (l24 e2 e7 v8 s8 q8 e10)
theorem t_X5_sets {X : List Int32} {d : Nat} {s : m_St} {P : Option Value → m_St → Prop}
    (l1 : inR (s 38 3))
    (l2 : ¬ (s 38 3) = 0 → Rn X (d + 1) 123 20 [some (vR 0), some (vI 0), some (vI 15), some (vI 0)] [] s P)
    (l3 : (s 38 3) = 0 → P (some (vI (-4))) s)
    : Cl X (d + 1) 123 [vR 0] s P := by
  refine Cl_of n_123 rfl ?_
  show Rn _ _ _ _ [some (vR 0), none, none, none] [] _ _
  refine r_ldR_n (m := 0) F_123_0 rfl ?_
  refine r_getR (J := 4) F_123_1 o_123 fl_5_34 ty_0 (by decide) rfl (kd2 kd_0_4 (by decide)) (kd9 kd_0_4 (by decide)) rf_0_4 ?_
  refine r_virt2 (A := []) (r := []) (n := 0) F_123_4 o_123 il_5_132 rfl rfl rfl rfl ty_38 vy_64 (lay_le n_64 rfl) ?_
  refine Cl_of n_64 rfl ?_
  show Rn _ _ _ _ [some (vR 38)] [] _ _
  refine r_ldR_n (m := 0) F_64_0 rfl ?_
  refine r_getI (J := 3) (e := (s 38 3)) F_64_1 o_64 fl_1_24 ty_38 (by decide) rfl kd_38_3 rfl ?_
  refine r_ireturn F_64_4 rt_64 ?_
  show Rn _ _ _ _ _ [vI (s 38 3)] _ _
  refine r_if (t := 13) F_123_7 rfl l1 ?_ ?_
  · intro e1
    replace e1 : ¬ (s 38 3) = 0 := e1
    refine r_iconst F_123_13 ?_
    refine r_stI_n (m := 1) (L' := [some (vR 0), some (vI 0), none, none]) F_123_14 rfl rfl ?_
    refine r_bipush F_123_15 bi_15 ?_
    refine r_stI_n (m := 2) (L' := [some (vR 0), some (vI 0), some (vI 15), none]) F_123_17 rfl rfl ?_
    refine r_iconst F_123_18 ?_
    refine r_stI_n (m := 3) (L' := [some (vR 0), some (vI 0), some (vI 15), some (vI 0)]) F_123_19 rfl rfl ?_
    exact (l2 e1)
  · intro e2
    replace e2 : (s 38 3) = 0 := (Classical.not_not.mp e2)
    refine r_bipush F_123_10 bi__4 ?_
    refine r_ireturn F_123_12 rt_123 ?_
    exact (l3 e2)
theorem t_X5_sets_20 {X : List Int32} {d : Nat} {s : m_St} {P : Option Value → m_St → Prop} {n a z : Int} (z0 : 0 ≤ z)
    (l1 : inR z)
    (l2 : 15 < z → P (some (vI n)) (m_upd s 0 9 a))
    (l3 : z ≤ 15 → inR (clo (s 38 5) z))
    (l4 : z ≤ 15 → ¬ (clo (s 38 5) z) = z → Rn X (d + 1) 123 20 [some (vR 0), some (vI n), some (vI a), some (vI (z + 1))] [] s P)
    (l5 : z ≤ 15 → (clo (s 38 5) z) = z → ¬ z = 0 → Rn X (d + 1) 123 20 [some (vR 0), some (vI (n + 1)), some (vI (iAnd a z)), some (vI (z + 1))] [] s P)
    (l6 : z ≤ 15 → (clo (s 38 5) z) = z → z = 0 → Rn X (d + 1) 123 20 [some (vR 0), some (vI (n + 1)), some (vI (iAnd a 15)), some (vI (z + 1))] [] s P)
    : Rn X (d + 1) 123 20 [some (vR 0), some (vI n), some (vI a), some (vI z)] [] s P := by
  refine r_ldI_n (m := 3) F_123_20 rfl ?_
  refine r_bipush F_123_21 bi_15 ?_
  refine r_icmp (t := 60) F_123_23 rfl l1 (by decide) ?_ ?_
  · intro e1
    replace e1 : 15 < z := e1
    refine r_ldR_n (m := 0) F_123_60 rfl ?_
    refine r_ldI_n (m := 2) F_123_61 rfl ?_
    refine r_virt2 (A := [vI a]) (r := []) (n := 1) F_123_62 o_123 il_5_93 rfl rfl rfl rfl ty_0 vy_20 (lay_le n_20 rfl) ?_
    refine Cl_of n_20 rfl ?_
    show Rn _ _ _ _ [some (vR 0), some (vI a)] [] _ _
    refine r_ldR_n (m := 0) F_20_0 rfl ?_
    refine r_ldI_n (m := 1) F_20_1 rfl ?_
    refine r_putI (J := 9) F_20_2 o_20 fl_5_60 ty_0 (by decide) rfl kd_0_9 pf_5_9 ?_
    refine r_iconst F_20_5 ?_
    refine r_ireturn F_20_6 rt_20 ?_
    show Rn _ _ _ _ _ [vI 1] _ _
    refine r_popI F_123_65 ?_
    refine r_ldI_n (m := 1) F_123_66 rfl ?_
    refine r_ireturn F_123_67 rt_123 ?_
    exact (l2 e1)
  · intro e2
    replace e2 : z ≤ 15 := (Int.not_lt.mp e2)
    refine r_ldR_n (m := 0) F_123_26 rfl ?_
    refine r_getR (J := 4) F_123_27 o_123 fl_5_34 ty_0 (by decide) rfl (kd2 kd_0_4 (by decide)) (kd9 kd_0_4 (by decide)) rf_0_4 ?_
    refine r_ldI_n (m := 3) F_123_30 rfl ?_
    refine r_virt2 (A := [vI z]) (r := []) (n := 1) F_123_31 o_123 il_5_172 rfl rfl rfl rfl ty_38 vy_77 (lay_le n_77 rfl) ?_
    refine sp_closed  ?_
    show Rn _ _ _ _ _ [vI (clo (s 38 5) z)] _ _
    refine r_ldI_n (m := 3) F_123_34 rfl ?_
    refine r_icmp (t := 54) F_123_35 rfl (l3 e2) l1 ?_ ?_
    · intro e3
      replace e3 : ¬ (clo (s 38 5) z) = z := e3
      refine r_iinc (m := 3) (e := (z + 1)) (L' := [some (vR 0), some (vI n), some (vI a), some (vI (z + 1))]) F_123_54 rfl rfl rfl rfl ?_
      refine r_goto (t := 20) F_123_57 rfl ?_
      exact (l4 e2 e3)
    · intro e4
      replace e4 : (clo (s 38 5) z) = z := (Classical.not_not.mp e4)
      refine r_iinc (m := 1) (e := (n + 1)) (L' := [some (vR 0), some (vI (n + 1)), some (vI a), some (vI z)]) F_123_38 rfl rfl rfl rfl ?_
      refine r_ldI_n (m := 2) F_123_41 rfl ?_
      refine r_ldI_n (m := 3) F_123_42 rfl ?_
      refine r_if (t := 51) F_123_43 rfl l1 ?_ ?_
      · intro e5
        replace e5 : ¬ z = 0 := e5
        refine r_ldI_n (m := 3) F_123_51 rfl ?_
        refine r_iand F_123_52 rfl ?_
        refine r_stI_n (m := 2) (L' := [some (vR 0), some (vI (n + 1)), some (vI (iAnd a z)), some (vI z)]) F_123_53 rfl rfl ?_
        refine r_iinc (m := 3) (e := (z + 1)) (L' := [some (vR 0), some (vI (n + 1)), some (vI (iAnd a z)), some (vI (z + 1))]) F_123_54 rfl rfl rfl rfl ?_
        refine r_goto (t := 20) F_123_57 rfl ?_
        exact (l5 e2 e4 e5)
      · intro e6
        replace e6 : z = 0 := (Classical.not_not.mp e6)
        refine r_bipush F_123_46 bi_15 ?_
        refine r_goto (t := 52) F_123_48 rfl ?_
        refine r_iand F_123_52 rfl ?_
        refine r_stI_n (m := 2) (L' := [some (vR 0), some (vI (n + 1)), some (vI (iAnd a 15)), some (vI z)]) F_123_53 rfl rfl ?_
        refine r_iinc (m := 3) (e := (z + 1)) (L' := [some (vR 0), some (vI (n + 1)), some (vI (iAnd a 15)), some (vI (z + 1))]) F_123_54 rfl rfl rfl rfl ?_
        refine r_goto (t := 20) F_123_57 rfl ?_
        exact (l6 e2 e4 e6)
theorem t_X5_change {X : List Int32} {d : Nat} {s : m_St} {P : Option Value → m_St → Prop} {i : Int}
    (l1 : inR i)
    (l2 : i < 0 → P (some (vI (-1))) s)
    (l3 : 0 ≤ i → inR (s 38 3))
    (l4 : 0 ≤ i → (s 38 3) ≤ i → P (some (vI (-1))) s)
    (l5 : 0 ≤ i → i < (s 38 3) → 6 ≤ i → Rn X (d + 1) 124 32 [some (vR 0), some (vI i), some (vI (s 44 2)), some (vI 15), some (vI 15)] [] s P)
    (l6 : 0 ≤ i → i < (s 38 3) → i < 6 → Rn X (d + 1) 124 32 [some (vR 0), some (vI i), some (vI (s (44 + 4 * i) 2)), some (vI 15), some (vI 15)] [] s P)
    : Cl X (d + 1) 124 [vR 0, vI i] s P := by
  refine Cl_of n_124 rfl ?_
  show Rn _ _ _ _ [some (vR 0), some (vI i), none, none, none] [] _ _
  refine r_ldR_n (m := 0) F_124_0 rfl ?_
  refine r_getR (J := 4) F_124_1 o_124 fl_5_34 ty_0 (by decide) rfl (kd2 kd_0_4 (by decide)) (kd9 kd_0_4 (by decide)) rf_0_4 ?_
  refine r_ldI_n (m := 1) F_124_4 rfl ?_
  refine r_virt2 (A := [vI i]) (r := []) (n := 1) F_124_5 o_124 il_5_136 rfl rfl rfl rfl ty_38 vy_66 (lay_le n_66 rfl) ?_
  refine Cl_of n_66 rfl ?_
  show Rn _ _ _ _ [some (vR 38), some (vI i)] [] _ _
  refine r_ldI_n (m := 1) F_66_0 rfl ?_
  refine r_if (t := 16) F_66_1 rfl l1 ?_ ?_
  · intro e1
    replace e1 : i < 0 := e1
    refine r_iconst F_66_16 ?_
    refine r_zreturn F_66_17 rt_66 (Or.inl rfl) ?_
    show Rn _ _ _ _ _ [vI 0] _ _
    refine r_ifF (t := 13) F_124_8 rfl (by decide) (by show ¬ (¬ (0 : Int) = 0); decide) ?_
    refine r_iconst F_124_11 ?_
    refine r_ireturn F_124_12 rt_124 ?_
    exact (l2 e1)
  · intro e2
    replace e2 : 0 ≤ i := (Int.not_lt.mp e2)
    refine r_ldI_n (m := 1) F_66_4 rfl ?_
    refine r_ldR_n (m := 0) F_66_5 rfl ?_
    refine r_getI (J := 3) (e := (s 38 3)) F_66_6 o_66 fl_1_24 ty_38 (by decide) rfl kd_38_3 rfl ?_
    refine r_icmp (t := 16) F_66_9 rfl l1 (l3 e2) ?_ ?_
    · intro e3
      replace e3 : (s 38 3) ≤ i := e3
      refine r_iconst F_66_16 ?_
      refine r_zreturn F_66_17 rt_66 (Or.inl rfl) ?_
      show Rn _ _ _ _ _ [vI 0] _ _
      refine r_ifF (t := 13) F_124_8 rfl (by decide) (by show ¬ (¬ (0 : Int) = 0); decide) ?_
      refine r_iconst F_124_11 ?_
      refine r_ireturn F_124_12 rt_124 ?_
      exact (l4 e2 e3)
    · intro e4
      replace e4 : i < (s 38 3) := (Int.not_le.mp e4)
      refine r_iconst F_66_12 ?_
      refine r_goto (t := 17) F_66_13 rfl ?_
      refine r_zreturn F_66_17 rt_66 (Or.inr rfl) ?_
      show Rn _ _ _ _ _ [vI 1] _ _
      refine r_ifT (t := 13) F_124_8 rfl (by decide) (by show ¬ (1 : Int) = 0; decide) ?_
      refine r_ldR_n (m := 0) F_124_13 rfl ?_
      refine r_getR (J := 4) F_124_14 o_124 fl_5_34 ty_0 (by decide) rfl (kd2 kd_0_4 (by decide)) (kd9 kd_0_4 (by decide)) rf_0_4 ?_
      refine r_ldI_n (m := 1) F_124_17 rfl ?_
      refine r_virt2 (A := [vI i]) (r := []) (n := 1) F_124_18 o_124 il_5_142 rfl rfl rfl rfl ty_38 vy_58 (lay_le n_58 rfl) ?_
      refine Cl_of n_58 rfl ?_
      show Rn _ _ _ _ [some (vR 38), some (vI i)] [] _ _
      refine r_ldR_n (m := 0) F_58_0 rfl ?_
      refine r_getR (J := 1) F_58_1 o_58 fl_1_17 ty_38 (by decide) rfl (kd2 kd_38_1 (by decide)) (kd9 kd_38_1 (by decide)) rf_38_1 ?_
      refine r_ldI_n (m := 1) F_58_4 rfl ?_
      refine r_ifF (t := 18) F_58_5 rfl l1 (Int.not_lt.mpr e2) ?_
      refine r_ldI_n (m := 1) F_58_8 rfl ?_
      refine r_bipush F_58_9 bi_6 ?_
      refine r_icmp (t := 18) F_58_11 rfl l1 (by decide) ?_ ?_
      · intro e5
        replace e5 : 6 ≤ i := e5
        refine r_iconst F_58_18 ?_
        refine r_aald F_58_19 ty_40 (by decide) (by decide) (lt_ln ln_40 (by decide)) rf_40_0 ?_
        refine r_areturn F_58_20 rob_58 ?_
        show Rn _ _ _ _ _ [vR 44] _ _
        refine r_virt2 (A := []) (r := []) (n := 0) F_124_21 o_124 il_5_158 rfl rfl rfl rfl ty_44 vy_68 (lay_le n_68 rfl) ?_
        refine Cl_of n_68 rfl ?_
        show Rn _ _ _ _ [some (vR 44)] [] _ _
        refine r_ldR_n (m := 0) F_68_0 rfl ?_
        refine r_getI (J := 2) (e := (s 44 2)) F_68_1 o_68 fl_0_19 ty_44 (by decide) rfl kd_44_2 rfl ?_
        refine r_ireturn F_68_4 rt_68 ?_
        show Rn _ _ _ _ _ [vI (s 44 2)] _ _
        refine r_stI_n (m := 2) (L' := [some (vR 0), some (vI i), some (vI (s 44 2)), none, none]) F_124_24 rfl rfl ?_
        refine r_bipush F_124_25 bi_15 ?_
        refine r_stI_n (m := 3) (L' := [some (vR 0), some (vI i), some (vI (s 44 2)), some (vI 15), none]) F_124_27 rfl rfl ?_
        refine r_bipush F_124_28 bi_15 ?_
        refine r_stI (m := 4) (L' := [some (vR 0), some (vI i), some (vI (s 44 2)), some (vI 15), some (vI 15)]) F_124_30 rfl rfl ?_
        exact (l5 e2 e4 e5)
      · intro e6
        replace e6 : i < 6 := (Int.not_le.mp e6)
        refine r_ldI_n (m := 1) F_58_14 rfl ?_
        refine r_goto (t := 19) F_58_15 rfl ?_
        refine r_aald F_58_19 ty_40 (by decide) e2 (lt_ln ln_40 e6) (rw_40 ⟨e2, e6⟩).2 ?_
        refine r_areturn F_58_20 rob_58 ?_
        show Rn _ _ _ _ _ [vR (44 + 4 * i)] _ _
        refine r_virt2 (A := []) (r := []) (n := 0) F_124_21 o_124 il_5_158 rfl rfl rfl rfl (rw_40 ⟨e2, e6⟩).1 vy_68 (lay_le n_68 rfl) ?_
        refine Cl_of n_68 rfl ?_
        show Rn _ _ _ _ [some (vR (44 + 4 * i))] [] _ _
        refine r_ldR_n (m := 0) F_68_0 rfl ?_
        refine r_getI (J := 2) (e := (s (44 + 4 * i) 2)) F_68_1 o_68 fl_0_19 (rw_40 ⟨e2, e6⟩).1 (by decide) rfl (gw (rw_40 ⟨e2, e6⟩).1).2.2.2.1 rfl ?_
        refine r_ireturn F_68_4 rt_68 ?_
        show Rn _ _ _ _ _ [vI (s (44 + 4 * i) 2)] _ _
        refine r_stI_n (m := 2) (L' := [some (vR 0), some (vI i), some (vI (s (44 + 4 * i) 2)), none, none]) F_124_24 rfl rfl ?_
        refine r_bipush F_124_25 bi_15 ?_
        refine r_stI_n (m := 3) (L' := [some (vR 0), some (vI i), some (vI (s (44 + 4 * i) 2)), some (vI 15), none]) F_124_27 rfl rfl ?_
        refine r_bipush F_124_28 bi_15 ?_
        refine r_stI (m := 4) (L' := [some (vR 0), some (vI i), some (vI (s (44 + 4 * i) 2)), some (vI 15), some (vI 15)]) F_124_30 rfl rfl ?_
        exact (l6 e2 e4 e6)
theorem t_X5_change_32 {X : List Int32} {d : Nat} {s : m_St} {P : Option Value → m_St → Prop} {i h b z : Int} (z1 : z ≤ 15) (h0 : 0 ≤ h) (h1 : h < 16) (b0 : 0 ≤ b) (b1 : b < 16)
    (l1 : inR z)
    (l2 : z < 0 → 0 ≤ (iXor b h))
    (l3 : z < 0 → (iXor b h) < 65536)
    (l4 : z < 0 → P (some (vI (bc (iXor b h)))) (m_upd s 0 9 b))
    (l5 : 0 ≤ z → inR (clo (s 38 5) z))
    (l6 : 0 ≤ z → ¬ (clo (s 38 5) z) = z → Rn X (d + 1) 124 32 [some (vR 0), some (vI i), some (vI h), some (vI b), some (vI (z + (-1)))] [] s P)
    (l7 : 0 ≤ z → (clo (s 38 5) z) = z → 0 ≤ (iXor z h))
    (l8 : 0 ≤ z → (clo (s 38 5) z) = z → (iXor z h) < 65536)
    (l9 : 0 ≤ z → (clo (s 38 5) z) = z → 0 ≤ (iXor b h))
    (l10 : 0 ≤ z → (clo (s 38 5) z) = z → (iXor b h) < 65536)
    (l11 : 0 ≤ z → (clo (s 38 5) z) = z → inR (bc (iXor z h)))
    (l12 : 0 ≤ z → (clo (s 38 5) z) = z → inR (bc (iXor b h)))
    (l13 : 0 ≤ z → (clo (s 38 5) z) = z → (bc (iXor b h)) < (bc (iXor z h)) → Rn X (d + 1) 124 32 [some (vR 0), some (vI i), some (vI h), some (vI b), some (vI (z + (-1)))] [] s P)
    (l14 : 0 ≤ z → (clo (s 38 5) z) = z → (bc (iXor z h)) ≤ (bc (iXor b h)) → Rn X (d + 1) 124 32 [some (vR 0), some (vI i), some (vI h), some (vI z), some (vI (z + (-1)))] [] s P)
    : Rn X (d + 1) 124 32 [some (vR 0), some (vI i), some (vI h), some (vI b), some (vI z)] [] s P := by
  refine r_ldI (m := 4) F_124_32 rfl ?_
  refine r_if (t := 76) F_124_34 rfl l1 ?_ ?_
  · intro e1
    replace e1 : z < 0 := e1
    refine r_ldR_n (m := 0) F_124_76 rfl ?_
    refine r_ldI_n (m := 3) F_124_77 rfl ?_
    refine r_virt2 (A := [vI b]) (r := []) (n := 1) F_124_78 o_124 il_5_93 rfl rfl rfl rfl ty_0 vy_20 (lay_le n_20 rfl) ?_
    refine Cl_of n_20 rfl ?_
    show Rn _ _ _ _ [some (vR 0), some (vI b)] [] _ _
    refine r_ldR_n (m := 0) F_20_0 rfl ?_
    refine r_ldI_n (m := 1) F_20_1 rfl ?_
    refine r_putI (J := 9) F_20_2 o_20 fl_5_60 ty_0 (by decide) rfl kd_0_9 pf_5_9 ?_
    refine r_iconst F_20_5 ?_
    refine r_ireturn F_20_6 rt_20 ?_
    show Rn _ _ _ _ _ [vI 1] _ _
    refine r_popI F_124_81 ?_
    refine r_ldI_n (m := 3) F_124_82 rfl ?_
    refine r_ldI_n (m := 2) F_124_83 rfl ?_
    refine r_ixor F_124_84 rfl ?_
    refine r_stat2 (A := [vI (iXor b h)]) (r := []) (n := 1) F_124_85 o_124 il_5_161 (by decide) rfl rfl rfl rfl (lay_le n_74 rfl) ?_
    refine sp_bitCount (l2 e1) (l3 e1) ?_
    show Rn _ _ _ _ _ [vI (bc (iXor b h))] _ _
    refine r_ireturn F_124_88 rt_124 ?_
    exact (l4 e1)
  · intro e2
    replace e2 : 0 ≤ z := (Int.not_lt.mp e2)
    refine r_ldR_n (m := 0) F_124_37 rfl ?_
    refine r_getR (J := 4) F_124_38 o_124 fl_5_34 ty_0 (by decide) rfl (kd2 kd_0_4 (by decide)) (kd9 kd_0_4 (by decide)) rf_0_4 ?_
    refine r_ldI (m := 4) F_124_41 rfl ?_
    refine r_virt2 (A := [vI z]) (r := []) (n := 1) F_124_43 o_124 il_5_172 rfl rfl rfl rfl ty_38 vy_77 (lay_le n_77 rfl) ?_
    refine sp_closed  ?_
    show Rn _ _ _ _ _ [vI (clo (s 38 5) z)] _ _
    refine r_ldI (m := 4) F_124_46 rfl ?_
    refine r_icmp (t := 70) F_124_48 rfl (l5 e2) l1 ?_ ?_
    · intro e3
      replace e3 : ¬ (clo (s 38 5) z) = z := e3
      refine r_iinc (m := 4) (e := (z + (-1))) (L' := [some (vR 0), some (vI i), some (vI h), some (vI b), some (vI (z + (-1)))]) F_124_70 rfl rfl rfl rfl ?_
      refine r_goto (t := 32) F_124_73 rfl ?_
      exact (l6 e2 e3)
    · intro e4
      replace e4 : (clo (s 38 5) z) = z := (Classical.not_not.mp e4)
      refine r_ldI (m := 4) F_124_51 rfl ?_
      refine r_ldI_n (m := 2) F_124_53 rfl ?_
      refine r_ixor F_124_54 rfl ?_
      refine r_stat2 (A := [vI (iXor z h)]) (r := []) (n := 1) F_124_55 o_124 il_5_161 (by decide) rfl rfl rfl rfl (lay_le n_74 rfl) ?_
      refine sp_bitCount (l7 e2 e4) (l8 e2 e4) ?_
      show Rn _ _ _ _ _ [vI (bc (iXor z h))] _ _
      refine r_ldI_n (m := 3) F_124_58 rfl ?_
      refine r_ldI_n (m := 2) F_124_59 rfl ?_
      refine r_ixor F_124_60 rfl ?_
      refine r_stat2 (A := [vI (iXor b h)]) (r := [vI (bc (iXor z h))]) (n := 1) F_124_61 o_124 il_5_161 (by decide) rfl rfl rfl rfl (lay_le n_74 rfl) ?_
      refine sp_bitCount (l9 e2 e4) (l10 e2 e4) ?_
      show Rn _ _ _ _ _ [vI (bc (iXor b h)), vI (bc (iXor z h))] _ _
      refine r_icmp (t := 70) F_124_64 rfl (l11 e2 e4) (l12 e2 e4) ?_ ?_
      · intro e5
        replace e5 : (bc (iXor b h)) < (bc (iXor z h)) := e5
        refine r_iinc (m := 4) (e := (z + (-1))) (L' := [some (vR 0), some (vI i), some (vI h), some (vI b), some (vI (z + (-1)))]) F_124_70 rfl rfl rfl rfl ?_
        refine r_goto (t := 32) F_124_73 rfl ?_
        exact (l13 e2 e4 e5)
      · intro e6
        replace e6 : (bc (iXor z h)) ≤ (bc (iXor b h)) := (Int.not_lt.mp e6)
        refine r_ldI (m := 4) F_124_67 rfl ?_
        refine r_stI_n (m := 3) (L' := [some (vR 0), some (vI i), some (vI h), some (vI z), some (vI z)]) F_124_69 rfl rfl ?_
        refine r_iinc (m := 4) (e := (z + (-1))) (L' := [some (vR 0), some (vI i), some (vI h), some (vI z), some (vI (z + (-1)))]) F_124_70 rfl rfl rfl rfl ?_
        refine r_goto (t := 32) F_124_73 rfl ?_
        exact (l14 e2 e4 e6)
theorem t_X5_kinds {X : List Int32} {d : Nat} {s : m_St} {P : Option Value → m_St → Prop} {i r : Int}
    (l1 : inR i)
    (l2 : inR r)
    (l3 : inR (s 38 3))
    (l4 : ∀ r, 0 ≤ r → r < 6 → rwk s r)
    (l5 : ∀ (v1 : Int) (s1 : m_St), qTp s i r v1 s1 → inR v1)
    (l6 : ∀ (v1 : Int) (s1 : m_St), qTp s i r v1 s1 → v1 = 0 → 0 ≤ r)
    (l7 : ∀ (v1 : Int) (s1 : m_St), qTp s i r v1 s1 → v1 = 0 → r < 6)
    (l8 : ∀ (v1 : Int) (s1 : m_St), qTp s i r v1 s1 → v1 = 0 → 0 ≤ i)
    (l9 : ∀ (v1 : Int) (s1 : m_St), qTp s i r v1 s1 → v1 = 0 → i < 6)
    (l10 : ∀ (v1 : Int) (s1 : m_St), qTp s i r v1 s1 → v1 = 0 → gok s1 (44 + 4 * i))
    (l11 : ∀ (v1 : Int) (s1 : m_St), qTp s i r v1 s1 → v1 = 0 → rwk s1 r)
    (l12 : ∀ (v1 : Int) (s1 : m_St), qTp s i r v1 s1 → v1 = 0 → 0 ≤ s1 2 r)
    (l13 : ∀ (v1 : Int) (s1 : m_St), qTp s i r v1 s1 → v1 = 0 → s1 2 r % 3 = 0)
    (l14 : ∀ (v1 : Int) (s1 : m_St), qTp s i r v1 s1 → v1 = 0 → atr s1 r)
    (l15 : ∀ (v1 : Int) (s1 : m_St), qTp s i r v1 s1 → v1 = 0 → ∀ (v3 : Int) (s3 : m_St), v3 = kbs (fun k => pb (fiA s1 i r k)) 6 ∧ fr74 s1 s3 → P (some (vI v3)) s3)
    (l16 : ∀ (v1 : Int) (s1 : m_St), qTp s i r v1 s1 → ¬ v1 = 0 → P (some (vI v1)) s1)
    : Cl X (d + 7) 125 [vR 0, vI i, vI r] s P := by
  refine Cl_of n_125 rfl ?_
  show Rn _ _ _ _ [some (vR 0), some (vI i), some (vI r), none] [] _ _
  refine r_ldR_n (m := 0) F_125_0 rfl ?_
  refine r_ldI_n (m := 1) F_125_1 rfl ?_
  refine r_ldI_n (m := 2) F_125_2 rfl ?_
  refine r_virt2 (A := [vI i, vI r]) (r := []) (n := 2) F_125_3 o_125 il_5_263 rfl rfl rfl rfl ty_0 vy_126 (lay_le n_126 rfl) ?_
  refine sp_triplesRefusal l1 l2 l3 l4 ?_
  intro v1 s1 q1
  show Rn _ _ _ _ _ [vI v1] _ _
  refine r_stI_n (m := 3) (L' := [some (vR 0), some (vI i), some (vI r), some (vI v1)]) F_125_6 rfl rfl ?_
  refine r_ldI_n (m := 3) F_125_7 rfl ?_
  refine r_if (t := 15) F_125_8 rfl (l5 v1 s1 q1) ?_ ?_
  · intro e2
    replace e2 : v1 = 0 := e2
    refine r_ldR_n (m := 0) F_125_15 rfl ?_
    refine r_ldI_n (m := 1) F_125_16 rfl ?_
    refine r_ldI_n (m := 2) F_125_17 rfl ?_
    refine r_virt2 (A := [vI i, vI r]) (r := []) (n := 2) F_125_18 o_125 il_5_266 rfl rfl rfl rfl ty_0 vy_127 (lay_le n_127 rfl) ?_
    refine sp_kindsBy (l6 v1 s1 q1 e2) (l7 v1 s1 q1 e2) (l8 v1 s1 q1 e2) (l9 v1 s1 q1 e2) (l10 v1 s1 q1 e2) (l11 v1 s1 q1 e2) (l12 v1 s1 q1 e2) (l13 v1 s1 q1 e2) (l14 v1 s1 q1 e2) ?_
    intro v3 s3 q3
    show Rn _ _ _ _ _ [vI v3] _ _
    refine r_ireturn F_125_21 rt_125 ?_
    exact (l15 v1 s1 q1 e2 v3 s3 q3)
  · intro e4
    replace e4 : ¬ v1 = 0 := e4
    refine r_ldI_n (m := 3) F_125_11 rfl ?_
    refine r_goto (t := 21) F_125_12 rfl ?_
    refine r_ireturn F_125_21 rt_125 ?_
    exact (l16 v1 s1 q1 e4)
theorem t_X5_test {X : List Int32} {d : Nat} {s : m_St} {P : Option Value → m_St → Prop} {i r : Int}
    (l1 : inR i)
    (l2 : inR r)
    (l3 : inR (s 38 3))
    (l4 : ∀ r, 0 ≤ r → r < 6 → rwk s r)
    (l5 : ∀ (v1 : Int) (s1 : m_St), qTp s i r v1 s1 → inR v1)
    (l6 : ∀ (v1 : Int) (s1 : m_St), qTp s i r v1 s1 → v1 = 0 → 0 ≤ r)
    (l7 : ∀ (v1 : Int) (s1 : m_St), qTp s i r v1 s1 → v1 = 0 → r < 6)
    (l8 : ∀ (v1 : Int) (s1 : m_St), qTp s i r v1 s1 → v1 = 0 → 0 ≤ i)
    (l9 : ∀ (v1 : Int) (s1 : m_St), qTp s i r v1 s1 → v1 = 0 → i < 6)
    (l10 : ∀ (v1 : Int) (s1 : m_St), qTp s i r v1 s1 → v1 = 0 → gok s1 (44 + 4 * i))
    (l11 : ∀ (v1 : Int) (s1 : m_St), qTp s i r v1 s1 → v1 = 0 → rwk s1 r)
    (l12 : ∀ (v1 : Int) (s1 : m_St), qTp s i r v1 s1 → v1 = 0 → 0 ≤ s1 2 r)
    (l13 : ∀ (v1 : Int) (s1 : m_St), qTp s i r v1 s1 → v1 = 0 → s1 2 r % 3 = 0)
    (l14 : ∀ (v1 : Int) (s1 : m_St), qTp s i r v1 s1 → v1 = 0 → atr s1 r)
    (l15 : ∀ (v1 : Int) (s1 : m_St), qTp s i r v1 s1 → v1 = 0 → ∀ (v3 : Int) (s3 : m_St), v3 = kbs (fun k => pb (fiA s1 i r k)) 6 ∧ fr74 s1 s3 → inR v3)
    (l16 : ∀ (v1 : Int) (s1 : m_St), qTp s i r v1 s1 → v1 = 0 → ∀ (v3 : Int) (s3 : m_St), v3 = kbs (fun k => pb (fiA s1 i r k)) 6 ∧ fr74 s1 s3 → ¬ v3 = 0 → Rn X (d + 7) 129 39 [some (vR 0), some (vI i), some (vI r), some (vI v1), some (vI v3), some (vI 0), some (vI 7), some (vI 0), none] [] s3 P)
    (l17 : ∀ (v1 : Int) (s1 : m_St), qTp s i r v1 s1 → v1 = 0 → ∀ (v3 : Int) (s3 : m_St), v3 = kbs (fun k => pb (fiA s1 i r k)) 6 ∧ fr74 s1 s3 → v3 = 0 → P (some (vI (-9))) s3)
    (l18 : ∀ (v1 : Int) (s1 : m_St), qTp s i r v1 s1 → ¬ v1 = 0 → P (some (vI v1)) s1)
    : Cl X (d + 7) 129 [vR 0, vI i, vI r] s P := by
  refine Cl_of n_129 rfl ?_
  show Rn _ _ _ _ [some (vR 0), some (vI i), some (vI r), none, none, none, none, none, none] [] _ _
  refine r_ldR_n (m := 0) F_129_0 rfl ?_
  refine r_ldI_n (m := 1) F_129_1 rfl ?_
  refine r_ldI_n (m := 2) F_129_2 rfl ?_
  refine r_virt2 (A := [vI i, vI r]) (r := []) (n := 2) F_129_3 o_129 il_5_263 rfl rfl rfl rfl ty_0 vy_126 (lay_le n_126 rfl) ?_
  refine sp_triplesRefusal l1 l2 l3 l4 ?_
  intro v1 s1 q1
  show Rn _ _ _ _ _ [vI v1] _ _
  refine r_stI_n (m := 3) (L' := [some (vR 0), some (vI i), some (vI r), some (vI v1), none, none, none, none, none]) F_129_6 rfl rfl ?_
  refine r_ldI_n (m := 3) F_129_7 rfl ?_
  refine r_if (t := 13) F_129_8 rfl (l5 v1 s1 q1) ?_ ?_
  · intro e2
    replace e2 : v1 = 0 := e2
    refine r_ldR_n (m := 0) F_129_13 rfl ?_
    refine r_ldI_n (m := 1) F_129_14 rfl ?_
    refine r_ldI_n (m := 2) F_129_15 rfl ?_
    refine r_virt2 (A := [vI i, vI r]) (r := []) (n := 2) F_129_16 o_129 il_5_266 rfl rfl rfl rfl ty_0 vy_127 (lay_le n_127 rfl) ?_
    refine sp_kindsBy (l6 v1 s1 q1 e2) (l7 v1 s1 q1 e2) (l8 v1 s1 q1 e2) (l9 v1 s1 q1 e2) (l10 v1 s1 q1 e2) (l11 v1 s1 q1 e2) (l12 v1 s1 q1 e2) (l13 v1 s1 q1 e2) (l14 v1 s1 q1 e2) ?_
    intro v3 s3 q3
    show Rn _ _ _ _ _ [vI v3] _ _
    refine r_stI (m := 4) (L' := [some (vR 0), some (vI i), some (vI r), some (vI v1), some (vI v3), none, none, none, none]) F_129_19 rfl rfl ?_
    refine r_ldI (m := 4) F_129_21 rfl ?_
    refine r_if (t := 29) F_129_23 rfl (l15 v1 s1 q1 e2 v3 s3 q3) ?_ ?_
    · intro e4
      replace e4 : ¬ v3 = 0 := e4
      refine r_iconst F_129_29 ?_
      refine r_stI (m := 5) (L' := [some (vR 0), some (vI i), some (vI r), some (vI v1), some (vI v3), some (vI 0), none, none, none]) F_129_30 rfl rfl ?_
      refine r_bipush F_129_32 bi_7 ?_
      refine r_stI (m := 6) (L' := [some (vR 0), some (vI i), some (vI r), some (vI v1), some (vI v3), some (vI 0), some (vI 7), none, none]) F_129_34 rfl rfl ?_
      refine r_iconst F_129_36 ?_
      refine r_stI (m := 7) (L' := [some (vR 0), some (vI i), some (vI r), some (vI v1), some (vI v3), some (vI 0), some (vI 7), some (vI 0), none]) F_129_37 rfl rfl ?_
      exact (l16 v1 s1 q1 e2 v3 s3 q3 e4)
    · intro e5
      replace e5 : v3 = 0 := (Classical.not_not.mp e5)
      refine r_bipush F_129_26 bi__9 ?_
      refine r_ireturn F_129_28 rt_129 ?_
      exact (l17 v1 s1 q1 e2 v3 s3 q3 e5)
  · intro e6
    replace e6 : ¬ v1 = 0 := e6
    refine r_ldI_n (m := 3) F_129_11 rfl ?_
    refine r_ireturn F_129_12 rt_129 ?_
    exact (l18 v1 s1 q1 e6)
theorem t_X5_test_39 {X : List Int32} {d : Nat} {s : m_St} {P : Option Value → m_St → Prop} {i r x3 b w l c : Int} {z8 : Option Value} (i0 : 0 ≤ i) (i6 : i < 6)
    (l1 : inR c)
    (l2 : 4 ≤ c → P (some (vI w)) (m_upd s 0 9 l))
    (l3 : c < 4 → gok s (44 + 4 * i))
    (l4 : c < 4 → ∀ (v3 : Int) (s3 : m_St), v3 = gpa b (mva s i c) 6 ∧ fr74 s s3 → inR v3)
    (l5 : c < 4 → ∀ (v3 : Int) (s3 : m_St), v3 = gpa b (mva s i c) 6 ∧ fr74 s s3 → inR l)
    (l6 : c < 4 → ∀ (v3 : Int) (s3 : m_St), v3 = gpa b (mva s i c) 6 ∧ fr74 s s3 → l ≤ v3 → Rn X (d + 7) 129 39 [some (vR 0), some (vI i), some (vI r), some (vI x3), some (vI b), some (vI w), some (vI l), some (vI (c + 1)), some (vI v3)] [] s3 P)
    (l7 : c < 4 → ∀ (v3 : Int) (s3 : m_St), v3 = gpa b (mva s i c) 6 ∧ fr74 s s3 → v3 < l → Rn X (d + 7) 129 39 [some (vR 0), some (vI i), some (vI r), some (vI x3), some (vI b), some (vI c), some (vI v3), some (vI (c + 1)), some (vI v3)] [] s3 P)
    : Rn X (d + 7) 129 39 [some (vR 0), some (vI i), some (vI r), some (vI x3), some (vI b), some (vI w), some (vI l), some (vI c), z8] [] s P := by
  refine r_ldI (m := 7) F_129_39 rfl ?_
  refine r_iconst F_129_41 ?_
  refine r_icmp (t := 77) F_129_42 rfl l1 (by decide) ?_ ?_
  · intro e1
    replace e1 : 4 ≤ c := e1
    refine r_ldR_n (m := 0) F_129_77 rfl ?_
    refine r_ldI (m := 6) F_129_78 rfl ?_
    refine r_virt2 (A := [vI l]) (r := []) (n := 1) F_129_80 o_129 il_5_93 rfl rfl rfl rfl ty_0 vy_20 (lay_le n_20 rfl) ?_
    refine Cl_of n_20 rfl ?_
    show Rn _ _ _ _ [some (vR 0), some (vI l)] [] _ _
    refine r_ldR_n (m := 0) F_20_0 rfl ?_
    refine r_ldI_n (m := 1) F_20_1 rfl ?_
    refine r_putI (J := 9) F_20_2 o_20 fl_5_60 ty_0 (by decide) rfl kd_0_9 pf_5_9 ?_
    refine r_iconst F_20_5 ?_
    refine r_ireturn F_20_6 rt_20 ?_
    show Rn _ _ _ _ _ [vI 1] _ _
    refine r_popI F_129_83 ?_
    refine r_ldI (m := 5) F_129_84 rfl ?_
    refine r_ireturn F_129_86 rt_129 ?_
    exact (l2 e1)
  · intro e2
    replace e2 : c < 4 := (Int.not_le.mp e2)
    refine r_ldR_n (m := 0) F_129_45 rfl ?_
    refine r_ldI_n (m := 1) F_129_46 rfl ?_
    refine r_ldI (m := 4) F_129_47 rfl ?_
    refine r_ldI (m := 7) F_129_49 rfl ?_
    refine r_virt2 (A := [vI i, vI b, vI c]) (r := []) (n := 3) F_129_51 o_129 il_5_269 rfl rfl rfl rfl ty_0 vy_130 (lay_le n_130 rfl) ?_
    refine sp_greatestPart i0 i6 (l3 e2) ?_
    intro v3 s3 q3
    show Rn _ _ _ _ _ [vI v3] _ _
    refine r_stI (m := 8) (L' := [some (vR 0), some (vI i), some (vI r), some (vI x3), some (vI b), some (vI w), some (vI l), some (vI c), some (vI v3)]) F_129_54 rfl rfl ?_
    refine r_ldI (m := 8) F_129_56 rfl ?_
    refine r_ldI (m := 6) F_129_58 rfl ?_
    refine r_icmp (t := 71) F_129_60 rfl (l4 e2 v3 s3 q3) (l5 e2 v3 s3 q3) ?_ ?_
    · intro e4
      replace e4 : l ≤ v3 := e4
      refine r_iinc (m := 7) (e := (c + 1)) (L' := [some (vR 0), some (vI i), some (vI r), some (vI x3), some (vI b), some (vI w), some (vI l), some (vI (c + 1)), some (vI v3)]) F_129_71 rfl rfl rfl rfl ?_
      refine r_goto (t := 39) F_129_74 rfl ?_
      exact (l6 e2 v3 s3 q3 e4)
    · intro e5
      replace e5 : v3 < l := (Int.not_le.mp e5)
      refine r_ldI (m := 8) F_129_63 rfl ?_
      refine r_stI (m := 6) (L' := [some (vR 0), some (vI i), some (vI r), some (vI x3), some (vI b), some (vI w), some (vI v3), some (vI c), some (vI v3)]) F_129_65 rfl rfl ?_
      refine r_ldI (m := 7) F_129_67 rfl ?_
      refine r_stI (m := 5) (L' := [some (vR 0), some (vI i), some (vI r), some (vI x3), some (vI b), some (vI c), some (vI v3), some (vI c), some (vI v3)]) F_129_69 rfl rfl ?_
      refine r_iinc (m := 7) (e := (c + 1)) (L' := [some (vR 0), some (vI i), some (vI r), some (vI x3), some (vI b), some (vI c), some (vI v3), some (vI (c + 1)), some (vI v3)]) F_129_71 rfl rfl rfl rfl ?_
      refine r_goto (t := 39) F_129_74 rfl ?_
      exact (l7 e2 v3 s3 q3 e5)
theorem t_X5_duel {X : List Int32} {d : Nat} {s : m_St} {P : Option Value → m_St → Prop} {n : Int}
    (l1 : inR n)
    (l2 : n < 0 → P (some (vI (-1))) s)
    (l3 : 0 ≤ n → n ≤ 5 → inR (s 38 7))
    (l4 : 0 ≤ n → n ≤ 5 → (s 38 7) = (-1) → P (some (vI (-4))) s)
    (l5 : 0 ≤ n → n ≤ 5 → ¬ (s 38 7) = (-1) → upk s)
    (l6 : 0 ≤ n → n ≤ 5 → ¬ (s 38 7) = (-1) → tkok (tka s))
    (l7 : 0 ≤ n → n ≤ 5 → ¬ (s 38 7) = (-1) → P (some (vI (bFs (tka s) n 1))) (tka s))
    (l8 : 0 ≤ n → 5 < n → P (some (vI (-1))) s)
    : Cl X (d + 14) 132 [vR 0, vI n] s P := by
  refine Cl_of n_132 rfl ?_
  show Rn _ _ _ _ [some (vR 0), some (vI n)] [] _ _
  refine r_ldI_n (m := 1) F_132_0 rfl ?_
  refine r_if (t := 9) F_132_1 rfl l1 ?_ ?_
  · intro e1
    replace e1 : n < 0 := e1
    refine r_iconst F_132_9 ?_
    refine r_ireturn F_132_10 rt_132 ?_
    exact (l2 e1)
  · intro e2
    replace e2 : 0 ≤ n := (Int.not_lt.mp e2)
    refine r_ldI_n (m := 1) F_132_4 rfl ?_
    refine r_iconst F_132_5 ?_
    refine r_icmp (t := 11) F_132_6 rfl l1 (by decide) ?_ ?_
    · intro e3
      replace e3 : n ≤ 5 := e3
      refine r_ldR_n (m := 0) F_132_11 rfl ?_
      refine r_getR (J := 4) F_132_12 o_132 fl_5_34 ty_0 (by decide) rfl (kd2 kd_0_4 (by decide)) (kd9 kd_0_4 (by decide)) rf_0_4 ?_
      refine r_virt2 (A := []) (r := []) (n := 0) F_132_15 o_132 il_5_225 rfl rfl rfl rfl ty_38 vy_84 (lay_le n_84 rfl) ?_
      refine Cl_of n_84 rfl ?_
      show Rn _ _ _ _ [some (vR 38)] [] _ _
      refine r_ldR_n (m := 0) F_84_0 rfl ?_
      refine r_getI (J := 7) (e := (s 38 7)) F_84_1 o_84 fl_1_37 ty_38 (by decide) rfl kd_38_7 rfl ?_
      refine r_iconst F_84_4 ?_
      refine r_icmp (t := 12) F_84_5 rfl (l3 e2 e3) (by decide) ?_ ?_
      · intro e4
        replace e4 : (s 38 7) = (-1) := e4
        refine r_iconst F_84_12 ?_
        refine r_zreturn F_84_13 rt_84 (Or.inl rfl) ?_
        show Rn _ _ _ _ _ [vI 0] _ _
        refine r_ifF (t := 24) F_132_18 rfl (by decide) (by show ¬ (¬ (0 : Int) = 0); decide) ?_
        refine r_bipush F_132_21 bi__4 ?_
        refine r_ireturn F_132_23 rt_132 ?_
        exact (l4 e2 e3 e4)
      · intro e5
        replace e5 : ¬ (s 38 7) = (-1) := e5
        refine r_iconst F_84_8 ?_
        refine r_goto (t := 13) F_84_9 rfl ?_
        refine r_zreturn F_84_13 rt_84 (Or.inr rfl) ?_
        show Rn _ _ _ _ _ [vI 1] _ _
        refine r_ifT (t := 24) F_132_18 rfl (by decide) (by show ¬ (1 : Int) = 0; decide) ?_
        refine r_ldR_n (m := 0) F_132_24 rfl ?_
        refine r_virt2 (A := []) (r := []) (n := 0) F_132_25 o_132 il_5_229 rfl rfl rfl rfl ty_0 vy_98 (lay_le n_98 rfl) ?_
        refine sp_takeAside (l5 e2 e3 e5) ?_
        show Rn _ _ _ _ _ [] _ _
        refine r_ldR_n (m := 0) F_132_28 rfl ?_
        refine r_getR (J := 5) F_132_29 o_132 fl_5_41 ty_0 (by decide) rfl (kd2 kd_0_5 (by decide)) (kd9 kd_0_5 (by decide)) rf_0_5 ?_
        refine r_ldI_n (m := 1) F_132_32 rfl ?_
        refine r_virt2 (A := [vI n]) (r := []) (n := 1) F_132_33 o_132 il_5_273 rfl rfl rfl rfl ty_66 vy_133 (lay_le n_133 rfl) ?_
        refine sp_duelled (l6 e2 e3 e5) e2 e3 ?_
        show Rn _ _ _ _ _ [vI (bFs (tka s) n 1)] _ _
        refine r_ireturn F_132_36 rt_132 ?_
        exact (l7 e2 e3 e5)
    · intro e6
      replace e6 : 5 < n := (Int.not_le.mp e6)
      refine r_iconst F_132_9 ?_
      refine r_ireturn F_132_10 rt_132 ?_
      exact (l8 e2 e6)
