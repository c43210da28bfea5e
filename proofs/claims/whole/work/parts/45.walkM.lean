/-! walks: talks -/
theorem n_112 : m_n 112 = 7 := by decide +kernel
theorem F_112_0 : F 112 0 (.iload_n 1) 1 := ⟨1, by decide +kernel, rfl, rfl⟩
theorem F_112_1 : F 112 1 (.iload_n 2) 2 := ⟨1, by decide +kernel, rfl, rfl⟩
theorem F_112_2 : F 112 2 (.if_icmp .ge 8) 5 := ⟨3, by decide +kernel, rfl, rfl⟩
theorem F_112_10 : F 112 10 (.aload_n 0) 11 := ⟨1, by decide +kernel, rfl, rfl⟩
theorem F_112_11 : F 112 11 (.invokevirtual 91) 14 := ⟨3, by decide +kernel, rfl, rfl⟩
theorem o_112 : m_o 112 = 4 := by decide +kernel
theorem il_4_91 : ilq 4 91 0 102 0 = true := by decide +kernel
theorem vy_102 : (m_cls 4).1 = (m_y 102).cls ∧ 4 < m_cl.length := by decide +kernel
theorem n_102 : m_n 102 = 1 := by decide +kernel
theorem F_102_0 : F 102 0 (.aload_n 0) 1 := ⟨1, by decide +kernel, rfl, rfl⟩
theorem F_102_1 : F 102 1 (.getfield 12) 4 := ⟨3, by decide +kernel, rfl, rfl⟩
theorem o_102 : m_o 102 = 4 := by decide +kernel
theorem F_102_4 : F 102 4 (.invokevirtual 67) 7 := ⟨3, by decide +kernel, rfl, rfl⟩
theorem F_102_7 : F 102 7 (.aload_n 0) 8 := ⟨1, by decide +kernel, rfl, rfl⟩
theorem F_102_8 : F 102 8 (.getfield 18) 11 := ⟨3, by decide +kernel, rfl, rfl⟩
theorem F_102_11 : F 102 11 (.invokevirtual 67) 14 := ⟨3, by decide +kernel, rfl, rfl⟩
theorem F_102_14 : F 102 14 (.ixor) 15 := ⟨1, by decide +kernel, rfl, rfl⟩
theorem F_102_15 : F 102 15 (.ireturn) 16 := ⟨1, by decide +kernel, rfl, rfl⟩
theorem rt_102 : m_r 102 = (some .int) := by decide +kernel
theorem F_112_14 : F 112 14 (.ifCond .ne 23) 17 := ⟨3, by decide +kernel, rfl, rfl⟩
theorem F_112_37 : F 112 37 (.iconst 0) 38 := ⟨1, by decide +kernel, rfl, rfl⟩
theorem F_112_38 : F 112 38 (.ireturn) 39 := ⟨1, by decide +kernel, rfl, rfl⟩
theorem rt_112 : m_r 112 = (some .boolean) := by decide +kernel
theorem F_112_17 : F 112 17 (.aload_n 0) 18 := ⟨1, by decide +kernel, rfl, rfl⟩
theorem F_112_18 : F 112 18 (.invokevirtual 70) 21 := ⟨3, by decide +kernel, rfl, rfl⟩
theorem il_4_70 : ilq 4 70 0 103 0 = true := by decide +kernel
theorem vy_103 : (m_cls 4).1 = (m_y 103).cls ∧ 4 < m_cl.length := by decide +kernel
theorem n_103 : m_n 103 = 1 := by decide +kernel
theorem F_103_0 : F 103 0 (.aload_n 0) 1 := ⟨1, by decide +kernel, rfl, rfl⟩
theorem F_103_1 : F 103 1 (.getfield 12) 4 := ⟨3, by decide +kernel, rfl, rfl⟩
theorem o_103 : m_o 103 = 4 := by decide +kernel
theorem F_103_4 : F 103 4 (.invokevirtual 67) 7 := ⟨3, by decide +kernel, rfl, rfl⟩
theorem F_103_7 : F 103 7 (.aload_n 0) 8 := ⟨1, by decide +kernel, rfl, rfl⟩
theorem F_103_8 : F 103 8 (.getfield 18) 11 := ⟨3, by decide +kernel, rfl, rfl⟩
theorem F_103_11 : F 103 11 (.invokevirtual 67) 14 := ⟨3, by decide +kernel, rfl, rfl⟩
theorem F_103_14 : F 103 14 (.iand) 15 := ⟨1, by decide +kernel, rfl, rfl⟩
theorem F_103_15 : F 103 15 (.ireturn) 16 := ⟨1, by decide +kernel, rfl, rfl⟩
theorem rt_103 : m_r 103 = (some .int) := by decide +kernel
theorem F_112_21 : F 112 21 (.aload_n 0) 22 := ⟨1, by decide +kernel, rfl, rfl⟩
theorem F_112_22 : F 112 22 (.getfield 29) 25 := ⟨3, by decide +kernel, rfl, rfl⟩
theorem fl_4_29 : m_fl.lookup (4, 29) = some (4, 4, 1137) := by decide +kernel
theorem kd_66_4 : kd 66 4 = 0 := by decide +kernel
theorem F_112_25 : F 112 25 (.iand) 26 := ⟨1, by decide +kernel, rfl, rfl⟩
theorem F_112_26 : F 112 26 (.aload_n 0) 27 := ⟨1, by decide +kernel, rfl, rfl⟩
theorem F_112_27 : F 112 27 (.getfield 29) 30 := ⟨3, by decide +kernel, rfl, rfl⟩
theorem F_112_30 : F 112 30 (.if_icmp .ne 7) 33 := ⟨3, by decide +kernel, rfl, rfl⟩
theorem F_112_33 : F 112 33 (.iconst 1) 34 := ⟨1, by decide +kernel, rfl, rfl⟩
theorem F_112_34 : F 112 34 (.goto 4) 37 := ⟨3, by decide +kernel, rfl, rfl⟩
theorem F_112_5 : F 112 5 (.iload_n 1) 6 := ⟨1, by decide +kernel, rfl, rfl⟩
theorem F_112_6 : F 112 6 (.iconst 5) 7 := ⟨1, by decide +kernel, rfl, rfl⟩
theorem F_112_7 : F 112 7 (.if_icmp .lt 32) 10 := ⟨3, by decide +kernel, rfl, rfl⟩
theorem F_112_39 : F 112 39 (.aload_n 0) 40 := ⟨1, by decide +kernel, rfl, rfl⟩
theorem F_112_40 : F 112 40 (.invokevirtual 94) 43 := ⟨3, by decide +kernel, rfl, rfl⟩
theorem il_4_94 : ilq 4 94 0 113 0 = true := by decide +kernel
theorem vy_113 : (m_cls 4).1 = (m_y 113).cls ∧ 4 < m_cl.length := by decide +kernel
theorem F_112_43 : F 112 43 (.istore_n 3) 44 := ⟨1, by decide +kernel, rfl, rfl⟩
theorem F_112_44 : F 112 44 (.iconst 0) 45 := ⟨1, by decide +kernel, rfl, rfl⟩
theorem F_112_45 : F 112 45 (.istore 4) 47 := ⟨2, by decide +kernel, rfl, rfl⟩
theorem F_112_47 : F 112 47 (.iload 4) 49 := ⟨2, by decide +kernel, rfl, rfl⟩
theorem F_112_49 : F 112 49 (.bipush 8) 51 := ⟨2, by decide +kernel, rfl, rfl⟩
theorem F_112_51 : F 112 51 (.if_icmp .ge 59) 54 := ⟨3, by decide +kernel, rfl, rfl⟩
theorem F_112_110 : F 112 110 (.iconst 0) 111 := ⟨1, by decide +kernel, rfl, rfl⟩
theorem F_112_111 : F 112 111 (.ireturn) 112 := ⟨1, by decide +kernel, rfl, rfl⟩
theorem F_112_54 : F 112 54 (.iload_n 3) 55 := ⟨1, by decide +kernel, rfl, rfl⟩
theorem F_112_55 : F 112 55 (.iload 4) 57 := ⟨2, by decide +kernel, rfl, rfl⟩
theorem F_112_57 : F 112 57 (.ishr) 58 := ⟨1, by decide +kernel, rfl, rfl⟩
theorem F_112_58 : F 112 58 (.iconst 1) 59 := ⟨1, by decide +kernel, rfl, rfl⟩
theorem F_112_59 : F 112 59 (.iand) 60 := ⟨1, by decide +kernel, rfl, rfl⟩
theorem F_112_60 : F 112 60 (.ifCond .eq 44) 63 := ⟨3, by decide +kernel, rfl, rfl⟩
theorem F_112_104 : F 112 104 (.iinc 4 1) 107 := ⟨3, by decide +kernel, rfl, rfl⟩
theorem F_112_107 : F 112 107 (.goto (-60)) 110 := ⟨3, by decide +kernel, rfl, rfl⟩
theorem F_112_63 : F 112 63 (.aload_n 0) 64 := ⟨1, by decide +kernel, rfl, rfl⟩
theorem F_112_64 : F 112 64 (.iload 4) 66 := ⟨2, by decide +kernel, rfl, rfl⟩
theorem F_112_66 : F 112 66 (.invokevirtual 97) 69 := ⟨3, by decide +kernel, rfl, rfl⟩
theorem il_4_97 : ilq 4 97 0 109 1 = true := by decide +kernel
theorem vy_109 : (m_cls 4).1 = (m_y 109).cls ∧ 4 < m_cl.length := by decide +kernel
theorem F_112_69 : F 112 69 (.istore 5) 71 := ⟨2, by decide +kernel, rfl, rfl⟩
theorem F_112_71 : F 112 71 (.aload_n 0) 72 := ⟨1, by decide +kernel, rfl, rfl⟩
theorem F_112_72 : F 112 72 (.getfield 25) 75 := ⟨3, by decide +kernel, rfl, rfl⟩
theorem fl_4_25 : m_fl.lookup (4, 25) = some (4, 3, 1136) := by decide +kernel
theorem kd_66_3 : kd 66 3 = 73 := by decide +kernel
theorem rf_66_3 : rf 66 3 = 71 := by decide +kernel
theorem F_112_75 : F 112 75 (.iload_n 1) 76 := ⟨1, by decide +kernel, rfl, rfl⟩
theorem F_112_76 : F 112 76 (.iload 4) 78 := ⟨2, by decide +kernel, rfl, rfl⟩
theorem F_112_78 : F 112 78 (.iastore) 79 := ⟨1, by decide +kernel, rfl, rfl⟩
theorem ln_71 : ln 71 = 5 := by decide +kernel
theorem ty_71 : ty 71 = 20 := by decide +kernel
theorem F_112_79 : F 112 79 (.aload_n 0) 80 := ⟨1, by decide +kernel, rfl, rfl⟩
theorem F_112_80 : F 112 80 (.iload_n 1) 81 := ⟨1, by decide +kernel, rfl, rfl⟩
theorem F_112_81 : F 112 81 (.iconst 1) 82 := ⟨1, by decide +kernel, rfl, rfl⟩
theorem F_112_82 : F 112 82 (.iadd) 83 := ⟨1, by decide +kernel, rfl, rfl⟩
theorem F_112_83 : F 112 83 (.iload_n 2) 84 := ⟨1, by decide +kernel, rfl, rfl⟩
theorem F_112_84 : F 112 84 (.invokestatic 87) 87 := ⟨3, by decide +kernel, rfl, rfl⟩
theorem il_4_87 : ilq 4 87 1 112 3 = true := by decide +kernel
theorem F_112_87 : F 112 87 (.istore 6) 89 := ⟨2, by decide +kernel, rfl, rfl⟩
theorem F_112_89 : F 112 89 (.aload_n 0) 90 := ⟨1, by decide +kernel, rfl, rfl⟩
theorem F_112_90 : F 112 90 (.iload 4) 92 := ⟨2, by decide +kernel, rfl, rfl⟩
theorem F_112_92 : F 112 92 (.iload 5) 94 := ⟨2, by decide +kernel, rfl, rfl⟩
theorem F_112_94 : F 112 94 (.invokevirtual 100) 97 := ⟨3, by decide +kernel, rfl, rfl⟩
theorem il_4_100 : ilq 4 100 0 114 2 = true := by decide +kernel
theorem vy_114 : (m_cls 4).1 = (m_y 114).cls ∧ 4 < m_cl.length := by decide +kernel
theorem F_112_97 : F 112 97 (.iload 6) 99 := ⟨2, by decide +kernel, rfl, rfl⟩
theorem F_112_99 : F 112 99 (.ifCond .eq 5) 102 := ⟨3, by decide +kernel, rfl, rfl⟩
theorem F_112_102 : F 112 102 (.iconst 1) 103 := ⟨1, by decide +kernel, rfl, rfl⟩
theorem F_112_103 : F 112 103 (.ireturn) 104 := ⟨1, by decide +kernel, rfl, rfl⟩
theorem n_118 : m_n 118 = 7 := by decide +kernel
theorem F_118_0 : F 118 0 (.iload_n 1) 1 := ⟨1, by decide +kernel, rfl, rfl⟩
theorem F_118_1 : F 118 1 (.ifCond .gt 9) 4 := ⟨3, by decide +kernel, rfl, rfl⟩
theorem F_118_10 : F 118 10 (.aload_n 0) 11 := ⟨1, by decide +kernel, rfl, rfl⟩
theorem F_118_11 : F 118 11 (.invokevirtual 116) 14 := ⟨3, by decide +kernel, rfl, rfl⟩
theorem o_118 : m_o 118 = 4 := by decide +kernel
theorem il_4_116 : ilq 4 116 0 120 0 = true := by decide +kernel
theorem vy_120 : (m_cls 4).1 = (m_y 120).cls ∧ 4 < m_cl.length := by decide +kernel
theorem n_120 : m_n 120 = 1 := by decide +kernel
theorem F_120_0 : F 120 0 (.iconst 2) 1 := ⟨1, by decide +kernel, rfl, rfl⟩
theorem F_120_1 : F 120 1 (.aload_n 0) 2 := ⟨1, by decide +kernel, rfl, rfl⟩
theorem F_120_2 : F 120 2 (.invokevirtual 70) 5 := ⟨3, by decide +kernel, rfl, rfl⟩
theorem o_120 : m_o 120 = 4 := by decide +kernel
theorem F_120_5 : F 120 5 (.invokestatic 73) 8 := ⟨3, by decide +kernel, rfl, rfl⟩
theorem il_4_73 : ilq 4 73 1 74 1 = true := by decide +kernel
theorem F_120_8 : F 120 8 (.imul) 9 := ⟨1, by decide +kernel, rfl, rfl⟩
theorem F_120_9 : F 120 9 (.ireturn) 10 := ⟨1, by decide +kernel, rfl, rfl⟩
theorem rt_120 : m_r 120 = (some .int) := by decide +kernel
theorem F_118_14 : F 118 14 (.ifCond .le 17) 17 := ⟨3, by decide +kernel, rfl, rfl⟩
theorem F_118_31 : F 118 31 (.aload_n 0) 32 := ⟨1, by decide +kernel, rfl, rfl⟩
theorem F_118_32 : F 118 32 (.invokevirtual 94) 35 := ⟨3, by decide +kernel, rfl, rfl⟩
theorem F_118_35 : F 118 35 (.istore 4) 37 := ⟨2, by decide +kernel, rfl, rfl⟩
theorem F_118_37 : F 118 37 (.iconst 0) 38 := ⟨1, by decide +kernel, rfl, rfl⟩
theorem F_118_38 : F 118 38 (.istore 5) 40 := ⟨2, by decide +kernel, rfl, rfl⟩
theorem F_118_17 : F 118 17 (.aload_n 0) 18 := ⟨1, by decide +kernel, rfl, rfl⟩
theorem F_118_18 : F 118 18 (.iload_n 1) 19 := ⟨1, by decide +kernel, rfl, rfl⟩
theorem F_118_19 : F 118 19 (.iconst 1) 20 := ⟨1, by decide +kernel, rfl, rfl⟩
theorem F_118_20 : F 118 20 (.isub) 21 := ⟨1, by decide +kernel, rfl, rfl⟩
theorem F_118_21 : F 118 21 (.lload_n 2) 22 := ⟨1, by decide +kernel, rfl, rfl⟩
theorem F_118_22 : F 118 22 (.aload_n 0) 23 := ⟨1, by decide +kernel, rfl, rfl⟩
theorem F_118_23 : F 118 23 (.invokevirtual 116) 26 := ⟨3, by decide +kernel, rfl, rfl⟩
theorem F_118_26 : F 118 26 (.i2l) 27 := ⟨1, by decide +kernel, rfl, rfl⟩
theorem F_118_27 : F 118 27 (.lmul) 28 := ⟨1, by decide +kernel, rfl, rfl⟩
theorem F_118_28 : F 118 28 (.invokestatic 108) 31 := ⟨3, by decide +kernel, rfl, rfl⟩
theorem il_4_108 : ilq 4 108 1 118 3 = true := by decide +kernel
theorem F_118_4 : F 118 4 (.aload_n 0) 5 := ⟨1, by decide +kernel, rfl, rfl⟩
theorem F_118_5 : F 118 5 (.lload_n 2) 6 := ⟨1, by decide +kernel, rfl, rfl⟩
theorem F_118_6 : F 118 6 (.invokevirtual 112) 9 := ⟨3, by decide +kernel, rfl, rfl⟩
theorem il_4_112 : ilq 4 112 0 119 1 = true := by decide +kernel
theorem vy_119 : (m_cls 4).1 = (m_y 119).cls ∧ 4 < m_cl.length := by decide +kernel
theorem n_119 : m_n 119 = 3 := by decide +kernel
theorem F_119_0 : F 119 0 (.aload_n 0) 1 := ⟨1, by decide +kernel, rfl, rfl⟩
theorem F_119_1 : F 119 1 (.invokevirtual 70) 4 := ⟨3, by decide +kernel, rfl, rfl⟩
theorem o_119 : m_o 119 = 4 := by decide +kernel
theorem F_119_4 : F 119 4 (.aload_n 0) 5 := ⟨1, by decide +kernel, rfl, rfl⟩
theorem F_119_5 : F 119 5 (.getfield 29) 8 := ⟨3, by decide +kernel, rfl, rfl⟩
theorem F_119_8 : F 119 8 (.iand) 9 := ⟨1, by decide +kernel, rfl, rfl⟩
theorem F_119_9 : F 119 9 (.aload_n 0) 10 := ⟨1, by decide +kernel, rfl, rfl⟩
theorem F_119_10 : F 119 10 (.getfield 29) 13 := ⟨3, by decide +kernel, rfl, rfl⟩
theorem F_119_13 : F 119 13 (.if_icmp .ne 26) 16 := ⟨3, by decide +kernel, rfl, rfl⟩
theorem F_119_39 : F 119 39 (.return_) 40 := ⟨1, by decide +kernel, rfl, rfl⟩
theorem rt_119 : m_r 119 = none := by decide +kernel
theorem F_118_9 : F 118 9 (.return_) 10 := ⟨1, by decide +kernel, rfl, rfl⟩
theorem rt_118 : m_r 118 = none := by decide +kernel
theorem F_119_16 : F 119 16 (.aload_n 0) 17 := ⟨1, by decide +kernel, rfl, rfl⟩
theorem F_119_17 : F 119 17 (.dup) 18 := ⟨1, by decide +kernel, rfl, rfl⟩
theorem F_119_18 : F 119 18 (.getfield 32) 21 := ⟨3, by decide +kernel, rfl, rfl⟩
theorem fl_4_32 : m_fl.lookup (4, 32) = some (4, 5, 1138) := by decide +kernel
theorem kd_66_5 : kd 66 5 = 1 := by decide +kernel
theorem F_119_21 : F 119 21 (.lload_n 1) 22 := ⟨1, by decide +kernel, rfl, rfl⟩
theorem F_119_22 : F 119 22 (.ladd) 23 := ⟨1, by decide +kernel, rfl, rfl⟩
theorem F_119_23 : F 119 23 (.putfield 32) 26 := ⟨3, by decide +kernel, rfl, rfl⟩
theorem pf_4_5 : pfT 4 5 .long = true := by decide +kernel
theorem F_119_26 : F 119 26 (.aload_n 0) 27 := ⟨1, by decide +kernel, rfl, rfl⟩
theorem F_119_27 : F 119 27 (.dup) 28 := ⟨1, by decide +kernel, rfl, rfl⟩
theorem F_119_28 : F 119 28 (.getfield 36) 31 := ⟨3, by decide +kernel, rfl, rfl⟩
theorem fl_4_36 : m_fl.lookup (4, 36) = some (4, 6, 1139) := by decide +kernel
theorem kd_66_6 : kd 66 6 = 0 := by decide +kernel
theorem F_119_31 : F 119 31 (.aload_n 0) 32 := ⟨1, by decide +kernel, rfl, rfl⟩
theorem F_119_32 : F 119 32 (.invokevirtual 70) 35 := ⟨3, by decide +kernel, rfl, rfl⟩
theorem F_119_35 : F 119 35 (.iand) 36 := ⟨1, by decide +kernel, rfl, rfl⟩
theorem F_119_36 : F 119 36 (.putfield 36) 39 := ⟨3, by decide +kernel, rfl, rfl⟩
theorem pf_4_6 : pfT 4 6 .int = true := by decide +kernel
theorem F_118_40 : F 118 40 (.iload 5) 42 := ⟨2, by decide +kernel, rfl, rfl⟩
theorem F_118_42 : F 118 42 (.bipush 8) 44 := ⟨2, by decide +kernel, rfl, rfl⟩
theorem F_118_44 : F 118 44 (.if_icmp .ge 43) 47 := ⟨3, by decide +kernel, rfl, rfl⟩
theorem F_118_87 : F 118 87 (.return_) 88 := ⟨1, by decide +kernel, rfl, rfl⟩
theorem F_118_47 : F 118 47 (.iload 4) 49 := ⟨2, by decide +kernel, rfl, rfl⟩
theorem F_118_49 : F 118 49 (.iload 5) 51 := ⟨2, by decide +kernel, rfl, rfl⟩
theorem F_118_51 : F 118 51 (.ishr) 52 := ⟨1, by decide +kernel, rfl, rfl⟩
theorem F_118_52 : F 118 52 (.iconst 1) 53 := ⟨1, by decide +kernel, rfl, rfl⟩
theorem F_118_53 : F 118 53 (.iand) 54 := ⟨1, by decide +kernel, rfl, rfl⟩
theorem F_118_54 : F 118 54 (.ifCond .eq 27) 57 := ⟨3, by decide +kernel, rfl, rfl⟩
theorem F_118_81 : F 118 81 (.iinc 5 1) 84 := ⟨3, by decide +kernel, rfl, rfl⟩
theorem F_118_84 : F 118 84 (.goto (-44)) 87 := ⟨3, by decide +kernel, rfl, rfl⟩
theorem F_118_57 : F 118 57 (.aload_n 0) 58 := ⟨1, by decide +kernel, rfl, rfl⟩
theorem F_118_58 : F 118 58 (.iload 5) 60 := ⟨2, by decide +kernel, rfl, rfl⟩
theorem F_118_60 : F 118 60 (.invokevirtual 97) 63 := ⟨3, by decide +kernel, rfl, rfl⟩
theorem F_118_63 : F 118 63 (.istore 6) 65 := ⟨2, by decide +kernel, rfl, rfl⟩
theorem F_118_65 : F 118 65 (.aload_n 0) 66 := ⟨1, by decide +kernel, rfl, rfl⟩
theorem F_118_66 : F 118 66 (.iload_n 1) 67 := ⟨1, by decide +kernel, rfl, rfl⟩
theorem F_118_67 : F 118 67 (.iconst 1) 68 := ⟨1, by decide +kernel, rfl, rfl⟩
theorem F_118_68 : F 118 68 (.isub) 69 := ⟨1, by decide +kernel, rfl, rfl⟩
theorem F_118_69 : F 118 69 (.lload_n 2) 70 := ⟨1, by decide +kernel, rfl, rfl⟩
theorem F_118_70 : F 118 70 (.invokestatic 108) 73 := ⟨3, by decide +kernel, rfl, rfl⟩
theorem F_118_73 : F 118 73 (.aload_n 0) 74 := ⟨1, by decide +kernel, rfl, rfl⟩
theorem F_118_74 : F 118 74 (.iload 5) 76 := ⟨2, by decide +kernel, rfl, rfl⟩
theorem F_118_76 : F 118 76 (.iload 6) 78 := ⟨2, by decide +kernel, rfl, rfl⟩
theorem F_118_78 : F 118 78 (.invokevirtual 100) 81 := ⟨3, by decide +kernel, rfl, rfl⟩
theorem n_134 : m_n 134 = 8 := by decide +kernel
theorem F_134_0 : F 134 0 (.iload_n 1) 1 := ⟨1, by decide +kernel, rfl, rfl⟩
theorem F_134_1 : F 134 1 (.ifCond .gt 11) 4 := ⟨3, by decide +kernel, rfl, rfl⟩
theorem F_134_12 : F 134 12 (.aload_n 0) 13 := ⟨1, by decide +kernel, rfl, rfl⟩
theorem F_134_13 : F 134 13 (.invokevirtual 116) 16 := ⟨3, by decide +kernel, rfl, rfl⟩
theorem o_134 : m_o 134 = 4 := by decide +kernel
theorem F_134_16 : F 134 16 (.ifCond .le 22) 19 := ⟨3, by decide +kernel, rfl, rfl⟩
theorem F_134_38 : F 134 38 (.bipush (-9)) 40 := ⟨2, by decide +kernel, rfl, rfl⟩
theorem F_134_40 : F 134 40 (.istore_n 3) 41 := ⟨1, by decide +kernel, rfl, rfl⟩
theorem F_134_41 : F 134 41 (.aload_n 0) 42 := ⟨1, by decide +kernel, rfl, rfl⟩
theorem F_134_42 : F 134 42 (.invokevirtual 94) 45 := ⟨3, by decide +kernel, rfl, rfl⟩
theorem F_134_45 : F 134 45 (.istore 4) 47 := ⟨2, by decide +kernel, rfl, rfl⟩
theorem F_134_47 : F 134 47 (.iconst 0) 48 := ⟨1, by decide +kernel, rfl, rfl⟩
theorem F_134_48 : F 134 48 (.istore 5) 50 := ⟨2, by decide +kernel, rfl, rfl⟩
theorem F_134_19 : F 134 19 (.aload_n 0) 20 := ⟨1, by decide +kernel, rfl, rfl⟩
theorem F_134_20 : F 134 20 (.iload_n 1) 21 := ⟨1, by decide +kernel, rfl, rfl⟩
theorem F_134_21 : F 134 21 (.iconst 1) 22 := ⟨1, by decide +kernel, rfl, rfl⟩
theorem F_134_22 : F 134 22 (.isub) 23 := ⟨1, by decide +kernel, rfl, rfl⟩
theorem F_134_23 : F 134 23 (.iload_n 2) 24 := ⟨1, by decide +kernel, rfl, rfl⟩
theorem F_134_24 : F 134 24 (.ifCond .ne 7) 27 := ⟨3, by decide +kernel, rfl, rfl⟩
theorem F_134_31 : F 134 31 (.iconst 0) 32 := ⟨1, by decide +kernel, rfl, rfl⟩
theorem F_134_32 : F 134 32 (.invokestatic 119) 35 := ⟨3, by decide +kernel, rfl, rfl⟩
theorem il_4_119 : ilq 4 119 1 134 3 = true := by decide +kernel
theorem F_134_27 : F 134 27 (.iconst 1) 28 := ⟨1, by decide +kernel, rfl, rfl⟩
theorem F_134_28 : F 134 28 (.goto 4) 31 := ⟨3, by decide +kernel, rfl, rfl⟩
theorem F_134_4 : F 134 4 (.aload_n 0) 5 := ⟨1, by decide +kernel, rfl, rfl⟩
theorem F_134_5 : F 134 5 (.invokevirtual 70) 8 := ⟨3, by decide +kernel, rfl, rfl⟩
theorem F_134_8 : F 134 8 (.invokestatic 73) 11 := ⟨3, by decide +kernel, rfl, rfl⟩
theorem F_134_11 : F 134 11 (.ireturn) 12 := ⟨1, by decide +kernel, rfl, rfl⟩
theorem rt_134 : m_r 134 = (some .int) := by decide +kernel
theorem F_134_50 : F 134 50 (.iload 5) 52 := ⟨2, by decide +kernel, rfl, rfl⟩
theorem F_134_52 : F 134 52 (.bipush 8) 54 := ⟨2, by decide +kernel, rfl, rfl⟩
theorem F_134_54 : F 134 54 (.if_icmp .ge 81) 57 := ⟨3, by decide +kernel, rfl, rfl⟩
theorem F_134_135 : F 134 135 (.iload_n 3) 136 := ⟨1, by decide +kernel, rfl, rfl⟩
theorem F_134_136 : F 134 136 (.bipush (-9)) 138 := ⟨2, by decide +kernel, rfl, rfl⟩
theorem F_134_138 : F 134 138 (.if_icmp .ne 7) 141 := ⟨3, by decide +kernel, rfl, rfl⟩
theorem F_134_145 : F 134 145 (.iload_n 3) 146 := ⟨1, by decide +kernel, rfl, rfl⟩
theorem F_134_146 : F 134 146 (.ireturn) 147 := ⟨1, by decide +kernel, rfl, rfl⟩
theorem F_134_141 : F 134 141 (.iconst 0) 142 := ⟨1, by decide +kernel, rfl, rfl⟩
theorem F_134_142 : F 134 142 (.goto 4) 145 := ⟨3, by decide +kernel, rfl, rfl⟩
theorem F_134_57 : F 134 57 (.iload 4) 59 := ⟨2, by decide +kernel, rfl, rfl⟩
theorem F_134_59 : F 134 59 (.iload 5) 61 := ⟨2, by decide +kernel, rfl, rfl⟩
theorem F_134_61 : F 134 61 (.ishr) 62 := ⟨1, by decide +kernel, rfl, rfl⟩
theorem F_134_62 : F 134 62 (.iconst 1) 63 := ⟨1, by decide +kernel, rfl, rfl⟩
theorem F_134_63 : F 134 63 (.iand) 64 := ⟨1, by decide +kernel, rfl, rfl⟩
theorem F_134_64 : F 134 64 (.ifCond .eq 65) 67 := ⟨3, by decide +kernel, rfl, rfl⟩
theorem F_134_129 : F 134 129 (.iinc 5 1) 132 := ⟨3, by decide +kernel, rfl, rfl⟩
theorem F_134_132 : F 134 132 (.goto (-82)) 135 := ⟨3, by decide +kernel, rfl, rfl⟩
theorem F_134_67 : F 134 67 (.aload_n 0) 68 := ⟨1, by decide +kernel, rfl, rfl⟩
theorem F_134_68 : F 134 68 (.iload 5) 70 := ⟨2, by decide +kernel, rfl, rfl⟩
theorem F_134_70 : F 134 70 (.invokevirtual 97) 73 := ⟨3, by decide +kernel, rfl, rfl⟩
theorem F_134_73 : F 134 73 (.istore 6) 75 := ⟨2, by decide +kernel, rfl, rfl⟩
theorem F_134_75 : F 134 75 (.aload_n 0) 76 := ⟨1, by decide +kernel, rfl, rfl⟩
theorem F_134_76 : F 134 76 (.iload_n 1) 77 := ⟨1, by decide +kernel, rfl, rfl⟩
theorem F_134_77 : F 134 77 (.iconst 1) 78 := ⟨1, by decide +kernel, rfl, rfl⟩
theorem F_134_78 : F 134 78 (.isub) 79 := ⟨1, by decide +kernel, rfl, rfl⟩
theorem F_134_79 : F 134 79 (.iload_n 2) 80 := ⟨1, by decide +kernel, rfl, rfl⟩
theorem F_134_80 : F 134 80 (.ifCond .ne 7) 83 := ⟨3, by decide +kernel, rfl, rfl⟩
theorem F_134_87 : F 134 87 (.iconst 0) 88 := ⟨1, by decide +kernel, rfl, rfl⟩
theorem F_134_88 : F 134 88 (.invokestatic 119) 91 := ⟨3, by decide +kernel, rfl, rfl⟩
theorem F_134_83 : F 134 83 (.iconst 1) 84 := ⟨1, by decide +kernel, rfl, rfl⟩
theorem F_134_84 : F 134 84 (.goto 4) 87 := ⟨3, by decide +kernel, rfl, rfl⟩
theorem F_134_35 : F 134 35 (.goto 5) 38 := ⟨3, by decide +kernel, rfl, rfl⟩
theorem F_134_91 : F 134 91 (.istore 7) 93 := ⟨2, by decide +kernel, rfl, rfl⟩
theorem F_134_93 : F 134 93 (.aload_n 0) 94 := ⟨1, by decide +kernel, rfl, rfl⟩
theorem F_134_94 : F 134 94 (.iload 5) 96 := ⟨2, by decide +kernel, rfl, rfl⟩
theorem F_134_96 : F 134 96 (.iload 6) 98 := ⟨2, by decide +kernel, rfl, rfl⟩
theorem F_134_98 : F 134 98 (.invokevirtual 100) 101 := ⟨3, by decide +kernel, rfl, rfl⟩
theorem F_134_101 : F 134 101 (.iload_n 3) 102 := ⟨1, by decide +kernel, rfl, rfl⟩
theorem F_134_102 : F 134 102 (.bipush (-9)) 104 := ⟨2, by decide +kernel, rfl, rfl⟩
theorem F_134_104 : F 134 104 (.if_icmp .eq 22) 107 := ⟨3, by decide +kernel, rfl, rfl⟩
theorem F_134_126 : F 134 126 (.iload 7) 128 := ⟨2, by decide +kernel, rfl, rfl⟩
theorem F_134_128 : F 134 128 (.istore_n 3) 129 := ⟨1, by decide +kernel, rfl, rfl⟩
theorem F_134_107 : F 134 107 (.iload_n 2) 108 := ⟨1, by decide +kernel, rfl, rfl⟩
theorem F_134_108 : F 134 108 (.ifCond .eq 12) 111 := ⟨3, by decide +kernel, rfl, rfl⟩
theorem F_134_120 : F 134 120 (.iload 7) 122 := ⟨2, by decide +kernel, rfl, rfl⟩
theorem F_134_122 : F 134 122 (.iload_n 3) 123 := ⟨1, by decide +kernel, rfl, rfl⟩
theorem F_134_123 : F 134 123 (.if_icmp .ge 6) 126 := ⟨3, by decide +kernel, rfl, rfl⟩
theorem F_134_111 : F 134 111 (.iload 7) 113 := ⟨2, by decide +kernel, rfl, rfl⟩
theorem F_134_113 : F 134 113 (.iload_n 3) 114 := ⟨1, by decide +kernel, rfl, rfl⟩
theorem F_134_114 : F 134 114 (.if_icmp .le 15) 117 := ⟨3, by decide +kernel, rfl, rfl⟩
theorem F_134_117 : F 134 117 (.goto 9) 120 := ⟨3, by decide +kernel, rfl, rfl⟩
theorem n_137 : m_n 137 = 6 := by decide +kernel
theorem F_137_0 : F 137 0 (.iload_n 1) 1 := ⟨1, by decide +kernel, rfl, rfl⟩
theorem F_137_1 : F 137 1 (.aload_n 0) 2 := ⟨1, by decide +kernel, rfl, rfl⟩
theorem F_137_2 : F 137 2 (.getfield 42) 5 := ⟨3, by decide +kernel, rfl, rfl⟩
theorem fl_4_42 : m_fl.lookup (4, 42) = some (4, 8, 1141) := by decide +kernel
theorem kd_66_8 : kd 66 8 = 0 := by decide +kernel
theorem o_137 : m_o 137 = 4 := by decide +kernel
theorem F_137_5 : F 137 5 (.if_icmp .ge 9) 8 := ⟨3, by decide +kernel, rfl, rfl⟩
theorem F_137_14 : F 137 14 (.aload_n 0) 15 := ⟨1, by decide +kernel, rfl, rfl⟩
theorem F_137_15 : F 137 15 (.getfield 48) 18 := ⟨3, by decide +kernel, rfl, rfl⟩
theorem fl_4_48 : m_fl.lookup (4, 48) = some (4, 10, 1143) := by decide +kernel
theorem kd_66_10 : kd 66 10 = 75 := by decide +kernel
theorem rf_66_10 : rf 66 10 = 73 := by decide +kernel
theorem F_137_18 : F 137 18 (.aload_n 0) 19 := ⟨1, by decide +kernel, rfl, rfl⟩
theorem F_137_19 : F 137 19 (.invokevirtual 70) 22 := ⟨3, by decide +kernel, rfl, rfl⟩
theorem F_137_22 : F 137 22 (.bipush 15) 24 := ⟨2, by decide +kernel, rfl, rfl⟩
theorem F_137_24 : F 137 24 (.iand) 25 := ⟨1, by decide +kernel, rfl, rfl⟩
theorem F_137_25 : F 137 25 (.dup2) 26 := ⟨1, by decide +kernel, rfl, rfl⟩
theorem F_137_26 : F 137 26 (.laload) 27 := ⟨1, by decide +kernel, rfl, rfl⟩
theorem ln_73 : ln 73 = 16 := by decide +kernel
theorem ty_73 : ty 73 = 21 := by decide +kernel
theorem F_137_27 : F 137 27 (.lload_n 2) 28 := ⟨1, by decide +kernel, rfl, rfl⟩
theorem F_137_28 : F 137 28 (.ladd) 29 := ⟨1, by decide +kernel, rfl, rfl⟩
theorem F_137_29 : F 137 29 (.lastore) 30 := ⟨1, by decide +kernel, rfl, rfl⟩
theorem F_137_30 : F 137 30 (.return_) 31 := ⟨1, by decide +kernel, rfl, rfl⟩
theorem rt_137 : m_r 137 = none := by decide +kernel
theorem F_137_8 : F 137 8 (.iload_n 1) 9 := ⟨1, by decide +kernel, rfl, rfl⟩
theorem F_137_9 : F 137 9 (.bipush 6) 11 := ⟨2, by decide +kernel, rfl, rfl⟩
theorem F_137_11 : F 137 11 (.if_icmp .lt 20) 14 := ⟨3, by decide +kernel, rfl, rfl⟩
theorem F_137_31 : F 137 31 (.aload_n 0) 32 := ⟨1, by decide +kernel, rfl, rfl⟩
theorem F_137_32 : F 137 32 (.getfield 39) 35 := ⟨3, by decide +kernel, rfl, rfl⟩
theorem fl_4_39 : m_fl.lookup (4, 39) = some (4, 7, 1140) := by decide +kernel
theorem kd_66_7 : kd 66 7 = 74 := by decide +kernel
theorem rf_66_7 : rf 66 7 = 72 := by decide +kernel
theorem F_137_35 : F 137 35 (.iload_n 1) 36 := ⟨1, by decide +kernel, rfl, rfl⟩
theorem F_137_36 : F 137 36 (.iaload) 37 := ⟨1, by decide +kernel, rfl, rfl⟩
theorem ln_72 : ln 72 = 6 := by decide +kernel
theorem ty_72 : ty 72 = 20 := by decide +kernel
theorem F_137_37 : F 137 37 (.istore 4) 39 := ⟨2, by decide +kernel, rfl, rfl⟩
theorem F_137_39 : F 137 39 (.aload_n 0) 40 := ⟨1, by decide +kernel, rfl, rfl⟩
theorem F_137_40 : F 137 40 (.iload 4) 42 := ⟨2, by decide +kernel, rfl, rfl⟩
theorem F_137_42 : F 137 42 (.invokevirtual 137) 45 := ⟨3, by decide +kernel, rfl, rfl⟩
theorem il_4_137 : ilq 4 137 0 108 1 = true := by decide +kernel
theorem vy_108 : (m_cls 4).1 = (m_y 108).cls ∧ 4 < m_cl.length := by decide +kernel
theorem F_137_45 : F 137 45 (.ifCond .ne 16) 48 := ⟨3, by decide +kernel, rfl, rfl⟩
theorem F_137_61 : F 137 61 (.aload_n 0) 62 := ⟨1, by decide +kernel, rfl, rfl⟩
theorem F_137_62 : F 137 62 (.iload_n 1) 63 := ⟨1, by decide +kernel, rfl, rfl⟩
theorem F_137_63 : F 137 63 (.iconst 1) 64 := ⟨1, by decide +kernel, rfl, rfl⟩
theorem F_137_64 : F 137 64 (.iadd) 65 := ⟨1, by decide +kernel, rfl, rfl⟩
theorem F_137_65 : F 137 65 (.lload_n 2) 66 := ⟨1, by decide +kernel, rfl, rfl⟩
theorem F_137_66 : F 137 66 (.aload_n 0) 67 := ⟨1, by decide +kernel, rfl, rfl⟩
theorem F_137_67 : F 137 67 (.getfield 45) 70 := ⟨3, by decide +kernel, rfl, rfl⟩
theorem fl_4_45 : m_fl.lookup (4, 45) = some (4, 9, 1142) := by decide +kernel
theorem kd_66_9 : kd 66 9 = 0 := by decide +kernel
theorem F_137_70 : F 137 70 (.i2l) 71 := ⟨1, by decide +kernel, rfl, rfl⟩
theorem F_137_71 : F 137 71 (.lmul) 72 := ⟨1, by decide +kernel, rfl, rfl⟩
theorem F_137_72 : F 137 72 (.invokestatic 134) 75 := ⟨3, by decide +kernel, rfl, rfl⟩
theorem il_4_134 : ilq 4 134 1 137 3 = true := by decide +kernel
theorem F_137_48 : F 137 48 (.aload_n 0) 49 := ⟨1, by decide +kernel, rfl, rfl⟩
theorem F_137_49 : F 137 49 (.iload_n 1) 50 := ⟨1, by decide +kernel, rfl, rfl⟩
theorem F_137_50 : F 137 50 (.iconst 1) 51 := ⟨1, by decide +kernel, rfl, rfl⟩
theorem F_137_51 : F 137 51 (.iadd) 52 := ⟨1, by decide +kernel, rfl, rfl⟩
theorem F_137_52 : F 137 52 (.lload_n 2) 53 := ⟨1, by decide +kernel, rfl, rfl⟩
theorem F_137_53 : F 137 53 (.ldc2_w 140) 56 := ⟨3, by decide +kernel, rfl, rfl⟩
theorem kj_4_140 : m_k64.lookup (4, 140) = some (12, 4055) := by decide +kernel
theorem oj_12 : (12 : Int64) = Int64.ofInt 12 := by decide +kernel
theorem F_137_56 : F 137 56 (.lmul) 57 := ⟨1, by decide +kernel, rfl, rfl⟩
theorem F_137_57 : F 137 57 (.invokestatic 134) 60 := ⟨3, by decide +kernel, rfl, rfl⟩
theorem F_137_75 : F 137 75 (.aload_n 0) 76 := ⟨1, by decide +kernel, rfl, rfl⟩
theorem F_137_76 : F 137 76 (.iload 4) 78 := ⟨2, by decide +kernel, rfl, rfl⟩
theorem F_137_78 : F 137 78 (.invokevirtual 97) 81 := ⟨3, by decide +kernel, rfl, rfl⟩
theorem F_137_81 : F 137 81 (.istore 5) 83 := ⟨2, by decide +kernel, rfl, rfl⟩
theorem F_137_83 : F 137 83 (.aload_n 0) 84 := ⟨1, by decide +kernel, rfl, rfl⟩
theorem F_137_84 : F 137 84 (.iload_n 1) 85 := ⟨1, by decide +kernel, rfl, rfl⟩
theorem F_137_85 : F 137 85 (.iconst 1) 86 := ⟨1, by decide +kernel, rfl, rfl⟩
theorem F_137_86 : F 137 86 (.iadd) 87 := ⟨1, by decide +kernel, rfl, rfl⟩
theorem F_137_87 : F 137 87 (.lload_n 2) 88 := ⟨1, by decide +kernel, rfl, rfl⟩
theorem F_137_88 : F 137 88 (.bipush 12) 90 := ⟨2, by decide +kernel, rfl, rfl⟩
theorem bi_12 : (Int8.ofInt 12).toInt32 = Int32.ofInt 12 := by decide +kernel
theorem F_137_90 : F 137 90 (.aload_n 0) 91 := ⟨1, by decide +kernel, rfl, rfl⟩
theorem F_137_91 : F 137 91 (.getfield 45) 94 := ⟨3, by decide +kernel, rfl, rfl⟩
theorem F_137_94 : F 137 94 (.isub) 95 := ⟨1, by decide +kernel, rfl, rfl⟩
theorem F_137_95 : F 137 95 (.i2l) 96 := ⟨1, by decide +kernel, rfl, rfl⟩
theorem F_137_96 : F 137 96 (.lmul) 97 := ⟨1, by decide +kernel, rfl, rfl⟩
theorem F_137_97 : F 137 97 (.invokestatic 134) 100 := ⟨3, by decide +kernel, rfl, rfl⟩
theorem F_137_60 : F 137 60 (.return_) 61 := ⟨1, by decide +kernel, rfl, rfl⟩
theorem F_137_100 : F 137 100 (.aload_n 0) 101 := ⟨1, by decide +kernel, rfl, rfl⟩
theorem F_137_101 : F 137 101 (.iload 4) 103 := ⟨2, by decide +kernel, rfl, rfl⟩
theorem F_137_103 : F 137 103 (.iload 5) 105 := ⟨2, by decide +kernel, rfl, rfl⟩
theorem F_137_105 : F 137 105 (.invokevirtual 100) 108 := ⟨3, by decide +kernel, rfl, rfl⟩
theorem F_137_108 : F 137 108 (.return_) 109 := ⟨1, by decide +kernel, rfl, rfl⟩
theorem t_X4_reaches {X : List Int32} {d : Nat} {s : m_St} {P : Option Value → m_St → Prop} {e n : Int} (e0 : 0 ≤ e)
    (l1 : inR e)
    (l2 : inR n)
    (l3 : n ≤ e → ¬ (iXor (s 67 2) (s 69 2)) = 0 → P (some (vI 0)) s)
    (l4 : n ≤ e → (iXor (s 67 2) (s 69 2)) = 0 → inR (s 66 4))
    (l5 : n ≤ e → (iXor (s 67 2) (s 69 2)) = 0 → ¬ (iAnd (iAnd (s 67 2) (s 69 2)) (s 66 4)) = (s 66 4) → P (some (vI 0)) s)
    (l6 : n ≤ e → (iXor (s 67 2) (s 69 2)) = 0 → (iAnd (iAnd (s 67 2) (s 69 2)) (s 66 4)) = (s 66 4) → P (some (vI 1)) s)
    (l7 : e < n → e < 5 → Rn X (d + 5) 112 47 [some (vR 66), some (vI e), some (vI n), some (vI (tng s)), some (vI 0), none, none] [] s P)
    (l8 : e < n → 5 ≤ e → ¬ (iXor (s 67 2) (s 69 2)) = 0 → P (some (vI 0)) s)
    (l9 : e < n → 5 ≤ e → (iXor (s 67 2) (s 69 2)) = 0 → inR (s 66 4))
    (l10 : e < n → 5 ≤ e → (iXor (s 67 2) (s 69 2)) = 0 → ¬ (iAnd (iAnd (s 67 2) (s 69 2)) (s 66 4)) = (s 66 4) → P (some (vI 0)) s)
    (l11 : e < n → 5 ≤ e → (iXor (s 67 2) (s 69 2)) = 0 → (iAnd (iAnd (s 67 2) (s 69 2)) (s 66 4)) = (s 66 4) → P (some (vI 1)) s)
    : Cl X (d + 5) 112 [vR 66, vI e, vI n] s P := by
  refine Cl_of n_112 rfl ?_
  show Rn _ _ _ _ [some (vR 66), some (vI e), some (vI n), none, none, none, none] [] _ _
  refine r_ldI_n (m := 1) F_112_0 rfl ?_
  refine r_ldI_n (m := 2) F_112_1 rfl ?_
  refine r_icmp (t := 10) F_112_2 rfl l1 l2 ?_ ?_
  · intro e1
    replace e1 : n ≤ e := e1
    refine r_ldR_n (m := 0) F_112_10 rfl ?_
    refine r_virt2 (A := []) (r := []) (n := 0) F_112_11 o_112 il_4_91 rfl rfl rfl rfl ty_66 vy_102 (lay_le n_102 rfl) ?_
    refine Cl_of n_102 rfl ?_
    show Rn _ _ _ _ [some (vR 66)] [] _ _
    refine r_ldR_n (m := 0) F_102_0 rfl ?_
    refine r_getR (J := 0) F_102_1 o_102 fl_4_12 ty_66 (by decide) rfl (kd2 kd_66_0 (by decide)) (kd9 kd_66_0 (by decide)) rf_66_0 ?_
    refine r_virt2 (A := []) (r := []) (n := 0) F_102_4 o_102 il_4_67 rfl rfl rfl rfl ty_67 vy_68 (lay_le n_68 rfl) ?_
    refine Cl_of n_68 rfl ?_
    show Rn _ _ _ _ [some (vR 67)] [] _ _
    refine r_ldR_n (m := 0) F_68_0 rfl ?_
    refine r_getI (J := 2) (e := (s 67 2)) F_68_1 o_68 fl_0_19 ty_67 (by decide) rfl kd_67_2 rfl ?_
    refine r_ireturn F_68_4 rt_68 ?_
    show Rn _ _ _ _ _ [vI (s 67 2)] _ _
    refine r_ldR_n (m := 0) F_102_7 rfl ?_
    refine r_getR (J := 1) F_102_8 o_102 fl_4_18 ty_66 (by decide) rfl (kd2 kd_66_1 (by decide)) (kd9 kd_66_1 (by decide)) rf_66_1 ?_
    refine r_virt2 (A := []) (r := [vI (s 67 2)]) (n := 0) F_102_11 o_102 il_4_67 rfl rfl rfl rfl ty_69 vy_68 (lay_le n_68 rfl) ?_
    refine Cl_of n_68 rfl ?_
    show Rn _ _ _ _ [some (vR 69)] [] _ _
    refine r_ldR_n (m := 0) F_68_0 rfl ?_
    refine r_getI (J := 2) (e := (s 69 2)) F_68_1 o_68 fl_0_19 ty_69 (by decide) rfl kd_69_2 rfl ?_
    refine r_ireturn F_68_4 rt_68 ?_
    show Rn _ _ _ _ _ [vI (s 69 2), vI (s 67 2)] _ _
    refine r_ixor F_102_14 rfl ?_
    refine r_ireturn F_102_15 rt_102 ?_
    show Rn _ _ _ _ _ [vI (iXor (s 67 2) (s 69 2))] _ _
    refine r_if (t := 37) F_112_14 rfl (inR_iXor _ _) ?_ ?_
    · intro e2
      replace e2 : ¬ (iXor (s 67 2) (s 69 2)) = 0 := e2
      refine r_iconst F_112_37 ?_
      refine r_zreturn F_112_38 rt_112 (Or.inl rfl) ?_
      exact (l3 e1 e2)
    · intro e3
      replace e3 : (iXor (s 67 2) (s 69 2)) = 0 := (Classical.not_not.mp e3)
      refine r_ldR_n (m := 0) F_112_17 rfl ?_
      refine r_virt2 (A := []) (r := []) (n := 0) F_112_18 o_112 il_4_70 rfl rfl rfl rfl ty_66 vy_103 (lay_le n_103 rfl) ?_
      refine Cl_of n_103 rfl ?_
      show Rn _ _ _ _ [some (vR 66)] [] _ _
      refine r_ldR_n (m := 0) F_103_0 rfl ?_
      refine r_getR (J := 0) F_103_1 o_103 fl_4_12 ty_66 (by decide) rfl (kd2 kd_66_0 (by decide)) (kd9 kd_66_0 (by decide)) rf_66_0 ?_
      refine r_virt2 (A := []) (r := []) (n := 0) F_103_4 o_103 il_4_67 rfl rfl rfl rfl ty_67 vy_68 (lay_le n_68 rfl) ?_
      refine Cl_of n_68 rfl ?_
      show Rn _ _ _ _ [some (vR 67)] [] _ _
      refine r_ldR_n (m := 0) F_68_0 rfl ?_
      refine r_getI (J := 2) (e := (s 67 2)) F_68_1 o_68 fl_0_19 ty_67 (by decide) rfl kd_67_2 rfl ?_
      refine r_ireturn F_68_4 rt_68 ?_
      show Rn _ _ _ _ _ [vI (s 67 2)] _ _
      refine r_ldR_n (m := 0) F_103_7 rfl ?_
      refine r_getR (J := 1) F_103_8 o_103 fl_4_18 ty_66 (by decide) rfl (kd2 kd_66_1 (by decide)) (kd9 kd_66_1 (by decide)) rf_66_1 ?_
      refine r_virt2 (A := []) (r := [vI (s 67 2)]) (n := 0) F_103_11 o_103 il_4_67 rfl rfl rfl rfl ty_69 vy_68 (lay_le n_68 rfl) ?_
      refine Cl_of n_68 rfl ?_
      show Rn _ _ _ _ [some (vR 69)] [] _ _
      refine r_ldR_n (m := 0) F_68_0 rfl ?_
      refine r_getI (J := 2) (e := (s 69 2)) F_68_1 o_68 fl_0_19 ty_69 (by decide) rfl kd_69_2 rfl ?_
      refine r_ireturn F_68_4 rt_68 ?_
      show Rn _ _ _ _ _ [vI (s 69 2), vI (s 67 2)] _ _
      refine r_iand F_103_14 rfl ?_
      refine r_ireturn F_103_15 rt_103 ?_
      show Rn _ _ _ _ _ [vI (iAnd (s 67 2) (s 69 2))] _ _
      refine r_ldR_n (m := 0) F_112_21 rfl ?_
      refine r_getI (J := 4) (e := (s 66 4)) F_112_22 o_112 fl_4_29 ty_66 (by decide) rfl kd_66_4 rfl ?_
      refine r_iand F_112_25 rfl ?_
      refine r_ldR_n (m := 0) F_112_26 rfl ?_
      refine r_getI (J := 4) (e := (s 66 4)) F_112_27 o_112 fl_4_29 ty_66 (by decide) rfl kd_66_4 rfl ?_
      refine r_icmp (t := 37) F_112_30 rfl (inR_iAnd _ _) (l4 e1 e3) ?_ ?_
      · intro e4
        replace e4 : ¬ (iAnd (iAnd (s 67 2) (s 69 2)) (s 66 4)) = (s 66 4) := e4
        refine r_iconst F_112_37 ?_
        refine r_zreturn F_112_38 rt_112 (Or.inl rfl) ?_
        exact (l5 e1 e3 e4)
      · intro e5
        replace e5 : (iAnd (iAnd (s 67 2) (s 69 2)) (s 66 4)) = (s 66 4) := (Classical.not_not.mp e5)
        refine r_iconst F_112_33 ?_
        refine r_goto (t := 38) F_112_34 rfl ?_
        refine r_zreturn F_112_38 rt_112 (Or.inr rfl) ?_
        exact (l6 e1 e3 e5)
  · intro e6
    replace e6 : e < n := (Int.not_le.mp e6)
    refine r_ldI_n (m := 1) F_112_5 rfl ?_
    refine r_iconst F_112_6 ?_
    refine r_icmp (t := 39) F_112_7 rfl l1 (by decide) ?_ ?_
    · intro e7
      replace e7 : e < 5 := e7
      refine r_ldR_n (m := 0) F_112_39 rfl ?_
      refine r_virt2 (A := []) (r := []) (n := 0) F_112_40 o_112 il_4_94 rfl rfl rfl rfl ty_66 vy_113 (lay_le n_113 rfl) ?_
      refine sp_turning  ?_
      show Rn _ _ _ _ _ [vI (tng s)] _ _
      refine r_stI_n (m := 3) (L' := [some (vR 66), some (vI e), some (vI n), some (vI (tng s)), none, none, none]) F_112_43 rfl rfl ?_
      refine r_iconst F_112_44 ?_
      refine r_stI (m := 4) (L' := [some (vR 66), some (vI e), some (vI n), some (vI (tng s)), some (vI 0), none, none]) F_112_45 rfl rfl ?_
      exact (l7 e6 e7)
    · intro e8
      replace e8 : 5 ≤ e := (Int.not_lt.mp e8)
      refine r_ldR_n (m := 0) F_112_10 rfl ?_
      refine r_virt2 (A := []) (r := []) (n := 0) F_112_11 o_112 il_4_91 rfl rfl rfl rfl ty_66 vy_102 (lay_le n_102 rfl) ?_
      refine Cl_of n_102 rfl ?_
      show Rn _ _ _ _ [some (vR 66)] [] _ _
      refine r_ldR_n (m := 0) F_102_0 rfl ?_
      refine r_getR (J := 0) F_102_1 o_102 fl_4_12 ty_66 (by decide) rfl (kd2 kd_66_0 (by decide)) (kd9 kd_66_0 (by decide)) rf_66_0 ?_
      refine r_virt2 (A := []) (r := []) (n := 0) F_102_4 o_102 il_4_67 rfl rfl rfl rfl ty_67 vy_68 (lay_le n_68 rfl) ?_
      refine Cl_of n_68 rfl ?_
      show Rn _ _ _ _ [some (vR 67)] [] _ _
      refine r_ldR_n (m := 0) F_68_0 rfl ?_
      refine r_getI (J := 2) (e := (s 67 2)) F_68_1 o_68 fl_0_19 ty_67 (by decide) rfl kd_67_2 rfl ?_
      refine r_ireturn F_68_4 rt_68 ?_
      show Rn _ _ _ _ _ [vI (s 67 2)] _ _
      refine r_ldR_n (m := 0) F_102_7 rfl ?_
      refine r_getR (J := 1) F_102_8 o_102 fl_4_18 ty_66 (by decide) rfl (kd2 kd_66_1 (by decide)) (kd9 kd_66_1 (by decide)) rf_66_1 ?_
      refine r_virt2 (A := []) (r := [vI (s 67 2)]) (n := 0) F_102_11 o_102 il_4_67 rfl rfl rfl rfl ty_69 vy_68 (lay_le n_68 rfl) ?_
      refine Cl_of n_68 rfl ?_
      show Rn _ _ _ _ [some (vR 69)] [] _ _
      refine r_ldR_n (m := 0) F_68_0 rfl ?_
      refine r_getI (J := 2) (e := (s 69 2)) F_68_1 o_68 fl_0_19 ty_69 (by decide) rfl kd_69_2 rfl ?_
      refine r_ireturn F_68_4 rt_68 ?_
      show Rn _ _ _ _ _ [vI (s 69 2), vI (s 67 2)] _ _
      refine r_ixor F_102_14 rfl ?_
      refine r_ireturn F_102_15 rt_102 ?_
      show Rn _ _ _ _ _ [vI (iXor (s 67 2) (s 69 2))] _ _
      refine r_if (t := 37) F_112_14 rfl (inR_iXor _ _) ?_ ?_
      · intro e9
        replace e9 : ¬ (iXor (s 67 2) (s 69 2)) = 0 := e9
        refine r_iconst F_112_37 ?_
        refine r_zreturn F_112_38 rt_112 (Or.inl rfl) ?_
        exact (l8 e6 e8 e9)
      · intro e10
        replace e10 : (iXor (s 67 2) (s 69 2)) = 0 := (Classical.not_not.mp e10)
        refine r_ldR_n (m := 0) F_112_17 rfl ?_
        refine r_virt2 (A := []) (r := []) (n := 0) F_112_18 o_112 il_4_70 rfl rfl rfl rfl ty_66 vy_103 (lay_le n_103 rfl) ?_
        refine Cl_of n_103 rfl ?_
        show Rn _ _ _ _ [some (vR 66)] [] _ _
        refine r_ldR_n (m := 0) F_103_0 rfl ?_
        refine r_getR (J := 0) F_103_1 o_103 fl_4_12 ty_66 (by decide) rfl (kd2 kd_66_0 (by decide)) (kd9 kd_66_0 (by decide)) rf_66_0 ?_
        refine r_virt2 (A := []) (r := []) (n := 0) F_103_4 o_103 il_4_67 rfl rfl rfl rfl ty_67 vy_68 (lay_le n_68 rfl) ?_
        refine Cl_of n_68 rfl ?_
        show Rn _ _ _ _ [some (vR 67)] [] _ _
        refine r_ldR_n (m := 0) F_68_0 rfl ?_
        refine r_getI (J := 2) (e := (s 67 2)) F_68_1 o_68 fl_0_19 ty_67 (by decide) rfl kd_67_2 rfl ?_
        refine r_ireturn F_68_4 rt_68 ?_
        show Rn _ _ _ _ _ [vI (s 67 2)] _ _
        refine r_ldR_n (m := 0) F_103_7 rfl ?_
        refine r_getR (J := 1) F_103_8 o_103 fl_4_18 ty_66 (by decide) rfl (kd2 kd_66_1 (by decide)) (kd9 kd_66_1 (by decide)) rf_66_1 ?_
        refine r_virt2 (A := []) (r := [vI (s 67 2)]) (n := 0) F_103_11 o_103 il_4_67 rfl rfl rfl rfl ty_69 vy_68 (lay_le n_68 rfl) ?_
        refine Cl_of n_68 rfl ?_
        show Rn _ _ _ _ [some (vR 69)] [] _ _
        refine r_ldR_n (m := 0) F_68_0 rfl ?_
        refine r_getI (J := 2) (e := (s 69 2)) F_68_1 o_68 fl_0_19 ty_69 (by decide) rfl kd_69_2 rfl ?_
        refine r_ireturn F_68_4 rt_68 ?_
        show Rn _ _ _ _ _ [vI (s 69 2), vI (s 67 2)] _ _
        refine r_iand F_103_14 rfl ?_
        refine r_ireturn F_103_15 rt_103 ?_
        show Rn _ _ _ _ _ [vI (iAnd (s 67 2) (s 69 2))] _ _
        refine r_ldR_n (m := 0) F_112_21 rfl ?_
        refine r_getI (J := 4) (e := (s 66 4)) F_112_22 o_112 fl_4_29 ty_66 (by decide) rfl kd_66_4 rfl ?_
        refine r_iand F_112_25 rfl ?_
        refine r_ldR_n (m := 0) F_112_26 rfl ?_
        refine r_getI (J := 4) (e := (s 66 4)) F_112_27 o_112 fl_4_29 ty_66 (by decide) rfl kd_66_4 rfl ?_
        refine r_icmp (t := 37) F_112_30 rfl (inR_iAnd _ _) (l9 e6 e8 e10) ?_ ?_
        · intro e11
          replace e11 : ¬ (iAnd (iAnd (s 67 2) (s 69 2)) (s 66 4)) = (s 66 4) := e11
          refine r_iconst F_112_37 ?_
          refine r_zreturn F_112_38 rt_112 (Or.inl rfl) ?_
          exact (l10 e6 e8 e10 e11)
        · intro e12
          replace e12 : (iAnd (iAnd (s 67 2) (s 69 2)) (s 66 4)) = (s 66 4) := (Classical.not_not.mp e12)
          refine r_iconst F_112_33 ?_
          refine r_goto (t := 38) F_112_34 rfl ?_
          refine r_zreturn F_112_38 rt_112 (Or.inr rfl) ?_
          exact (l11 e6 e8 e10 e12)
theorem t_X4_reaches_47 {X : List Int32} {d : Nat} {s : m_St} {P : Option Value → m_St → Prop} {e n u a : Int} {z5 z6 : Option Value} (e0 : 0 ≤ e) (a0 : 0 ≤ a)
    (l1 : inR a)
    (l2 : 8 ≤ a → P (some (vI 0)) s)
    (l3 : a < 8 → (iAnd (iShr u a) 1) = 0 → Rn X (d + 5) 112 47 [some (vR 66), some (vI e), some (vI n), some (vI u), some (vI (a + 1)), z5, z6] [] s P)
    (l4 : a < 8 → ¬ (iAnd (iShr u a) 1) = 0 → tkok s)
    (l5 : a < 8 → ¬ (iAnd (iShr u a) 1) = 0 → e < 5)
    (l6 : a < 8 → ¬ (iAnd (iShr u a) 1) = 0 → Cl X (d + 4) 112 [vR 66, vI (e + 1), vI n] (m_upd (utS s a) 71 e a) (fun v s' => Rn X (d + 5) 112 87 [some (vR 66), some (vI e), some (vI n), some (vI u), some (vI a), some (vI (olw s a)), z6] (m_push v []) s' P))
    : Rn X (d + 5) 112 47 [some (vR 66), some (vI e), some (vI n), some (vI u), some (vI a), z5, z6] [] s P := by
  refine r_ldI (m := 4) F_112_47 rfl ?_
  refine r_bipush F_112_49 bi_8 ?_
  refine r_icmp (t := 110) F_112_51 rfl l1 (by decide) ?_ ?_
  · intro e1
    replace e1 : 8 ≤ a := e1
    refine r_iconst F_112_110 ?_
    refine r_zreturn F_112_111 rt_112 (Or.inl rfl) ?_
    exact (l2 e1)
  · intro e2
    replace e2 : a < 8 := (Int.not_le.mp e2)
    refine r_ldI_n (m := 3) F_112_54 rfl ?_
    refine r_ldI (m := 4) F_112_55 rfl ?_
    refine r_ishr F_112_57 rfl ?_
    refine r_iconst F_112_58 ?_
    refine r_iand F_112_59 rfl ?_
    refine r_if (t := 104) F_112_60 rfl (inR_iAnd _ _) ?_ ?_
    · intro e3
      replace e3 : (iAnd (iShr u a) 1) = 0 := e3
      refine r_iinc (m := 4) (e := (a + 1)) (L' := [some (vR 66), some (vI e), some (vI n), some (vI u), some (vI (a + 1)), z5, z6]) F_112_104 rfl rfl rfl rfl ?_
      refine r_goto (t := 47) F_112_107 rfl ?_
      exact (l3 e2 e3)
    · intro e4
      replace e4 : ¬ (iAnd (iShr u a) 1) = 0 := e4
      refine r_ldR_n (m := 0) F_112_63 rfl ?_
      refine r_ldI (m := 4) F_112_64 rfl ?_
      refine r_virt2 (A := [vI a]) (r := []) (n := 1) F_112_66 o_112 il_4_97 rfl rfl rfl rfl ty_66 vy_109 (lay_le n_109 rfl) ?_
      refine sp_utter (l4 e2 e4) a0 e2 ?_
      show Rn _ _ _ _ _ [vI (olw s a)] _ _
      refine r_stI (m := 5) (L' := [some (vR 66), some (vI e), some (vI n), some (vI u), some (vI a), some (vI (olw s a)), z6]) F_112_69 rfl rfl ?_
      refine r_ldR_n (m := 0) F_112_71 rfl ?_
      refine r_getR (J := 3) F_112_72 o_112 fl_4_25 ty_66 (by decide) rfl (kd2 kd_66_3 (by decide)) (kd9 kd_66_3 (by decide)) rf_66_3 ?_
      refine r_ldI_n (m := 1) F_112_75 rfl ?_
      refine r_ldI (m := 4) F_112_76 rfl ?_
      refine r_iast F_112_78 ty_71 e0 (lt_ln ln_71 (l5 e2 e4)) ?_
      refine r_ldR_n (m := 0) F_112_79 rfl ?_
      refine r_ldI_n (m := 1) F_112_80 rfl ?_
      refine r_iconst F_112_81 ?_
      refine r_iadd F_112_82 rfl ?_
      refine r_ldI_n (m := 2) F_112_83 rfl ?_
      refine r_stat2 (A := [vR 66, vI (e + 1), vI n]) (r := []) (n := 3) F_112_84 o_112 il_4_87 (by decide) rfl rfl rfl rfl (lay_le n_112 rfl) ?_
      exact (l6 e2 e4)
theorem t_X4_reaches_87 {X : List Int32} {d : Nat} {s : m_St} {P : Option Value → m_St → Prop} {e n u a w rv : Int} {z6 : Option Value} (e0 : 0 ≤ e) (a0 : 0 ≤ a) (a8 : a < 8)
    (l1 : tkok s)
    (l2 : inR w)
    (l3 : inR rv)
    (l4 : rv = 0 → Rn X (d + 5) 112 47 [some (vR 66), some (vI e), some (vI n), some (vI u), some (vI (a + 1)), some (vI w), some (vI rv)] [] (tbS s a w) P)
    (l5 : ¬ rv = 0 → P (some (vI 1)) (tbS s a w))
    : Rn X (d + 5) 112 87 [some (vR 66), some (vI e), some (vI n), some (vI u), some (vI a), some (vI w), z6] [vI rv] s P := by
  refine r_stI (m := 6) (L' := [some (vR 66), some (vI e), some (vI n), some (vI u), some (vI a), some (vI w), some (vI rv)]) F_112_87 rfl rfl ?_
  refine r_ldR_n (m := 0) F_112_89 rfl ?_
  refine r_ldI (m := 4) F_112_90 rfl ?_
  refine r_ldI (m := 5) F_112_92 rfl ?_
  refine r_virt2 (A := [vI a, vI w]) (r := []) (n := 2) F_112_94 o_112 il_4_100 rfl rfl rfl rfl ty_66 vy_114 (lay_le n_114 rfl) ?_
  refine sp_takeBack l1 a0 a8 l2 ?_
  show Rn _ _ _ _ _ [] _ _
  refine r_ldI (m := 6) F_112_97 rfl ?_
  refine r_if (t := 104) F_112_99 rfl l3 ?_ ?_
  · intro e1
    replace e1 : rv = 0 := e1
    refine r_iinc (m := 4) (e := (a + 1)) (L' := [some (vR 66), some (vI e), some (vI n), some (vI u), some (vI (a + 1)), some (vI w), some (vI rv)]) F_112_104 rfl rfl rfl rfl ?_
    refine r_goto (t := 47) F_112_107 rfl ?_
    exact (l4 e1)
  · intro e2
    replace e2 : ¬ rv = 0 := e2
    refine r_iconst F_112_102 ?_
    refine r_zreturn F_112_103 rt_112 (Or.inr rfl) ?_
    exact (l5 e2)
theorem t_X4_tryAll {X : List Int32} {d : Nat} {s : m_St} {P : Option Value → m_St → Prop} {n t : Int}
    (l1 : inR n)
    (l2 : 0 < n → 0 ≤ (iAnd (s 67 2) (s 69 2)))
    (l3 : 0 < n → (iAnd (s 67 2) (s 69 2)) < 65536)
    (l4 : 0 < n → inR (2 * (bc (iAnd (s 67 2) (s 69 2)))))
    (l5 : 0 < n → (2 * (bc (iAnd (s 67 2) (s 69 2)))) ≤ 0 → Rn X (d + 5) 118 40 [some (vR 66), some (vI n), some (vJ t), none, some (vI (tng s)), some (vI 0), none] [] s P)
    (l6 : 0 < n → 0 < (2 * (bc (iAnd (s 67 2) (s 69 2)))) → Cl X (d + 4) 118 [vR 66, vI (n - 1), vJ (t * (2 * (bc (iAnd (s 67 2) (s 69 2)))))] s (fun v s' => Rn X (d + 5) 118 31 [some (vR 66), some (vI n), some (vJ t), none, none, none, none] (m_push v []) s' P))
    (l7 : n ≤ 0 → inR (s 66 4))
    (l8 : n ≤ 0 → ¬ (iAnd (iAnd (s 67 2) (s 69 2)) (s 66 4)) = (s 66 4) → P none s)
    (l9 : n ≤ 0 → (iAnd (iAnd (s 67 2) (s 69 2)) (s 66 4)) = (s 66 4) → P none (m_upd (m_upd s 66 5 ((s 66 5) + t)) 66 6 (iAnd (s 66 6) (iAnd (s 67 2) (s 69 2)))))
    : Cl X (d + 5) 118 [vR 66, vI n, vJ t] s P := by
  refine Cl_of n_118 rfl ?_
  show Rn _ _ _ _ [some (vR 66), some (vI n), some (vJ t), none, none, none, none] [] _ _
  refine r_ldI_n (m := 1) F_118_0 rfl ?_
  refine r_if (t := 10) F_118_1 rfl l1 ?_ ?_
  · intro e1
    replace e1 : 0 < n := e1
    refine r_ldR_n (m := 0) F_118_10 rfl ?_
    refine r_virt2 (A := []) (r := []) (n := 0) F_118_11 o_118 il_4_116 rfl rfl rfl rfl ty_66 vy_120 (lay_le n_120 rfl) ?_
    refine Cl_of n_120 rfl ?_
    show Rn _ _ _ _ [some (vR 66)] [] _ _
    refine r_iconst F_120_0 ?_
    refine r_ldR_n (m := 0) F_120_1 rfl ?_
    refine r_virt2 (A := []) (r := [vI 2]) (n := 0) F_120_2 o_120 il_4_70 rfl rfl rfl rfl ty_66 vy_103 (lay_le n_103 rfl) ?_
    refine Cl_of n_103 rfl ?_
    show Rn _ _ _ _ [some (vR 66)] [] _ _
    refine r_ldR_n (m := 0) F_103_0 rfl ?_
    refine r_getR (J := 0) F_103_1 o_103 fl_4_12 ty_66 (by decide) rfl (kd2 kd_66_0 (by decide)) (kd9 kd_66_0 (by decide)) rf_66_0 ?_
    refine r_virt2 (A := []) (r := []) (n := 0) F_103_4 o_103 il_4_67 rfl rfl rfl rfl ty_67 vy_68 (lay_le n_68 rfl) ?_
    refine Cl_of n_68 rfl ?_
    show Rn _ _ _ _ [some (vR 67)] [] _ _
    refine r_ldR_n (m := 0) F_68_0 rfl ?_
    refine r_getI (J := 2) (e := (s 67 2)) F_68_1 o_68 fl_0_19 ty_67 (by decide) rfl kd_67_2 rfl ?_
    refine r_ireturn F_68_4 rt_68 ?_
    show Rn _ _ _ _ _ [vI (s 67 2)] _ _
    refine r_ldR_n (m := 0) F_103_7 rfl ?_
    refine r_getR (J := 1) F_103_8 o_103 fl_4_18 ty_66 (by decide) rfl (kd2 kd_66_1 (by decide)) (kd9 kd_66_1 (by decide)) rf_66_1 ?_
    refine r_virt2 (A := []) (r := [vI (s 67 2)]) (n := 0) F_103_11 o_103 il_4_67 rfl rfl rfl rfl ty_69 vy_68 (lay_le n_68 rfl) ?_
    refine Cl_of n_68 rfl ?_
    show Rn _ _ _ _ [some (vR 69)] [] _ _
    refine r_ldR_n (m := 0) F_68_0 rfl ?_
    refine r_getI (J := 2) (e := (s 69 2)) F_68_1 o_68 fl_0_19 ty_69 (by decide) rfl kd_69_2 rfl ?_
    refine r_ireturn F_68_4 rt_68 ?_
    show Rn _ _ _ _ _ [vI (s 69 2), vI (s 67 2)] _ _
    refine r_iand F_103_14 rfl ?_
    refine r_ireturn F_103_15 rt_103 ?_
    show Rn _ _ _ _ _ [vI (iAnd (s 67 2) (s 69 2)), vI 2] _ _
    refine r_stat2 (A := [vI (iAnd (s 67 2) (s 69 2))]) (r := [vI 2]) (n := 1) F_120_5 o_120 il_4_73 (by decide) rfl rfl rfl rfl (lay_le n_74 rfl) ?_
    refine sp_bitCount (l2 e1) (l3 e1) ?_
    show Rn _ _ _ _ _ [vI (bc (iAnd (s 67 2) (s 69 2))), vI 2] _ _
    refine r_imul F_120_8 rfl ?_
    refine r_ireturn F_120_9 rt_120 ?_
    show Rn _ _ _ _ _ [vI (2 * (bc (iAnd (s 67 2) (s 69 2))))] _ _
    refine r_if (t := 31) F_118_14 rfl (l4 e1) ?_ ?_
    · intro e2
      replace e2 : (2 * (bc (iAnd (s 67 2) (s 69 2)))) ≤ 0 := e2
      refine r_ldR_n (m := 0) F_118_31 rfl ?_
      refine r_virt2 (A := []) (r := []) (n := 0) F_118_32 o_118 il_4_94 rfl rfl rfl rfl ty_66 vy_113 (lay_le n_113 rfl) ?_
      refine sp_turning  ?_
      show Rn _ _ _ _ _ [vI (tng s)] _ _
      refine r_stI (m := 4) (L' := [some (vR 66), some (vI n), some (vJ t), none, some (vI (tng s)), none, none]) F_118_35 rfl rfl ?_
      refine r_iconst F_118_37 ?_
      refine r_stI (m := 5) (L' := [some (vR 66), some (vI n), some (vJ t), none, some (vI (tng s)), some (vI 0), none]) F_118_38 rfl rfl ?_
      exact (l5 e1 e2)
    · intro e3
      replace e3 : 0 < (2 * (bc (iAnd (s 67 2) (s 69 2)))) := (Int.not_le.mp e3)
      refine r_ldR_n (m := 0) F_118_17 rfl ?_
      refine r_ldI_n (m := 1) F_118_18 rfl ?_
      refine r_iconst F_118_19 ?_
      refine r_isub F_118_20 rfl ?_
      refine r_ldJ_n (m := 2) F_118_21 rfl ?_
      refine r_ldR_n (m := 0) F_118_22 rfl ?_
      refine r_virt2 (A := []) (r := [vJ t, vI (n - 1), vR 66]) (n := 0) F_118_23 o_118 il_4_116 rfl rfl rfl rfl ty_66 vy_120 (lay_le n_120 rfl) ?_
      refine Cl_of n_120 rfl ?_
      show Rn _ _ _ _ [some (vR 66)] [] _ _
      refine r_iconst F_120_0 ?_
      refine r_ldR_n (m := 0) F_120_1 rfl ?_
      refine r_virt2 (A := []) (r := [vI 2]) (n := 0) F_120_2 o_120 il_4_70 rfl rfl rfl rfl ty_66 vy_103 (lay_le n_103 rfl) ?_
      refine Cl_of n_103 rfl ?_
      show Rn _ _ _ _ [some (vR 66)] [] _ _
      refine r_ldR_n (m := 0) F_103_0 rfl ?_
      refine r_getR (J := 0) F_103_1 o_103 fl_4_12 ty_66 (by decide) rfl (kd2 kd_66_0 (by decide)) (kd9 kd_66_0 (by decide)) rf_66_0 ?_
      refine r_virt2 (A := []) (r := []) (n := 0) F_103_4 o_103 il_4_67 rfl rfl rfl rfl ty_67 vy_68 (lay_le n_68 rfl) ?_
      refine Cl_of n_68 rfl ?_
      show Rn _ _ _ _ [some (vR 67)] [] _ _
      refine r_ldR_n (m := 0) F_68_0 rfl ?_
      refine r_getI (J := 2) (e := (s 67 2)) F_68_1 o_68 fl_0_19 ty_67 (by decide) rfl kd_67_2 rfl ?_
      refine r_ireturn F_68_4 rt_68 ?_
      show Rn _ _ _ _ _ [vI (s 67 2)] _ _
      refine r_ldR_n (m := 0) F_103_7 rfl ?_
      refine r_getR (J := 1) F_103_8 o_103 fl_4_18 ty_66 (by decide) rfl (kd2 kd_66_1 (by decide)) (kd9 kd_66_1 (by decide)) rf_66_1 ?_
      refine r_virt2 (A := []) (r := [vI (s 67 2)]) (n := 0) F_103_11 o_103 il_4_67 rfl rfl rfl rfl ty_69 vy_68 (lay_le n_68 rfl) ?_
      refine Cl_of n_68 rfl ?_
      show Rn _ _ _ _ [some (vR 69)] [] _ _
      refine r_ldR_n (m := 0) F_68_0 rfl ?_
      refine r_getI (J := 2) (e := (s 69 2)) F_68_1 o_68 fl_0_19 ty_69 (by decide) rfl kd_69_2 rfl ?_
      refine r_ireturn F_68_4 rt_68 ?_
      show Rn _ _ _ _ _ [vI (s 69 2), vI (s 67 2)] _ _
      refine r_iand F_103_14 rfl ?_
      refine r_ireturn F_103_15 rt_103 ?_
      show Rn _ _ _ _ _ [vI (iAnd (s 67 2) (s 69 2)), vI 2] _ _
      refine r_stat2 (A := [vI (iAnd (s 67 2) (s 69 2))]) (r := [vI 2]) (n := 1) F_120_5 o_120 il_4_73 (by decide) rfl rfl rfl rfl (lay_le n_74 rfl) ?_
      refine sp_bitCount (l2 e1) (l3 e1) ?_
      show Rn _ _ _ _ _ [vI (bc (iAnd (s 67 2) (s 69 2))), vI 2] _ _
      refine r_imul F_120_8 rfl ?_
      refine r_ireturn F_120_9 rt_120 ?_
      show Rn _ _ _ _ _ [vI (2 * (bc (iAnd (s 67 2) (s 69 2)))), vJ t, vI (n - 1), vR 66] _ _
      refine r_i2l F_118_26 (l4 e1) ?_
      refine r_lmul F_118_27 rfl ?_
      refine r_stat2 (A := [vR 66, vI (n - 1), vJ (t * (2 * (bc (iAnd (s 67 2) (s 69 2)))))]) (r := []) (n := 3) F_118_28 o_118 il_4_108 (by decide) rfl rfl rfl rfl (lay_le n_118 rfl) ?_
      exact (l6 e1 e3)
  · intro e4
    replace e4 : n ≤ 0 := (Int.not_lt.mp e4)
    refine r_ldR_n (m := 0) F_118_4 rfl ?_
    refine r_ldJ_n (m := 2) F_118_5 rfl ?_
    refine r_virt2 (A := [vJ t]) (r := []) (n := 1) F_118_6 o_118 il_4_112 rfl rfl rfl rfl ty_66 vy_119 (lay_le n_119 rfl) ?_
    refine Cl_of n_119 rfl ?_
    show Rn _ _ _ _ [some (vR 66), some (vJ t), none] [] _ _
    refine r_ldR_n (m := 0) F_119_0 rfl ?_
    refine r_virt2 (A := []) (r := []) (n := 0) F_119_1 o_119 il_4_70 rfl rfl rfl rfl ty_66 vy_103 (lay_le n_103 rfl) ?_
    refine Cl_of n_103 rfl ?_
    show Rn _ _ _ _ [some (vR 66)] [] _ _
    refine r_ldR_n (m := 0) F_103_0 rfl ?_
    refine r_getR (J := 0) F_103_1 o_103 fl_4_12 ty_66 (by decide) rfl (kd2 kd_66_0 (by decide)) (kd9 kd_66_0 (by decide)) rf_66_0 ?_
    refine r_virt2 (A := []) (r := []) (n := 0) F_103_4 o_103 il_4_67 rfl rfl rfl rfl ty_67 vy_68 (lay_le n_68 rfl) ?_
    refine Cl_of n_68 rfl ?_
    show Rn _ _ _ _ [some (vR 67)] [] _ _
    refine r_ldR_n (m := 0) F_68_0 rfl ?_
    refine r_getI (J := 2) (e := (s 67 2)) F_68_1 o_68 fl_0_19 ty_67 (by decide) rfl kd_67_2 rfl ?_
    refine r_ireturn F_68_4 rt_68 ?_
    show Rn _ _ _ _ _ [vI (s 67 2)] _ _
    refine r_ldR_n (m := 0) F_103_7 rfl ?_
    refine r_getR (J := 1) F_103_8 o_103 fl_4_18 ty_66 (by decide) rfl (kd2 kd_66_1 (by decide)) (kd9 kd_66_1 (by decide)) rf_66_1 ?_
    refine r_virt2 (A := []) (r := [vI (s 67 2)]) (n := 0) F_103_11 o_103 il_4_67 rfl rfl rfl rfl ty_69 vy_68 (lay_le n_68 rfl) ?_
    refine Cl_of n_68 rfl ?_
    show Rn _ _ _ _ [some (vR 69)] [] _ _
    refine r_ldR_n (m := 0) F_68_0 rfl ?_
    refine r_getI (J := 2) (e := (s 69 2)) F_68_1 o_68 fl_0_19 ty_69 (by decide) rfl kd_69_2 rfl ?_
    refine r_ireturn F_68_4 rt_68 ?_
    show Rn _ _ _ _ _ [vI (s 69 2), vI (s 67 2)] _ _
    refine r_iand F_103_14 rfl ?_
    refine r_ireturn F_103_15 rt_103 ?_
    show Rn _ _ _ _ _ [vI (iAnd (s 67 2) (s 69 2))] _ _
    refine r_ldR_n (m := 0) F_119_4 rfl ?_
    refine r_getI (J := 4) (e := (s 66 4)) F_119_5 o_119 fl_4_29 ty_66 (by decide) rfl kd_66_4 rfl ?_
    refine r_iand F_119_8 rfl ?_
    refine r_ldR_n (m := 0) F_119_9 rfl ?_
    refine r_getI (J := 4) (e := (s 66 4)) F_119_10 o_119 fl_4_29 ty_66 (by decide) rfl kd_66_4 rfl ?_
    refine r_icmp (t := 39) F_119_13 rfl (inR_iAnd _ _) (l7 e4) ?_ ?_
    · intro e5
      replace e5 : ¬ (iAnd (iAnd (s 67 2) (s 69 2)) (s 66 4)) = (s 66 4) := e5
      refine r_return F_119_39 rt_119 ?_
      show Rn _ _ _ _ _ [] _ _
      refine r_return F_118_9 rt_118 ?_
      exact (l8 e4 e5)
    · intro e6
      replace e6 : (iAnd (iAnd (s 67 2) (s 69 2)) (s 66 4)) = (s 66 4) := (Classical.not_not.mp e6)
      refine r_ldR_n (m := 0) F_119_16 rfl ?_
      refine r_dupR F_119_17 ?_
      refine r_getJ (J := 5) (e := (s 66 5)) F_119_18 o_119 fl_4_32 ty_66 (by decide) rfl kd_66_5 rfl ?_
      refine r_ldJ_n (m := 1) F_119_21 rfl ?_
      refine r_ladd F_119_22 rfl ?_
      refine r_putJ (J := 5) F_119_23 o_119 fl_4_32 ty_66 (by decide) rfl kd_66_5 pf_4_5 ?_
      refine r_ldR_n (m := 0) F_119_26 rfl ?_
      refine r_dupR F_119_27 ?_
      refine r_getI (J := 6) (e := (s 66 6)) F_119_28 o_119 fl_4_36 ty_66 (by decide) rfl kd_66_6 (upd_nj (by decide)) ?_
      refine r_ldR_n (m := 0) F_119_31 rfl ?_
      refine r_virt2 (A := []) (r := [vI (s 66 6), vR 66]) (n := 0) F_119_32 o_119 il_4_70 rfl rfl rfl rfl ty_66 vy_103 (lay_le n_103 rfl) ?_
      refine Cl_of n_103 rfl ?_
      show Rn _ _ _ _ [some (vR 66)] [] _ _
      refine r_ldR_n (m := 0) F_103_0 rfl ?_
      refine r_getR (J := 0) F_103_1 o_103 fl_4_12 ty_66 (by decide) rfl (kd2 kd_66_0 (by decide)) (kd9 kd_66_0 (by decide)) rf_66_0 ?_
      refine r_virt2 (A := []) (r := []) (n := 0) F_103_4 o_103 il_4_67 rfl rfl rfl rfl ty_67 vy_68 (lay_le n_68 rfl) ?_
      refine Cl_of n_68 rfl ?_
      show Rn _ _ _ _ [some (vR 67)] [] _ _
      refine r_ldR_n (m := 0) F_68_0 rfl ?_
      refine r_getI (J := 2) (e := (s 67 2)) F_68_1 o_68 fl_0_19 ty_67 (by decide) rfl kd_67_2 (upd_nc (by decide)) ?_
      refine r_ireturn F_68_4 rt_68 ?_
      show Rn _ _ _ _ _ [vI (s 67 2)] _ _
      refine r_ldR_n (m := 0) F_103_7 rfl ?_
      refine r_getR (J := 1) F_103_8 o_103 fl_4_18 ty_66 (by decide) rfl (kd2 kd_66_1 (by decide)) (kd9 kd_66_1 (by decide)) rf_66_1 ?_
      refine r_virt2 (A := []) (r := [vI (s 67 2)]) (n := 0) F_103_11 o_103 il_4_67 rfl rfl rfl rfl ty_69 vy_68 (lay_le n_68 rfl) ?_
      refine Cl_of n_68 rfl ?_
      show Rn _ _ _ _ [some (vR 69)] [] _ _
      refine r_ldR_n (m := 0) F_68_0 rfl ?_
      refine r_getI (J := 2) (e := (s 69 2)) F_68_1 o_68 fl_0_19 ty_69 (by decide) rfl kd_69_2 (upd_nc (by decide)) ?_
      refine r_ireturn F_68_4 rt_68 ?_
      show Rn _ _ _ _ _ [vI (s 69 2), vI (s 67 2)] _ _
      refine r_iand F_103_14 rfl ?_
      refine r_ireturn F_103_15 rt_103 ?_
      show Rn _ _ _ _ _ [vI (iAnd (s 67 2) (s 69 2)), vI (s 66 6), vR 66] _ _
      refine r_iand F_119_35 rfl ?_
      refine r_putI (J := 6) F_119_36 o_119 fl_4_36 ty_66 (by decide) rfl kd_66_6 pf_4_6 ?_
      refine r_return F_119_39 rt_119 ?_
      show Rn _ _ _ _ _ [] _ _
      refine r_return F_118_9 rt_118 ?_
      exact (l9 e4 e6)
theorem t_X4_tryAll_40 {X : List Int32} {d : Nat} {s : m_St} {P : Option Value → m_St → Prop} {n t u a : Int} {z6 : Option Value} (a0 : 0 ≤ a)
    (l1 : inR a)
    (l2 : 8 ≤ a → P none s)
    (l3 : a < 8 → (iAnd (iShr u a) 1) = 0 → Rn X (d + 5) 118 40 [some (vR 66), some (vI n), some (vJ t), none, some (vI u), some (vI (a + 1)), z6] [] s P)
    (l4 : a < 8 → ¬ (iAnd (iShr u a) 1) = 0 → tkok s)
    (l5 : a < 8 → ¬ (iAnd (iShr u a) 1) = 0 → Cl X (d + 4) 118 [vR 66, vI (n - 1), vJ t] (utS s a) (fun v s' => Rn X (d + 5) 118 73 [some (vR 66), some (vI n), some (vJ t), none, some (vI u), some (vI a), some (vI (olw s a))] (m_push v []) s' P))
    : Rn X (d + 5) 118 40 [some (vR 66), some (vI n), some (vJ t), none, some (vI u), some (vI a), z6] [] s P := by
  refine r_ldI (m := 5) F_118_40 rfl ?_
  refine r_bipush F_118_42 bi_8 ?_
  refine r_icmp (t := 87) F_118_44 rfl l1 (by decide) ?_ ?_
  · intro e1
    replace e1 : 8 ≤ a := e1
    refine r_return F_118_87 rt_118 ?_
    exact (l2 e1)
  · intro e2
    replace e2 : a < 8 := (Int.not_le.mp e2)
    refine r_ldI (m := 4) F_118_47 rfl ?_
    refine r_ldI (m := 5) F_118_49 rfl ?_
    refine r_ishr F_118_51 rfl ?_
    refine r_iconst F_118_52 ?_
    refine r_iand F_118_53 rfl ?_
    refine r_if (t := 81) F_118_54 rfl (inR_iAnd _ _) ?_ ?_
    · intro e3
      replace e3 : (iAnd (iShr u a) 1) = 0 := e3
      refine r_iinc (m := 5) (e := (a + 1)) (L' := [some (vR 66), some (vI n), some (vJ t), none, some (vI u), some (vI (a + 1)), z6]) F_118_81 rfl rfl rfl rfl ?_
      refine r_goto (t := 40) F_118_84 rfl ?_
      exact (l3 e2 e3)
    · intro e4
      replace e4 : ¬ (iAnd (iShr u a) 1) = 0 := e4
      refine r_ldR_n (m := 0) F_118_57 rfl ?_
      refine r_ldI (m := 5) F_118_58 rfl ?_
      refine r_virt2 (A := [vI a]) (r := []) (n := 1) F_118_60 o_118 il_4_97 rfl rfl rfl rfl ty_66 vy_109 (lay_le n_109 rfl) ?_
      refine sp_utter (l4 e2 e4) a0 e2 ?_
      show Rn _ _ _ _ _ [vI (olw s a)] _ _
      refine r_stI (m := 6) (L' := [some (vR 66), some (vI n), some (vJ t), none, some (vI u), some (vI a), some (vI (olw s a))]) F_118_63 rfl rfl ?_
      refine r_ldR_n (m := 0) F_118_65 rfl ?_
      refine r_ldI_n (m := 1) F_118_66 rfl ?_
      refine r_iconst F_118_67 ?_
      refine r_isub F_118_68 rfl ?_
      refine r_ldJ_n (m := 2) F_118_69 rfl ?_
      refine r_stat2 (A := [vR 66, vI (n - 1), vJ t]) (r := []) (n := 3) F_118_70 o_118 il_4_108 (by decide) rfl rfl rfl rfl (lay_le n_118 rfl) ?_
      exact (l5 e2 e4)
theorem t_X4_tryAll_31 {X : List Int32} {d : Nat} {s : m_St} {P : Option Value → m_St → Prop} {n t : Int}
    (l1 : Rn X (d + 5) 118 40 [some (vR 66), some (vI n), some (vJ t), none, some (vI (tng s)), some (vI 0), none] [] s P)
    : Rn X (d + 5) 118 31 [some (vR 66), some (vI n), some (vJ t), none, none, none, none] [] s P := by
  refine r_ldR_n (m := 0) F_118_31 rfl ?_
  refine r_virt2 (A := []) (r := []) (n := 0) F_118_32 o_118 il_4_94 rfl rfl rfl rfl ty_66 vy_113 (lay_le n_113 rfl) ?_
  refine sp_turning  ?_
  show Rn _ _ _ _ _ [vI (tng s)] _ _
  refine r_stI (m := 4) (L' := [some (vR 66), some (vI n), some (vJ t), none, some (vI (tng s)), none, none]) F_118_35 rfl rfl ?_
  refine r_iconst F_118_37 ?_
  refine r_stI (m := 5) (L' := [some (vR 66), some (vI n), some (vJ t), none, some (vI (tng s)), some (vI 0), none]) F_118_38 rfl rfl ?_
  exact l1
theorem t_X4_tryAll_73 {X : List Int32} {d : Nat} {s : m_St} {P : Option Value → m_St → Prop} {n t u a w : Int} (a0 : 0 ≤ a) (a8 : a < 8)
    (l1 : tkok s)
    (l2 : inR w)
    (l3 : Rn X (d + 5) 118 40 [some (vR 66), some (vI n), some (vJ t), none, some (vI u), some (vI (a + 1)), some (vI w)] [] (tbS s a w) P)
    : Rn X (d + 5) 118 73 [some (vR 66), some (vI n), some (vJ t), none, some (vI u), some (vI a), some (vI w)] [] s P := by
  refine r_ldR_n (m := 0) F_118_73 rfl ?_
  refine r_ldI (m := 5) F_118_74 rfl ?_
  refine r_ldI (m := 6) F_118_76 rfl ?_
  refine r_virt2 (A := [vI a, vI w]) (r := []) (n := 2) F_118_78 o_118 il_4_100 rfl rfl rfl rfl ty_66 vy_114 (lay_le n_114 rfl) ?_
  refine sp_takeBack l1 a0 a8 l2 ?_
  show Rn _ _ _ _ _ [] _ _
  refine r_iinc (m := 5) (e := (a + 1)) (L' := [some (vR 66), some (vI n), some (vJ t), none, some (vI u), some (vI (a + 1)), some (vI w)]) F_118_81 rfl rfl rfl rfl ?_
  refine r_goto (t := 40) F_118_84 rfl ?_
  exact l3
theorem t_X4_bestFor {X : List Int32} {d : Nat} {s : m_St} {P : Option Value → m_St → Prop} {n m : Int}
    (l1 : inR n)
    (l2 : 0 < n → 0 ≤ (iAnd (s 67 2) (s 69 2)))
    (l3 : 0 < n → (iAnd (s 67 2) (s 69 2)) < 65536)
    (l4 : 0 < n → inR (2 * (bc (iAnd (s 67 2) (s 69 2)))))
    (l5 : 0 < n → (2 * (bc (iAnd (s 67 2) (s 69 2)))) ≤ 0 → Rn X (d + 5) 134 50 [some (vR 66), some (vI n), some (vI m), some (vI (-9)), some (vI (tng s)), some (vI 0), none, none] [] s P)
    (l6 : 0 < n → 0 < (2 * (bc (iAnd (s 67 2) (s 69 2)))) → inR m)
    (l7 : 0 < n → 0 < (2 * (bc (iAnd (s 67 2) (s 69 2)))) → ¬ m = 0 → Cl X (d + 4) 134 [vR 66, vI (n - 1), vI 0] s (fun v s' => Rn X (d + 5) 134 35 [some (vR 66), some (vI n), some (vI m), none, none, none, none, none] (m_push v []) s' P))
    (l8 : 0 < n → 0 < (2 * (bc (iAnd (s 67 2) (s 69 2)))) → m = 0 → Cl X (d + 4) 134 [vR 66, vI (n - 1), vI 1] s (fun v s' => Rn X (d + 5) 134 35 [some (vR 66), some (vI n), some (vI m), none, none, none, none, none] (m_push v []) s' P))
    (l9 : n ≤ 0 → 0 ≤ (iAnd (s 67 2) (s 69 2)))
    (l10 : n ≤ 0 → (iAnd (s 67 2) (s 69 2)) < 65536)
    (l11 : n ≤ 0 → P (some (vI (bc (iAnd (s 67 2) (s 69 2))))) s)
    : Cl X (d + 5) 134 [vR 66, vI n, vI m] s P := by
  refine Cl_of n_134 rfl ?_
  show Rn _ _ _ _ [some (vR 66), some (vI n), some (vI m), none, none, none, none, none] [] _ _
  refine r_ldI_n (m := 1) F_134_0 rfl ?_
  refine r_if (t := 12) F_134_1 rfl l1 ?_ ?_
  · intro e1
    replace e1 : 0 < n := e1
    refine r_ldR_n (m := 0) F_134_12 rfl ?_
    refine r_virt2 (A := []) (r := []) (n := 0) F_134_13 o_134 il_4_116 rfl rfl rfl rfl ty_66 vy_120 (lay_le n_120 rfl) ?_
    refine Cl_of n_120 rfl ?_
    show Rn _ _ _ _ [some (vR 66)] [] _ _
    refine r_iconst F_120_0 ?_
    refine r_ldR_n (m := 0) F_120_1 rfl ?_
    refine r_virt2 (A := []) (r := [vI 2]) (n := 0) F_120_2 o_120 il_4_70 rfl rfl rfl rfl ty_66 vy_103 (lay_le n_103 rfl) ?_
    refine Cl_of n_103 rfl ?_
    show Rn _ _ _ _ [some (vR 66)] [] _ _
    refine r_ldR_n (m := 0) F_103_0 rfl ?_
    refine r_getR (J := 0) F_103_1 o_103 fl_4_12 ty_66 (by decide) rfl (kd2 kd_66_0 (by decide)) (kd9 kd_66_0 (by decide)) rf_66_0 ?_
    refine r_virt2 (A := []) (r := []) (n := 0) F_103_4 o_103 il_4_67 rfl rfl rfl rfl ty_67 vy_68 (lay_le n_68 rfl) ?_
    refine Cl_of n_68 rfl ?_
    show Rn _ _ _ _ [some (vR 67)] [] _ _
    refine r_ldR_n (m := 0) F_68_0 rfl ?_
    refine r_getI (J := 2) (e := (s 67 2)) F_68_1 o_68 fl_0_19 ty_67 (by decide) rfl kd_67_2 rfl ?_
    refine r_ireturn F_68_4 rt_68 ?_
    show Rn _ _ _ _ _ [vI (s 67 2)] _ _
    refine r_ldR_n (m := 0) F_103_7 rfl ?_
    refine r_getR (J := 1) F_103_8 o_103 fl_4_18 ty_66 (by decide) rfl (kd2 kd_66_1 (by decide)) (kd9 kd_66_1 (by decide)) rf_66_1 ?_
    refine r_virt2 (A := []) (r := [vI (s 67 2)]) (n := 0) F_103_11 o_103 il_4_67 rfl rfl rfl rfl ty_69 vy_68 (lay_le n_68 rfl) ?_
    refine Cl_of n_68 rfl ?_
    show Rn _ _ _ _ [some (vR 69)] [] _ _
    refine r_ldR_n (m := 0) F_68_0 rfl ?_
    refine r_getI (J := 2) (e := (s 69 2)) F_68_1 o_68 fl_0_19 ty_69 (by decide) rfl kd_69_2 rfl ?_
    refine r_ireturn F_68_4 rt_68 ?_
    show Rn _ _ _ _ _ [vI (s 69 2), vI (s 67 2)] _ _
    refine r_iand F_103_14 rfl ?_
    refine r_ireturn F_103_15 rt_103 ?_
    show Rn _ _ _ _ _ [vI (iAnd (s 67 2) (s 69 2)), vI 2] _ _
    refine r_stat2 (A := [vI (iAnd (s 67 2) (s 69 2))]) (r := [vI 2]) (n := 1) F_120_5 o_120 il_4_73 (by decide) rfl rfl rfl rfl (lay_le n_74 rfl) ?_
    refine sp_bitCount (l2 e1) (l3 e1) ?_
    show Rn _ _ _ _ _ [vI (bc (iAnd (s 67 2) (s 69 2))), vI 2] _ _
    refine r_imul F_120_8 rfl ?_
    refine r_ireturn F_120_9 rt_120 ?_
    show Rn _ _ _ _ _ [vI (2 * (bc (iAnd (s 67 2) (s 69 2))))] _ _
    refine r_if (t := 38) F_134_16 rfl (l4 e1) ?_ ?_
    · intro e2
      replace e2 : (2 * (bc (iAnd (s 67 2) (s 69 2)))) ≤ 0 := e2
      refine r_bipush F_134_38 bi__9 ?_
      refine r_stI_n (m := 3) (L' := [some (vR 66), some (vI n), some (vI m), some (vI (-9)), none, none, none, none]) F_134_40 rfl rfl ?_
      refine r_ldR_n (m := 0) F_134_41 rfl ?_
      refine r_virt2 (A := []) (r := []) (n := 0) F_134_42 o_134 il_4_94 rfl rfl rfl rfl ty_66 vy_113 (lay_le n_113 rfl) ?_
      refine sp_turning  ?_
      show Rn _ _ _ _ _ [vI (tng s)] _ _
      refine r_stI (m := 4) (L' := [some (vR 66), some (vI n), some (vI m), some (vI (-9)), some (vI (tng s)), none, none, none]) F_134_45 rfl rfl ?_
      refine r_iconst F_134_47 ?_
      refine r_stI (m := 5) (L' := [some (vR 66), some (vI n), some (vI m), some (vI (-9)), some (vI (tng s)), some (vI 0), none, none]) F_134_48 rfl rfl ?_
      exact (l5 e1 e2)
    · intro e3
      replace e3 : 0 < (2 * (bc (iAnd (s 67 2) (s 69 2)))) := (Int.not_le.mp e3)
      refine r_ldR_n (m := 0) F_134_19 rfl ?_
      refine r_ldI_n (m := 1) F_134_20 rfl ?_
      refine r_iconst F_134_21 ?_
      refine r_isub F_134_22 rfl ?_
      refine r_ldI_n (m := 2) F_134_23 rfl ?_
      refine r_if (t := 31) F_134_24 rfl (l6 e1 e3) ?_ ?_
      · intro e4
        replace e4 : ¬ m = 0 := e4
        refine r_iconst F_134_31 ?_
        refine r_stat2 (A := [vR 66, vI (n - 1), vI 0]) (r := []) (n := 3) F_134_32 o_134 il_4_119 (by decide) rfl rfl rfl rfl (lay_le n_134 rfl) ?_
        exact (l7 e1 e3 e4)
      · intro e5
        replace e5 : m = 0 := (Classical.not_not.mp e5)
        refine r_iconst F_134_27 ?_
        refine r_goto (t := 32) F_134_28 rfl ?_
        refine r_stat2 (A := [vR 66, vI (n - 1), vI 1]) (r := []) (n := 3) F_134_32 o_134 il_4_119 (by decide) rfl rfl rfl rfl (lay_le n_134 rfl) ?_
        exact (l8 e1 e3 e5)
  · intro e6
    replace e6 : n ≤ 0 := (Int.not_lt.mp e6)
    refine r_ldR_n (m := 0) F_134_4 rfl ?_
    refine r_virt2 (A := []) (r := []) (n := 0) F_134_5 o_134 il_4_70 rfl rfl rfl rfl ty_66 vy_103 (lay_le n_103 rfl) ?_
    refine Cl_of n_103 rfl ?_
    show Rn _ _ _ _ [some (vR 66)] [] _ _
    refine r_ldR_n (m := 0) F_103_0 rfl ?_
    refine r_getR (J := 0) F_103_1 o_103 fl_4_12 ty_66 (by decide) rfl (kd2 kd_66_0 (by decide)) (kd9 kd_66_0 (by decide)) rf_66_0 ?_
    refine r_virt2 (A := []) (r := []) (n := 0) F_103_4 o_103 il_4_67 rfl rfl rfl rfl ty_67 vy_68 (lay_le n_68 rfl) ?_
    refine Cl_of n_68 rfl ?_
    show Rn _ _ _ _ [some (vR 67)] [] _ _
    refine r_ldR_n (m := 0) F_68_0 rfl ?_
    refine r_getI (J := 2) (e := (s 67 2)) F_68_1 o_68 fl_0_19 ty_67 (by decide) rfl kd_67_2 rfl ?_
    refine r_ireturn F_68_4 rt_68 ?_
    show Rn _ _ _ _ _ [vI (s 67 2)] _ _
    refine r_ldR_n (m := 0) F_103_7 rfl ?_
    refine r_getR (J := 1) F_103_8 o_103 fl_4_18 ty_66 (by decide) rfl (kd2 kd_66_1 (by decide)) (kd9 kd_66_1 (by decide)) rf_66_1 ?_
    refine r_virt2 (A := []) (r := [vI (s 67 2)]) (n := 0) F_103_11 o_103 il_4_67 rfl rfl rfl rfl ty_69 vy_68 (lay_le n_68 rfl) ?_
    refine Cl_of n_68 rfl ?_
    show Rn _ _ _ _ [some (vR 69)] [] _ _
    refine r_ldR_n (m := 0) F_68_0 rfl ?_
    refine r_getI (J := 2) (e := (s 69 2)) F_68_1 o_68 fl_0_19 ty_69 (by decide) rfl kd_69_2 rfl ?_
    refine r_ireturn F_68_4 rt_68 ?_
    show Rn _ _ _ _ _ [vI (s 69 2), vI (s 67 2)] _ _
    refine r_iand F_103_14 rfl ?_
    refine r_ireturn F_103_15 rt_103 ?_
    show Rn _ _ _ _ _ [vI (iAnd (s 67 2) (s 69 2))] _ _
    refine r_stat2 (A := [vI (iAnd (s 67 2) (s 69 2))]) (r := []) (n := 1) F_134_8 o_134 il_4_73 (by decide) rfl rfl rfl rfl (lay_le n_74 rfl) ?_
    refine sp_bitCount (l9 e6) (l10 e6) ?_
    show Rn _ _ _ _ _ [vI (bc (iAnd (s 67 2) (s 69 2)))] _ _
    refine r_ireturn F_134_11 rt_134 ?_
    exact (l11 e6)
theorem t_X4_bestFor_50 {X : List Int32} {d : Nat} {s : m_St} {P : Option Value → m_St → Prop} {n m b u a : Int} {z6 z7 : Option Value} (a0 : 0 ≤ a)
    (l1 : inR a)
    (l2 : 8 ≤ a → inR b)
    (l3 : 8 ≤ a → ¬ b = (-9) → P (some (vI b)) s)
    (l4 : 8 ≤ a → b = (-9) → P (some (vI 0)) s)
    (l5 : a < 8 → (iAnd (iShr u a) 1) = 0 → Rn X (d + 5) 134 50 [some (vR 66), some (vI n), some (vI m), some (vI b), some (vI u), some (vI (a + 1)), z6, z7] [] s P)
    (l6 : a < 8 → ¬ (iAnd (iShr u a) 1) = 0 → tkok s)
    (l7 : a < 8 → ¬ (iAnd (iShr u a) 1) = 0 → inR m)
    (l8 : a < 8 → ¬ (iAnd (iShr u a) 1) = 0 → ¬ m = 0 → Cl X (d + 4) 134 [vR 66, vI (n - 1), vI 0] (utS s a) (fun v s' => Rn X (d + 5) 134 91 [some (vR 66), some (vI n), some (vI m), some (vI b), some (vI u), some (vI a), some (vI (olw s a)), z7] (m_push v []) s' P))
    (l9 : a < 8 → ¬ (iAnd (iShr u a) 1) = 0 → m = 0 → Cl X (d + 4) 134 [vR 66, vI (n - 1), vI 1] (utS s a) (fun v s' => Rn X (d + 5) 134 91 [some (vR 66), some (vI n), some (vI m), some (vI b), some (vI u), some (vI a), some (vI (olw s a)), z7] (m_push v []) s' P))
    : Rn X (d + 5) 134 50 [some (vR 66), some (vI n), some (vI m), some (vI b), some (vI u), some (vI a), z6, z7] [] s P := by
  refine r_ldI (m := 5) F_134_50 rfl ?_
  refine r_bipush F_134_52 bi_8 ?_
  refine r_icmp (t := 135) F_134_54 rfl l1 (by decide) ?_ ?_
  · intro e1
    replace e1 : 8 ≤ a := e1
    refine r_ldI_n (m := 3) F_134_135 rfl ?_
    refine r_bipush F_134_136 bi__9 ?_
    refine r_icmp (t := 145) F_134_138 rfl (l2 e1) (by decide) ?_ ?_
    · intro e2
      replace e2 : ¬ b = (-9) := e2
      refine r_ldI_n (m := 3) F_134_145 rfl ?_
      refine r_ireturn F_134_146 rt_134 ?_
      exact (l3 e1 e2)
    · intro e3
      replace e3 : b = (-9) := (Classical.not_not.mp e3)
      refine r_iconst F_134_141 ?_
      refine r_goto (t := 146) F_134_142 rfl ?_
      refine r_ireturn F_134_146 rt_134 ?_
      exact (l4 e1 e3)
  · intro e4
    replace e4 : a < 8 := (Int.not_le.mp e4)
    refine r_ldI (m := 4) F_134_57 rfl ?_
    refine r_ldI (m := 5) F_134_59 rfl ?_
    refine r_ishr F_134_61 rfl ?_
    refine r_iconst F_134_62 ?_
    refine r_iand F_134_63 rfl ?_
    refine r_if (t := 129) F_134_64 rfl (inR_iAnd _ _) ?_ ?_
    · intro e5
      replace e5 : (iAnd (iShr u a) 1) = 0 := e5
      refine r_iinc (m := 5) (e := (a + 1)) (L' := [some (vR 66), some (vI n), some (vI m), some (vI b), some (vI u), some (vI (a + 1)), z6, z7]) F_134_129 rfl rfl rfl rfl ?_
      refine r_goto (t := 50) F_134_132 rfl ?_
      exact (l5 e4 e5)
    · intro e6
      replace e6 : ¬ (iAnd (iShr u a) 1) = 0 := e6
      refine r_ldR_n (m := 0) F_134_67 rfl ?_
      refine r_ldI (m := 5) F_134_68 rfl ?_
      refine r_virt2 (A := [vI a]) (r := []) (n := 1) F_134_70 o_134 il_4_97 rfl rfl rfl rfl ty_66 vy_109 (lay_le n_109 rfl) ?_
      refine sp_utter (l6 e4 e6) a0 e4 ?_
      show Rn _ _ _ _ _ [vI (olw s a)] _ _
      refine r_stI (m := 6) (L' := [some (vR 66), some (vI n), some (vI m), some (vI b), some (vI u), some (vI a), some (vI (olw s a)), z7]) F_134_73 rfl rfl ?_
      refine r_ldR_n (m := 0) F_134_75 rfl ?_
      refine r_ldI_n (m := 1) F_134_76 rfl ?_
      refine r_iconst F_134_77 ?_
      refine r_isub F_134_78 rfl ?_
      refine r_ldI_n (m := 2) F_134_79 rfl ?_
      refine r_if (t := 87) F_134_80 rfl (l7 e4 e6) ?_ ?_
      · intro e7
        replace e7 : ¬ m = 0 := e7
        refine r_iconst F_134_87 ?_
        refine r_stat2 (A := [vR 66, vI (n - 1), vI 0]) (r := []) (n := 3) F_134_88 o_134 il_4_119 (by decide) rfl rfl rfl rfl (lay_le n_134 rfl) ?_
        exact (l8 e4 e6 e7)
      · intro e8
        replace e8 : m = 0 := (Classical.not_not.mp e8)
        refine r_iconst F_134_83 ?_
        refine r_goto (t := 88) F_134_84 rfl ?_
        refine r_stat2 (A := [vR 66, vI (n - 1), vI 1]) (r := []) (n := 3) F_134_88 o_134 il_4_119 (by decide) rfl rfl rfl rfl (lay_le n_134 rfl) ?_
        exact (l9 e4 e6 e8)
theorem t_X4_bestFor_35 {X : List Int32} {d : Nat} {s : m_St} {P : Option Value → m_St → Prop} {n m rv : Int}
    (l1 : Rn X (d + 5) 134 50 [some (vR 66), some (vI n), some (vI m), some (vI rv), some (vI (tng s)), some (vI 0), none, none] [] s P)
    : Rn X (d + 5) 134 35 [some (vR 66), some (vI n), some (vI m), none, none, none, none, none] [vI rv] s P := by
  refine r_goto (t := 40) F_134_35 rfl ?_
  refine r_stI_n (m := 3) (L' := [some (vR 66), some (vI n), some (vI m), some (vI rv), none, none, none, none]) F_134_40 rfl rfl ?_
  refine r_ldR_n (m := 0) F_134_41 rfl ?_
  refine r_virt2 (A := []) (r := []) (n := 0) F_134_42 o_134 il_4_94 rfl rfl rfl rfl ty_66 vy_113 (lay_le n_113 rfl) ?_
  refine sp_turning  ?_
  show Rn _ _ _ _ _ [vI (tng s)] _ _
  refine r_stI (m := 4) (L' := [some (vR 66), some (vI n), some (vI m), some (vI rv), some (vI (tng s)), none, none, none]) F_134_45 rfl rfl ?_
  refine r_iconst F_134_47 ?_
  refine r_stI (m := 5) (L' := [some (vR 66), some (vI n), some (vI m), some (vI rv), some (vI (tng s)), some (vI 0), none, none]) F_134_48 rfl rfl ?_
  exact l1
theorem t_X4_bestFor_91 {X : List Int32} {d : Nat} {s : m_St} {P : Option Value → m_St → Prop} {n m b u a w rv : Int} {z7 : Option Value} (a0 : 0 ≤ a) (a8 : a < 8)
    (l1 : tkok s)
    (l2 : inR w)
    (l3 : inR b)
    (l4 : b = (-9) → Rn X (d + 5) 134 50 [some (vR 66), some (vI n), some (vI m), some (vI rv), some (vI u), some (vI (a + 1)), some (vI w), some (vI rv)] [] (tbS s a w) P)
    (l5 : ¬ b = (-9) → inR m)
    (l6 : ¬ b = (-9) → m = 0 → inR rv)
    (l7 : ¬ b = (-9) → m = 0 → b ≤ rv → Rn X (d + 5) 134 50 [some (vR 66), some (vI n), some (vI m), some (vI b), some (vI u), some (vI (a + 1)), some (vI w), some (vI rv)] [] (tbS s a w) P)
    (l8 : ¬ b = (-9) → m = 0 → rv < b → Rn X (d + 5) 134 50 [some (vR 66), some (vI n), some (vI m), some (vI rv), some (vI u), some (vI (a + 1)), some (vI w), some (vI rv)] [] (tbS s a w) P)
    (l9 : ¬ b = (-9) → ¬ m = 0 → inR rv)
    (l10 : ¬ b = (-9) → ¬ m = 0 → rv ≤ b → Rn X (d + 5) 134 50 [some (vR 66), some (vI n), some (vI m), some (vI b), some (vI u), some (vI (a + 1)), some (vI w), some (vI rv)] [] (tbS s a w) P)
    (l11 : ¬ b = (-9) → ¬ m = 0 → b < rv → Rn X (d + 5) 134 50 [some (vR 66), some (vI n), some (vI m), some (vI rv), some (vI u), some (vI (a + 1)), some (vI w), some (vI rv)] [] (tbS s a w) P)
    : Rn X (d + 5) 134 91 [some (vR 66), some (vI n), some (vI m), some (vI b), some (vI u), some (vI a), some (vI w), z7] [vI rv] s P := by
  refine r_stI (m := 7) (L' := [some (vR 66), some (vI n), some (vI m), some (vI b), some (vI u), some (vI a), some (vI w), some (vI rv)]) F_134_91 rfl rfl ?_
  refine r_ldR_n (m := 0) F_134_93 rfl ?_
  refine r_ldI (m := 5) F_134_94 rfl ?_
  refine r_ldI (m := 6) F_134_96 rfl ?_
  refine r_virt2 (A := [vI a, vI w]) (r := []) (n := 2) F_134_98 o_134 il_4_100 rfl rfl rfl rfl ty_66 vy_114 (lay_le n_114 rfl) ?_
  refine sp_takeBack l1 a0 a8 l2 ?_
  show Rn _ _ _ _ _ [] _ _
  refine r_ldI_n (m := 3) F_134_101 rfl ?_
  refine r_bipush F_134_102 bi__9 ?_
  refine r_icmp (t := 126) F_134_104 rfl l3 (by decide) ?_ ?_
  · intro e1
    replace e1 : b = (-9) := e1
    refine r_ldI (m := 7) F_134_126 rfl ?_
    refine r_stI_n (m := 3) (L' := [some (vR 66), some (vI n), some (vI m), some (vI rv), some (vI u), some (vI a), some (vI w), some (vI rv)]) F_134_128 rfl rfl ?_
    refine r_iinc (m := 5) (e := (a + 1)) (L' := [some (vR 66), some (vI n), some (vI m), some (vI rv), some (vI u), some (vI (a + 1)), some (vI w), some (vI rv)]) F_134_129 rfl rfl rfl rfl ?_
    refine r_goto (t := 50) F_134_132 rfl ?_
    exact (l4 e1)
  · intro e2
    replace e2 : ¬ b = (-9) := e2
    refine r_ldI_n (m := 2) F_134_107 rfl ?_
    refine r_if (t := 120) F_134_108 rfl (l5 e2) ?_ ?_
    · intro e3
      replace e3 : m = 0 := e3
      refine r_ldI (m := 7) F_134_120 rfl ?_
      refine r_ldI_n (m := 3) F_134_122 rfl ?_
      refine r_icmp (t := 129) F_134_123 rfl (l6 e2 e3) l3 ?_ ?_
      · intro e4
        replace e4 : b ≤ rv := e4
        refine r_iinc (m := 5) (e := (a + 1)) (L' := [some (vR 66), some (vI n), some (vI m), some (vI b), some (vI u), some (vI (a + 1)), some (vI w), some (vI rv)]) F_134_129 rfl rfl rfl rfl ?_
        refine r_goto (t := 50) F_134_132 rfl ?_
        exact (l7 e2 e3 e4)
      · intro e5
        replace e5 : rv < b := (Int.not_le.mp e5)
        refine r_ldI (m := 7) F_134_126 rfl ?_
        refine r_stI_n (m := 3) (L' := [some (vR 66), some (vI n), some (vI m), some (vI rv), some (vI u), some (vI a), some (vI w), some (vI rv)]) F_134_128 rfl rfl ?_
        refine r_iinc (m := 5) (e := (a + 1)) (L' := [some (vR 66), some (vI n), some (vI m), some (vI rv), some (vI u), some (vI (a + 1)), some (vI w), some (vI rv)]) F_134_129 rfl rfl rfl rfl ?_
        refine r_goto (t := 50) F_134_132 rfl ?_
        exact (l8 e2 e3 e5)
    · intro e6
      replace e6 : ¬ m = 0 := e6
      refine r_ldI (m := 7) F_134_111 rfl ?_
      refine r_ldI_n (m := 3) F_134_113 rfl ?_
      refine r_icmp (t := 129) F_134_114 rfl (l9 e2 e6) l3 ?_ ?_
      · intro e7
        replace e7 : rv ≤ b := e7
        refine r_iinc (m := 5) (e := (a + 1)) (L' := [some (vR 66), some (vI n), some (vI m), some (vI b), some (vI u), some (vI (a + 1)), some (vI w), some (vI rv)]) F_134_129 rfl rfl rfl rfl ?_
        refine r_goto (t := 50) F_134_132 rfl ?_
        exact (l10 e2 e6 e7)
      · intro e8
        replace e8 : b < rv := (Int.not_le.mp e8)
        refine r_goto (t := 126) F_134_117 rfl ?_
        refine r_ldI (m := 7) F_134_126 rfl ?_
        refine r_stI_n (m := 3) (L' := [some (vR 66), some (vI n), some (vI m), some (vI rv), some (vI u), some (vI a), some (vI w), some (vI rv)]) F_134_128 rfl rfl ?_
        refine r_iinc (m := 5) (e := (a + 1)) (L' := [some (vR 66), some (vI n), some (vI m), some (vI rv), some (vI u), some (vI (a + 1)), some (vI w), some (vI rv)]) F_134_129 rfl rfl rfl rfl ?_
        refine r_goto (t := 50) F_134_132 rfl ?_
        exact (l11 e2 e6 e8)
theorem t_X4_branch {X : List Int32} {d : Nat} {s : m_St} {P : Option Value → m_St → Prop} {p t : Int} (p0 : 0 ≤ p)
    (l1 : inR p)
    (l2 : inR (s 66 8))
    (l3 : (s 66 8) ≤ p → 0 ≤ (iAnd (iAnd (s 67 2) (s 69 2)) 15))
    (l4 : (s 66 8) ≤ p → (iAnd (iAnd (s 67 2) (s 69 2)) 15) < 16)
    (l5 : (s 66 8) ≤ p → P none (m_upd s 73 (iAnd (iAnd (s 67 2) (s 69 2)) 15) ((s 73 (iAnd (iAnd (s 67 2) (s 69 2)) 15)) + t)))
    (l6 : p < (s 66 8) → p < 6 → inR (s 72 p))
    (l7 : p < (s 66 8) → p < 6 → ¬ (cns s (s 72 p)) = 0 → inR (s 66 9))
    (l8 : p < (s 66 8) → p < 6 → ¬ (cns s (s 72 p)) = 0 → Cl X (d + 4) 137 [vR 66, vI (p + 1), vJ (t * (s 66 9))] s (fun v s' => Rn X (d + 5) 137 75 [some (vR 66), some (vI p), some (vJ t), none, some (vI (s 72 p)), none] (m_push v []) s' P))
    (l9 : p < (s 66 8) → p < 6 → (cns s (s 72 p)) = 0 → Cl X (d + 4) 137 [vR 66, vI (p + 1), vJ (t * 12)] s (fun v s' => Rn X (d + 5) 137 60 [some (vR 66), some (vI p), some (vJ t), none, some (vI (s 72 p)), none] (m_push v []) s' P))
    (l10 : p < (s 66 8) → 6 ≤ p → 0 ≤ (iAnd (iAnd (s 67 2) (s 69 2)) 15))
    (l11 : p < (s 66 8) → 6 ≤ p → (iAnd (iAnd (s 67 2) (s 69 2)) 15) < 16)
    (l12 : p < (s 66 8) → 6 ≤ p → P none (m_upd s 73 (iAnd (iAnd (s 67 2) (s 69 2)) 15) ((s 73 (iAnd (iAnd (s 67 2) (s 69 2)) 15)) + t)))
    : Cl X (d + 5) 137 [vR 66, vI p, vJ t] s P := by
  refine Cl_of n_137 rfl ?_
  show Rn _ _ _ _ [some (vR 66), some (vI p), some (vJ t), none, none, none] [] _ _
  refine r_ldI_n (m := 1) F_137_0 rfl ?_
  refine r_ldR_n (m := 0) F_137_1 rfl ?_
  refine r_getI (J := 8) (e := (s 66 8)) F_137_2 o_137 fl_4_42 ty_66 (by decide) rfl kd_66_8 rfl ?_
  refine r_icmp (t := 14) F_137_5 rfl l1 l2 ?_ ?_
  · intro e1
    replace e1 : (s 66 8) ≤ p := e1
    refine r_ldR_n (m := 0) F_137_14 rfl ?_
    refine r_getR (J := 10) F_137_15 o_137 fl_4_48 ty_66 (by decide) rfl (kd2 kd_66_10 (by decide)) (kd9 kd_66_10 (by decide)) rf_66_10 ?_
    refine r_ldR_n (m := 0) F_137_18 rfl ?_
    refine r_virt2 (A := []) (r := [vR 73]) (n := 0) F_137_19 o_137 il_4_70 rfl rfl rfl rfl ty_66 vy_103 (lay_le n_103 rfl) ?_
    refine Cl_of n_103 rfl ?_
    show Rn _ _ _ _ [some (vR 66)] [] _ _
    refine r_ldR_n (m := 0) F_103_0 rfl ?_
    refine r_getR (J := 0) F_103_1 o_103 fl_4_12 ty_66 (by decide) rfl (kd2 kd_66_0 (by decide)) (kd9 kd_66_0 (by decide)) rf_66_0 ?_
    refine r_virt2 (A := []) (r := []) (n := 0) F_103_4 o_103 il_4_67 rfl rfl rfl rfl ty_67 vy_68 (lay_le n_68 rfl) ?_
    refine Cl_of n_68 rfl ?_
    show Rn _ _ _ _ [some (vR 67)] [] _ _
    refine r_ldR_n (m := 0) F_68_0 rfl ?_
    refine r_getI (J := 2) (e := (s 67 2)) F_68_1 o_68 fl_0_19 ty_67 (by decide) rfl kd_67_2 rfl ?_
    refine r_ireturn F_68_4 rt_68 ?_
    show Rn _ _ _ _ _ [vI (s 67 2)] _ _
    refine r_ldR_n (m := 0) F_103_7 rfl ?_
    refine r_getR (J := 1) F_103_8 o_103 fl_4_18 ty_66 (by decide) rfl (kd2 kd_66_1 (by decide)) (kd9 kd_66_1 (by decide)) rf_66_1 ?_
    refine r_virt2 (A := []) (r := [vI (s 67 2)]) (n := 0) F_103_11 o_103 il_4_67 rfl rfl rfl rfl ty_69 vy_68 (lay_le n_68 rfl) ?_
    refine Cl_of n_68 rfl ?_
    show Rn _ _ _ _ [some (vR 69)] [] _ _
    refine r_ldR_n (m := 0) F_68_0 rfl ?_
    refine r_getI (J := 2) (e := (s 69 2)) F_68_1 o_68 fl_0_19 ty_69 (by decide) rfl kd_69_2 rfl ?_
    refine r_ireturn F_68_4 rt_68 ?_
    show Rn _ _ _ _ _ [vI (s 69 2), vI (s 67 2)] _ _
    refine r_iand F_103_14 rfl ?_
    refine r_ireturn F_103_15 rt_103 ?_
    show Rn _ _ _ _ _ [vI (iAnd (s 67 2) (s 69 2)), vR 73] _ _
    refine r_bipush F_137_22 bi_15 ?_
    refine r_iand F_137_24 rfl ?_
    refine r_dup2 F_137_25 ?_
    refine r_lald (e := (s 73 (iAnd (iAnd (s 67 2) (s 69 2)) 15))) F_137_26 ty_73 (l3 e1) (lt_ln ln_73 (l4 e1)) rfl ?_
    refine r_ldJ_n (m := 2) F_137_27 rfl ?_
    refine r_ladd F_137_28 rfl ?_
    refine r_last F_137_29 ty_73 (l3 e1) (lt_ln ln_73 (l4 e1)) ?_
    refine r_return F_137_30 rt_137 ?_
    exact (l5 e1)
  · intro e2
    replace e2 : p < (s 66 8) := (Int.not_le.mp e2)
    refine r_ldI_n (m := 1) F_137_8 rfl ?_
    refine r_bipush F_137_9 bi_6 ?_
    refine r_icmp (t := 31) F_137_11 rfl l1 (by decide) ?_ ?_
    · intro e3
      replace e3 : p < 6 := e3
      refine r_ldR_n (m := 0) F_137_31 rfl ?_
      refine r_getR (J := 7) F_137_32 o_137 fl_4_39 ty_66 (by decide) rfl (kd2 kd_66_7 (by decide)) (kd9 kd_66_7 (by decide)) rf_66_7 ?_
      refine r_ldI_n (m := 1) F_137_35 rfl ?_
      refine r_iald (e := (s 72 p)) F_137_36 ty_72 p0 (lt_ln ln_72 e3) rfl ?_
      refine r_stI (m := 4) (L' := [some (vR 66), some (vI p), some (vJ t), none, some (vI (s 72 p)), none]) F_137_37 rfl rfl ?_
      refine r_ldR_n (m := 0) F_137_39 rfl ?_
      refine r_ldI (m := 4) F_137_40 rfl ?_
      refine r_virt2 (A := [vI (s 72 p)]) (r := []) (n := 1) F_137_42 o_137 il_4_137 rfl rfl rfl rfl ty_66 vy_108 (lay_le n_108 rfl) ?_
      refine sp_canSayT (l6 e2 e3) ?_
      show Rn _ _ _ _ _ [vI (cns s (s 72 p))] _ _
      refine r_if (t := 61) F_137_45 rfl (inR_cns _ _) ?_ ?_
      · intro e4
        replace e4 : ¬ (cns s (s 72 p)) = 0 := e4
        refine r_ldR_n (m := 0) F_137_61 rfl ?_
        refine r_ldI_n (m := 1) F_137_62 rfl ?_
        refine r_iconst F_137_63 ?_
        refine r_iadd F_137_64 rfl ?_
        refine r_ldJ_n (m := 2) F_137_65 rfl ?_
        refine r_ldR_n (m := 0) F_137_66 rfl ?_
        refine r_getI (J := 9) (e := (s 66 9)) F_137_67 o_137 fl_4_45 ty_66 (by decide) rfl kd_66_9 rfl ?_
        refine r_i2l F_137_70 (l7 e2 e3 e4) ?_
        refine r_lmul F_137_71 rfl ?_
        refine r_stat2 (A := [vR 66, vI (p + 1), vJ (t * (s 66 9))]) (r := []) (n := 3) F_137_72 o_137 il_4_134 (by decide) rfl rfl rfl rfl (lay_le n_137 rfl) ?_
        exact (l8 e2 e3 e4)
      · intro e5
        replace e5 : (cns s (s 72 p)) = 0 := (Classical.not_not.mp e5)
        refine r_ldR_n (m := 0) F_137_48 rfl ?_
        refine r_ldI_n (m := 1) F_137_49 rfl ?_
        refine r_iconst F_137_50 ?_
        refine r_iadd F_137_51 rfl ?_
        refine r_ldJ_n (m := 2) F_137_52 rfl ?_
        refine r_ldcJ F_137_53 o_137 kj_4_140 oj_12 ?_
        refine r_lmul F_137_56 rfl ?_
        refine r_stat2 (A := [vR 66, vI (p + 1), vJ (t * 12)]) (r := []) (n := 3) F_137_57 o_137 il_4_134 (by decide) rfl rfl rfl rfl (lay_le n_137 rfl) ?_
        exact (l9 e2 e3 e5)
    · intro e6
      replace e6 : 6 ≤ p := (Int.not_lt.mp e6)
      refine r_ldR_n (m := 0) F_137_14 rfl ?_
      refine r_getR (J := 10) F_137_15 o_137 fl_4_48 ty_66 (by decide) rfl (kd2 kd_66_10 (by decide)) (kd9 kd_66_10 (by decide)) rf_66_10 ?_
      refine r_ldR_n (m := 0) F_137_18 rfl ?_
      refine r_virt2 (A := []) (r := [vR 73]) (n := 0) F_137_19 o_137 il_4_70 rfl rfl rfl rfl ty_66 vy_103 (lay_le n_103 rfl) ?_
      refine Cl_of n_103 rfl ?_
      show Rn _ _ _ _ [some (vR 66)] [] _ _
      refine r_ldR_n (m := 0) F_103_0 rfl ?_
      refine r_getR (J := 0) F_103_1 o_103 fl_4_12 ty_66 (by decide) rfl (kd2 kd_66_0 (by decide)) (kd9 kd_66_0 (by decide)) rf_66_0 ?_
      refine r_virt2 (A := []) (r := []) (n := 0) F_103_4 o_103 il_4_67 rfl rfl rfl rfl ty_67 vy_68 (lay_le n_68 rfl) ?_
      refine Cl_of n_68 rfl ?_
      show Rn _ _ _ _ [some (vR 67)] [] _ _
      refine r_ldR_n (m := 0) F_68_0 rfl ?_
      refine r_getI (J := 2) (e := (s 67 2)) F_68_1 o_68 fl_0_19 ty_67 (by decide) rfl kd_67_2 rfl ?_
      refine r_ireturn F_68_4 rt_68 ?_
      show Rn _ _ _ _ _ [vI (s 67 2)] _ _
      refine r_ldR_n (m := 0) F_103_7 rfl ?_
      refine r_getR (J := 1) F_103_8 o_103 fl_4_18 ty_66 (by decide) rfl (kd2 kd_66_1 (by decide)) (kd9 kd_66_1 (by decide)) rf_66_1 ?_
      refine r_virt2 (A := []) (r := [vI (s 67 2)]) (n := 0) F_103_11 o_103 il_4_67 rfl rfl rfl rfl ty_69 vy_68 (lay_le n_68 rfl) ?_
      refine Cl_of n_68 rfl ?_
      show Rn _ _ _ _ [some (vR 69)] [] _ _
      refine r_ldR_n (m := 0) F_68_0 rfl ?_
      refine r_getI (J := 2) (e := (s 69 2)) F_68_1 o_68 fl_0_19 ty_69 (by decide) rfl kd_69_2 rfl ?_
      refine r_ireturn F_68_4 rt_68 ?_
      show Rn _ _ _ _ _ [vI (s 69 2), vI (s 67 2)] _ _
      refine r_iand F_103_14 rfl ?_
      refine r_ireturn F_103_15 rt_103 ?_
      show Rn _ _ _ _ _ [vI (iAnd (s 67 2) (s 69 2)), vR 73] _ _
      refine r_bipush F_137_22 bi_15 ?_
      refine r_iand F_137_24 rfl ?_
      refine r_dup2 F_137_25 ?_
      refine r_lald (e := (s 73 (iAnd (iAnd (s 67 2) (s 69 2)) 15))) F_137_26 ty_73 (l10 e2 e6) (lt_ln ln_73 (l11 e2 e6)) rfl ?_
      refine r_ldJ_n (m := 2) F_137_27 rfl ?_
      refine r_ladd F_137_28 rfl ?_
      refine r_last F_137_29 ty_73 (l10 e2 e6) (lt_ln ln_73 (l11 e2 e6)) ?_
      refine r_return F_137_30 rt_137 ?_
      exact (l12 e2 e6)
theorem t_X4_branch_75 {X : List Int32} {d : Nat} {s : m_St} {P : Option Value → m_St → Prop} {p t a : Int} (p0 : 0 ≤ p) (a0 : 0 ≤ a) (a8 : a < 8)
    (l1 : tkok s)
    (l2 : inR (12 - ((utS s a) 66 9)))
    (l3 : Cl X (d + 4) 137 [vR 66, vI (p + 1), vJ (t * (12 - ((utS s a) 66 9)))] (utS s a) (fun v s' => Rn X (d + 5) 137 100 [some (vR 66), some (vI p), some (vJ t), none, some (vI a), some (vI (olw s a))] (m_push v []) s' P))
    : Rn X (d + 5) 137 75 [some (vR 66), some (vI p), some (vJ t), none, some (vI a), none] [] s P := by
  refine r_ldR_n (m := 0) F_137_75 rfl ?_
  refine r_ldI (m := 4) F_137_76 rfl ?_
  refine r_virt2 (A := [vI a]) (r := []) (n := 1) F_137_78 o_137 il_4_97 rfl rfl rfl rfl ty_66 vy_109 (lay_le n_109 rfl) ?_
  refine sp_utter l1 a0 a8 ?_
  show Rn _ _ _ _ _ [vI (olw s a)] _ _
  refine r_stI (m := 5) (L' := [some (vR 66), some (vI p), some (vJ t), none, some (vI a), some (vI (olw s a))]) F_137_81 rfl rfl ?_
  refine r_ldR_n (m := 0) F_137_83 rfl ?_
  refine r_ldI_n (m := 1) F_137_84 rfl ?_
  refine r_iconst F_137_85 ?_
  refine r_iadd F_137_86 rfl ?_
  refine r_ldJ_n (m := 2) F_137_87 rfl ?_
  refine r_bipush F_137_88 bi_12 ?_
  refine r_ldR_n (m := 0) F_137_90 rfl ?_
  refine r_getI (J := 9) (e := ((utS s a) 66 9)) F_137_91 o_137 fl_4_45 ty_66 (by decide) rfl kd_66_9 rfl ?_
  refine r_isub F_137_94 rfl ?_
  refine r_i2l F_137_95 l2 ?_
  refine r_lmul F_137_96 rfl ?_
  refine r_stat2 (A := [vR 66, vI (p + 1), vJ (t * (12 - ((utS s a) 66 9)))]) (r := []) (n := 3) F_137_97 o_137 il_4_134 (by decide) rfl rfl rfl rfl (lay_le n_137 rfl) ?_
  exact l3
theorem t_X4_branch_60 {X : List Int32} {d : Nat} {s : m_St} {P : Option Value → m_St → Prop} {p t a : Int} (p0 : 0 ≤ p)
    (l1 : P none s)
    : Rn X (d + 5) 137 60 [some (vR 66), some (vI p), some (vJ t), none, some (vI a), none] [] s P := by
  refine r_return F_137_60 rt_137 ?_
  exact l1
theorem t_X4_branch_100 {X : List Int32} {d : Nat} {s : m_St} {P : Option Value → m_St → Prop} {p t a w : Int} (p0 : 0 ≤ p) (a0 : 0 ≤ a) (a8 : a < 8)
    (l1 : tkok s)
    (l2 : inR w)
    (l3 : P none (tbS s a w))
    : Rn X (d + 5) 137 100 [some (vR 66), some (vI p), some (vJ t), none, some (vI a), some (vI w)] [] s P := by
  refine r_ldR_n (m := 0) F_137_100 rfl ?_
  refine r_ldI (m := 4) F_137_101 rfl ?_
  refine r_ldI (m := 5) F_137_103 rfl ?_
  refine r_virt2 (A := [vI a, vI w]) (r := []) (n := 2) F_137_105 o_137 il_4_100 rfl rfl rfl rfl ty_66 vy_114 (lay_le n_114 rfl) ?_
  refine sp_takeBack l1 a0 a8 l2 ?_
  show Rn _ _ _ _ _ [] _ _
  refine r_return F_137_108 rt_137 ?_
  exact l3
