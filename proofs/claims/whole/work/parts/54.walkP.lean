/-! walks: helpers of the class -/
theorem n_107 : m_n 107 = 4 := by decide +kernel
theorem F_107_0 : F 107 0 (.aload_n 0) 1 := ⟨1, by decide +kernel, rfl, rfl⟩
theorem F_107_1 : F 107 1 (.getfield 14) 4 := ⟨3, by decide +kernel, rfl, rfl⟩
theorem fl_5_14 : m_fl.lookup (5, 14) = some (5, 0, 1170) := by decide +kernel
theorem kd_0_0 : kd 0 0 = 3 := by decide +kernel
theorem o_107 : m_o 107 = 5 := by decide +kernel
theorem rf_0_0 : rf 0 0 = 1 := by decide +kernel
theorem F_107_4 : F 107 4 (.iload_n 1) 5 := ⟨1, by decide +kernel, rfl, rfl⟩
theorem F_107_5 : F 107 5 (.invokevirtual 70) 8 := ⟨3, by decide +kernel, rfl, rfl⟩
theorem il_5_70 : ilq 5 70 0 9 1 = true := by decide +kernel
theorem F_9_17 : F 9 17 (.iconst 0) 18 := ⟨1, by decide +kernel, rfl, rfl⟩
theorem F_107_8 : F 107 8 (.ifCond .ne 5) 11 := ⟨3, by decide +kernel, rfl, rfl⟩
theorem F_107_11 : F 107 11 (.iconst (-1)) 12 := ⟨1, by decide +kernel, rfl, rfl⟩
theorem F_107_12 : F 107 12 (.ireturn) 13 := ⟨1, by decide +kernel, rfl, rfl⟩
theorem rt_107 : m_r 107 = (some .int) := by decide +kernel
theorem F_107_13 : F 107 13 (.aload_n 0) 14 := ⟨1, by decide +kernel, rfl, rfl⟩
theorem F_107_14 : F 107 14 (.getfield 34) 17 := ⟨3, by decide +kernel, rfl, rfl⟩
theorem F_107_17 : F 107 17 (.invokevirtual 225) 20 := ⟨3, by decide +kernel, rfl, rfl⟩
theorem il_5_225 : ilq 5 225 0 84 0 = true := by decide +kernel
theorem vy_84 : (m_cls 1).1 = (m_y 84).cls ∧ 1 < m_cl.length := by decide +kernel
theorem n_84 : m_n 84 = 1 := by decide +kernel
theorem F_84_0 : F 84 0 (.aload_n 0) 1 := ⟨1, by decide +kernel, rfl, rfl⟩
theorem F_84_1 : F 84 1 (.getfield 37) 4 := ⟨3, by decide +kernel, rfl, rfl⟩
theorem o_84 : m_o 84 = 1 := by decide +kernel
theorem F_84_4 : F 84 4 (.iconst (-1)) 5 := ⟨1, by decide +kernel, rfl, rfl⟩
theorem F_84_5 : F 84 5 (.if_icmp .eq 7) 8 := ⟨3, by decide +kernel, rfl, rfl⟩
theorem F_84_12 : F 84 12 (.iconst 0) 13 := ⟨1, by decide +kernel, rfl, rfl⟩
theorem F_84_13 : F 84 13 (.ireturn) 14 := ⟨1, by decide +kernel, rfl, rfl⟩
theorem rt_84 : m_r 84 = (some .boolean) := by decide +kernel
theorem F_107_20 : F 107 20 (.ifCond .ne 6) 23 := ⟨3, by decide +kernel, rfl, rfl⟩
theorem F_107_23 : F 107 23 (.bipush (-4)) 25 := ⟨2, by decide +kernel, rfl, rfl⟩
theorem bi__4 : (Int8.ofInt (-4)).toInt32 = Int32.ofInt (-4) := by decide +kernel
theorem F_107_25 : F 107 25 (.ireturn) 26 := ⟨1, by decide +kernel, rfl, rfl⟩
theorem F_84_8 : F 84 8 (.iconst 1) 9 := ⟨1, by decide +kernel, rfl, rfl⟩
theorem F_84_9 : F 84 9 (.goto 4) 12 := ⟨3, by decide +kernel, rfl, rfl⟩
theorem F_107_26 : F 107 26 (.aload_n 0) 27 := ⟨1, by decide +kernel, rfl, rfl⟩
theorem F_107_27 : F 107 27 (.getfield 14) 30 := ⟨3, by decide +kernel, rfl, rfl⟩
theorem F_107_30 : F 107 30 (.iload_n 1) 31 := ⟨1, by decide +kernel, rfl, rfl⟩
theorem F_107_31 : F 107 31 (.invokevirtual 104) 34 := ⟨3, by decide +kernel, rfl, rfl⟩
theorem il_5_104 : ilq 5 104 0 15 1 = true := by decide +kernel
theorem F_107_34 : F 107 34 (.ifCond .ne 9) 37 := ⟨3, by decide +kernel, rfl, rfl⟩
theorem F_107_37 : F 107 37 (.aload_n 0) 38 := ⟨1, by decide +kernel, rfl, rfl⟩
theorem F_107_38 : F 107 38 (.iconst 1) 39 := ⟨1, by decide +kernel, rfl, rfl⟩
theorem F_107_39 : F 107 39 (.invokevirtual 74) 42 := ⟨3, by decide +kernel, rfl, rfl⟩
theorem il_5_74 : ilq 5 74 0 10 1 = true := by decide +kernel
theorem vy_10 : (m_cls 5).1 = (m_y 10).cls ∧ 5 < m_cl.length := by decide +kernel
theorem n_10 : m_n 10 = 2 := by decide +kernel
theorem F_10_0 : F 10 0 (.iload_n 1) 1 := ⟨1, by decide +kernel, rfl, rfl⟩
theorem F_10_1 : F 10 1 (.iconst 1) 2 := ⟨1, by decide +kernel, rfl, rfl⟩
theorem F_10_2 : F 10 2 (.if_icmp .lt 23) 5 := ⟨3, by decide +kernel, rfl, rfl⟩
theorem F_10_5 : F 10 5 (.iload_n 1) 6 := ⟨1, by decide +kernel, rfl, rfl⟩
theorem F_10_6 : F 10 6 (.iconst 5) 7 := ⟨1, by decide +kernel, rfl, rfl⟩
theorem F_10_7 : F 10 7 (.if_icmp .gt 18) 10 := ⟨3, by decide +kernel, rfl, rfl⟩
theorem F_10_10 : F 10 10 (.aload_n 0) 11 := ⟨1, by decide +kernel, rfl, rfl⟩
theorem F_10_11 : F 10 11 (.iload_n 1) 12 := ⟨1, by decide +kernel, rfl, rfl⟩
theorem F_10_12 : F 10 12 (.putfield 56) 15 := ⟨3, by decide +kernel, rfl, rfl⟩
theorem fl_5_56 : m_fl.lookup (5, 56) = some (5, 8, 1178) := by decide +kernel
theorem kd_0_8 : kd 0 8 = 0 := by decide +kernel
theorem pf_5_8 : pfT 5 8 .int = true := by decide +kernel
theorem o_10 : m_o 10 = 5 := by decide +kernel
theorem F_10_15 : F 10 15 (.aload_n 0) 16 := ⟨1, by decide +kernel, rfl, rfl⟩
theorem F_10_16 : F 10 16 (.getfield 52) 19 := ⟨3, by decide +kernel, rfl, rfl⟩
theorem fl_5_52 : m_fl.lookup (5, 52) = some (5, 7, 1177) := by decide +kernel
theorem kd_0_7 : kd 0 7 = 78 := by decide +kernel
theorem rf_0_7 : rf 0 7 = 76 := by decide +kernel
theorem F_10_19 : F 10 19 (.iload_n 1) 20 := ⟨1, by decide +kernel, rfl, rfl⟩
theorem F_10_20 : F 10 20 (.dup2) 21 := ⟨1, by decide +kernel, rfl, rfl⟩
theorem F_10_21 : F 10 21 (.iaload) 22 := ⟨1, by decide +kernel, rfl, rfl⟩
theorem ln_76 : ln 76 = 6 := by decide +kernel
theorem ty_76 : ty 76 = 20 := by decide +kernel
theorem F_10_22 : F 10 22 (.iconst 1) 23 := ⟨1, by decide +kernel, rfl, rfl⟩
theorem F_10_23 : F 10 23 (.iadd) 24 := ⟨1, by decide +kernel, rfl, rfl⟩
theorem F_10_24 : F 10 24 (.iastore) 25 := ⟨1, by decide +kernel, rfl, rfl⟩
theorem F_10_25 : F 10 25 (.bipush (-3)) 27 := ⟨2, by decide +kernel, rfl, rfl⟩
theorem bi__3 : (Int8.ofInt (-3)).toInt32 = Int32.ofInt (-3) := by decide +kernel
theorem F_10_27 : F 10 27 (.ireturn) 28 := ⟨1, by decide +kernel, rfl, rfl⟩
theorem rt_10 : m_r 10 = (some .int) := by decide +kernel
theorem F_107_42 : F 107 42 (.ireturn) 43 := ⟨1, by decide +kernel, rfl, rfl⟩
theorem F_107_43 : F 107 43 (.aload_n 0) 44 := ⟨1, by decide +kernel, rfl, rfl⟩
theorem F_107_44 : F 107 44 (.getfield 14) 47 := ⟨3, by decide +kernel, rfl, rfl⟩
theorem F_107_47 : F 107 47 (.iload_n 1) 48 := ⟨1, by decide +kernel, rfl, rfl⟩
theorem F_107_48 : F 107 48 (.invokevirtual 115) 51 := ⟨3, by decide +kernel, rfl, rfl⟩
theorem il_5_115 : ilq 5 115 0 16 1 = true := by decide +kernel
theorem F_107_51 : F 107 51 (.iload_n 2) 52 := ⟨1, by decide +kernel, rfl, rfl⟩
theorem F_107_52 : F 107 52 (.if_icmp .le 9) 55 := ⟨3, by decide +kernel, rfl, rfl⟩
theorem F_107_61 : F 107 61 (.iconst 0) 62 := ⟨1, by decide +kernel, rfl, rfl⟩
theorem F_107_62 : F 107 62 (.istore_n 3) 63 := ⟨1, by decide +kernel, rfl, rfl⟩
theorem F_107_55 : F 107 55 (.aload_n 0) 56 := ⟨1, by decide +kernel, rfl, rfl⟩
theorem F_107_56 : F 107 56 (.iconst 5) 57 := ⟨1, by decide +kernel, rfl, rfl⟩
theorem F_107_57 : F 107 57 (.invokevirtual 74) 60 := ⟨3, by decide +kernel, rfl, rfl⟩
theorem F_107_60 : F 107 60 (.ireturn) 61 := ⟨1, by decide +kernel, rfl, rfl⟩
theorem F_107_63 : F 107 63 (.iload_n 3) 64 := ⟨1, by decide +kernel, rfl, rfl⟩
theorem F_107_64 : F 107 64 (.aload_n 0) 65 := ⟨1, by decide +kernel, rfl, rfl⟩
theorem F_107_65 : F 107 65 (.getfield 14) 68 := ⟨3, by decide +kernel, rfl, rfl⟩
theorem F_107_68 : F 107 68 (.iload_n 1) 69 := ⟨1, by decide +kernel, rfl, rfl⟩
theorem F_107_69 : F 107 69 (.invokevirtual 115) 72 := ⟨3, by decide +kernel, rfl, rfl⟩
theorem F_107_72 : F 107 72 (.if_icmp .ge 30) 75 := ⟨3, by decide +kernel, rfl, rfl⟩
theorem F_107_102 : F 107 102 (.iconst 0) 103 := ⟨1, by decide +kernel, rfl, rfl⟩
theorem F_107_103 : F 107 103 (.ireturn) 104 := ⟨1, by decide +kernel, rfl, rfl⟩
theorem F_107_75 : F 107 75 (.aload_n 0) 76 := ⟨1, by decide +kernel, rfl, rfl⟩
theorem F_107_76 : F 107 76 (.getfield 14) 79 := ⟨3, by decide +kernel, rfl, rfl⟩
theorem F_107_79 : F 107 79 (.iload_n 1) 80 := ⟨1, by decide +kernel, rfl, rfl⟩
theorem F_107_80 : F 107 80 (.iload_n 3) 81 := ⟨1, by decide +kernel, rfl, rfl⟩
theorem F_107_81 : F 107 81 (.invokevirtual 86) 84 := ⟨3, by decide +kernel, rfl, rfl⟩
theorem il_5_86 : ilq 5 86 0 18 2 = true := by decide +kernel
theorem F_107_84 : F 107 84 (.invokestatic 194) 87 := ⟨3, by decide +kernel, rfl, rfl⟩
theorem il_5_194 : ilq 5 194 1 86 1 = true := by decide +kernel
theorem F_107_87 : F 107 87 (.ifCond .ne 9) 90 := ⟨3, by decide +kernel, rfl, rfl⟩
theorem F_107_90 : F 107 90 (.aload_n 0) 91 := ⟨1, by decide +kernel, rfl, rfl⟩
theorem F_107_91 : F 107 91 (.iconst 3) 92 := ⟨1, by decide +kernel, rfl, rfl⟩
theorem F_107_92 : F 107 92 (.invokevirtual 74) 95 := ⟨3, by decide +kernel, rfl, rfl⟩
theorem F_107_95 : F 107 95 (.ireturn) 96 := ⟨1, by decide +kernel, rfl, rfl⟩
theorem F_107_96 : F 107 96 (.iinc 3 1) 99 := ⟨3, by decide +kernel, rfl, rfl⟩
theorem F_107_99 : F 107 99 (.goto (-36)) 102 := ⟨3, by decide +kernel, rfl, rfl⟩
theorem n_126 : m_n 126 = 6 := by decide +kernel
theorem F_126_0 : F 126 0 (.aload_n 0) 1 := ⟨1, by decide +kernel, rfl, rfl⟩
theorem F_126_1 : F 126 1 (.getfield 34) 4 := ⟨3, by decide +kernel, rfl, rfl⟩
theorem o_126 : m_o 126 = 5 := by decide +kernel
theorem F_126_4 : F 126 4 (.iload_n 1) 5 := ⟨1, by decide +kernel, rfl, rfl⟩
theorem F_126_5 : F 126 5 (.invokevirtual 136) 8 := ⟨3, by decide +kernel, rfl, rfl⟩
theorem il_5_136 : ilq 5 136 0 66 1 = true := by decide +kernel
theorem vy_66 : (m_cls 1).1 = (m_y 66).cls ∧ 1 < m_cl.length := by decide +kernel
theorem n_66 : m_n 66 = 2 := by decide +kernel
theorem F_66_0 : F 66 0 (.iload_n 1) 1 := ⟨1, by decide +kernel, rfl, rfl⟩
theorem F_66_1 : F 66 1 (.ifCond .lt 15) 4 := ⟨3, by decide +kernel, rfl, rfl⟩
theorem F_66_16 : F 66 16 (.iconst 0) 17 := ⟨1, by decide +kernel, rfl, rfl⟩
theorem F_66_17 : F 66 17 (.ireturn) 18 := ⟨1, by decide +kernel, rfl, rfl⟩
theorem rt_66 : m_r 66 = (some .boolean) := by decide +kernel
theorem F_126_8 : F 126 8 (.ifCond .eq 14) 11 := ⟨3, by decide +kernel, rfl, rfl⟩
theorem F_126_22 : F 126 22 (.iconst (-1)) 23 := ⟨1, by decide +kernel, rfl, rfl⟩
theorem F_126_23 : F 126 23 (.ireturn) 24 := ⟨1, by decide +kernel, rfl, rfl⟩
theorem rt_126 : m_r 126 = (some .int) := by decide +kernel
theorem F_66_4 : F 66 4 (.iload_n 1) 5 := ⟨1, by decide +kernel, rfl, rfl⟩
theorem F_66_5 : F 66 5 (.aload_n 0) 6 := ⟨1, by decide +kernel, rfl, rfl⟩
theorem F_66_6 : F 66 6 (.getfield 24) 9 := ⟨3, by decide +kernel, rfl, rfl⟩
theorem o_66 : m_o 66 = 1 := by decide +kernel
theorem F_66_9 : F 66 9 (.if_icmp .ge 7) 12 := ⟨3, by decide +kernel, rfl, rfl⟩
theorem F_66_12 : F 66 12 (.iconst 1) 13 := ⟨1, by decide +kernel, rfl, rfl⟩
theorem F_66_13 : F 66 13 (.goto 4) 16 := ⟨3, by decide +kernel, rfl, rfl⟩
theorem F_126_11 : F 126 11 (.aload_n 0) 12 := ⟨1, by decide +kernel, rfl, rfl⟩
theorem F_126_12 : F 126 12 (.getfield 14) 15 := ⟨3, by decide +kernel, rfl, rfl⟩
theorem F_126_15 : F 126 15 (.iload_n 2) 16 := ⟨1, by decide +kernel, rfl, rfl⟩
theorem F_126_16 : F 126 16 (.invokevirtual 70) 19 := ⟨3, by decide +kernel, rfl, rfl⟩
theorem F_126_19 : F 126 19 (.ifCond .ne 5) 22 := ⟨3, by decide +kernel, rfl, rfl⟩
theorem F_126_24 : F 126 24 (.aload_n 0) 25 := ⟨1, by decide +kernel, rfl, rfl⟩
theorem F_126_25 : F 126 25 (.getfield 14) 28 := ⟨3, by decide +kernel, rfl, rfl⟩
theorem F_126_28 : F 126 28 (.iload_n 2) 29 := ⟨1, by decide +kernel, rfl, rfl⟩
theorem F_126_29 : F 126 29 (.invokevirtual 104) 32 := ⟨3, by decide +kernel, rfl, rfl⟩
theorem F_126_32 : F 126 32 (.ifCond .ne 9) 35 := ⟨3, by decide +kernel, rfl, rfl⟩
theorem F_126_35 : F 126 35 (.aload_n 0) 36 := ⟨1, by decide +kernel, rfl, rfl⟩
theorem F_126_36 : F 126 36 (.iconst 1) 37 := ⟨1, by decide +kernel, rfl, rfl⟩
theorem F_126_37 : F 126 37 (.invokevirtual 74) 40 := ⟨3, by decide +kernel, rfl, rfl⟩
theorem F_126_40 : F 126 40 (.ireturn) 41 := ⟨1, by decide +kernel, rfl, rfl⟩
theorem F_126_41 : F 126 41 (.aload_n 0) 42 := ⟨1, by decide +kernel, rfl, rfl⟩
theorem F_126_42 : F 126 42 (.getfield 14) 45 := ⟨3, by decide +kernel, rfl, rfl⟩
theorem F_126_45 : F 126 45 (.iload_n 2) 46 := ⟨1, by decide +kernel, rfl, rfl⟩
theorem F_126_46 : F 126 46 (.invokevirtual 115) 49 := ⟨3, by decide +kernel, rfl, rfl⟩
theorem F_126_49 : F 126 49 (.iconst 3) 50 := ⟨1, by decide +kernel, rfl, rfl⟩
theorem F_126_50 : F 126 50 (.irem) 51 := ⟨1, by decide +kernel, rfl, rfl⟩
theorem F_126_51 : F 126 51 (.ifCond .eq 9) 54 := ⟨3, by decide +kernel, rfl, rfl⟩
theorem F_126_60 : F 126 60 (.iconst 0) 61 := ⟨1, by decide +kernel, rfl, rfl⟩
theorem F_126_61 : F 126 61 (.istore_n 3) 62 := ⟨1, by decide +kernel, rfl, rfl⟩
theorem F_126_54 : F 126 54 (.aload_n 0) 55 := ⟨1, by decide +kernel, rfl, rfl⟩
theorem F_126_55 : F 126 55 (.iconst 5) 56 := ⟨1, by decide +kernel, rfl, rfl⟩
theorem F_126_56 : F 126 56 (.invokevirtual 74) 59 := ⟨3, by decide +kernel, rfl, rfl⟩
theorem F_126_59 : F 126 59 (.ireturn) 60 := ⟨1, by decide +kernel, rfl, rfl⟩
theorem F_126_62 : F 126 62 (.iload_n 3) 63 := ⟨1, by decide +kernel, rfl, rfl⟩
theorem F_126_63 : F 126 63 (.aload_n 0) 64 := ⟨1, by decide +kernel, rfl, rfl⟩
theorem F_126_64 : F 126 64 (.getfield 14) 67 := ⟨3, by decide +kernel, rfl, rfl⟩
theorem F_126_67 : F 126 67 (.iload_n 2) 68 := ⟨1, by decide +kernel, rfl, rfl⟩
theorem F_126_68 : F 126 68 (.invokevirtual 115) 71 := ⟨3, by decide +kernel, rfl, rfl⟩
theorem F_126_71 : F 126 71 (.if_icmp .ge 82) 74 := ⟨3, by decide +kernel, rfl, rfl⟩
theorem F_126_153 : F 126 153 (.iconst 0) 154 := ⟨1, by decide +kernel, rfl, rfl⟩
theorem F_126_154 : F 126 154 (.ireturn) 155 := ⟨1, by decide +kernel, rfl, rfl⟩
theorem F_126_74 : F 126 74 (.aload_n 0) 75 := ⟨1, by decide +kernel, rfl, rfl⟩
theorem F_126_75 : F 126 75 (.getfield 14) 78 := ⟨3, by decide +kernel, rfl, rfl⟩
theorem F_126_78 : F 126 78 (.iload_n 2) 79 := ⟨1, by decide +kernel, rfl, rfl⟩
theorem F_126_79 : F 126 79 (.iload_n 3) 80 := ⟨1, by decide +kernel, rfl, rfl⟩
theorem F_126_80 : F 126 80 (.iconst 1) 81 := ⟨1, by decide +kernel, rfl, rfl⟩
theorem F_126_81 : F 126 81 (.iadd) 82 := ⟨1, by decide +kernel, rfl, rfl⟩
theorem F_126_82 : F 126 82 (.invokevirtual 86) 85 := ⟨3, by decide +kernel, rfl, rfl⟩
theorem F_126_85 : F 126 85 (.istore 4) 87 := ⟨2, by decide +kernel, rfl, rfl⟩
theorem F_126_87 : F 126 87 (.aload_n 0) 88 := ⟨1, by decide +kernel, rfl, rfl⟩
theorem F_126_88 : F 126 88 (.getfield 14) 91 := ⟨3, by decide +kernel, rfl, rfl⟩
theorem F_126_91 : F 126 91 (.iload_n 2) 92 := ⟨1, by decide +kernel, rfl, rfl⟩
theorem F_126_92 : F 126 92 (.iload_n 3) 93 := ⟨1, by decide +kernel, rfl, rfl⟩
theorem F_126_93 : F 126 93 (.iconst 2) 94 := ⟨1, by decide +kernel, rfl, rfl⟩
theorem F_126_94 : F 126 94 (.iadd) 95 := ⟨1, by decide +kernel, rfl, rfl⟩
theorem F_126_95 : F 126 95 (.invokevirtual 86) 98 := ⟨3, by decide +kernel, rfl, rfl⟩
theorem F_126_98 : F 126 98 (.istore 5) 100 := ⟨2, by decide +kernel, rfl, rfl⟩
theorem F_126_100 : F 126 100 (.aload_n 0) 101 := ⟨1, by decide +kernel, rfl, rfl⟩
theorem F_126_101 : F 126 101 (.getfield 14) 104 := ⟨3, by decide +kernel, rfl, rfl⟩
theorem F_126_104 : F 126 104 (.iload_n 2) 105 := ⟨1, by decide +kernel, rfl, rfl⟩
theorem F_126_105 : F 126 105 (.iload_n 3) 106 := ⟨1, by decide +kernel, rfl, rfl⟩
theorem F_126_106 : F 126 106 (.invokevirtual 86) 109 := ⟨3, by decide +kernel, rfl, rfl⟩
theorem F_126_109 : F 126 109 (.invokestatic 175) 112 := ⟨3, by decide +kernel, rfl, rfl⟩
theorem il_5_175 : ilq 5 175 1 46 1 = true := by decide +kernel
theorem F_126_112 : F 126 112 (.ifCond .eq 29) 115 := ⟨3, by decide +kernel, rfl, rfl⟩
theorem F_126_141 : F 126 141 (.aload_n 0) 142 := ⟨1, by decide +kernel, rfl, rfl⟩
theorem F_126_142 : F 126 142 (.iconst 3) 143 := ⟨1, by decide +kernel, rfl, rfl⟩
theorem F_126_143 : F 126 143 (.invokevirtual 74) 146 := ⟨3, by decide +kernel, rfl, rfl⟩
theorem F_126_146 : F 126 146 (.ireturn) 147 := ⟨1, by decide +kernel, rfl, rfl⟩
theorem F_126_115 : F 126 115 (.iload 4) 117 := ⟨2, by decide +kernel, rfl, rfl⟩
theorem F_126_117 : F 126 117 (.ifCond .lt 24) 120 := ⟨3, by decide +kernel, rfl, rfl⟩
theorem F_126_120 : F 126 120 (.iload 4) 122 := ⟨2, by decide +kernel, rfl, rfl⟩
theorem F_126_122 : F 126 122 (.bipush 20) 124 := ⟨2, by decide +kernel, rfl, rfl⟩
theorem F_126_124 : F 126 124 (.if_icmp .gt 17) 127 := ⟨3, by decide +kernel, rfl, rfl⟩
theorem F_126_127 : F 126 127 (.iload 5) 129 := ⟨2, by decide +kernel, rfl, rfl⟩
theorem F_126_129 : F 126 129 (.bipush 9) 131 := ⟨2, by decide +kernel, rfl, rfl⟩
theorem F_126_131 : F 126 131 (.if_icmp .lt 10) 134 := ⟨3, by decide +kernel, rfl, rfl⟩
theorem F_126_134 : F 126 134 (.iload 5) 136 := ⟨2, by decide +kernel, rfl, rfl⟩
theorem F_126_136 : F 126 136 (.bipush 13) 138 := ⟨2, by decide +kernel, rfl, rfl⟩
theorem bi_13 : (Int8.ofInt 13).toInt32 = Int32.ofInt 13 := by decide +kernel
theorem F_126_138 : F 126 138 (.if_icmp .le 9) 141 := ⟨3, by decide +kernel, rfl, rfl⟩
theorem F_126_147 : F 126 147 (.iinc 3 3) 150 := ⟨3, by decide +kernel, rfl, rfl⟩
theorem F_126_150 : F 126 150 (.goto (-88)) 153 := ⟨3, by decide +kernel, rfl, rfl⟩
theorem n_128 : m_n 128 = 6 := by decide +kernel
theorem F_128_0 : F 128 0 (.iconst 0) 1 := ⟨1, by decide +kernel, rfl, rfl⟩
theorem F_128_1 : F 128 1 (.istore 4) 3 := ⟨2, by decide +kernel, rfl, rfl⟩
theorem F_128_3 : F 128 3 (.iload 4) 5 := ⟨2, by decide +kernel, rfl, rfl⟩
theorem F_128_5 : F 128 5 (.aload_n 0) 6 := ⟨1, by decide +kernel, rfl, rfl⟩
theorem F_128_6 : F 128 6 (.getfield 14) 9 := ⟨3, by decide +kernel, rfl, rfl⟩
theorem o_128 : m_o 128 = 5 := by decide +kernel
theorem F_128_9 : F 128 9 (.iload_n 2) 10 := ⟨1, by decide +kernel, rfl, rfl⟩
theorem F_128_10 : F 128 10 (.invokevirtual 115) 13 := ⟨3, by decide +kernel, rfl, rfl⟩
theorem F_128_13 : F 128 13 (.if_icmp .ge 94) 16 := ⟨3, by decide +kernel, rfl, rfl⟩
theorem F_128_107 : F 128 107 (.iconst 1) 108 := ⟨1, by decide +kernel, rfl, rfl⟩
theorem F_128_108 : F 128 108 (.ireturn) 109 := ⟨1, by decide +kernel, rfl, rfl⟩
theorem rt_128 : m_r 128 = (some .boolean) := by decide +kernel
theorem F_128_16 : F 128 16 (.aload_n 0) 17 := ⟨1, by decide +kernel, rfl, rfl⟩
theorem F_128_17 : F 128 17 (.getfield 14) 20 := ⟨3, by decide +kernel, rfl, rfl⟩
theorem F_128_20 : F 128 20 (.iload_n 2) 21 := ⟨1, by decide +kernel, rfl, rfl⟩
theorem F_128_21 : F 128 21 (.iload 4) 23 := ⟨2, by decide +kernel, rfl, rfl⟩
theorem F_128_23 : F 128 23 (.invokevirtual 86) 26 := ⟨3, by decide +kernel, rfl, rfl⟩
theorem F_128_26 : F 128 26 (.istore 5) 28 := ⟨2, by decide +kernel, rfl, rfl⟩
theorem F_128_28 : F 128 28 (.aload_n 0) 29 := ⟨1, by decide +kernel, rfl, rfl⟩
theorem F_128_29 : F 128 29 (.getfield 48) 32 := ⟨3, by decide +kernel, rfl, rfl⟩
theorem F_128_32 : F 128 32 (.aload_n 0) 33 := ⟨1, by decide +kernel, rfl, rfl⟩
theorem F_128_33 : F 128 33 (.getfield 34) 36 := ⟨3, by decide +kernel, rfl, rfl⟩
theorem F_128_36 : F 128 36 (.iload_n 1) 37 := ⟨1, by decide +kernel, rfl, rfl⟩
theorem F_128_37 : F 128 37 (.invokevirtual 142) 40 := ⟨3, by decide +kernel, rfl, rfl⟩
theorem F_128_40 : F 128 40 (.iload_n 3) 41 := ⟨1, by decide +kernel, rfl, rfl⟩
theorem F_128_41 : F 128 41 (.invokevirtual 330) 44 := ⟨3, by decide +kernel, rfl, rfl⟩
theorem F_128_44 : F 128 44 (.aload_n 0) 45 := ⟨1, by decide +kernel, rfl, rfl⟩
theorem F_128_45 : F 128 45 (.getfield 48) 48 := ⟨3, by decide +kernel, rfl, rfl⟩
theorem F_128_48 : F 128 48 (.iload 5) 50 := ⟨2, by decide +kernel, rfl, rfl⟩
theorem F_128_50 : F 128 50 (.aload_n 0) 51 := ⟨1, by decide +kernel, rfl, rfl⟩
theorem F_128_51 : F 128 51 (.getfield 14) 54 := ⟨3, by decide +kernel, rfl, rfl⟩
theorem F_128_54 : F 128 54 (.iload_n 2) 55 := ⟨1, by decide +kernel, rfl, rfl⟩
theorem F_128_55 : F 128 55 (.iload 4) 57 := ⟨2, by decide +kernel, rfl, rfl⟩
theorem F_128_57 : F 128 57 (.iconst 1) 58 := ⟨1, by decide +kernel, rfl, rfl⟩
theorem F_128_58 : F 128 58 (.iadd) 59 := ⟨1, by decide +kernel, rfl, rfl⟩
theorem F_128_59 : F 128 59 (.invokevirtual 86) 62 := ⟨3, by decide +kernel, rfl, rfl⟩
theorem F_128_62 : F 128 62 (.invokevirtual 334) 65 := ⟨3, by decide +kernel, rfl, rfl⟩
theorem il_5_334 : ilq 5 334 0 45 2 = true := by decide +kernel
theorem F_128_65 : F 128 65 (.aload_n 0) 66 := ⟨1, by decide +kernel, rfl, rfl⟩
theorem F_128_66 : F 128 66 (.getfield 48) 69 := ⟨3, by decide +kernel, rfl, rfl⟩
theorem F_128_69 : F 128 69 (.iload 5) 71 := ⟨2, by decide +kernel, rfl, rfl⟩
theorem F_128_71 : F 128 71 (.aload_n 0) 72 := ⟨1, by decide +kernel, rfl, rfl⟩
theorem F_128_72 : F 128 72 (.getfield 34) 75 := ⟨3, by decide +kernel, rfl, rfl⟩
theorem F_128_75 : F 128 75 (.invokevirtual 149) 78 := ⟨3, by decide +kernel, rfl, rfl⟩
theorem F_128_78 : F 128 78 (.invokevirtual 178) 81 := ⟨3, by decide +kernel, rfl, rfl⟩
theorem F_128_81 : F 128 81 (.bipush 10) 83 := ⟨2, by decide +kernel, rfl, rfl⟩
theorem F_128_83 : F 128 83 (.iadd) 84 := ⟨1, by decide +kernel, rfl, rfl⟩
theorem F_128_84 : F 128 84 (.aload_n 0) 85 := ⟨1, by decide +kernel, rfl, rfl⟩
theorem F_128_85 : F 128 85 (.getfield 14) 88 := ⟨3, by decide +kernel, rfl, rfl⟩
theorem F_128_88 : F 128 88 (.iload_n 2) 89 := ⟨1, by decide +kernel, rfl, rfl⟩
theorem F_128_89 : F 128 89 (.iload 4) 91 := ⟨2, by decide +kernel, rfl, rfl⟩
theorem F_128_91 : F 128 91 (.iconst 2) 92 := ⟨1, by decide +kernel, rfl, rfl⟩
theorem F_128_92 : F 128 92 (.iadd) 93 := ⟨1, by decide +kernel, rfl, rfl⟩
theorem F_128_93 : F 128 93 (.invokevirtual 86) 96 := ⟨3, by decide +kernel, rfl, rfl⟩
theorem F_128_96 : F 128 96 (.if_icmp .eq 5) 99 := ⟨3, by decide +kernel, rfl, rfl⟩
theorem F_128_101 : F 128 101 (.iinc 4 3) 104 := ⟨3, by decide +kernel, rfl, rfl⟩
theorem F_128_104 : F 128 104 (.goto (-101)) 107 := ⟨3, by decide +kernel, rfl, rfl⟩
theorem F_128_99 : F 128 99 (.iconst 0) 100 := ⟨1, by decide +kernel, rfl, rfl⟩
theorem F_128_100 : F 128 100 (.ireturn) 101 := ⟨1, by decide +kernel, rfl, rfl⟩
theorem n_141 : m_n 141 = 7 := by decide +kernel
theorem F_141_0 : F 141 0 (.iconst 0) 1 := ⟨1, by decide +kernel, rfl, rfl⟩
theorem F_141_1 : F 141 1 (.istore 4) 3 := ⟨2, by decide +kernel, rfl, rfl⟩
theorem F_141_3 : F 141 3 (.iload 4) 5 := ⟨2, by decide +kernel, rfl, rfl⟩
theorem F_141_5 : F 141 5 (.bipush 100) 7 := ⟨2, by decide +kernel, rfl, rfl⟩
theorem bi_100 : (Int8.ofInt 100).toInt32 = Int32.ofInt 100 := by decide +kernel
theorem F_141_7 : F 141 7 (.if_icmp .ge 25) 10 := ⟨3, by decide +kernel, rfl, rfl⟩
theorem F_141_32 : F 141 32 (.lload_n 0) 33 := ⟨1, by decide +kernel, rfl, rfl⟩
theorem F_141_33 : F 141 33 (.lreturn) 34 := ⟨1, by decide +kernel, rfl, rfl⟩
theorem rt_141 : m_r 141 = (some .long) := by decide +kernel
theorem F_141_10 : F 141 10 (.lload_n 2) 11 := ⟨1, by decide +kernel, rfl, rfl⟩
theorem F_141_11 : F 141 11 (.lconst 0) 12 := ⟨1, by decide +kernel, rfl, rfl⟩
theorem F_141_12 : F 141 12 (.lcmp) 13 := ⟨1, by decide +kernel, rfl, rfl⟩
theorem F_141_13 : F 141 13 (.ifCond .eq 19) 16 := ⟨3, by decide +kernel, rfl, rfl⟩
theorem F_141_16 : F 141 16 (.lload_n 0) 17 := ⟨1, by decide +kernel, rfl, rfl⟩
theorem F_141_17 : F 141 17 (.lload_n 2) 18 := ⟨1, by decide +kernel, rfl, rfl⟩
theorem F_141_18 : F 141 18 (.lrem) 19 := ⟨1, by decide +kernel, rfl, rfl⟩
theorem F_141_19 : F 141 19 (.lstore 5) 21 := ⟨2, by decide +kernel, rfl, rfl⟩
theorem F_141_21 : F 141 21 (.lload_n 2) 22 := ⟨1, by decide +kernel, rfl, rfl⟩
theorem F_141_22 : F 141 22 (.lstore_n 0) 23 := ⟨1, by decide +kernel, rfl, rfl⟩
theorem F_141_23 : F 141 23 (.lload 5) 25 := ⟨2, by decide +kernel, rfl, rfl⟩
theorem F_141_25 : F 141 25 (.lstore_n 2) 26 := ⟨1, by decide +kernel, rfl, rfl⟩
theorem F_141_26 : F 141 26 (.iinc 4 1) 29 := ⟨3, by decide +kernel, rfl, rfl⟩
theorem F_141_29 : F 141 29 (.goto (-26)) 32 := ⟨3, by decide +kernel, rfl, rfl⟩
theorem t_X5_talkRefusal {X : List Int32} {d : Nat} {s : m_St} {P : Option Value → m_St → Prop} {r l : Int}
    (l1 : inR r)
    (l2 : r < 0 → P (some (vI (-1))) s)
    (l3 : 0 ≤ r → 6 ≤ r → P (some (vI (-1))) s)
    (l4 : 0 ≤ r → r < 6 → inR (s 38 7))
    (l5 : 0 ≤ r → r < 6 → (s 38 7) = (-1) → P (some (vI (-4))) s)
    (l6 : 0 ≤ r → r < 6 → ¬ (s 38 7) = (-1) → inR (s 2 r))
    (l7 : 0 ≤ r → r < 6 → ¬ (s 38 7) = (-1) → (s 2 r) = (-1) → P (some (vI (-3))) (m_upd (m_upd s 0 8 1) 76 1 ((s 76 1) + 1)))
    (l8 : 0 ≤ r → r < 6 → ¬ (s 38 7) = (-1) → ¬ (s 2 r) = (-1) → inR l)
    (l9 : 0 ≤ r → r < 6 → ¬ (s 38 7) = (-1) → ¬ (s 2 r) = (-1) → (s 2 r) ≤ l → Rn X (d + 5) 107 63 [some (vR 0), some (vI r), some (vI l), some (vI 0)] [] s P)
    (l10 : 0 ≤ r → r < 6 → ¬ (s 38 7) = (-1) → ¬ (s 2 r) = (-1) → l < (s 2 r) → P (some (vI (-3))) (m_upd (m_upd s 0 8 5) 76 5 ((s 76 5) + 1)))
    : Cl X (d + 5) 107 [vR 0, vI r, vI l] s P := by
  refine Cl_of n_107 rfl ?_
  show Rn _ _ _ _ [some (vR 0), some (vI r), some (vI l), none] [] _ _
  refine r_ldR_n (m := 0) F_107_0 rfl ?_
  refine r_getR (J := 0) F_107_1 o_107 fl_5_14 ty_0 (by decide) rfl (kd2 kd_0_0 (by decide)) (kd9 kd_0_0 (by decide)) rf_0_0 ?_
  refine r_ldI_n (m := 1) F_107_4 rfl ?_
  refine r_virt2 (A := [vI r]) (r := []) (n := 1) F_107_5 o_107 il_5_70 rfl rfl rfl rfl ty_1 vy_9 (lay_le n_9 rfl) ?_
  refine Cl_of n_9 rfl ?_
  show Rn _ _ _ _ [some (vR 1), some (vI r)] [] _ _
  refine r_ldI_n (m := 1) F_9_0 rfl ?_
  refine r_if (t := 17) F_9_1 rfl l1 ?_ ?_
  · intro e1
    replace e1 : r < 0 := e1
    refine r_iconst F_9_17 ?_
    refine r_zreturn F_9_18 rt_9 (Or.inl rfl) ?_
    show Rn _ _ _ _ _ [vI 0] _ _
    refine r_ifF (t := 13) F_107_8 rfl (by decide) (by show ¬ (¬ (0 : Int) = 0); decide) ?_
    refine r_iconst F_107_11 ?_
    refine r_ireturn F_107_12 rt_107 ?_
    exact (l2 e1)
  · intro e2
    replace e2 : 0 ≤ r := (Int.not_lt.mp e2)
    refine r_ldI_n (m := 1) F_9_4 rfl ?_
    refine r_ldR_n (m := 0) F_9_5 rfl ?_
    refine r_getR (J := 0) F_9_6 o_9 fl_3_19 ty_1 (by decide) rfl (kd2 kd_1_0 (by decide)) (kd9 kd_1_0 (by decide)) rf_1_0 ?_
    refine r_alen F_9_9 ty_2 (by decide) ln_2 ?_
    refine r_icmp (t := 17) F_9_10 rfl l1 (by decide) ?_ ?_
    · intro e3
      replace e3 : 6 ≤ r := e3
      refine r_iconst F_9_17 ?_
      refine r_zreturn F_9_18 rt_9 (Or.inl rfl) ?_
      show Rn _ _ _ _ _ [vI 0] _ _
      refine r_ifF (t := 13) F_107_8 rfl (by decide) (by show ¬ (¬ (0 : Int) = 0); decide) ?_
      refine r_iconst F_107_11 ?_
      refine r_ireturn F_107_12 rt_107 ?_
      exact (l3 e2 e3)
    · intro e4
      replace e4 : r < 6 := (Int.not_le.mp e4)
      refine r_iconst F_9_13 ?_
      refine r_goto (t := 18) F_9_14 rfl ?_
      refine r_zreturn F_9_18 rt_9 (Or.inr rfl) ?_
      show Rn _ _ _ _ _ [vI 1] _ _
      refine r_ifT (t := 13) F_107_8 rfl (by decide) (by show ¬ (1 : Int) = 0; decide) ?_
      refine r_ldR_n (m := 0) F_107_13 rfl ?_
      refine r_getR (J := 4) F_107_14 o_107 fl_5_34 ty_0 (by decide) rfl (kd2 kd_0_4 (by decide)) (kd9 kd_0_4 (by decide)) rf_0_4 ?_
      refine r_virt2 (A := []) (r := []) (n := 0) F_107_17 o_107 il_5_225 rfl rfl rfl rfl ty_38 vy_84 (lay_le n_84 rfl) ?_
      refine Cl_of n_84 rfl ?_
      show Rn _ _ _ _ [some (vR 38)] [] _ _
      refine r_ldR_n (m := 0) F_84_0 rfl ?_
      refine r_getI (J := 7) (e := (s 38 7)) F_84_1 o_84 fl_1_37 ty_38 (by decide) rfl kd_38_7 rfl ?_
      refine r_iconst F_84_4 ?_
      refine r_icmp (t := 12) F_84_5 rfl (l4 e2 e4) (by decide) ?_ ?_
      · intro e5
        replace e5 : (s 38 7) = (-1) := e5
        refine r_iconst F_84_12 ?_
        refine r_zreturn F_84_13 rt_84 (Or.inl rfl) ?_
        show Rn _ _ _ _ _ [vI 0] _ _
        refine r_ifF (t := 26) F_107_20 rfl (by decide) (by show ¬ (¬ (0 : Int) = 0); decide) ?_
        refine r_bipush F_107_23 bi__4 ?_
        refine r_ireturn F_107_25 rt_107 ?_
        exact (l5 e2 e4 e5)
      · intro e6
        replace e6 : ¬ (s 38 7) = (-1) := e6
        refine r_iconst F_84_8 ?_
        refine r_goto (t := 13) F_84_9 rfl ?_
        refine r_zreturn F_84_13 rt_84 (Or.inr rfl) ?_
        show Rn _ _ _ _ _ [vI 1] _ _
        refine r_ifT (t := 26) F_107_20 rfl (by decide) (by show ¬ (1 : Int) = 0; decide) ?_
        refine r_ldR_n (m := 0) F_107_26 rfl ?_
        refine r_getR (J := 0) F_107_27 o_107 fl_5_14 ty_0 (by decide) rfl (kd2 kd_0_0 (by decide)) (kd9 kd_0_0 (by decide)) rf_0_0 ?_
        refine r_ldI_n (m := 1) F_107_30 rfl ?_
        refine r_virt2 (A := [vI r]) (r := []) (n := 1) F_107_31 o_107 il_5_104 rfl rfl rfl rfl ty_1 vy_15 (lay_le n_15 rfl) ?_
        refine Cl_of n_15 rfl ?_
        show Rn _ _ _ _ [some (vR 1), some (vI r)] [] _ _
        refine r_ldR_n (m := 0) F_15_0 rfl ?_
        refine r_ldI_n (m := 1) F_15_1 rfl ?_
        refine r_virt2 (A := [vI r]) (r := []) (n := 1) F_15_2 o_15 il_3_28 rfl rfl rfl rfl ty_1 vy_16 (lay_le n_16 rfl) ?_
        refine Cl_of n_16 rfl ?_
        show Rn _ _ _ _ [some (vR 1), some (vI r)] [] _ _
        refine r_ldR_n (m := 0) F_16_0 rfl ?_
        refine r_ldI_n (m := 1) F_16_1 rfl ?_
        refine r_virt2 (A := [vI r]) (r := []) (n := 1) F_16_2 o_16 il_3_32 rfl rfl rfl rfl ty_1 vy_9 (lay_le n_9 rfl) ?_
        refine Cl_of n_9 rfl ?_
        show Rn _ _ _ _ [some (vR 1), some (vI r)] [] _ _
        refine r_ldI_n (m := 1) F_9_0 rfl ?_
        refine r_ifF (t := 17) F_9_1 rfl l1 (Int.not_lt.mpr e2) ?_
        refine r_ldI_n (m := 1) F_9_4 rfl ?_
        refine r_ldR_n (m := 0) F_9_5 rfl ?_
        refine r_getR (J := 0) F_9_6 o_9 fl_3_19 ty_1 (by decide) rfl (kd2 kd_1_0 (by decide)) (kd9 kd_1_0 (by decide)) rf_1_0 ?_
        refine r_alen F_9_9 ty_2 (by decide) ln_2 ?_
        refine r_icmpF (t := 17) F_9_10 rfl l1 (by decide) (Int.not_le.mpr e4) ?_
        refine r_iconst F_9_13 ?_
        refine r_goto (t := 18) F_9_14 rfl ?_
        refine r_zreturn F_9_18 rt_9 (Or.inr rfl) ?_
        show Rn _ _ _ _ _ [vI 1] _ _
        refine r_ifF (t := 17) F_16_5 rfl (by decide) (by show ¬ ((1 : Int) = 0); decide) ?_
        refine r_ldR_n (m := 0) F_16_8 rfl ?_
        refine r_getR (J := 0) F_16_9 o_16 fl_3_19 ty_1 (by decide) rfl (kd2 kd_1_0 (by decide)) (kd9 kd_1_0 (by decide)) rf_1_0 ?_
        refine r_ldI_n (m := 1) F_16_12 rfl ?_
        refine r_iald (e := (s 2 r)) F_16_13 ty_2 e2 (lt_ln ln_2 e4) rfl ?_
        refine r_goto (t := 18) F_16_14 rfl ?_
        refine r_ireturn F_16_18 rt_16 ?_
        show Rn _ _ _ _ _ [vI (s 2 r)] _ _
        refine r_iconst F_15_5 ?_
        refine r_icmp (t := 13) F_15_6 rfl (l6 e2 e4 e6) (by decide) ?_ ?_
        · intro e7
          replace e7 : (s 2 r) = (-1) := e7
          refine r_iconst F_15_13 ?_
          refine r_zreturn F_15_14 rt_15 (Or.inl rfl) ?_
          show Rn _ _ _ _ _ [vI 0] _ _
          refine r_ifF (t := 43) F_107_34 rfl (by decide) (by show ¬ (¬ (0 : Int) = 0); decide) ?_
          refine r_ldR_n (m := 0) F_107_37 rfl ?_
          refine r_iconst F_107_38 ?_
          refine r_virt2 (A := [vI 1]) (r := []) (n := 1) F_107_39 o_107 il_5_74 rfl rfl rfl rfl ty_0 vy_10 (lay_le n_10 rfl) ?_
          refine Cl_of n_10 rfl ?_
          show Rn _ _ _ _ [some (vR 0), some (vI 1)] [] _ _
          refine r_ldI_n (m := 1) F_10_0 rfl ?_
          refine r_iconst F_10_1 ?_
          refine r_icmpF (t := 25) F_10_2 rfl (by decide) (by decide) (by show ¬ ((1 : Int) < 1); decide) ?_
          refine r_ldI_n (m := 1) F_10_5 rfl ?_
          refine r_iconst F_10_6 ?_
          refine r_icmpF (t := 25) F_10_7 rfl (by decide) (by decide) (by show ¬ ((5 : Int) < 1); decide) ?_
          refine r_ldR_n (m := 0) F_10_10 rfl ?_
          refine r_ldI_n (m := 1) F_10_11 rfl ?_
          refine r_putI (J := 8) F_10_12 o_10 fl_5_56 ty_0 (by decide) rfl kd_0_8 pf_5_8 ?_
          refine r_ldR_n (m := 0) F_10_15 rfl ?_
          refine r_getR (J := 7) F_10_16 o_10 fl_5_52 ty_0 (by decide) rfl (kd2 kd_0_7 (by decide)) (kd9 kd_0_7 (by decide)) rf_0_7 ?_
          refine r_ldI_n (m := 1) F_10_19 rfl ?_
          refine r_dup2 F_10_20 ?_
          refine r_iald (e := (s 76 1)) F_10_21 ty_76 (by decide) (lt_ln ln_76 (by decide)) (upd_nc (by decide)) ?_
          refine r_iconst F_10_22 ?_
          refine r_iadd F_10_23 rfl ?_
          refine r_iast F_10_24 ty_76 (by decide) (lt_ln ln_76 (by decide)) ?_
          refine r_bipush F_10_25 bi__3 ?_
          refine r_ireturn F_10_27 rt_10 ?_
          show Rn _ _ _ _ _ [vI (-3)] _ _
          refine r_ireturn F_107_42 rt_107 ?_
          exact (l7 e2 e4 e6 e7)
        · intro e8
          replace e8 : ¬ (s 2 r) = (-1) := e8
          refine r_iconst F_15_9 ?_
          refine r_goto (t := 14) F_15_10 rfl ?_
          refine r_zreturn F_15_14 rt_15 (Or.inr rfl) ?_
          show Rn _ _ _ _ _ [vI 1] _ _
          refine r_ifT (t := 43) F_107_34 rfl (by decide) (by show ¬ (1 : Int) = 0; decide) ?_
          refine r_ldR_n (m := 0) F_107_43 rfl ?_
          refine r_getR (J := 0) F_107_44 o_107 fl_5_14 ty_0 (by decide) rfl (kd2 kd_0_0 (by decide)) (kd9 kd_0_0 (by decide)) rf_0_0 ?_
          refine r_ldI_n (m := 1) F_107_47 rfl ?_
          refine r_virt2 (A := [vI r]) (r := []) (n := 1) F_107_48 o_107 il_5_115 rfl rfl rfl rfl ty_1 vy_16 (lay_le n_16 rfl) ?_
          refine Cl_of n_16 rfl ?_
          show Rn _ _ _ _ [some (vR 1), some (vI r)] [] _ _
          refine r_ldR_n (m := 0) F_16_0 rfl ?_
          refine r_ldI_n (m := 1) F_16_1 rfl ?_
          refine r_virt2 (A := [vI r]) (r := []) (n := 1) F_16_2 o_16 il_3_32 rfl rfl rfl rfl ty_1 vy_9 (lay_le n_9 rfl) ?_
          refine Cl_of n_9 rfl ?_
          show Rn _ _ _ _ [some (vR 1), some (vI r)] [] _ _
          refine r_ldI_n (m := 1) F_9_0 rfl ?_
          refine r_ifF (t := 17) F_9_1 rfl l1 (Int.not_lt.mpr e2) ?_
          refine r_ldI_n (m := 1) F_9_4 rfl ?_
          refine r_ldR_n (m := 0) F_9_5 rfl ?_
          refine r_getR (J := 0) F_9_6 o_9 fl_3_19 ty_1 (by decide) rfl (kd2 kd_1_0 (by decide)) (kd9 kd_1_0 (by decide)) rf_1_0 ?_
          refine r_alen F_9_9 ty_2 (by decide) ln_2 ?_
          refine r_icmpF (t := 17) F_9_10 rfl l1 (by decide) (Int.not_le.mpr e4) ?_
          refine r_iconst F_9_13 ?_
          refine r_goto (t := 18) F_9_14 rfl ?_
          refine r_zreturn F_9_18 rt_9 (Or.inr rfl) ?_
          show Rn _ _ _ _ _ [vI 1] _ _
          refine r_ifF (t := 17) F_16_5 rfl (by decide) (by show ¬ ((1 : Int) = 0); decide) ?_
          refine r_ldR_n (m := 0) F_16_8 rfl ?_
          refine r_getR (J := 0) F_16_9 o_16 fl_3_19 ty_1 (by decide) rfl (kd2 kd_1_0 (by decide)) (kd9 kd_1_0 (by decide)) rf_1_0 ?_
          refine r_ldI_n (m := 1) F_16_12 rfl ?_
          refine r_iald (e := (s 2 r)) F_16_13 ty_2 e2 (lt_ln ln_2 e4) rfl ?_
          refine r_goto (t := 18) F_16_14 rfl ?_
          refine r_ireturn F_16_18 rt_16 ?_
          show Rn _ _ _ _ _ [vI (s 2 r)] _ _
          refine r_ldI_n (m := 2) F_107_51 rfl ?_
          refine r_icmp (t := 61) F_107_52 rfl (l6 e2 e4 e6) (l8 e2 e4 e6 e8) ?_ ?_
          · intro e9
            replace e9 : (s 2 r) ≤ l := e9
            refine r_iconst F_107_61 ?_
            refine r_stI_n (m := 3) (L' := [some (vR 0), some (vI r), some (vI l), some (vI 0)]) F_107_62 rfl rfl ?_
            exact (l9 e2 e4 e6 e8 e9)
          · intro e10
            replace e10 : l < (s 2 r) := (Int.not_le.mp e10)
            refine r_ldR_n (m := 0) F_107_55 rfl ?_
            refine r_iconst F_107_56 ?_
            refine r_virt2 (A := [vI 5]) (r := []) (n := 1) F_107_57 o_107 il_5_74 rfl rfl rfl rfl ty_0 vy_10 (lay_le n_10 rfl) ?_
            refine Cl_of n_10 rfl ?_
            show Rn _ _ _ _ [some (vR 0), some (vI 5)] [] _ _
            refine r_ldI_n (m := 1) F_10_0 rfl ?_
            refine r_iconst F_10_1 ?_
            refine r_icmpF (t := 25) F_10_2 rfl (by decide) (by decide) (by show ¬ ((5 : Int) < 1); decide) ?_
            refine r_ldI_n (m := 1) F_10_5 rfl ?_
            refine r_iconst F_10_6 ?_
            refine r_icmpF (t := 25) F_10_7 rfl (by decide) (by decide) (by show ¬ ((5 : Int) < 5); decide) ?_
            refine r_ldR_n (m := 0) F_10_10 rfl ?_
            refine r_ldI_n (m := 1) F_10_11 rfl ?_
            refine r_putI (J := 8) F_10_12 o_10 fl_5_56 ty_0 (by decide) rfl kd_0_8 pf_5_8 ?_
            refine r_ldR_n (m := 0) F_10_15 rfl ?_
            refine r_getR (J := 7) F_10_16 o_10 fl_5_52 ty_0 (by decide) rfl (kd2 kd_0_7 (by decide)) (kd9 kd_0_7 (by decide)) rf_0_7 ?_
            refine r_ldI_n (m := 1) F_10_19 rfl ?_
            refine r_dup2 F_10_20 ?_
            refine r_iald (e := (s 76 5)) F_10_21 ty_76 (by decide) (lt_ln ln_76 (by decide)) (upd_nc (by decide)) ?_
            refine r_iconst F_10_22 ?_
            refine r_iadd F_10_23 rfl ?_
            refine r_iast F_10_24 ty_76 (by decide) (lt_ln ln_76 (by decide)) ?_
            refine r_bipush F_10_25 bi__3 ?_
            refine r_ireturn F_10_27 rt_10 ?_
            show Rn _ _ _ _ _ [vI (-3)] _ _
            refine r_ireturn F_107_60 rt_107 ?_
            exact (l10 e2 e4 e6 e8 e10)
theorem t_X5_talkRefusal_63 {X : List Int32} {d : Nat} {s : m_St} {P : Option Value → m_St → Prop} {r l i : Int} (i0 : 0 ≤ i) (h0 : 0 ≤ r) (h6 : r < 6)
    (l1 : inR r)
    (l2 : inR i)
    (l3 : inR (s 2 r))
    (l4 : (s 2 r) ≤ i → P (some (vI 0)) s)
    (l5 : i < (s 2 r) → (s 2 r) ≤ 40)
    (l6 : i < (s 2 r) → inR (s (4 + r) i))
    (l7 : i < (s 2 r) → (s (4 + r) i) < 0 → P (some (vI (-3))) (m_upd (m_upd s 0 8 3) 76 3 ((s 76 3) + 1)))
    (l8 : i < (s 2 r) → 0 ≤ (s (4 + r) i) → 8 ≤ (s (4 + r) i) → P (some (vI (-3))) (m_upd (m_upd s 0 8 3) 76 3 ((s 76 3) + 1)))
    (l9 : i < (s 2 r) → 0 ≤ (s (4 + r) i) → (s (4 + r) i) < 8 → Rn X (d + 5) 107 63 [some (vR 0), some (vI r), some (vI l), some (vI (i + 1))] [] s P)
    : Rn X (d + 5) 107 63 [some (vR 0), some (vI r), some (vI l), some (vI i)] [] s P := by
  refine r_ldI_n (m := 3) F_107_63 rfl ?_
  refine r_ldR_n (m := 0) F_107_64 rfl ?_
  refine r_getR (J := 0) F_107_65 o_107 fl_5_14 ty_0 (by decide) rfl (kd2 kd_0_0 (by decide)) (kd9 kd_0_0 (by decide)) rf_0_0 ?_
  refine r_ldI_n (m := 1) F_107_68 rfl ?_
  refine r_virt2 (A := [vI r]) (r := [vI i]) (n := 1) F_107_69 o_107 il_5_115 rfl rfl rfl rfl ty_1 vy_16 (lay_le n_16 rfl) ?_
  refine Cl_of n_16 rfl ?_
  show Rn _ _ _ _ [some (vR 1), some (vI r)] [] _ _
  refine r_ldR_n (m := 0) F_16_0 rfl ?_
  refine r_ldI_n (m := 1) F_16_1 rfl ?_
  refine r_virt2 (A := [vI r]) (r := []) (n := 1) F_16_2 o_16 il_3_32 rfl rfl rfl rfl ty_1 vy_9 (lay_le n_9 rfl) ?_
  refine Cl_of n_9 rfl ?_
  show Rn _ _ _ _ [some (vR 1), some (vI r)] [] _ _
  refine r_ldI_n (m := 1) F_9_0 rfl ?_
  refine r_ifF (t := 17) F_9_1 rfl l1 (Int.not_lt.mpr h0) ?_
  refine r_ldI_n (m := 1) F_9_4 rfl ?_
  refine r_ldR_n (m := 0) F_9_5 rfl ?_
  refine r_getR (J := 0) F_9_6 o_9 fl_3_19 ty_1 (by decide) rfl (kd2 kd_1_0 (by decide)) (kd9 kd_1_0 (by decide)) rf_1_0 ?_
  refine r_alen F_9_9 ty_2 (by decide) ln_2 ?_
  refine r_icmpF (t := 17) F_9_10 rfl l1 (by decide) (Int.not_le.mpr h6) ?_
  refine r_iconst F_9_13 ?_
  refine r_goto (t := 18) F_9_14 rfl ?_
  refine r_zreturn F_9_18 rt_9 (Or.inr rfl) ?_
  show Rn _ _ _ _ _ [vI 1] _ _
  refine r_ifF (t := 17) F_16_5 rfl (by decide) (by show ¬ ((1 : Int) = 0); decide) ?_
  refine r_ldR_n (m := 0) F_16_8 rfl ?_
  refine r_getR (J := 0) F_16_9 o_16 fl_3_19 ty_1 (by decide) rfl (kd2 kd_1_0 (by decide)) (kd9 kd_1_0 (by decide)) rf_1_0 ?_
  refine r_ldI_n (m := 1) F_16_12 rfl ?_
  refine r_iald (e := (s 2 r)) F_16_13 ty_2 h0 (lt_ln ln_2 h6) rfl ?_
  refine r_goto (t := 18) F_16_14 rfl ?_
  refine r_ireturn F_16_18 rt_16 ?_
  show Rn _ _ _ _ _ [vI (s 2 r), vI i] _ _
  refine r_icmp (t := 102) F_107_72 rfl l2 l3 ?_ ?_
  · intro e1
    replace e1 : (s 2 r) ≤ i := e1
    refine r_iconst F_107_102 ?_
    refine r_ireturn F_107_103 rt_107 ?_
    exact (l4 e1)
  · intro e2
    replace e2 : i < (s 2 r) := (Int.not_le.mp e2)
    refine r_ldR_n (m := 0) F_107_75 rfl ?_
    refine r_getR (J := 0) F_107_76 o_107 fl_5_14 ty_0 (by decide) rfl (kd2 kd_0_0 (by decide)) (kd9 kd_0_0 (by decide)) rf_0_0 ?_
    refine r_ldI_n (m := 1) F_107_79 rfl ?_
    refine r_ldI_n (m := 3) F_107_80 rfl ?_
    refine r_virt2 (A := [vI r, vI i]) (r := []) (n := 2) F_107_81 o_107 il_5_86 rfl rfl rfl rfl ty_1 vy_18 (lay_le n_18 rfl) ?_
    refine sp_get1 h0 h6 i0 e2 (l5 e2) ?_
    show Rn _ _ _ _ _ [vI (s (4 + r) i)] _ _
    refine r_stat2 (A := [vI (s (4 + r) i)]) (r := []) (n := 1) F_107_84 o_107 il_5_194 (by decide) rfl rfl rfl rfl (lay_le n_86 rfl) ?_
    refine Cl_of n_86 rfl ?_
    show Rn _ _ _ _ [some (vI (s (4 + r) i))] [] _ _
    refine r_ldI_n (m := 0) F_86_0 rfl ?_
    refine r_if (t := 14) F_86_1 rfl (l6 e2) ?_ ?_
    · intro e3
      replace e3 : (s (4 + r) i) < 0 := e3
      refine r_iconst F_86_14 ?_
      refine r_zreturn F_86_15 rt_86 (Or.inl rfl) ?_
      show Rn _ _ _ _ _ [vI 0] _ _
      refine r_ifF (t := 96) F_107_87 rfl (by decide) (by show ¬ (¬ (0 : Int) = 0); decide) ?_
      refine r_ldR_n (m := 0) F_107_90 rfl ?_
      refine r_iconst F_107_91 ?_
      refine r_virt2 (A := [vI 3]) (r := []) (n := 1) F_107_92 o_107 il_5_74 rfl rfl rfl rfl ty_0 vy_10 (lay_le n_10 rfl) ?_
      refine Cl_of n_10 rfl ?_
      show Rn _ _ _ _ [some (vR 0), some (vI 3)] [] _ _
      refine r_ldI_n (m := 1) F_10_0 rfl ?_
      refine r_iconst F_10_1 ?_
      refine r_icmpF (t := 25) F_10_2 rfl (by decide) (by decide) (by show ¬ ((3 : Int) < 1); decide) ?_
      refine r_ldI_n (m := 1) F_10_5 rfl ?_
      refine r_iconst F_10_6 ?_
      refine r_icmpF (t := 25) F_10_7 rfl (by decide) (by decide) (by show ¬ ((5 : Int) < 3); decide) ?_
      refine r_ldR_n (m := 0) F_10_10 rfl ?_
      refine r_ldI_n (m := 1) F_10_11 rfl ?_
      refine r_putI (J := 8) F_10_12 o_10 fl_5_56 ty_0 (by decide) rfl kd_0_8 pf_5_8 ?_
      refine r_ldR_n (m := 0) F_10_15 rfl ?_
      refine r_getR (J := 7) F_10_16 o_10 fl_5_52 ty_0 (by decide) rfl (kd2 kd_0_7 (by decide)) (kd9 kd_0_7 (by decide)) rf_0_7 ?_
      refine r_ldI_n (m := 1) F_10_19 rfl ?_
      refine r_dup2 F_10_20 ?_
      refine r_iald (e := (s 76 3)) F_10_21 ty_76 (by decide) (lt_ln ln_76 (by decide)) (upd_nc (by decide)) ?_
      refine r_iconst F_10_22 ?_
      refine r_iadd F_10_23 rfl ?_
      refine r_iast F_10_24 ty_76 (by decide) (lt_ln ln_76 (by decide)) ?_
      refine r_bipush F_10_25 bi__3 ?_
      refine r_ireturn F_10_27 rt_10 ?_
      show Rn _ _ _ _ _ [vI (-3)] _ _
      refine r_ireturn F_107_95 rt_107 ?_
      exact (l7 e2 e3)
    · intro e4
      replace e4 : 0 ≤ (s (4 + r) i) := (Int.not_lt.mp e4)
      refine r_ldI_n (m := 0) F_86_4 rfl ?_
      refine r_bipush F_86_5 bi_8 ?_
      refine r_icmp (t := 14) F_86_7 rfl (l6 e2) (by decide) ?_ ?_
      · intro e5
        replace e5 : 8 ≤ (s (4 + r) i) := e5
        refine r_iconst F_86_14 ?_
        refine r_zreturn F_86_15 rt_86 (Or.inl rfl) ?_
        show Rn _ _ _ _ _ [vI 0] _ _
        refine r_ifF (t := 96) F_107_87 rfl (by decide) (by show ¬ (¬ (0 : Int) = 0); decide) ?_
        refine r_ldR_n (m := 0) F_107_90 rfl ?_
        refine r_iconst F_107_91 ?_
        refine r_virt2 (A := [vI 3]) (r := []) (n := 1) F_107_92 o_107 il_5_74 rfl rfl rfl rfl ty_0 vy_10 (lay_le n_10 rfl) ?_
        refine Cl_of n_10 rfl ?_
        show Rn _ _ _ _ [some (vR 0), some (vI 3)] [] _ _
        refine r_ldI_n (m := 1) F_10_0 rfl ?_
        refine r_iconst F_10_1 ?_
        refine r_icmpF (t := 25) F_10_2 rfl (by decide) (by decide) (by show ¬ ((3 : Int) < 1); decide) ?_
        refine r_ldI_n (m := 1) F_10_5 rfl ?_
        refine r_iconst F_10_6 ?_
        refine r_icmpF (t := 25) F_10_7 rfl (by decide) (by decide) (by show ¬ ((5 : Int) < 3); decide) ?_
        refine r_ldR_n (m := 0) F_10_10 rfl ?_
        refine r_ldI_n (m := 1) F_10_11 rfl ?_
        refine r_putI (J := 8) F_10_12 o_10 fl_5_56 ty_0 (by decide) rfl kd_0_8 pf_5_8 ?_
        refine r_ldR_n (m := 0) F_10_15 rfl ?_
        refine r_getR (J := 7) F_10_16 o_10 fl_5_52 ty_0 (by decide) rfl (kd2 kd_0_7 (by decide)) (kd9 kd_0_7 (by decide)) rf_0_7 ?_
        refine r_ldI_n (m := 1) F_10_19 rfl ?_
        refine r_dup2 F_10_20 ?_
        refine r_iald (e := (s 76 3)) F_10_21 ty_76 (by decide) (lt_ln ln_76 (by decide)) (upd_nc (by decide)) ?_
        refine r_iconst F_10_22 ?_
        refine r_iadd F_10_23 rfl ?_
        refine r_iast F_10_24 ty_76 (by decide) (lt_ln ln_76 (by decide)) ?_
        refine r_bipush F_10_25 bi__3 ?_
        refine r_ireturn F_10_27 rt_10 ?_
        show Rn _ _ _ _ _ [vI (-3)] _ _
        refine r_ireturn F_107_95 rt_107 ?_
        exact (l8 e2 e4 e5)
      · intro e6
        replace e6 : (s (4 + r) i) < 8 := (Int.not_le.mp e6)
        refine r_iconst F_86_10 ?_
        refine r_goto (t := 15) F_86_11 rfl ?_
        refine r_zreturn F_86_15 rt_86 (Or.inr rfl) ?_
        show Rn _ _ _ _ _ [vI 1] _ _
        refine r_ifT (t := 96) F_107_87 rfl (by decide) (by show ¬ (1 : Int) = 0; decide) ?_
        refine r_iinc (m := 3) (e := (i + 1)) (L' := [some (vR 0), some (vI r), some (vI l), some (vI (i + 1))]) F_107_96 rfl rfl rfl rfl ?_
        refine r_goto (t := 63) F_107_99 rfl ?_
        exact (l9 e2 e4 e6)
theorem t_X5_triplesRefusal {X : List Int32} {d : Nat} {s : m_St} {P : Option Value → m_St → Prop} {i r : Int}
    (l1 : inR i)
    (l2 : i < 0 → P (some (vI (-1))) s)
    (l3 : 0 ≤ i → inR (s 38 3))
    (l4 : 0 ≤ i → (s 38 3) ≤ i → P (some (vI (-1))) s)
    (l5 : 0 ≤ i → i < (s 38 3) → inR r)
    (l6 : 0 ≤ i → i < (s 38 3) → r < 0 → P (some (vI (-1))) s)
    (l7 : 0 ≤ i → i < (s 38 3) → 0 ≤ r → 6 ≤ r → P (some (vI (-1))) s)
    (l8 : 0 ≤ i → i < (s 38 3) → 0 ≤ r → r < 6 → inR (s 2 r))
    (l9 : 0 ≤ i → i < (s 38 3) → 0 ≤ r → r < 6 → (s 2 r) = (-1) → P (some (vI (-3))) (m_upd (m_upd s 0 8 1) 76 1 ((s 76 1) + 1)))
    (l10 : 0 ≤ i → i < (s 38 3) → 0 ≤ r → r < 6 → ¬ (s 2 r) = (-1) → 0 ≤ (s 2 r))
    (l11 : 0 ≤ i → i < (s 38 3) → 0 ≤ r → r < 6 → ¬ (s 2 r) = (-1) → inR ((s 2 r) % 3))
    (l12 : 0 ≤ i → i < (s 38 3) → 0 ≤ r → r < 6 → ¬ (s 2 r) = (-1) → ((s 2 r) % 3) = 0 → Rn X (d + 5) 126 62 [some (vR 0), some (vI i), some (vI r), some (vI 0), none, none] [] s P)
    (l13 : 0 ≤ i → i < (s 38 3) → 0 ≤ r → r < 6 → ¬ (s 2 r) = (-1) → ¬ ((s 2 r) % 3) = 0 → P (some (vI (-3))) (m_upd (m_upd s 0 8 5) 76 5 ((s 76 5) + 1)))
    : Cl X (d + 5) 126 [vR 0, vI i, vI r] s P := by
  refine Cl_of n_126 rfl ?_
  show Rn _ _ _ _ [some (vR 0), some (vI i), some (vI r), none, none, none] [] _ _
  refine r_ldR_n (m := 0) F_126_0 rfl ?_
  refine r_getR (J := 4) F_126_1 o_126 fl_5_34 ty_0 (by decide) rfl (kd2 kd_0_4 (by decide)) (kd9 kd_0_4 (by decide)) rf_0_4 ?_
  refine r_ldI_n (m := 1) F_126_4 rfl ?_
  refine r_virt2 (A := [vI i]) (r := []) (n := 1) F_126_5 o_126 il_5_136 rfl rfl rfl rfl ty_38 vy_66 (lay_le n_66 rfl) ?_
  refine Cl_of n_66 rfl ?_
  show Rn _ _ _ _ [some (vR 38), some (vI i)] [] _ _
  refine r_ldI_n (m := 1) F_66_0 rfl ?_
  refine r_if (t := 16) F_66_1 rfl l1 ?_ ?_
  · intro e1
    replace e1 : i < 0 := e1
    refine r_iconst F_66_16 ?_
    refine r_zreturn F_66_17 rt_66 (Or.inl rfl) ?_
    show Rn _ _ _ _ _ [vI 0] _ _
    refine r_ifT (t := 22) F_126_8 rfl (by decide) (by show (0 : Int) = 0; decide) ?_
    refine r_iconst F_126_22 ?_
    refine r_ireturn F_126_23 rt_126 ?_
    exact (l2 e1)
  · intro e2
    replace e2 : 0 ≤ i := (Int.not_lt.mp e2)
    refine r_ldI_n (m := 1) F_66_4 rfl ?_
    refine r_ldR_n (m := 0) F_66_5 rfl ?_
    refine r_getI (J := 3) (e := (s 38 3)) F_66_6 o_66 fl_1_24 ty_38 (by decide) rfl kd_38_3 rfl ?_
    refine r_icmp (t := 16) F_66_9 rfl l1 (l3 e2) ?_ ?_
    · intro e3
      replace e3 : (s 38 3) ≤ i := e3
      refine r_iconst F_66_16 ?_
      refine r_zreturn F_66_17 rt_66 (Or.inl rfl) ?_
      show Rn _ _ _ _ _ [vI 0] _ _
      refine r_ifT (t := 22) F_126_8 rfl (by decide) (by show (0 : Int) = 0; decide) ?_
      refine r_iconst F_126_22 ?_
      refine r_ireturn F_126_23 rt_126 ?_
      exact (l4 e2 e3)
    · intro e4
      replace e4 : i < (s 38 3) := (Int.not_le.mp e4)
      refine r_iconst F_66_12 ?_
      refine r_goto (t := 17) F_66_13 rfl ?_
      refine r_zreturn F_66_17 rt_66 (Or.inr rfl) ?_
      show Rn _ _ _ _ _ [vI 1] _ _
      refine r_ifF (t := 22) F_126_8 rfl (by decide) (by show ¬ ((1 : Int) = 0); decide) ?_
      refine r_ldR_n (m := 0) F_126_11 rfl ?_
      refine r_getR (J := 0) F_126_12 o_126 fl_5_14 ty_0 (by decide) rfl (kd2 kd_0_0 (by decide)) (kd9 kd_0_0 (by decide)) rf_0_0 ?_
      refine r_ldI_n (m := 2) F_126_15 rfl ?_
      refine r_virt2 (A := [vI r]) (r := []) (n := 1) F_126_16 o_126 il_5_70 rfl rfl rfl rfl ty_1 vy_9 (lay_le n_9 rfl) ?_
      refine Cl_of n_9 rfl ?_
      show Rn _ _ _ _ [some (vR 1), some (vI r)] [] _ _
      refine r_ldI_n (m := 1) F_9_0 rfl ?_
      refine r_if (t := 17) F_9_1 rfl (l5 e2 e4) ?_ ?_
      · intro e5
        replace e5 : r < 0 := e5
        refine r_iconst F_9_17 ?_
        refine r_zreturn F_9_18 rt_9 (Or.inl rfl) ?_
        show Rn _ _ _ _ _ [vI 0] _ _
        refine r_ifF (t := 24) F_126_19 rfl (by decide) (by show ¬ (¬ (0 : Int) = 0); decide) ?_
        refine r_iconst F_126_22 ?_
        refine r_ireturn F_126_23 rt_126 ?_
        exact (l6 e2 e4 e5)
      · intro e6
        replace e6 : 0 ≤ r := (Int.not_lt.mp e6)
        refine r_ldI_n (m := 1) F_9_4 rfl ?_
        refine r_ldR_n (m := 0) F_9_5 rfl ?_
        refine r_getR (J := 0) F_9_6 o_9 fl_3_19 ty_1 (by decide) rfl (kd2 kd_1_0 (by decide)) (kd9 kd_1_0 (by decide)) rf_1_0 ?_
        refine r_alen F_9_9 ty_2 (by decide) ln_2 ?_
        refine r_icmp (t := 17) F_9_10 rfl (l5 e2 e4) (by decide) ?_ ?_
        · intro e7
          replace e7 : 6 ≤ r := e7
          refine r_iconst F_9_17 ?_
          refine r_zreturn F_9_18 rt_9 (Or.inl rfl) ?_
          show Rn _ _ _ _ _ [vI 0] _ _
          refine r_ifF (t := 24) F_126_19 rfl (by decide) (by show ¬ (¬ (0 : Int) = 0); decide) ?_
          refine r_iconst F_126_22 ?_
          refine r_ireturn F_126_23 rt_126 ?_
          exact (l7 e2 e4 e6 e7)
        · intro e8
          replace e8 : r < 6 := (Int.not_le.mp e8)
          refine r_iconst F_9_13 ?_
          refine r_goto (t := 18) F_9_14 rfl ?_
          refine r_zreturn F_9_18 rt_9 (Or.inr rfl) ?_
          show Rn _ _ _ _ _ [vI 1] _ _
          refine r_ifT (t := 24) F_126_19 rfl (by decide) (by show ¬ (1 : Int) = 0; decide) ?_
          refine r_ldR_n (m := 0) F_126_24 rfl ?_
          refine r_getR (J := 0) F_126_25 o_126 fl_5_14 ty_0 (by decide) rfl (kd2 kd_0_0 (by decide)) (kd9 kd_0_0 (by decide)) rf_0_0 ?_
          refine r_ldI_n (m := 2) F_126_28 rfl ?_
          refine r_virt2 (A := [vI r]) (r := []) (n := 1) F_126_29 o_126 il_5_104 rfl rfl rfl rfl ty_1 vy_15 (lay_le n_15 rfl) ?_
          refine Cl_of n_15 rfl ?_
          show Rn _ _ _ _ [some (vR 1), some (vI r)] [] _ _
          refine r_ldR_n (m := 0) F_15_0 rfl ?_
          refine r_ldI_n (m := 1) F_15_1 rfl ?_
          refine r_virt2 (A := [vI r]) (r := []) (n := 1) F_15_2 o_15 il_3_28 rfl rfl rfl rfl ty_1 vy_16 (lay_le n_16 rfl) ?_
          refine Cl_of n_16 rfl ?_
          show Rn _ _ _ _ [some (vR 1), some (vI r)] [] _ _
          refine r_ldR_n (m := 0) F_16_0 rfl ?_
          refine r_ldI_n (m := 1) F_16_1 rfl ?_
          refine r_virt2 (A := [vI r]) (r := []) (n := 1) F_16_2 o_16 il_3_32 rfl rfl rfl rfl ty_1 vy_9 (lay_le n_9 rfl) ?_
          refine Cl_of n_9 rfl ?_
          show Rn _ _ _ _ [some (vR 1), some (vI r)] [] _ _
          refine r_ldI_n (m := 1) F_9_0 rfl ?_
          refine r_ifF (t := 17) F_9_1 rfl (l5 e2 e4) (Int.not_lt.mpr e6) ?_
          refine r_ldI_n (m := 1) F_9_4 rfl ?_
          refine r_ldR_n (m := 0) F_9_5 rfl ?_
          refine r_getR (J := 0) F_9_6 o_9 fl_3_19 ty_1 (by decide) rfl (kd2 kd_1_0 (by decide)) (kd9 kd_1_0 (by decide)) rf_1_0 ?_
          refine r_alen F_9_9 ty_2 (by decide) ln_2 ?_
          refine r_icmpF (t := 17) F_9_10 rfl (l5 e2 e4) (by decide) (Int.not_le.mpr e8) ?_
          refine r_iconst F_9_13 ?_
          refine r_goto (t := 18) F_9_14 rfl ?_
          refine r_zreturn F_9_18 rt_9 (Or.inr rfl) ?_
          show Rn _ _ _ _ _ [vI 1] _ _
          refine r_ifF (t := 17) F_16_5 rfl (by decide) (by show ¬ ((1 : Int) = 0); decide) ?_
          refine r_ldR_n (m := 0) F_16_8 rfl ?_
          refine r_getR (J := 0) F_16_9 o_16 fl_3_19 ty_1 (by decide) rfl (kd2 kd_1_0 (by decide)) (kd9 kd_1_0 (by decide)) rf_1_0 ?_
          refine r_ldI_n (m := 1) F_16_12 rfl ?_
          refine r_iald (e := (s 2 r)) F_16_13 ty_2 e6 (lt_ln ln_2 e8) rfl ?_
          refine r_goto (t := 18) F_16_14 rfl ?_
          refine r_ireturn F_16_18 rt_16 ?_
          show Rn _ _ _ _ _ [vI (s 2 r)] _ _
          refine r_iconst F_15_5 ?_
          refine r_icmp (t := 13) F_15_6 rfl (l8 e2 e4 e6 e8) (by decide) ?_ ?_
          · intro e9
            replace e9 : (s 2 r) = (-1) := e9
            refine r_iconst F_15_13 ?_
            refine r_zreturn F_15_14 rt_15 (Or.inl rfl) ?_
            show Rn _ _ _ _ _ [vI 0] _ _
            refine r_ifF (t := 41) F_126_32 rfl (by decide) (by show ¬ (¬ (0 : Int) = 0); decide) ?_
            refine r_ldR_n (m := 0) F_126_35 rfl ?_
            refine r_iconst F_126_36 ?_
            refine r_virt2 (A := [vI 1]) (r := []) (n := 1) F_126_37 o_126 il_5_74 rfl rfl rfl rfl ty_0 vy_10 (lay_le n_10 rfl) ?_
            refine Cl_of n_10 rfl ?_
            show Rn _ _ _ _ [some (vR 0), some (vI 1)] [] _ _
            refine r_ldI_n (m := 1) F_10_0 rfl ?_
            refine r_iconst F_10_1 ?_
            refine r_icmpF (t := 25) F_10_2 rfl (by decide) (by decide) (by show ¬ ((1 : Int) < 1); decide) ?_
            refine r_ldI_n (m := 1) F_10_5 rfl ?_
            refine r_iconst F_10_6 ?_
            refine r_icmpF (t := 25) F_10_7 rfl (by decide) (by decide) (by show ¬ ((5 : Int) < 1); decide) ?_
            refine r_ldR_n (m := 0) F_10_10 rfl ?_
            refine r_ldI_n (m := 1) F_10_11 rfl ?_
            refine r_putI (J := 8) F_10_12 o_10 fl_5_56 ty_0 (by decide) rfl kd_0_8 pf_5_8 ?_
            refine r_ldR_n (m := 0) F_10_15 rfl ?_
            refine r_getR (J := 7) F_10_16 o_10 fl_5_52 ty_0 (by decide) rfl (kd2 kd_0_7 (by decide)) (kd9 kd_0_7 (by decide)) rf_0_7 ?_
            refine r_ldI_n (m := 1) F_10_19 rfl ?_
            refine r_dup2 F_10_20 ?_
            refine r_iald (e := (s 76 1)) F_10_21 ty_76 (by decide) (lt_ln ln_76 (by decide)) (upd_nc (by decide)) ?_
            refine r_iconst F_10_22 ?_
            refine r_iadd F_10_23 rfl ?_
            refine r_iast F_10_24 ty_76 (by decide) (lt_ln ln_76 (by decide)) ?_
            refine r_bipush F_10_25 bi__3 ?_
            refine r_ireturn F_10_27 rt_10 ?_
            show Rn _ _ _ _ _ [vI (-3)] _ _
            refine r_ireturn F_126_40 rt_126 ?_
            exact (l9 e2 e4 e6 e8 e9)
          · intro e10
            replace e10 : ¬ (s 2 r) = (-1) := e10
            refine r_iconst F_15_9 ?_
            refine r_goto (t := 14) F_15_10 rfl ?_
            refine r_zreturn F_15_14 rt_15 (Or.inr rfl) ?_
            show Rn _ _ _ _ _ [vI 1] _ _
            refine r_ifT (t := 41) F_126_32 rfl (by decide) (by show ¬ (1 : Int) = 0; decide) ?_
            refine r_ldR_n (m := 0) F_126_41 rfl ?_
            refine r_getR (J := 0) F_126_42 o_126 fl_5_14 ty_0 (by decide) rfl (kd2 kd_0_0 (by decide)) (kd9 kd_0_0 (by decide)) rf_0_0 ?_
            refine r_ldI_n (m := 2) F_126_45 rfl ?_
            refine r_virt2 (A := [vI r]) (r := []) (n := 1) F_126_46 o_126 il_5_115 rfl rfl rfl rfl ty_1 vy_16 (lay_le n_16 rfl) ?_
            refine Cl_of n_16 rfl ?_
            show Rn _ _ _ _ [some (vR 1), some (vI r)] [] _ _
            refine r_ldR_n (m := 0) F_16_0 rfl ?_
            refine r_ldI_n (m := 1) F_16_1 rfl ?_
            refine r_virt2 (A := [vI r]) (r := []) (n := 1) F_16_2 o_16 il_3_32 rfl rfl rfl rfl ty_1 vy_9 (lay_le n_9 rfl) ?_
            refine Cl_of n_9 rfl ?_
            show Rn _ _ _ _ [some (vR 1), some (vI r)] [] _ _
            refine r_ldI_n (m := 1) F_9_0 rfl ?_
            refine r_ifF (t := 17) F_9_1 rfl (l5 e2 e4) (Int.not_lt.mpr e6) ?_
            refine r_ldI_n (m := 1) F_9_4 rfl ?_
            refine r_ldR_n (m := 0) F_9_5 rfl ?_
            refine r_getR (J := 0) F_9_6 o_9 fl_3_19 ty_1 (by decide) rfl (kd2 kd_1_0 (by decide)) (kd9 kd_1_0 (by decide)) rf_1_0 ?_
            refine r_alen F_9_9 ty_2 (by decide) ln_2 ?_
            refine r_icmpF (t := 17) F_9_10 rfl (l5 e2 e4) (by decide) (Int.not_le.mpr e8) ?_
            refine r_iconst F_9_13 ?_
            refine r_goto (t := 18) F_9_14 rfl ?_
            refine r_zreturn F_9_18 rt_9 (Or.inr rfl) ?_
            show Rn _ _ _ _ _ [vI 1] _ _
            refine r_ifF (t := 17) F_16_5 rfl (by decide) (by show ¬ ((1 : Int) = 0); decide) ?_
            refine r_ldR_n (m := 0) F_16_8 rfl ?_
            refine r_getR (J := 0) F_16_9 o_16 fl_3_19 ty_1 (by decide) rfl (kd2 kd_1_0 (by decide)) (kd9 kd_1_0 (by decide)) rf_1_0 ?_
            refine r_ldI_n (m := 1) F_16_12 rfl ?_
            refine r_iald (e := (s 2 r)) F_16_13 ty_2 e6 (lt_ln ln_2 e8) rfl ?_
            refine r_goto (t := 18) F_16_14 rfl ?_
            refine r_ireturn F_16_18 rt_16 ?_
            show Rn _ _ _ _ _ [vI (s 2 r)] _ _
            refine r_iconst F_126_49 ?_
            refine r_irem F_126_50 (l8 e2 e4 e6 e8) (l10 e2 e4 e6 e8 e10) (by decide) (by decide) ?_
            refine r_if (t := 60) F_126_51 rfl (l11 e2 e4 e6 e8 e10) ?_ ?_
            · intro e11
              replace e11 : ((s 2 r) % 3) = 0 := e11
              refine r_iconst F_126_60 ?_
              refine r_stI_n (m := 3) (L' := [some (vR 0), some (vI i), some (vI r), some (vI 0), none, none]) F_126_61 rfl rfl ?_
              exact (l12 e2 e4 e6 e8 e10 e11)
            · intro e12
              replace e12 : ¬ ((s 2 r) % 3) = 0 := e12
              refine r_ldR_n (m := 0) F_126_54 rfl ?_
              refine r_iconst F_126_55 ?_
              refine r_virt2 (A := [vI 5]) (r := []) (n := 1) F_126_56 o_126 il_5_74 rfl rfl rfl rfl ty_0 vy_10 (lay_le n_10 rfl) ?_
              refine Cl_of n_10 rfl ?_
              show Rn _ _ _ _ [some (vR 0), some (vI 5)] [] _ _
              refine r_ldI_n (m := 1) F_10_0 rfl ?_
              refine r_iconst F_10_1 ?_
              refine r_icmpF (t := 25) F_10_2 rfl (by decide) (by decide) (by show ¬ ((5 : Int) < 1); decide) ?_
              refine r_ldI_n (m := 1) F_10_5 rfl ?_
              refine r_iconst F_10_6 ?_
              refine r_icmpF (t := 25) F_10_7 rfl (by decide) (by decide) (by show ¬ ((5 : Int) < 5); decide) ?_
              refine r_ldR_n (m := 0) F_10_10 rfl ?_
              refine r_ldI_n (m := 1) F_10_11 rfl ?_
              refine r_putI (J := 8) F_10_12 o_10 fl_5_56 ty_0 (by decide) rfl kd_0_8 pf_5_8 ?_
              refine r_ldR_n (m := 0) F_10_15 rfl ?_
              refine r_getR (J := 7) F_10_16 o_10 fl_5_52 ty_0 (by decide) rfl (kd2 kd_0_7 (by decide)) (kd9 kd_0_7 (by decide)) rf_0_7 ?_
              refine r_ldI_n (m := 1) F_10_19 rfl ?_
              refine r_dup2 F_10_20 ?_
              refine r_iald (e := (s 76 5)) F_10_21 ty_76 (by decide) (lt_ln ln_76 (by decide)) (upd_nc (by decide)) ?_
              refine r_iconst F_10_22 ?_
              refine r_iadd F_10_23 rfl ?_
              refine r_iast F_10_24 ty_76 (by decide) (lt_ln ln_76 (by decide)) ?_
              refine r_bipush F_10_25 bi__3 ?_
              refine r_ireturn F_10_27 rt_10 ?_
              show Rn _ _ _ _ _ [vI (-3)] _ _
              refine r_ireturn F_126_59 rt_126 ?_
              exact (l13 e2 e4 e6 e8 e10 e12)
theorem t_X5_triplesRefusal_62 {X : List Int32} {d : Nat} {s : m_St} {P : Option Value → m_St → Prop} {i r j : Int} {z4 z5 : Option Value} (j0 : 0 ≤ j) (h0 : 0 ≤ r) (h6 : r < 6)
    (l1 : inR r)
    (l2 : inR j)
    (l3 : inR (s 2 r))
    (l4 : (s 2 r) ≤ j → P (some (vI 0)) s)
    (l5 : j < (s 2 r) → 0 ≤ (j + 1))
    (l6 : j < (s 2 r) → (j + 1) < (s 2 r))
    (l7 : j < (s 2 r) → (s 2 r) ≤ 40)
    (l8 : j < (s 2 r) → 0 ≤ (j + 2))
    (l9 : j < (s 2 r) → (j + 2) < (s 2 r))
    (l10 : j < (s 2 r) → inR (s (4 + r) j))
    (l11 : j < (s 2 r) → (s (4 + r) j) < 0 → P (some (vI (-3))) (m_upd (m_upd s 0 8 3) 76 3 ((s 76 3) + 1)))
    (l12 : j < (s 2 r) → 0 ≤ (s (4 + r) j) → 4 ≤ (s (4 + r) j) → P (some (vI (-3))) (m_upd (m_upd s 0 8 3) 76 3 ((s 76 3) + 1)))
    (l13 : j < (s 2 r) → 0 ≤ (s (4 + r) j) → (s (4 + r) j) < 4 → inR (s (4 + r) (j + 1)))
    (l14 : j < (s 2 r) → 0 ≤ (s (4 + r) j) → (s (4 + r) j) < 4 → (s (4 + r) (j + 1)) < 0 → P (some (vI (-3))) (m_upd (m_upd s 0 8 3) 76 3 ((s 76 3) + 1)))
    (l15 : j < (s 2 r) → 0 ≤ (s (4 + r) j) → (s (4 + r) j) < 4 → 0 ≤ (s (4 + r) (j + 1)) → 20 < (s (4 + r) (j + 1)) → P (some (vI (-3))) (m_upd (m_upd s 0 8 3) 76 3 ((s 76 3) + 1)))
    (l16 : j < (s 2 r) → 0 ≤ (s (4 + r) j) → (s (4 + r) j) < 4 → 0 ≤ (s (4 + r) (j + 1)) → (s (4 + r) (j + 1)) ≤ 20 → inR (s (4 + r) (j + 2)))
    (l17 : j < (s 2 r) → 0 ≤ (s (4 + r) j) → (s (4 + r) j) < 4 → 0 ≤ (s (4 + r) (j + 1)) → (s (4 + r) (j + 1)) ≤ 20 → (s (4 + r) (j + 2)) < 9 → P (some (vI (-3))) (m_upd (m_upd s 0 8 3) 76 3 ((s 76 3) + 1)))
    (l18 : j < (s 2 r) → 0 ≤ (s (4 + r) j) → (s (4 + r) j) < 4 → 0 ≤ (s (4 + r) (j + 1)) → (s (4 + r) (j + 1)) ≤ 20 → 9 ≤ (s (4 + r) (j + 2)) → (s (4 + r) (j + 2)) ≤ 13 → Rn X (d + 5) 126 62 [some (vR 0), some (vI i), some (vI r), some (vI (j + 3)), some (vI (s (4 + r) (j + 1))), some (vI (s (4 + r) (j + 2)))] [] s P)
    (l19 : j < (s 2 r) → 0 ≤ (s (4 + r) j) → (s (4 + r) j) < 4 → 0 ≤ (s (4 + r) (j + 1)) → (s (4 + r) (j + 1)) ≤ 20 → 9 ≤ (s (4 + r) (j + 2)) → 13 < (s (4 + r) (j + 2)) → P (some (vI (-3))) (m_upd (m_upd s 0 8 3) 76 3 ((s 76 3) + 1)))
    : Rn X (d + 5) 126 62 [some (vR 0), some (vI i), some (vI r), some (vI j), z4, z5] [] s P := by
  refine r_ldI_n (m := 3) F_126_62 rfl ?_
  refine r_ldR_n (m := 0) F_126_63 rfl ?_
  refine r_getR (J := 0) F_126_64 o_126 fl_5_14 ty_0 (by decide) rfl (kd2 kd_0_0 (by decide)) (kd9 kd_0_0 (by decide)) rf_0_0 ?_
  refine r_ldI_n (m := 2) F_126_67 rfl ?_
  refine r_virt2 (A := [vI r]) (r := [vI j]) (n := 1) F_126_68 o_126 il_5_115 rfl rfl rfl rfl ty_1 vy_16 (lay_le n_16 rfl) ?_
  refine Cl_of n_16 rfl ?_
  show Rn _ _ _ _ [some (vR 1), some (vI r)] [] _ _
  refine r_ldR_n (m := 0) F_16_0 rfl ?_
  refine r_ldI_n (m := 1) F_16_1 rfl ?_
  refine r_virt2 (A := [vI r]) (r := []) (n := 1) F_16_2 o_16 il_3_32 rfl rfl rfl rfl ty_1 vy_9 (lay_le n_9 rfl) ?_
  refine Cl_of n_9 rfl ?_
  show Rn _ _ _ _ [some (vR 1), some (vI r)] [] _ _
  refine r_ldI_n (m := 1) F_9_0 rfl ?_
  refine r_ifF (t := 17) F_9_1 rfl l1 (Int.not_lt.mpr h0) ?_
  refine r_ldI_n (m := 1) F_9_4 rfl ?_
  refine r_ldR_n (m := 0) F_9_5 rfl ?_
  refine r_getR (J := 0) F_9_6 o_9 fl_3_19 ty_1 (by decide) rfl (kd2 kd_1_0 (by decide)) (kd9 kd_1_0 (by decide)) rf_1_0 ?_
  refine r_alen F_9_9 ty_2 (by decide) ln_2 ?_
  refine r_icmpF (t := 17) F_9_10 rfl l1 (by decide) (Int.not_le.mpr h6) ?_
  refine r_iconst F_9_13 ?_
  refine r_goto (t := 18) F_9_14 rfl ?_
  refine r_zreturn F_9_18 rt_9 (Or.inr rfl) ?_
  show Rn _ _ _ _ _ [vI 1] _ _
  refine r_ifF (t := 17) F_16_5 rfl (by decide) (by show ¬ ((1 : Int) = 0); decide) ?_
  refine r_ldR_n (m := 0) F_16_8 rfl ?_
  refine r_getR (J := 0) F_16_9 o_16 fl_3_19 ty_1 (by decide) rfl (kd2 kd_1_0 (by decide)) (kd9 kd_1_0 (by decide)) rf_1_0 ?_
  refine r_ldI_n (m := 1) F_16_12 rfl ?_
  refine r_iald (e := (s 2 r)) F_16_13 ty_2 h0 (lt_ln ln_2 h6) rfl ?_
  refine r_goto (t := 18) F_16_14 rfl ?_
  refine r_ireturn F_16_18 rt_16 ?_
  show Rn _ _ _ _ _ [vI (s 2 r), vI j] _ _
  refine r_icmp (t := 153) F_126_71 rfl l2 l3 ?_ ?_
  · intro e1
    replace e1 : (s 2 r) ≤ j := e1
    refine r_iconst F_126_153 ?_
    refine r_ireturn F_126_154 rt_126 ?_
    exact (l4 e1)
  · intro e2
    replace e2 : j < (s 2 r) := (Int.not_le.mp e2)
    refine r_ldR_n (m := 0) F_126_74 rfl ?_
    refine r_getR (J := 0) F_126_75 o_126 fl_5_14 ty_0 (by decide) rfl (kd2 kd_0_0 (by decide)) (kd9 kd_0_0 (by decide)) rf_0_0 ?_
    refine r_ldI_n (m := 2) F_126_78 rfl ?_
    refine r_ldI_n (m := 3) F_126_79 rfl ?_
    refine r_iconst F_126_80 ?_
    refine r_iadd F_126_81 rfl ?_
    refine r_virt2 (A := [vI r, vI (j + 1)]) (r := []) (n := 2) F_126_82 o_126 il_5_86 rfl rfl rfl rfl ty_1 vy_18 (lay_le n_18 rfl) ?_
    refine sp_get1 h0 h6 (l5 e2) (l6 e2) (l7 e2) ?_
    show Rn _ _ _ _ _ [vI (s (4 + r) (j + 1))] _ _
    refine r_stI (m := 4) (L' := [some (vR 0), some (vI i), some (vI r), some (vI j), some (vI (s (4 + r) (j + 1))), z5]) F_126_85 rfl rfl ?_
    refine r_ldR_n (m := 0) F_126_87 rfl ?_
    refine r_getR (J := 0) F_126_88 o_126 fl_5_14 ty_0 (by decide) rfl (kd2 kd_0_0 (by decide)) (kd9 kd_0_0 (by decide)) rf_0_0 ?_
    refine r_ldI_n (m := 2) F_126_91 rfl ?_
    refine r_ldI_n (m := 3) F_126_92 rfl ?_
    refine r_iconst F_126_93 ?_
    refine r_iadd F_126_94 rfl ?_
    refine r_virt2 (A := [vI r, vI (j + 2)]) (r := []) (n := 2) F_126_95 o_126 il_5_86 rfl rfl rfl rfl ty_1 vy_18 (lay_le n_18 rfl) ?_
    refine sp_get1 h0 h6 (l8 e2) (l9 e2) (l7 e2) ?_
    show Rn _ _ _ _ _ [vI (s (4 + r) (j + 2))] _ _
    refine r_stI (m := 5) (L' := [some (vR 0), some (vI i), some (vI r), some (vI j), some (vI (s (4 + r) (j + 1))), some (vI (s (4 + r) (j + 2)))]) F_126_98 rfl rfl ?_
    refine r_ldR_n (m := 0) F_126_100 rfl ?_
    refine r_getR (J := 0) F_126_101 o_126 fl_5_14 ty_0 (by decide) rfl (kd2 kd_0_0 (by decide)) (kd9 kd_0_0 (by decide)) rf_0_0 ?_
    refine r_ldI_n (m := 2) F_126_104 rfl ?_
    refine r_ldI_n (m := 3) F_126_105 rfl ?_
    refine r_virt2 (A := [vI r, vI j]) (r := []) (n := 2) F_126_106 o_126 il_5_86 rfl rfl rfl rfl ty_1 vy_18 (lay_le n_18 rfl) ?_
    refine sp_get1 h0 h6 j0 e2 (l7 e2) ?_
    show Rn _ _ _ _ _ [vI (s (4 + r) j)] _ _
    refine r_stat2 (A := [vI (s (4 + r) j)]) (r := []) (n := 1) F_126_109 o_126 il_5_175 (by decide) rfl rfl rfl rfl (lay_le n_46 rfl) ?_
    refine Cl_of n_46 rfl ?_
    show Rn _ _ _ _ [some (vI (s (4 + r) j))] [] _ _
    refine r_ldI_n (m := 0) F_46_0 rfl ?_
    refine r_if (t := 13) F_46_1 rfl (l10 e2) ?_ ?_
    · intro e3
      replace e3 : (s (4 + r) j) < 0 := e3
      refine r_iconst F_46_13 ?_
      refine r_zreturn F_46_14 rt_46 (Or.inl rfl) ?_
      show Rn _ _ _ _ _ [vI 0] _ _
      refine r_ifT (t := 141) F_126_112 rfl (by decide) (by show (0 : Int) = 0; decide) ?_
      refine r_ldR_n (m := 0) F_126_141 rfl ?_
      refine r_iconst F_126_142 ?_
      refine r_virt2 (A := [vI 3]) (r := []) (n := 1) F_126_143 o_126 il_5_74 rfl rfl rfl rfl ty_0 vy_10 (lay_le n_10 rfl) ?_
      refine Cl_of n_10 rfl ?_
      show Rn _ _ _ _ [some (vR 0), some (vI 3)] [] _ _
      refine r_ldI_n (m := 1) F_10_0 rfl ?_
      refine r_iconst F_10_1 ?_
      refine r_icmpF (t := 25) F_10_2 rfl (by decide) (by decide) (by show ¬ ((3 : Int) < 1); decide) ?_
      refine r_ldI_n (m := 1) F_10_5 rfl ?_
      refine r_iconst F_10_6 ?_
      refine r_icmpF (t := 25) F_10_7 rfl (by decide) (by decide) (by show ¬ ((5 : Int) < 3); decide) ?_
      refine r_ldR_n (m := 0) F_10_10 rfl ?_
      refine r_ldI_n (m := 1) F_10_11 rfl ?_
      refine r_putI (J := 8) F_10_12 o_10 fl_5_56 ty_0 (by decide) rfl kd_0_8 pf_5_8 ?_
      refine r_ldR_n (m := 0) F_10_15 rfl ?_
      refine r_getR (J := 7) F_10_16 o_10 fl_5_52 ty_0 (by decide) rfl (kd2 kd_0_7 (by decide)) (kd9 kd_0_7 (by decide)) rf_0_7 ?_
      refine r_ldI_n (m := 1) F_10_19 rfl ?_
      refine r_dup2 F_10_20 ?_
      refine r_iald (e := (s 76 3)) F_10_21 ty_76 (by decide) (lt_ln ln_76 (by decide)) (upd_nc (by decide)) ?_
      refine r_iconst F_10_22 ?_
      refine r_iadd F_10_23 rfl ?_
      refine r_iast F_10_24 ty_76 (by decide) (lt_ln ln_76 (by decide)) ?_
      refine r_bipush F_10_25 bi__3 ?_
      refine r_ireturn F_10_27 rt_10 ?_
      show Rn _ _ _ _ _ [vI (-3)] _ _
      refine r_ireturn F_126_146 rt_126 ?_
      exact (l11 e2 e3)
    · intro e4
      replace e4 : 0 ≤ (s (4 + r) j) := (Int.not_lt.mp e4)
      refine r_ldI_n (m := 0) F_46_4 rfl ?_
      refine r_iconst F_46_5 ?_
      refine r_icmp (t := 13) F_46_6 rfl (l10 e2) (by decide) ?_ ?_
      · intro e5
        replace e5 : 4 ≤ (s (4 + r) j) := e5
        refine r_iconst F_46_13 ?_
        refine r_zreturn F_46_14 rt_46 (Or.inl rfl) ?_
        show Rn _ _ _ _ _ [vI 0] _ _
        refine r_ifT (t := 141) F_126_112 rfl (by decide) (by show (0 : Int) = 0; decide) ?_
        refine r_ldR_n (m := 0) F_126_141 rfl ?_
        refine r_iconst F_126_142 ?_
        refine r_virt2 (A := [vI 3]) (r := []) (n := 1) F_126_143 o_126 il_5_74 rfl rfl rfl rfl ty_0 vy_10 (lay_le n_10 rfl) ?_
        refine Cl_of n_10 rfl ?_
        show Rn _ _ _ _ [some (vR 0), some (vI 3)] [] _ _
        refine r_ldI_n (m := 1) F_10_0 rfl ?_
        refine r_iconst F_10_1 ?_
        refine r_icmpF (t := 25) F_10_2 rfl (by decide) (by decide) (by show ¬ ((3 : Int) < 1); decide) ?_
        refine r_ldI_n (m := 1) F_10_5 rfl ?_
        refine r_iconst F_10_6 ?_
        refine r_icmpF (t := 25) F_10_7 rfl (by decide) (by decide) (by show ¬ ((5 : Int) < 3); decide) ?_
        refine r_ldR_n (m := 0) F_10_10 rfl ?_
        refine r_ldI_n (m := 1) F_10_11 rfl ?_
        refine r_putI (J := 8) F_10_12 o_10 fl_5_56 ty_0 (by decide) rfl kd_0_8 pf_5_8 ?_
        refine r_ldR_n (m := 0) F_10_15 rfl ?_
        refine r_getR (J := 7) F_10_16 o_10 fl_5_52 ty_0 (by decide) rfl (kd2 kd_0_7 (by decide)) (kd9 kd_0_7 (by decide)) rf_0_7 ?_
        refine r_ldI_n (m := 1) F_10_19 rfl ?_
        refine r_dup2 F_10_20 ?_
        refine r_iald (e := (s 76 3)) F_10_21 ty_76 (by decide) (lt_ln ln_76 (by decide)) (upd_nc (by decide)) ?_
        refine r_iconst F_10_22 ?_
        refine r_iadd F_10_23 rfl ?_
        refine r_iast F_10_24 ty_76 (by decide) (lt_ln ln_76 (by decide)) ?_
        refine r_bipush F_10_25 bi__3 ?_
        refine r_ireturn F_10_27 rt_10 ?_
        show Rn _ _ _ _ _ [vI (-3)] _ _
        refine r_ireturn F_126_146 rt_126 ?_
        exact (l12 e2 e4 e5)
      · intro e6
        replace e6 : (s (4 + r) j) < 4 := (Int.not_le.mp e6)
        refine r_iconst F_46_9 ?_
        refine r_goto (t := 14) F_46_10 rfl ?_
        refine r_zreturn F_46_14 rt_46 (Or.inr rfl) ?_
        show Rn _ _ _ _ _ [vI 1] _ _
        refine r_ifF (t := 141) F_126_112 rfl (by decide) (by show ¬ ((1 : Int) = 0); decide) ?_
        refine r_ldI (m := 4) F_126_115 rfl ?_
        refine r_if (t := 141) F_126_117 rfl (l13 e2 e4 e6) ?_ ?_
        · intro e7
          replace e7 : (s (4 + r) (j + 1)) < 0 := e7
          refine r_ldR_n (m := 0) F_126_141 rfl ?_
          refine r_iconst F_126_142 ?_
          refine r_virt2 (A := [vI 3]) (r := []) (n := 1) F_126_143 o_126 il_5_74 rfl rfl rfl rfl ty_0 vy_10 (lay_le n_10 rfl) ?_
          refine Cl_of n_10 rfl ?_
          show Rn _ _ _ _ [some (vR 0), some (vI 3)] [] _ _
          refine r_ldI_n (m := 1) F_10_0 rfl ?_
          refine r_iconst F_10_1 ?_
          refine r_icmpF (t := 25) F_10_2 rfl (by decide) (by decide) (by show ¬ ((3 : Int) < 1); decide) ?_
          refine r_ldI_n (m := 1) F_10_5 rfl ?_
          refine r_iconst F_10_6 ?_
          refine r_icmpF (t := 25) F_10_7 rfl (by decide) (by decide) (by show ¬ ((5 : Int) < 3); decide) ?_
          refine r_ldR_n (m := 0) F_10_10 rfl ?_
          refine r_ldI_n (m := 1) F_10_11 rfl ?_
          refine r_putI (J := 8) F_10_12 o_10 fl_5_56 ty_0 (by decide) rfl kd_0_8 pf_5_8 ?_
          refine r_ldR_n (m := 0) F_10_15 rfl ?_
          refine r_getR (J := 7) F_10_16 o_10 fl_5_52 ty_0 (by decide) rfl (kd2 kd_0_7 (by decide)) (kd9 kd_0_7 (by decide)) rf_0_7 ?_
          refine r_ldI_n (m := 1) F_10_19 rfl ?_
          refine r_dup2 F_10_20 ?_
          refine r_iald (e := (s 76 3)) F_10_21 ty_76 (by decide) (lt_ln ln_76 (by decide)) (upd_nc (by decide)) ?_
          refine r_iconst F_10_22 ?_
          refine r_iadd F_10_23 rfl ?_
          refine r_iast F_10_24 ty_76 (by decide) (lt_ln ln_76 (by decide)) ?_
          refine r_bipush F_10_25 bi__3 ?_
          refine r_ireturn F_10_27 rt_10 ?_
          show Rn _ _ _ _ _ [vI (-3)] _ _
          refine r_ireturn F_126_146 rt_126 ?_
          exact (l14 e2 e4 e6 e7)
        · intro e8
          replace e8 : 0 ≤ (s (4 + r) (j + 1)) := (Int.not_lt.mp e8)
          refine r_ldI (m := 4) F_126_120 rfl ?_
          refine r_bipush F_126_122 bi_20 ?_
          refine r_icmp (t := 141) F_126_124 rfl (l13 e2 e4 e6) (by decide) ?_ ?_
          · intro e9
            replace e9 : 20 < (s (4 + r) (j + 1)) := e9
            refine r_ldR_n (m := 0) F_126_141 rfl ?_
            refine r_iconst F_126_142 ?_
            refine r_virt2 (A := [vI 3]) (r := []) (n := 1) F_126_143 o_126 il_5_74 rfl rfl rfl rfl ty_0 vy_10 (lay_le n_10 rfl) ?_
            refine Cl_of n_10 rfl ?_
            show Rn _ _ _ _ [some (vR 0), some (vI 3)] [] _ _
            refine r_ldI_n (m := 1) F_10_0 rfl ?_
            refine r_iconst F_10_1 ?_
            refine r_icmpF (t := 25) F_10_2 rfl (by decide) (by decide) (by show ¬ ((3 : Int) < 1); decide) ?_
            refine r_ldI_n (m := 1) F_10_5 rfl ?_
            refine r_iconst F_10_6 ?_
            refine r_icmpF (t := 25) F_10_7 rfl (by decide) (by decide) (by show ¬ ((5 : Int) < 3); decide) ?_
            refine r_ldR_n (m := 0) F_10_10 rfl ?_
            refine r_ldI_n (m := 1) F_10_11 rfl ?_
            refine r_putI (J := 8) F_10_12 o_10 fl_5_56 ty_0 (by decide) rfl kd_0_8 pf_5_8 ?_
            refine r_ldR_n (m := 0) F_10_15 rfl ?_
            refine r_getR (J := 7) F_10_16 o_10 fl_5_52 ty_0 (by decide) rfl (kd2 kd_0_7 (by decide)) (kd9 kd_0_7 (by decide)) rf_0_7 ?_
            refine r_ldI_n (m := 1) F_10_19 rfl ?_
            refine r_dup2 F_10_20 ?_
            refine r_iald (e := (s 76 3)) F_10_21 ty_76 (by decide) (lt_ln ln_76 (by decide)) (upd_nc (by decide)) ?_
            refine r_iconst F_10_22 ?_
            refine r_iadd F_10_23 rfl ?_
            refine r_iast F_10_24 ty_76 (by decide) (lt_ln ln_76 (by decide)) ?_
            refine r_bipush F_10_25 bi__3 ?_
            refine r_ireturn F_10_27 rt_10 ?_
            show Rn _ _ _ _ _ [vI (-3)] _ _
            refine r_ireturn F_126_146 rt_126 ?_
            exact (l15 e2 e4 e6 e8 e9)
          · intro e10
            replace e10 : (s (4 + r) (j + 1)) ≤ 20 := (Int.not_lt.mp e10)
            refine r_ldI (m := 5) F_126_127 rfl ?_
            refine r_bipush F_126_129 bi_9 ?_
            refine r_icmp (t := 141) F_126_131 rfl (l16 e2 e4 e6 e8 e10) (by decide) ?_ ?_
            · intro e11
              replace e11 : (s (4 + r) (j + 2)) < 9 := e11
              refine r_ldR_n (m := 0) F_126_141 rfl ?_
              refine r_iconst F_126_142 ?_
              refine r_virt2 (A := [vI 3]) (r := []) (n := 1) F_126_143 o_126 il_5_74 rfl rfl rfl rfl ty_0 vy_10 (lay_le n_10 rfl) ?_
              refine Cl_of n_10 rfl ?_
              show Rn _ _ _ _ [some (vR 0), some (vI 3)] [] _ _
              refine r_ldI_n (m := 1) F_10_0 rfl ?_
              refine r_iconst F_10_1 ?_
              refine r_icmpF (t := 25) F_10_2 rfl (by decide) (by decide) (by show ¬ ((3 : Int) < 1); decide) ?_
              refine r_ldI_n (m := 1) F_10_5 rfl ?_
              refine r_iconst F_10_6 ?_
              refine r_icmpF (t := 25) F_10_7 rfl (by decide) (by decide) (by show ¬ ((5 : Int) < 3); decide) ?_
              refine r_ldR_n (m := 0) F_10_10 rfl ?_
              refine r_ldI_n (m := 1) F_10_11 rfl ?_
              refine r_putI (J := 8) F_10_12 o_10 fl_5_56 ty_0 (by decide) rfl kd_0_8 pf_5_8 ?_
              refine r_ldR_n (m := 0) F_10_15 rfl ?_
              refine r_getR (J := 7) F_10_16 o_10 fl_5_52 ty_0 (by decide) rfl (kd2 kd_0_7 (by decide)) (kd9 kd_0_7 (by decide)) rf_0_7 ?_
              refine r_ldI_n (m := 1) F_10_19 rfl ?_
              refine r_dup2 F_10_20 ?_
              refine r_iald (e := (s 76 3)) F_10_21 ty_76 (by decide) (lt_ln ln_76 (by decide)) (upd_nc (by decide)) ?_
              refine r_iconst F_10_22 ?_
              refine r_iadd F_10_23 rfl ?_
              refine r_iast F_10_24 ty_76 (by decide) (lt_ln ln_76 (by decide)) ?_
              refine r_bipush F_10_25 bi__3 ?_
              refine r_ireturn F_10_27 rt_10 ?_
              show Rn _ _ _ _ _ [vI (-3)] _ _
              refine r_ireturn F_126_146 rt_126 ?_
              exact (l17 e2 e4 e6 e8 e10 e11)
            · intro e12
              replace e12 : 9 ≤ (s (4 + r) (j + 2)) := (Int.not_lt.mp e12)
              refine r_ldI (m := 5) F_126_134 rfl ?_
              refine r_bipush F_126_136 bi_13 ?_
              refine r_icmp (t := 147) F_126_138 rfl (l16 e2 e4 e6 e8 e10) (by decide) ?_ ?_
              · intro e13
                replace e13 : (s (4 + r) (j + 2)) ≤ 13 := e13
                refine r_iinc (m := 3) (e := (j + 3)) (L' := [some (vR 0), some (vI i), some (vI r), some (vI (j + 3)), some (vI (s (4 + r) (j + 1))), some (vI (s (4 + r) (j + 2)))]) F_126_147 rfl rfl rfl rfl ?_
                refine r_goto (t := 62) F_126_150 rfl ?_
                exact (l18 e2 e4 e6 e8 e10 e12 e13)
              · intro e14
                replace e14 : 13 < (s (4 + r) (j + 2)) := (Int.not_le.mp e14)
                refine r_ldR_n (m := 0) F_126_141 rfl ?_
                refine r_iconst F_126_142 ?_
                refine r_virt2 (A := [vI 3]) (r := []) (n := 1) F_126_143 o_126 il_5_74 rfl rfl rfl rfl ty_0 vy_10 (lay_le n_10 rfl) ?_
                refine Cl_of n_10 rfl ?_
                show Rn _ _ _ _ [some (vR 0), some (vI 3)] [] _ _
                refine r_ldI_n (m := 1) F_10_0 rfl ?_
                refine r_iconst F_10_1 ?_
                refine r_icmpF (t := 25) F_10_2 rfl (by decide) (by decide) (by show ¬ ((3 : Int) < 1); decide) ?_
                refine r_ldI_n (m := 1) F_10_5 rfl ?_
                refine r_iconst F_10_6 ?_
                refine r_icmpF (t := 25) F_10_7 rfl (by decide) (by decide) (by show ¬ ((5 : Int) < 3); decide) ?_
                refine r_ldR_n (m := 0) F_10_10 rfl ?_
                refine r_ldI_n (m := 1) F_10_11 rfl ?_
                refine r_putI (J := 8) F_10_12 o_10 fl_5_56 ty_0 (by decide) rfl kd_0_8 pf_5_8 ?_
                refine r_ldR_n (m := 0) F_10_15 rfl ?_
                refine r_getR (J := 7) F_10_16 o_10 fl_5_52 ty_0 (by decide) rfl (kd2 kd_0_7 (by decide)) (kd9 kd_0_7 (by decide)) rf_0_7 ?_
                refine r_ldI_n (m := 1) F_10_19 rfl ?_
                refine r_dup2 F_10_20 ?_
                refine r_iald (e := (s 76 3)) F_10_21 ty_76 (by decide) (lt_ln ln_76 (by decide)) (upd_nc (by decide)) ?_
                refine r_iconst F_10_22 ?_
                refine r_iadd F_10_23 rfl ?_
                refine r_iast F_10_24 ty_76 (by decide) (lt_ln ln_76 (by decide)) ?_
                refine r_bipush F_10_25 bi__3 ?_
                refine r_ireturn F_10_27 rt_10 ?_
                show Rn _ _ _ _ _ [vI (-3)] _ _
                refine r_ireturn F_126_146 rt_126 ?_
                exact (l19 e2 e4 e6 e8 e10 e12 e14)
theorem t_X5_fitsAll {X : List Int32} {d : Nat} {s : m_St} {P : Option Value → m_St → Prop} {i r k : Int} (h0 : 0 ≤ r) (h6 : r < 6) (i0 : 0 ≤ i) (i6 : i < 6)
    (l1 : Rn X (d + 5) 128 3 [some (vR 0), some (vI i), some (vI r), some (vI k), some (vI 0), none] [] s P)
    : Cl X (d + 5) 128 [vR 0, vI i, vI r, vI k] s P := by
  refine Cl_of n_128 rfl ?_
  show Rn _ _ _ _ [some (vR 0), some (vI i), some (vI r), some (vI k), none, none] [] _ _
  refine r_iconst F_128_0 ?_
  refine r_stI (m := 4) (L' := [some (vR 0), some (vI i), some (vI r), some (vI k), some (vI 0), none]) F_128_1 rfl rfl ?_
  exact l1
theorem t_X5_fitsAll_3 {X : List Int32} {d : Nat} {s : m_St} {P : Option Value → m_St → Prop} {i r k j : Int} {z5 : Option Value} (h0 : 0 ≤ r) (h6 : r < 6) (i0 : 0 ≤ i) (i6 : i < 6) (j0 : 0 ≤ j)
    (l1 : inR r)
    (l2 : inR j)
    (l3 : inR (s 2 r))
    (l4 : (s 2 r) ≤ j → P (some (vI 1)) s)
    (l5 : j < (s 2 r) → (s 2 r) ≤ 40)
    (l6 : j < (s 2 r) → inR i)
    (l7 : j < (s 2 r) → 0 ≤ k)
    (l8 : j < (s 2 r) → k < 6)
    (l9 : j < (s 2 r) → wr (s ((44 + 4 * i) + 1)))
    (l10 : j < (s 2 r) → 0 ≤ (j + 1))
    (l11 : j < (s 2 r) → (j + 1) < ((lk s 74 (44 + 4 * i) k) 2 r))
    (l12 : j < (s 2 r) → ((lk s 74 (44 + 4 * i) k) 2 r) ≤ 40)
    (l13 : j < (s 2 r) → gok (lk s 74 (44 + 4 * i) k) 74)
    (l14 : j < (s 2 r) → 0 ≤ (s (4 + r) j))
    (l15 : j < (s 2 r) → (s (4 + r) j) < 4)
    (l16 : j < (s 2 r) → inR ((lk s 74 (44 + 4 * i) k) (4 + r) (j + 1)))
    (l17 : j < (s 2 r) → 0 ≤ ((wg (lk s 74 (44 + 4 * i) k) 74 (s (4 + r) j) ((lk s 74 (44 + 4 * i) k) (4 + r) (j + 1))) 74 1))
    (l18 : j < (s 2 r) → ((wg (lk s 74 (44 + 4 * i) k) 74 (s (4 + r) j) ((lk s 74 (44 + 4 * i) k) (4 + r) (j + 1))) 74 1) < 6)
    (l19 : j < (s 2 r) → 0 ≤ (j + 2))
    (l20 : j < (s 2 r) → (j + 2) < ((wg (lk s 74 (44 + 4 * i) k) 74 (s (4 + r) j) ((lk s 74 (44 + 4 * i) k) (4 + r) (j + 1))) 2 r))
    (l21 : j < (s 2 r) → ((wg (lk s 74 (44 + 4 * i) k) 74 (s (4 + r) j) ((lk s 74 (44 + 4 * i) k) (4 + r) (j + 1))) 2 r) ≤ 40)
    (l22 : j < (s 2 r) → inR ((mv ((wg (lk s 74 (44 + 4 * i) k) 74 (s (4 + r) j) ((lk s 74 (44 + 4 * i) k) (4 + r) (j + 1))) 74 1) ((wg (lk s 74 (44 + 4 * i) k) 74 (s (4 + r) j) ((lk s 74 (44 + 4 * i) k) (4 + r) (j + 1))) 74 2) ((wg (lk s 74 (44 + 4 * i) k) 74 (s (4 + r) j) ((lk s 74 (44 + 4 * i) k) (4 + r) (j + 1))) 38 5) (s (4 + r) j)) + 10))
    (l23 : j < (s 2 r) → inR ((wg (lk s 74 (44 + 4 * i) k) 74 (s (4 + r) j) ((lk s 74 (44 + 4 * i) k) (4 + r) (j + 1))) (4 + r) (j + 2)))
    (l24 : j < (s 2 r) → ((mv ((wg (lk s 74 (44 + 4 * i) k) 74 (s (4 + r) j) ((lk s 74 (44 + 4 * i) k) (4 + r) (j + 1))) 74 1) ((wg (lk s 74 (44 + 4 * i) k) 74 (s (4 + r) j) ((lk s 74 (44 + 4 * i) k) (4 + r) (j + 1))) 74 2) ((wg (lk s 74 (44 + 4 * i) k) 74 (s (4 + r) j) ((lk s 74 (44 + 4 * i) k) (4 + r) (j + 1))) 38 5) (s (4 + r) j)) + 10) = ((wg (lk s 74 (44 + 4 * i) k) 74 (s (4 + r) j) ((lk s 74 (44 + 4 * i) k) (4 + r) (j + 1))) (4 + r) (j + 2)) → Rn X (d + 5) 128 3 [some (vR 0), some (vI i), some (vI r), some (vI k), some (vI (j + 3)), some (vI (s (4 + r) j))] [] (wg (lk s 74 (44 + 4 * i) k) 74 (s (4 + r) j) ((lk s 74 (44 + 4 * i) k) (4 + r) (j + 1))) P)
    (l25 : j < (s 2 r) → ¬ ((mv ((wg (lk s 74 (44 + 4 * i) k) 74 (s (4 + r) j) ((lk s 74 (44 + 4 * i) k) (4 + r) (j + 1))) 74 1) ((wg (lk s 74 (44 + 4 * i) k) 74 (s (4 + r) j) ((lk s 74 (44 + 4 * i) k) (4 + r) (j + 1))) 74 2) ((wg (lk s 74 (44 + 4 * i) k) 74 (s (4 + r) j) ((lk s 74 (44 + 4 * i) k) (4 + r) (j + 1))) 38 5) (s (4 + r) j)) + 10) = ((wg (lk s 74 (44 + 4 * i) k) 74 (s (4 + r) j) ((lk s 74 (44 + 4 * i) k) (4 + r) (j + 1))) (4 + r) (j + 2)) → P (some (vI 0)) (wg (lk s 74 (44 + 4 * i) k) 74 (s (4 + r) j) ((lk s 74 (44 + 4 * i) k) (4 + r) (j + 1))))
    : Rn X (d + 5) 128 3 [some (vR 0), some (vI i), some (vI r), some (vI k), some (vI j), z5] [] s P := by
  refine r_ldI (m := 4) F_128_3 rfl ?_
  refine r_ldR_n (m := 0) F_128_5 rfl ?_
  refine r_getR (J := 0) F_128_6 o_128 fl_5_14 ty_0 (by decide) rfl (kd2 kd_0_0 (by decide)) (kd9 kd_0_0 (by decide)) rf_0_0 ?_
  refine r_ldI_n (m := 2) F_128_9 rfl ?_
  refine r_virt2 (A := [vI r]) (r := [vI j]) (n := 1) F_128_10 o_128 il_5_115 rfl rfl rfl rfl ty_1 vy_16 (lay_le n_16 rfl) ?_
  refine Cl_of n_16 rfl ?_
  show Rn _ _ _ _ [some (vR 1), some (vI r)] [] _ _
  refine r_ldR_n (m := 0) F_16_0 rfl ?_
  refine r_ldI_n (m := 1) F_16_1 rfl ?_
  refine r_virt2 (A := [vI r]) (r := []) (n := 1) F_16_2 o_16 il_3_32 rfl rfl rfl rfl ty_1 vy_9 (lay_le n_9 rfl) ?_
  refine Cl_of n_9 rfl ?_
  show Rn _ _ _ _ [some (vR 1), some (vI r)] [] _ _
  refine r_ldI_n (m := 1) F_9_0 rfl ?_
  refine r_ifF (t := 17) F_9_1 rfl l1 (Int.not_lt.mpr h0) ?_
  refine r_ldI_n (m := 1) F_9_4 rfl ?_
  refine r_ldR_n (m := 0) F_9_5 rfl ?_
  refine r_getR (J := 0) F_9_6 o_9 fl_3_19 ty_1 (by decide) rfl (kd2 kd_1_0 (by decide)) (kd9 kd_1_0 (by decide)) rf_1_0 ?_
  refine r_alen F_9_9 ty_2 (by decide) ln_2 ?_
  refine r_icmpF (t := 17) F_9_10 rfl l1 (by decide) (Int.not_le.mpr h6) ?_
  refine r_iconst F_9_13 ?_
  refine r_goto (t := 18) F_9_14 rfl ?_
  refine r_zreturn F_9_18 rt_9 (Or.inr rfl) ?_
  show Rn _ _ _ _ _ [vI 1] _ _
  refine r_ifF (t := 17) F_16_5 rfl (by decide) (by show ¬ ((1 : Int) = 0); decide) ?_
  refine r_ldR_n (m := 0) F_16_8 rfl ?_
  refine r_getR (J := 0) F_16_9 o_16 fl_3_19 ty_1 (by decide) rfl (kd2 kd_1_0 (by decide)) (kd9 kd_1_0 (by decide)) rf_1_0 ?_
  refine r_ldI_n (m := 1) F_16_12 rfl ?_
  refine r_iald (e := (s 2 r)) F_16_13 ty_2 h0 (lt_ln ln_2 h6) rfl ?_
  refine r_goto (t := 18) F_16_14 rfl ?_
  refine r_ireturn F_16_18 rt_16 ?_
  show Rn _ _ _ _ _ [vI (s 2 r), vI j] _ _
  refine r_icmp (t := 107) F_128_13 rfl l2 l3 ?_ ?_
  · intro e1
    replace e1 : (s 2 r) ≤ j := e1
    refine r_iconst F_128_107 ?_
    refine r_zreturn F_128_108 rt_128 (Or.inr rfl) ?_
    exact (l4 e1)
  · intro e2
    replace e2 : j < (s 2 r) := (Int.not_le.mp e2)
    refine r_ldR_n (m := 0) F_128_16 rfl ?_
    refine r_getR (J := 0) F_128_17 o_128 fl_5_14 ty_0 (by decide) rfl (kd2 kd_0_0 (by decide)) (kd9 kd_0_0 (by decide)) rf_0_0 ?_
    refine r_ldI_n (m := 2) F_128_20 rfl ?_
    refine r_ldI (m := 4) F_128_21 rfl ?_
    refine r_virt2 (A := [vI r, vI j]) (r := []) (n := 2) F_128_23 o_128 il_5_86 rfl rfl rfl rfl ty_1 vy_18 (lay_le n_18 rfl) ?_
    refine sp_get1 h0 h6 j0 e2 (l5 e2) ?_
    show Rn _ _ _ _ _ [vI (s (4 + r) j)] _ _
    refine r_stI (m := 5) (L' := [some (vR 0), some (vI i), some (vI r), some (vI k), some (vI j), some (vI (s (4 + r) j))]) F_128_26 rfl rfl ?_
    refine r_ldR_n (m := 0) F_128_28 rfl ?_
    refine r_getR (J := 6) F_128_29 o_128 fl_5_48 ty_0 (by decide) rfl (kd2 kd_0_6 (by decide)) (kd9 kd_0_6 (by decide)) rf_0_6 ?_
    refine r_ldR_n (m := 0) F_128_32 rfl ?_
    refine r_getR (J := 4) F_128_33 o_128 fl_5_34 ty_0 (by decide) rfl (kd2 kd_0_4 (by decide)) (kd9 kd_0_4 (by decide)) rf_0_4 ?_
    refine r_ldI_n (m := 1) F_128_36 rfl ?_
    refine r_virt2 (A := [vI i]) (r := [vR 74]) (n := 1) F_128_37 o_128 il_5_142 rfl rfl rfl rfl ty_38 vy_58 (lay_le n_58 rfl) ?_
    refine Cl_of n_58 rfl ?_
    show Rn _ _ _ _ [some (vR 38), some (vI i)] [] _ _
    refine r_ldR_n (m := 0) F_58_0 rfl ?_
    refine r_getR (J := 1) F_58_1 o_58 fl_1_17 ty_38 (by decide) rfl (kd2 kd_38_1 (by decide)) (kd9 kd_38_1 (by decide)) rf_38_1 ?_
    refine r_ldI_n (m := 1) F_58_4 rfl ?_
    refine r_ifF (t := 18) F_58_5 rfl (l6 e2) (Int.not_lt.mpr i0) ?_
    refine r_ldI_n (m := 1) F_58_8 rfl ?_
    refine r_bipush F_58_9 bi_6 ?_
    refine r_icmpF (t := 18) F_58_11 rfl (l6 e2) (by decide) (Int.not_le.mpr i6) ?_
    refine r_ldI_n (m := 1) F_58_14 rfl ?_
    refine r_goto (t := 19) F_58_15 rfl ?_
    refine r_aald F_58_19 ty_40 (by decide) i0 (lt_ln ln_40 i6) (rw_40 ⟨i0, i6⟩).2 ?_
    refine r_areturn F_58_20 rob_58 ?_
    show Rn _ _ _ _ _ [vR (44 + 4 * i), vR 74] _ _
    refine r_ldI_n (m := 3) F_128_40 rfl ?_
    refine r_virt2 (A := [vR (44 + 4 * i), vI k]) (r := []) (n := 2) F_128_41 o_128 il_5_330 rfl rfl rfl rfl ty_74 vy_53 (lay_le n_53 rfl) ?_
    refine sp_beLike ty_74 (rw_40 ⟨i0, i6⟩).1 (l7 e2) (l8 e2) (l9 e2) ?_
    show Rn _ _ _ _ _ [] _ _
    refine r_ldR_n (m := 0) F_128_44 rfl ?_
    refine r_getR (J := 6) F_128_45 o_128 fl_5_48 ty_0 (by decide) rfl (kd2 kd_0_6 (by decide)) (kd9 kd_0_6 (by decide)) rf_0_6 ?_
    refine r_ldI (m := 5) F_128_48 rfl ?_
    refine r_ldR_n (m := 0) F_128_50 rfl ?_
    refine r_getR (J := 0) F_128_51 o_128 fl_5_14 ty_0 (by decide) rfl (kd2 kd_0_0 (by decide)) (kd9 kd_0_0 (by decide)) rf_0_0 ?_
    refine r_ldI_n (m := 2) F_128_54 rfl ?_
    refine r_ldI (m := 4) F_128_55 rfl ?_
    refine r_iconst F_128_57 ?_
    refine r_iadd F_128_58 rfl ?_
    refine r_virt2 (A := [vI r, vI (j + 1)]) (r := [vI (s (4 + r) j), vR 74]) (n := 2) F_128_59 o_128 il_5_86 rfl rfl rfl rfl ty_1 vy_18 (lay_le n_18 rfl) ?_
    refine sp_get1 h0 h6 (l10 e2) (l11 e2) (l12 e2) ?_
    show Rn _ _ _ _ _ [vI ((lk s 74 (44 + 4 * i) k) (4 + r) (j + 1)), vI (s (4 + r) j), vR 74] _ _
    refine r_virt2 (A := [vI (s (4 + r) j), vI ((lk s 74 (44 + 4 * i) k) (4 + r) (j + 1))]) (r := []) (n := 2) F_128_62 o_128 il_5_334 rfl rfl rfl rfl ty_74 vy_45 (lay_le n_45 rfl) ?_
    refine sp_weigh ty_74 (l13 e2) (l14 e2) (l15 e2) (l16 e2) ?_
    show Rn _ _ _ _ _ [] _ _
    refine r_ldR_n (m := 0) F_128_65 rfl ?_
    refine r_getR (J := 6) F_128_66 o_128 fl_5_48 ty_0 (by decide) rfl (kd2 kd_0_6 (by decide)) (kd9 kd_0_6 (by decide)) rf_0_6 ?_
    refine r_ldI (m := 5) F_128_69 rfl ?_
    refine r_ldR_n (m := 0) F_128_71 rfl ?_
    refine r_getR (J := 4) F_128_72 o_128 fl_5_34 ty_0 (by decide) rfl (kd2 kd_0_4 (by decide)) (kd9 kd_0_4 (by decide)) rf_0_4 ?_
    refine r_virt2 (A := []) (r := [vI (s (4 + r) j), vR 74]) (n := 0) F_128_75 o_128 il_5_149 rfl rfl rfl rfl ty_38 vy_71 (lay_le n_71 rfl) ?_
    refine Cl_of n_71 rfl ?_
    show Rn _ _ _ _ [some (vR 38)] [] _ _
    refine r_ldR_n (m := 0) F_71_0 rfl ?_
    refine r_getI (J := 5) (e := ((wg (lk s 74 (44 + 4 * i) k) 74 (s (4 + r) j) ((lk s 74 (44 + 4 * i) k) (4 + r) (j + 1))) 38 5)) F_71_1 o_71 fl_1_31 ty_38 (by decide) rfl kd_38_5 rfl ?_
    refine r_ireturn F_71_4 rt_71 ?_
    show Rn _ _ _ _ _ [vI ((wg (lk s 74 (44 + 4 * i) k) 74 (s (4 + r) j) ((lk s 74 (44 + 4 * i) k) (4 + r) (j + 1))) 38 5), vI (s (4 + r) j), vR 74] _ _
    refine r_virt2 (A := [vI (s (4 + r) j), vI ((wg (lk s 74 (44 + 4 * i) k) 74 (s (4 + r) j) ((lk s 74 (44 + 4 * i) k) (4 + r) (j + 1))) 38 5)]) (r := []) (n := 2) F_128_78 o_128 il_5_178 rfl rfl rfl rfl ty_74 vy_60 (lay_le n_60 rfl) ?_
    refine sp_moves ty_74 (l17 e2) (l18 e2) ?_
    show Rn _ _ _ _ _ [vI (mv ((wg (lk s 74 (44 + 4 * i) k) 74 (s (4 + r) j) ((lk s 74 (44 + 4 * i) k) (4 + r) (j + 1))) 74 1) ((wg (lk s 74 (44 + 4 * i) k) 74 (s (4 + r) j) ((lk s 74 (44 + 4 * i) k) (4 + r) (j + 1))) 74 2) ((wg (lk s 74 (44 + 4 * i) k) 74 (s (4 + r) j) ((lk s 74 (44 + 4 * i) k) (4 + r) (j + 1))) 38 5) (s (4 + r) j))] _ _
    refine r_bipush F_128_81 bi_10 ?_
    refine r_iadd F_128_83 rfl ?_
    refine r_ldR_n (m := 0) F_128_84 rfl ?_
    refine r_getR (J := 0) F_128_85 o_128 fl_5_14 ty_0 (by decide) rfl (kd2 kd_0_0 (by decide)) (kd9 kd_0_0 (by decide)) rf_0_0 ?_
    refine r_ldI_n (m := 2) F_128_88 rfl ?_
    refine r_ldI (m := 4) F_128_89 rfl ?_
    refine r_iconst F_128_91 ?_
    refine r_iadd F_128_92 rfl ?_
    refine r_virt2 (A := [vI r, vI (j + 2)]) (r := [vI ((mv ((wg (lk s 74 (44 + 4 * i) k) 74 (s (4 + r) j) ((lk s 74 (44 + 4 * i) k) (4 + r) (j + 1))) 74 1) ((wg (lk s 74 (44 + 4 * i) k) 74 (s (4 + r) j) ((lk s 74 (44 + 4 * i) k) (4 + r) (j + 1))) 74 2) ((wg (lk s 74 (44 + 4 * i) k) 74 (s (4 + r) j) ((lk s 74 (44 + 4 * i) k) (4 + r) (j + 1))) 38 5) (s (4 + r) j)) + 10)]) (n := 2) F_128_93 o_128 il_5_86 rfl rfl rfl rfl ty_1 vy_18 (lay_le n_18 rfl) ?_
    refine sp_get1 h0 h6 (l19 e2) (l20 e2) (l21 e2) ?_
    show Rn _ _ _ _ _ [vI ((wg (lk s 74 (44 + 4 * i) k) 74 (s (4 + r) j) ((lk s 74 (44 + 4 * i) k) (4 + r) (j + 1))) (4 + r) (j + 2)), vI ((mv ((wg (lk s 74 (44 + 4 * i) k) 74 (s (4 + r) j) ((lk s 74 (44 + 4 * i) k) (4 + r) (j + 1))) 74 1) ((wg (lk s 74 (44 + 4 * i) k) 74 (s (4 + r) j) ((lk s 74 (44 + 4 * i) k) (4 + r) (j + 1))) 74 2) ((wg (lk s 74 (44 + 4 * i) k) 74 (s (4 + r) j) ((lk s 74 (44 + 4 * i) k) (4 + r) (j + 1))) 38 5) (s (4 + r) j)) + 10)] _ _
    refine r_icmp (t := 101) F_128_96 rfl (l22 e2) (l23 e2) ?_ ?_
    · intro e3
      replace e3 : ((mv ((wg (lk s 74 (44 + 4 * i) k) 74 (s (4 + r) j) ((lk s 74 (44 + 4 * i) k) (4 + r) (j + 1))) 74 1) ((wg (lk s 74 (44 + 4 * i) k) 74 (s (4 + r) j) ((lk s 74 (44 + 4 * i) k) (4 + r) (j + 1))) 74 2) ((wg (lk s 74 (44 + 4 * i) k) 74 (s (4 + r) j) ((lk s 74 (44 + 4 * i) k) (4 + r) (j + 1))) 38 5) (s (4 + r) j)) + 10) = ((wg (lk s 74 (44 + 4 * i) k) 74 (s (4 + r) j) ((lk s 74 (44 + 4 * i) k) (4 + r) (j + 1))) (4 + r) (j + 2)) := e3
      refine r_iinc (m := 4) (e := (j + 3)) (L' := [some (vR 0), some (vI i), some (vI r), some (vI k), some (vI (j + 3)), some (vI (s (4 + r) j))]) F_128_101 rfl rfl rfl rfl ?_
      refine r_goto (t := 3) F_128_104 rfl ?_
      exact (l24 e2 e3)
    · intro e4
      replace e4 : ¬ ((mv ((wg (lk s 74 (44 + 4 * i) k) 74 (s (4 + r) j) ((lk s 74 (44 + 4 * i) k) (4 + r) (j + 1))) 74 1) ((wg (lk s 74 (44 + 4 * i) k) 74 (s (4 + r) j) ((lk s 74 (44 + 4 * i) k) (4 + r) (j + 1))) 74 2) ((wg (lk s 74 (44 + 4 * i) k) 74 (s (4 + r) j) ((lk s 74 (44 + 4 * i) k) (4 + r) (j + 1))) 38 5) (s (4 + r) j)) + 10) = ((wg (lk s 74 (44 + 4 * i) k) 74 (s (4 + r) j) ((lk s 74 (44 + 4 * i) k) (4 + r) (j + 1))) (4 + r) (j + 2)) := e4
      refine r_iconst F_128_99 ?_
      refine r_zreturn F_128_100 rt_128 (Or.inl rfl) ?_
      exact (l25 e2 e4)
theorem t_X5_commonDivisor {X : List Int32} {d : Nat} {s : m_St} {P : Option Value → m_St → Prop} {a b : Int}
    (l1 : Rn X d 141 3 [some (vJ a), none, some (vJ b), none, some (vI 0), none, none] [] s P)
    : Cl X d 141 [vJ a, vJ b] s P := by
  refine Cl_of n_141 rfl ?_
  show Rn _ _ _ _ [some (vJ a), none, some (vJ b), none, none, none, none] [] _ _
  refine r_iconst F_141_0 ?_
  refine r_stI (m := 4) (L' := [some (vJ a), none, some (vJ b), none, some (vI 0), none, none]) F_141_1 rfl rfl ?_
  exact l1
theorem t_X5_commonDivisor_3 {X : List Int32} {d : Nat} {s : m_St} {P : Option Value → m_St → Prop} {a b i : Int} {z5 : Option Value} (i0 : 0 ≤ i)
    (l1 : inR i)
    (l2 : 100 ≤ i → P (some (vJ a)) s)
    (l3 : i < 100 → (cmpJ b 0) = 0 → P (some (vJ a)) s)
    (l4 : i < 100 → ¬ (cmpJ b 0) = 0 → 0 < b)
    (l5 : i < 100 → ¬ (cmpJ b 0) = 0 → 0 ≤ a)
    (l6 : i < 100 → ¬ (cmpJ b 0) = 0 → inJ a)
    (l7 : i < 100 → ¬ (cmpJ b 0) = 0 → inJ b)
    (l8 : i < 100 → ¬ (cmpJ b 0) = 0 → Rn X d 141 3 [some (vJ b), none, some (vJ (a % b)), none, some (vI (i + 1)), some (vJ (a % b)), none] [] s P)
    : Rn X d 141 3 [some (vJ a), none, some (vJ b), none, some (vI i), z5, none] [] s P := by
  refine r_ldI (m := 4) F_141_3 rfl ?_
  refine r_bipush F_141_5 bi_100 ?_
  refine r_icmp (t := 32) F_141_7 rfl l1 (by decide) ?_ ?_
  · intro e1
    replace e1 : 100 ≤ i := e1
    refine r_ldJ_n (m := 0) F_141_32 rfl ?_
    refine r_lreturn F_141_33 rt_141 ?_
    exact (l2 e1)
  · intro e2
    replace e2 : i < 100 := (Int.not_le.mp e2)
    refine r_ldJ_n (m := 2) F_141_10 rfl ?_
    refine r_lconst (e := 0) F_141_11 rfl ?_
    refine r_lcmp F_141_12 ?_
    refine r_if (t := 32) F_141_13 rfl (inR_cmpJ _ _) ?_ ?_
    · intro e3
      replace e3 : (cmpJ b 0) = 0 := e3
      refine r_ldJ_n (m := 0) F_141_32 rfl ?_
      refine r_lreturn F_141_33 rt_141 ?_
      exact (l3 e2 e3)
    · intro e4
      replace e4 : ¬ (cmpJ b 0) = 0 := e4
      refine r_ldJ_n (m := 0) F_141_16 rfl ?_
      refine r_ldJ_n (m := 2) F_141_17 rfl ?_
      refine r_lrem F_141_18 (l6 e2 e4) (l5 e2 e4) (l7 e2 e4) (l4 e2 e4) ?_
      refine r_stJ (m := 5) (L' := [some (vJ a), none, some (vJ b), none, some (vI i), some (vJ (a % b)), none]) F_141_19 rfl rfl ?_
      refine r_ldJ_n (m := 2) F_141_21 rfl ?_
      refine r_stJ_n (m := 0) (L' := [some (vJ b), none, some (vJ b), none, some (vI i), some (vJ (a % b)), none]) F_141_22 rfl rfl ?_
      refine r_ldJ (m := 5) F_141_23 rfl ?_
      refine r_stJ_n (m := 2) (L' := [some (vJ b), none, some (vJ (a % b)), none, some (vI i), some (vJ (a % b)), none]) F_141_25 rfl rfl ?_
      refine r_iinc (m := 4) (e := (i + 1)) (L' := [some (vJ b), none, some (vJ (a % b)), none, some (vI (i + 1)), some (vJ (a % b)), none]) F_141_26 rfl rfl rfl rfl ?_
      refine r_goto (t := 3) F_141_29 rfl ?_
      exact (l8 e2 e4)
