/-! walks: the calls of the class -/
theorem n_28 : m_n 28 = 3 := by decide +kernel
theorem F_28_0 : F 28 0 (.aload_n 0) 1 := ⟨1, by decide +kernel, rfl, rfl⟩
theorem F_28_1 : F 28 1 (.getfield 18) 4 := ⟨3, by decide +kernel, rfl, rfl⟩
theorem fl_5_18 : m_fl.lookup (5, 18) = some (5, 1, 1169) := by decide +kernel
theorem kd_0_1 : kd 0 1 = 12 := by decide +kernel
theorem o_28 : m_o 28 = 5 := by decide +kernel
theorem rf_0_1 : rf 0 1 = 10 := by decide +kernel
theorem F_28_4 : F 28 4 (.iload_n 1) 5 := ⟨1, by decide +kernel, rfl, rfl⟩
theorem F_28_5 : F 28 5 (.invokevirtual 70) 8 := ⟨3, by decide +kernel, rfl, rfl⟩
theorem il_5_70 : ilq 5 70 0 9 1 = true := by decide +kernel
theorem F_9_17 : F 9 17 (.iconst 0) 18 := ⟨1, by decide +kernel, rfl, rfl⟩
theorem F_28_8 : F 28 8 (.ifCond .eq 9) 11 := ⟨3, by decide +kernel, rfl, rfl⟩
theorem F_28_17 : F 28 17 (.iconst (-1)) 18 := ⟨1, by decide +kernel, rfl, rfl⟩
theorem F_28_18 : F 28 18 (.ireturn) 19 := ⟨1, by decide +kernel, rfl, rfl⟩
theorem rt_28 : m_r 28 = (some .int) := by decide +kernel
theorem F_28_11 : F 28 11 (.iload_n 2) 12 := ⟨1, by decide +kernel, rfl, rfl⟩
theorem F_28_12 : F 28 12 (.bipush 60) 14 := ⟨2, by decide +kernel, rfl, rfl⟩
theorem F_28_14 : F 28 14 (.if_icmp .le 5) 17 := ⟨3, by decide +kernel, rfl, rfl⟩
theorem F_28_19 : F 28 19 (.iload_n 2) 20 := ⟨1, by decide +kernel, rfl, rfl⟩
theorem F_28_20 : F 28 20 (.ifCond .ge 9) 23 := ⟨3, by decide +kernel, rfl, rfl⟩
theorem F_28_29 : F 28 29 (.aload_n 0) 30 := ⟨1, by decide +kernel, rfl, rfl⟩
theorem F_28_30 : F 28 30 (.getfield 18) 33 := ⟨3, by decide +kernel, rfl, rfl⟩
theorem F_28_33 : F 28 33 (.iload_n 1) 34 := ⟨1, by decide +kernel, rfl, rfl⟩
theorem F_28_34 : F 28 34 (.iload_n 2) 35 := ⟨1, by decide +kernel, rfl, rfl⟩
theorem F_28_35 : F 28 35 (.bipush 32) 37 := ⟨2, by decide +kernel, rfl, rfl⟩
theorem F_28_37 : F 28 37 (.invokevirtual 78) 40 := ⟨3, by decide +kernel, rfl, rfl⟩
theorem il_5_78 : ilq 5 78 0 11 3 = true := by decide +kernel
theorem vy_11 : (m_cls 3).1 = (m_y 11).cls ∧ 3 < m_cl.length := by decide +kernel
theorem F_28_40 : F 28 40 (.iload_n 2) 41 := ⟨1, by decide +kernel, rfl, rfl⟩
theorem F_28_41 : F 28 41 (.ireturn) 42 := ⟨1, by decide +kernel, rfl, rfl⟩
theorem F_28_23 : F 28 23 (.aload_n 0) 24 := ⟨1, by decide +kernel, rfl, rfl⟩
theorem F_28_24 : F 28 24 (.iconst 5) 25 := ⟨1, by decide +kernel, rfl, rfl⟩
theorem F_28_25 : F 28 25 (.invokevirtual 74) 28 := ⟨3, by decide +kernel, rfl, rfl⟩
theorem il_5_74 : ilq 5 74 0 10 1 = true := by decide +kernel
theorem vy_10 : (m_cls 5).1 = (m_y 10).cls ∧ 5 < m_cl.length := by decide +kernel
theorem n_10 : m_n 10 = 2 := by decide +kernel
theorem F_10_0 : F 10 0 (.iload_n 1) 1 := ⟨1, by decide +kernel, rfl, rfl⟩
theorem F_10_1 : F 10 1 (.iconst 1) 2 := ⟨1, by decide +kernel, rfl, rfl⟩
theorem F_10_2 : F 10 2 (.if_icmp .lt 23) 5 := ⟨3, by decide +kernel, rfl, rfl⟩
theorem F_10_5 : F 10 5 (.iload_n 1) 6 := ⟨1, by decide +kernel, rfl, rfl⟩
theorem F_10_6 : F 10 6 (.iconst 5) 7 := ⟨1, by decide +kernel, rfl, rfl⟩
theorem F_10_7 : F 10 7 (.if_icmp .gt 18) 10 := ⟨3, by decide +kernel, rfl, rfl⟩
theorem F_10_10 : F 10 10 (.aload_n 0) 11 := ⟨1, by decide +kernel, rfl, rfl⟩
theorem F_10_11 : F 10 11 (.iload_n 1) 12 := ⟨1, by decide +kernel, rfl, rfl⟩
theorem F_10_12 : F 10 12 (.putfield 56) 15 := ⟨3, by decide +kernel, rfl, rfl⟩
theorem fl_5_56 : m_fl.lookup (5, 56) = some (5, 8, 1176) := by decide +kernel
theorem kd_0_8 : kd 0 8 = 0 := by decide +kernel
theorem pf_5_8 : pfT 5 8 .int = true := by decide +kernel
theorem o_10 : m_o 10 = 5 := by decide +kernel
theorem F_10_15 : F 10 15 (.aload_n 0) 16 := ⟨1, by decide +kernel, rfl, rfl⟩
theorem F_10_16 : F 10 16 (.getfield 52) 19 := ⟨3, by decide +kernel, rfl, rfl⟩
theorem fl_5_52 : m_fl.lookup (5, 52) = some (5, 7, 1175) := by decide +kernel
theorem kd_0_7 : kd 0 7 = 78 := by decide +kernel
theorem rf_0_7 : rf 0 7 = 76 := by decide +kernel
theorem F_10_19 : F 10 19 (.iload_n 1) 20 := ⟨1, by decide +kernel, rfl, rfl⟩
theorem F_10_20 : F 10 20 (.dup2) 21 := ⟨1, by decide +kernel, rfl, rfl⟩
theorem F_10_21 : F 10 21 (.iaload) 22 := ⟨1, by decide +kernel, rfl, rfl⟩
theorem ln_76 : ln 76 = 6 := by decide +kernel
theorem ty_76 : ty 76 = 20 := by decide +kernel
theorem F_10_22 : F 10 22 (.iconst 1) 23 := ⟨1, by decide +kernel, rfl, rfl⟩
theorem F_10_23 : F 10 23 (.iadd) 24 := ⟨1, by decide +kernel, rfl, rfl⟩
theorem F_10_24 : F 10 24 (.iastore) 25 := ⟨1, by decide +kernel, rfl, rfl⟩
theorem F_10_25 : F 10 25 (.bipush (-3)) 27 := ⟨2, by decide +kernel, rfl, rfl⟩
theorem bi__3 : (Int8.ofInt (-3)).toInt32 = Int32.ofInt (-3) := by decide +kernel
theorem F_10_27 : F 10 27 (.ireturn) 28 := ⟨1, by decide +kernel, rfl, rfl⟩
theorem rt_10 : m_r 10 = (some .int) := by decide +kernel
theorem F_28_28 : F 28 28 (.ireturn) 29 := ⟨1, by decide +kernel, rfl, rfl⟩
theorem n_29 : m_n 29 = 6 := by decide +kernel
theorem F_29_0 : F 29 0 (.aload_n 0) 1 := ⟨1, by decide +kernel, rfl, rfl⟩
theorem F_29_1 : F 29 1 (.aload_n 0) 2 := ⟨1, by decide +kernel, rfl, rfl⟩
theorem F_29_2 : F 29 2 (.getfield 18) 5 := ⟨3, by decide +kernel, rfl, rfl⟩
theorem o_29 : m_o 29 = 5 := by decide +kernel
theorem F_29_5 : F 29 5 (.iload_n 1) 6 := ⟨1, by decide +kernel, rfl, rfl⟩
theorem F_29_6 : F 29 6 (.iload_n 2) 7 := ⟨1, by decide +kernel, rfl, rfl⟩
theorem F_29_7 : F 29 7 (.invokevirtual 82) 10 := ⟨3, by decide +kernel, rfl, rfl⟩
theorem il_5_82 : ilq 5 82 0 13 3 = true := by decide +kernel
theorem vy_13 : (m_cls 5).1 = (m_y 13).cls ∧ 5 < m_cl.length := by decide +kernel
theorem n_13 : m_n 13 = 5 := by decide +kernel
theorem F_13_0 : F 13 0 (.aload_n 0) 1 := ⟨1, by decide +kernel, rfl, rfl⟩
theorem F_13_1 : F 13 1 (.aload_n 1) 2 := ⟨1, by decide +kernel, rfl, rfl⟩
theorem F_13_2 : F 13 2 (.iload_n 2) 3 := ⟨1, by decide +kernel, rfl, rfl⟩
theorem F_13_3 : F 13 3 (.invokevirtual 96) 6 := ⟨3, by decide +kernel, rfl, rfl⟩
theorem o_13 : m_o 13 = 5 := by decide +kernel
theorem il_5_96 : ilq 5 96 0 14 2 = true := by decide +kernel
theorem vy_14 : (m_cls 5).1 = (m_y 14).cls ∧ 5 < m_cl.length := by decide +kernel
theorem n_14 : m_n 14 = 3 := by decide +kernel
theorem F_14_0 : F 14 0 (.aload_n 1) 1 := ⟨1, by decide +kernel, rfl, rfl⟩
theorem F_14_1 : F 14 1 (.iload_n 2) 2 := ⟨1, by decide +kernel, rfl, rfl⟩
theorem F_14_2 : F 14 2 (.invokevirtual 70) 5 := ⟨3, by decide +kernel, rfl, rfl⟩
theorem o_14 : m_o 14 = 5 := by decide +kernel
theorem F_14_5 : F 14 5 (.ifCond .ne 5) 8 := ⟨3, by decide +kernel, rfl, rfl⟩
theorem F_14_8 : F 14 8 (.iconst (-1)) 9 := ⟨1, by decide +kernel, rfl, rfl⟩
theorem F_14_9 : F 14 9 (.ireturn) 10 := ⟨1, by decide +kernel, rfl, rfl⟩
theorem rt_14 : m_r 14 = (some .int) := by decide +kernel
theorem F_13_6 : F 13 6 (.istore 4) 8 := ⟨2, by decide +kernel, rfl, rfl⟩
theorem F_13_8 : F 13 8 (.iload 4) 10 := ⟨2, by decide +kernel, rfl, rfl⟩
theorem F_13_10 : F 13 10 (.ifCond .eq 6) 13 := ⟨3, by decide +kernel, rfl, rfl⟩
theorem F_13_13 : F 13 13 (.iload 4) 15 := ⟨2, by decide +kernel, rfl, rfl⟩
theorem F_13_15 : F 13 15 (.ireturn) 16 := ⟨1, by decide +kernel, rfl, rfl⟩
theorem rt_13 : m_r 13 = (some .int) := by decide +kernel
theorem F_29_10 : F 29 10 (.istore 4) 12 := ⟨2, by decide +kernel, rfl, rfl⟩
theorem F_29_12 : F 29 12 (.iload 4) 14 := ⟨2, by decide +kernel, rfl, rfl⟩
theorem F_29_14 : F 29 14 (.ifCond .eq 6) 17 := ⟨3, by decide +kernel, rfl, rfl⟩
theorem F_29_17 : F 29 17 (.iload 4) 19 := ⟨2, by decide +kernel, rfl, rfl⟩
theorem F_29_19 : F 29 19 (.ireturn) 20 := ⟨1, by decide +kernel, rfl, rfl⟩
theorem rt_29 : m_r 29 = (some .int) := by decide +kernel
theorem F_14_10 : F 14 10 (.aload_n 1) 11 := ⟨1, by decide +kernel, rfl, rfl⟩
theorem F_14_11 : F 14 11 (.iload_n 2) 12 := ⟨1, by decide +kernel, rfl, rfl⟩
theorem F_14_12 : F 14 12 (.invokevirtual 104) 15 := ⟨3, by decide +kernel, rfl, rfl⟩
theorem il_5_104 : ilq 5 104 0 15 1 = true := by decide +kernel
theorem F_14_15 : F 14 15 (.ifCond .eq 7) 18 := ⟨3, by decide +kernel, rfl, rfl⟩
theorem F_14_22 : F 14 22 (.aload_n 0) 23 := ⟨1, by decide +kernel, rfl, rfl⟩
theorem F_14_23 : F 14 23 (.iconst 1) 24 := ⟨1, by decide +kernel, rfl, rfl⟩
theorem F_14_24 : F 14 24 (.invokevirtual 74) 27 := ⟨3, by decide +kernel, rfl, rfl⟩
theorem F_14_27 : F 14 27 (.ireturn) 28 := ⟨1, by decide +kernel, rfl, rfl⟩
theorem F_14_18 : F 14 18 (.iconst 0) 19 := ⟨1, by decide +kernel, rfl, rfl⟩
theorem F_14_19 : F 14 19 (.goto 8) 22 := ⟨3, by decide +kernel, rfl, rfl⟩
theorem F_13_16 : F 13 16 (.aload_n 1) 17 := ⟨1, by decide +kernel, rfl, rfl⟩
theorem F_13_17 : F 13 17 (.iload_n 2) 18 := ⟨1, by decide +kernel, rfl, rfl⟩
theorem F_13_18 : F 13 18 (.iload_n 3) 19 := ⟨1, by decide +kernel, rfl, rfl⟩
theorem F_13_19 : F 13 19 (.iconst 1) 20 := ⟨1, by decide +kernel, rfl, rfl⟩
theorem F_13_20 : F 13 20 (.invokevirtual 107) 23 := ⟨3, by decide +kernel, rfl, rfl⟩
theorem il_5_107 : ilq 5 107 0 17 3 = true := by decide +kernel
theorem F_13_23 : F 13 23 (.ifCond .eq 7) 26 := ⟨3, by decide +kernel, rfl, rfl⟩
theorem F_13_30 : F 13 30 (.aload_n 0) 31 := ⟨1, by decide +kernel, rfl, rfl⟩
theorem F_13_31 : F 13 31 (.iconst 2) 32 := ⟨1, by decide +kernel, rfl, rfl⟩
theorem F_13_32 : F 13 32 (.invokevirtual 74) 35 := ⟨3, by decide +kernel, rfl, rfl⟩
theorem F_13_35 : F 13 35 (.ireturn) 36 := ⟨1, by decide +kernel, rfl, rfl⟩
theorem F_13_26 : F 13 26 (.iconst 0) 27 := ⟨1, by decide +kernel, rfl, rfl⟩
theorem F_13_27 : F 13 27 (.goto 8) 30 := ⟨3, by decide +kernel, rfl, rfl⟩
theorem F_29_20 : F 29 20 (.aload_n 0) 21 := ⟨1, by decide +kernel, rfl, rfl⟩
theorem F_29_21 : F 29 21 (.getfield 18) 24 := ⟨3, by decide +kernel, rfl, rfl⟩
theorem F_29_24 : F 29 24 (.iload_n 1) 25 := ⟨1, by decide +kernel, rfl, rfl⟩
theorem F_29_25 : F 29 25 (.iload_n 2) 26 := ⟨1, by decide +kernel, rfl, rfl⟩
theorem F_29_26 : F 29 26 (.invokevirtual 86) 29 := ⟨3, by decide +kernel, rfl, rfl⟩
theorem il_5_86 : ilq 5 86 0 18 2 = true := by decide +kernel
theorem F_29_29 : F 29 29 (.istore 5) 31 := ⟨2, by decide +kernel, rfl, rfl⟩
theorem F_29_31 : F 29 31 (.aload_n 0) 32 := ⟨1, by decide +kernel, rfl, rfl⟩
theorem F_29_32 : F 29 32 (.getfield 18) 35 := ⟨3, by decide +kernel, rfl, rfl⟩
theorem F_29_35 : F 29 35 (.iload_n 1) 36 := ⟨1, by decide +kernel, rfl, rfl⟩
theorem F_29_36 : F 29 36 (.iload_n 2) 37 := ⟨1, by decide +kernel, rfl, rfl⟩
theorem F_29_37 : F 29 37 (.iload_n 3) 38 := ⟨1, by decide +kernel, rfl, rfl⟩
theorem F_29_38 : F 29 38 (.i2b) 39 := ⟨1, by decide +kernel, rfl, rfl⟩
theorem F_29_39 : F 29 39 (.invokevirtual 90) 42 := ⟨3, by decide +kernel, rfl, rfl⟩
theorem il_5_90 : ilq 5 90 0 19 3 = true := by decide +kernel
theorem vy_19 : (m_cls 3).1 = (m_y 19).cls ∧ 3 < m_cl.length := by decide +kernel
theorem F_29_42 : F 29 42 (.iload 5) 44 := ⟨2, by decide +kernel, rfl, rfl⟩
theorem F_29_44 : F 29 44 (.sipush 1000) 47 := ⟨3, by decide +kernel, rfl, rfl⟩
theorem F_29_47 : F 29 47 (.iadd) 48 := ⟨1, by decide +kernel, rfl, rfl⟩
theorem F_29_48 : F 29 48 (.ireturn) 49 := ⟨1, by decide +kernel, rfl, rfl⟩
theorem n_30 : m_n 30 = 3 := by decide +kernel
theorem F_30_0 : F 30 0 (.aload_n 0) 1 := ⟨1, by decide +kernel, rfl, rfl⟩
theorem F_30_1 : F 30 1 (.aload_n 0) 2 := ⟨1, by decide +kernel, rfl, rfl⟩
theorem F_30_2 : F 30 2 (.getfield 18) 5 := ⟨3, by decide +kernel, rfl, rfl⟩
theorem o_30 : m_o 30 = 5 := by decide +kernel
theorem F_30_5 : F 30 5 (.iload_n 1) 6 := ⟨1, by decide +kernel, rfl, rfl⟩
theorem F_30_6 : F 30 6 (.invokevirtual 96) 9 := ⟨3, by decide +kernel, rfl, rfl⟩
theorem F_30_9 : F 30 9 (.istore_n 2) 10 := ⟨1, by decide +kernel, rfl, rfl⟩
theorem F_30_10 : F 30 10 (.iload_n 2) 11 := ⟨1, by decide +kernel, rfl, rfl⟩
theorem F_30_11 : F 30 11 (.ifCond .eq 7) 14 := ⟨3, by decide +kernel, rfl, rfl⟩
theorem F_30_14 : F 30 14 (.iload_n 2) 15 := ⟨1, by decide +kernel, rfl, rfl⟩
theorem F_30_15 : F 30 15 (.goto 15) 18 := ⟨3, by decide +kernel, rfl, rfl⟩
theorem F_30_30 : F 30 30 (.ireturn) 31 := ⟨1, by decide +kernel, rfl, rfl⟩
theorem rt_30 : m_r 30 = (some .int) := by decide +kernel
theorem F_30_18 : F 30 18 (.aload_n 0) 19 := ⟨1, by decide +kernel, rfl, rfl⟩
theorem F_30_19 : F 30 19 (.getfield 27) 22 := ⟨3, by decide +kernel, rfl, rfl⟩
theorem fl_5_27 : m_fl.lookup (5, 27) = some (5, 3, 1171) := by decide +kernel
theorem kd_0_3 : kd 0 3 = 25 := by decide +kernel
theorem rf_0_3 : rf 0 3 = 23 := by decide +kernel
theorem F_30_22 : F 30 22 (.aload_n 0) 23 := ⟨1, by decide +kernel, rfl, rfl⟩
theorem F_30_23 : F 30 23 (.getfield 18) 26 := ⟨3, by decide +kernel, rfl, rfl⟩
theorem F_30_26 : F 30 26 (.iload_n 1) 27 := ⟨1, by decide +kernel, rfl, rfl⟩
theorem F_30_27 : F 30 27 (.invokevirtual 122) 30 := ⟨3, by decide +kernel, rfl, rfl⟩
theorem il_5_122 : ilq 5 122 0 31 2 = true := by decide +kernel
theorem vy_31 : (m_cls 2).1 = (m_y 31).cls ∧ 2 < m_cl.length := by decide +kernel
theorem n_47 : m_n 47 = 3 := by decide +kernel
theorem F_47_0 : F 47 0 (.aload_n 0) 1 := ⟨1, by decide +kernel, rfl, rfl⟩
theorem F_47_1 : F 47 1 (.aload_n 0) 2 := ⟨1, by decide +kernel, rfl, rfl⟩
theorem F_47_2 : F 47 2 (.getfield 18) 5 := ⟨3, by decide +kernel, rfl, rfl⟩
theorem o_47 : m_o 47 = 5 := by decide +kernel
theorem F_47_5 : F 47 5 (.iload_n 1) 6 := ⟨1, by decide +kernel, rfl, rfl⟩
theorem F_47_6 : F 47 6 (.invokevirtual 96) 9 := ⟨3, by decide +kernel, rfl, rfl⟩
theorem F_47_9 : F 47 9 (.istore_n 2) 10 := ⟨1, by decide +kernel, rfl, rfl⟩
theorem F_47_10 : F 47 10 (.iload_n 2) 11 := ⟨1, by decide +kernel, rfl, rfl⟩
theorem F_47_11 : F 47 11 (.ifCond .eq 5) 14 := ⟨3, by decide +kernel, rfl, rfl⟩
theorem F_47_14 : F 47 14 (.iload_n 2) 15 := ⟨1, by decide +kernel, rfl, rfl⟩
theorem F_47_15 : F 47 15 (.ireturn) 16 := ⟨1, by decide +kernel, rfl, rfl⟩
theorem rt_47 : m_r 47 = (some .int) := by decide +kernel
theorem F_47_16 : F 47 16 (.aload_n 0) 17 := ⟨1, by decide +kernel, rfl, rfl⟩
theorem F_47_17 : F 47 17 (.getfield 27) 20 := ⟨3, by decide +kernel, rfl, rfl⟩
theorem F_47_20 : F 47 20 (.aload_n 0) 21 := ⟨1, by decide +kernel, rfl, rfl⟩
theorem F_47_21 : F 47 21 (.getfield 18) 24 := ⟨3, by decide +kernel, rfl, rfl⟩
theorem F_47_24 : F 47 24 (.iload_n 1) 25 := ⟨1, by decide +kernel, rfl, rfl⟩
theorem F_47_25 : F 47 25 (.invokevirtual 122) 28 := ⟨3, by decide +kernel, rfl, rfl⟩
theorem F_47_28 : F 47 28 (.bipush (-9)) 30 := ⟨2, by decide +kernel, rfl, rfl⟩
theorem F_47_30 : F 47 30 (.if_icmp .eq 6) 33 := ⟨3, by decide +kernel, rfl, rfl⟩
theorem F_47_36 : F 47 36 (.aload_n 0) 37 := ⟨1, by decide +kernel, rfl, rfl⟩
theorem F_47_37 : F 47 37 (.getfield 34) 40 := ⟨3, by decide +kernel, rfl, rfl⟩
theorem F_47_40 : F 47 40 (.aload_n 0) 41 := ⟨1, by decide +kernel, rfl, rfl⟩
theorem F_47_41 : F 47 41 (.getfield 27) 44 := ⟨3, by decide +kernel, rfl, rfl⟩
theorem F_47_44 : F 47 44 (.invokevirtual 125) 47 := ⟨3, by decide +kernel, rfl, rfl⟩
theorem il_5_125 : ilq 5 125 0 48 1 = true := by decide +kernel
theorem vy_48 : (m_cls 1).1 = (m_y 48).cls ∧ 1 < m_cl.length := by decide +kernel
theorem F_47_47 : F 47 47 (.aload_n 0) 48 := ⟨1, by decide +kernel, rfl, rfl⟩
theorem F_47_48 : F 47 48 (.getfield 21) 51 := ⟨3, by decide +kernel, rfl, rfl⟩
theorem fl_5_21 : m_fl.lookup (5, 21) = some (5, 2, 1170) := by decide +kernel
theorem kd_0_2 : kd 0 2 = 19 := by decide +kernel
theorem rf_0_2 : rf 0 2 = 17 := by decide +kernel
theorem F_47_51 : F 47 51 (.invokevirtual 129) 54 := ⟨3, by decide +kernel, rfl, rfl⟩
theorem il_5_129 : ilq 5 129 0 63 0 = true := by decide +kernel
theorem vy_63 : (m_cls 3).1 = (m_y 63).cls ∧ 3 < m_cl.length := by decide +kernel
theorem F_47_54 : F 47 54 (.aload_n 0) 55 := ⟨1, by decide +kernel, rfl, rfl⟩
theorem F_47_55 : F 47 55 (.getfield 34) 58 := ⟨3, by decide +kernel, rfl, rfl⟩
theorem F_47_58 : F 47 58 (.invokevirtual 132) 61 := ⟨3, by decide +kernel, rfl, rfl⟩
theorem il_5_132 : ilq 5 132 0 64 0 = true := by decide +kernel
theorem vy_64 : (m_cls 1).1 = (m_y 64).cls ∧ 1 < m_cl.length := by decide +kernel
theorem n_64 : m_n 64 = 1 := by decide +kernel
theorem F_64_0 : F 64 0 (.aload_n 0) 1 := ⟨1, by decide +kernel, rfl, rfl⟩
theorem F_64_1 : F 64 1 (.getfield 24) 4 := ⟨3, by decide +kernel, rfl, rfl⟩
theorem o_64 : m_o 64 = 1 := by decide +kernel
theorem F_64_4 : F 64 4 (.ireturn) 5 := ⟨1, by decide +kernel, rfl, rfl⟩
theorem rt_64 : m_r 64 = (some .int) := by decide +kernel
theorem F_47_61 : F 47 61 (.ireturn) 62 := ⟨1, by decide +kernel, rfl, rfl⟩
theorem F_47_33 : F 47 33 (.bipush (-4)) 35 := ⟨2, by decide +kernel, rfl, rfl⟩
theorem bi__4 : (Int8.ofInt (-4)).toInt32 = Int32.ofInt (-4) := by decide +kernel
theorem F_47_35 : F 47 35 (.ireturn) 36 := ⟨1, by decide +kernel, rfl, rfl⟩
theorem n_65 : m_n 65 = 3 := by decide +kernel
theorem F_65_0 : F 65 0 (.aload_n 0) 1 := ⟨1, by decide +kernel, rfl, rfl⟩
theorem F_65_1 : F 65 1 (.getfield 34) 4 := ⟨3, by decide +kernel, rfl, rfl⟩
theorem o_65 : m_o 65 = 5 := by decide +kernel
theorem F_65_4 : F 65 4 (.iload_n 1) 5 := ⟨1, by decide +kernel, rfl, rfl⟩
theorem F_65_5 : F 65 5 (.invokevirtual 136) 8 := ⟨3, by decide +kernel, rfl, rfl⟩
theorem il_5_136 : ilq 5 136 0 66 1 = true := by decide +kernel
theorem vy_66 : (m_cls 1).1 = (m_y 66).cls ∧ 1 < m_cl.length := by decide +kernel
theorem n_66 : m_n 66 = 2 := by decide +kernel
theorem F_66_0 : F 66 0 (.iload_n 1) 1 := ⟨1, by decide +kernel, rfl, rfl⟩
theorem F_66_1 : F 66 1 (.ifCond .lt 15) 4 := ⟨3, by decide +kernel, rfl, rfl⟩
theorem F_66_16 : F 66 16 (.iconst 0) 17 := ⟨1, by decide +kernel, rfl, rfl⟩
theorem F_66_17 : F 66 17 (.ireturn) 18 := ⟨1, by decide +kernel, rfl, rfl⟩
theorem rt_66 : m_r 66 = (some .boolean) := by decide +kernel
theorem F_65_8 : F 65 8 (.ifCond .eq 13) 11 := ⟨3, by decide +kernel, rfl, rfl⟩
theorem F_65_21 : F 65 21 (.iconst (-1)) 22 := ⟨1, by decide +kernel, rfl, rfl⟩
theorem F_65_22 : F 65 22 (.ireturn) 23 := ⟨1, by decide +kernel, rfl, rfl⟩
theorem rt_65 : m_r 65 = (some .int) := by decide +kernel
theorem F_66_4 : F 66 4 (.iload_n 1) 5 := ⟨1, by decide +kernel, rfl, rfl⟩
theorem F_66_5 : F 66 5 (.aload_n 0) 6 := ⟨1, by decide +kernel, rfl, rfl⟩
theorem F_66_6 : F 66 6 (.getfield 24) 9 := ⟨3, by decide +kernel, rfl, rfl⟩
theorem o_66 : m_o 66 = 1 := by decide +kernel
theorem F_66_9 : F 66 9 (.if_icmp .ge 7) 12 := ⟨3, by decide +kernel, rfl, rfl⟩
theorem F_66_12 : F 66 12 (.iconst 1) 13 := ⟨1, by decide +kernel, rfl, rfl⟩
theorem F_66_13 : F 66 13 (.goto 4) 16 := ⟨3, by decide +kernel, rfl, rfl⟩
theorem F_65_11 : F 65 11 (.iload_n 2) 12 := ⟨1, by decide +kernel, rfl, rfl⟩
theorem F_65_12 : F 65 12 (.ifCond .lt 9) 15 := ⟨3, by decide +kernel, rfl, rfl⟩
theorem F_65_15 : F 65 15 (.iload_n 2) 16 := ⟨1, by decide +kernel, rfl, rfl⟩
theorem F_65_16 : F 65 16 (.bipush 7) 18 := ⟨2, by decide +kernel, rfl, rfl⟩
theorem bi_7 : (Int8.ofInt 7).toInt32 = Int32.ofInt 7 := by decide +kernel
theorem F_65_18 : F 65 18 (.if_icmp .lt 5) 21 := ⟨3, by decide +kernel, rfl, rfl⟩
theorem F_65_23 : F 65 23 (.aload_n 0) 24 := ⟨1, by decide +kernel, rfl, rfl⟩
theorem F_65_24 : F 65 24 (.aload_n 0) 25 := ⟨1, by decide +kernel, rfl, rfl⟩
theorem F_65_25 : F 65 25 (.getfield 34) 28 := ⟨3, by decide +kernel, rfl, rfl⟩
theorem F_65_28 : F 65 28 (.iload_n 1) 29 := ⟨1, by decide +kernel, rfl, rfl⟩
theorem F_65_29 : F 65 29 (.iload_n 2) 30 := ⟨1, by decide +kernel, rfl, rfl⟩
theorem F_65_30 : F 65 30 (.invokevirtual 139) 33 := ⟨3, by decide +kernel, rfl, rfl⟩
theorem il_5_139 : ilq 5 139 0 67 2 = true := by decide +kernel
theorem vy_67 : (m_cls 1).1 = (m_y 67).cls ∧ 1 < m_cl.length := by decide +kernel
theorem n_67 : m_n 67 = 4 := by decide +kernel
theorem F_67_0 : F 67 0 (.aload_n 0) 1 := ⟨1, by decide +kernel, rfl, rfl⟩
theorem F_67_1 : F 67 1 (.iload_n 1) 2 := ⟨1, by decide +kernel, rfl, rfl⟩
theorem F_67_2 : F 67 2 (.invokevirtual 107) 5 := ⟨3, by decide +kernel, rfl, rfl⟩
theorem o_67 : m_o 67 = 1 := by decide +kernel
theorem F_58_18 : F 58 18 (.iconst 0) 19 := ⟨1, by decide +kernel, rfl, rfl⟩
theorem rf_40_0 : rf 40 0 = 44 := by decide +kernel
theorem F_67_5 : F 67 5 (.astore_n 3) 6 := ⟨1, by decide +kernel, rfl, rfl⟩
theorem F_67_6 : F 67 6 (.iload_n 2) 7 := ⟨1, by decide +kernel, rfl, rfl⟩
theorem F_67_7 : F 67 7 (.lookupswitch 69 #[(0, 33), (5, 38), (6, 43)]) 40 := ⟨33, by decide +kernel, rfl, rfl⟩
theorem F_67_40 : F 67 40 (.aload_n 3) 41 := ⟨1, by decide +kernel, rfl, rfl⟩
theorem F_67_41 : F 67 41 (.invokevirtual 68) 44 := ⟨3, by decide +kernel, rfl, rfl⟩
theorem ty_44 : ty 44 = 0 := by decide +kernel
theorem kd_44_1 : kd 44 1 = 0 := by decide +kernel
theorem F_67_44 : F 67 44 (.ireturn) 45 := ⟨1, by decide +kernel, rfl, rfl⟩
theorem rt_67 : m_r 67 = (some .int) := by decide +kernel
theorem F_65_33 : F 65 33 (.invokevirtual 93) 36 := ⟨3, by decide +kernel, rfl, rfl⟩
theorem il_5_93 : ilq 5 93 0 20 1 = true := by decide +kernel
theorem vy_20 : (m_cls 5).1 = (m_y 20).cls ∧ 5 < m_cl.length := by decide +kernel
theorem n_20 : m_n 20 = 2 := by decide +kernel
theorem F_20_0 : F 20 0 (.aload_n 0) 1 := ⟨1, by decide +kernel, rfl, rfl⟩
theorem F_20_1 : F 20 1 (.iload_n 1) 2 := ⟨1, by decide +kernel, rfl, rfl⟩
theorem F_20_2 : F 20 2 (.putfield 60) 5 := ⟨3, by decide +kernel, rfl, rfl⟩
theorem fl_5_60 : m_fl.lookup (5, 60) = some (5, 9, 1177) := by decide +kernel
theorem kd_0_9 : kd 0 9 = 0 := by decide +kernel
theorem pf_5_9 : pfT 5 9 .int = true := by decide +kernel
theorem o_20 : m_o 20 = 5 := by decide +kernel
theorem F_20_5 : F 20 5 (.iconst 1) 6 := ⟨1, by decide +kernel, rfl, rfl⟩
theorem F_20_6 : F 20 6 (.ireturn) 7 := ⟨1, by decide +kernel, rfl, rfl⟩
theorem rt_20 : m_r 20 = (some .int) := by decide +kernel
theorem F_65_36 : F 65 36 (.ireturn) 37 := ⟨1, by decide +kernel, rfl, rfl⟩
theorem F_67_45 : F 67 45 (.aload_n 3) 46 := ⟨1, by decide +kernel, rfl, rfl⟩
theorem F_67_46 : F 67 46 (.invokevirtual 108) 49 := ⟨3, by decide +kernel, rfl, rfl⟩
theorem kd_44_2 : kd 44 2 = 0 := by decide +kernel
theorem F_67_49 : F 67 49 (.ireturn) 50 := ⟨1, by decide +kernel, rfl, rfl⟩
theorem F_67_50 : F 67 50 (.iload_n 1) 51 := ⟨1, by decide +kernel, rfl, rfl⟩
theorem F_67_51 : F 67 51 (.aload_n 0) 52 := ⟨1, by decide +kernel, rfl, rfl⟩
theorem F_67_52 : F 67 52 (.getfield 37) 55 := ⟨3, by decide +kernel, rfl, rfl⟩
theorem F_67_55 : F 67 55 (.if_icmp .ne 7) 58 := ⟨3, by decide +kernel, rfl, rfl⟩
theorem F_67_62 : F 67 62 (.iload_n 1) 63 := ⟨1, by decide +kernel, rfl, rfl⟩
theorem F_67_63 : F 67 63 (.aload_n 0) 64 := ⟨1, by decide +kernel, rfl, rfl⟩
theorem F_67_64 : F 67 64 (.getfield 40) 67 := ⟨3, by decide +kernel, rfl, rfl⟩
theorem F_67_67 : F 67 67 (.if_icmp .ne 7) 70 := ⟨3, by decide +kernel, rfl, rfl⟩
theorem F_67_74 : F 67 74 (.iconst 0) 75 := ⟨1, by decide +kernel, rfl, rfl⟩
theorem F_67_75 : F 67 75 (.ireturn) 76 := ⟨1, by decide +kernel, rfl, rfl⟩
theorem F_67_70 : F 67 70 (.iconst 2) 71 := ⟨1, by decide +kernel, rfl, rfl⟩
theorem F_67_71 : F 67 71 (.goto 4) 74 := ⟨3, by decide +kernel, rfl, rfl⟩
theorem F_67_58 : F 67 58 (.iconst 1) 59 := ⟨1, by decide +kernel, rfl, rfl⟩
theorem F_67_59 : F 67 59 (.goto 16) 62 := ⟨3, by decide +kernel, rfl, rfl⟩
theorem F_67_76 : F 67 76 (.aload_n 3) 77 := ⟨1, by decide +kernel, rfl, rfl⟩
theorem F_67_77 : F 67 77 (.iload_n 2) 78 := ⟨1, by decide +kernel, rfl, rfl⟩
theorem F_67_78 : F 67 78 (.iconst 1) 79 := ⟨1, by decide +kernel, rfl, rfl⟩
theorem F_67_79 : F 67 79 (.isub) 80 := ⟨1, by decide +kernel, rfl, rfl⟩
theorem F_67_80 : F 67 80 (.invokevirtual 111) 83 := ⟨3, by decide +kernel, rfl, rfl⟩
theorem il_1_111 : ilq 1 111 0 54 1 = true := by decide +kernel
theorem F_54_16 : F 54 16 (.iconst 0) 17 := ⟨1, by decide +kernel, rfl, rfl⟩
theorem F_67_83 : F 67 83 (.ireturn) 84 := ⟨1, by decide +kernel, rfl, rfl⟩
theorem kd_44_0 : kd 44 0 = 47 := by decide +kernel
theorem rf_44_0 : rf 44 0 = 45 := by decide +kernel
theorem ln_45 : ln 45 = 4 := by decide +kernel
theorem ty_45 : ty 45 = 20 := by decide +kernel
theorem t_X5_text {X : m_X} {d : Nat} {s : m_St} {P : Option Value → m_St → Prop} {t n : Int}
    (l1 : inR t)
    (l2 : t < 0 → P (some (vI (-1))) s)
    (l3 : 0 ≤ t → 4 ≤ t → P (some (vI (-1))) s)
    (l4 : 0 ≤ t → t < 4 → inR n)
    (l5 : 0 ≤ t → t < 4 → n ≤ 60 → 0 ≤ n → (s 10 2) = 60)
    (l6 : 0 ≤ t → t < 4 → n ≤ 60 → 0 ≤ n → P (some (vI n)) (fil (m_upd s 11 t n) (13 + t) n 32))
    (l7 : 0 ≤ t → t < 4 → n ≤ 60 → n < 0 → P (some (vI (-3))) (m_upd (m_upd s 0 8 5) 76 5 ((s 76 5) + 1)))
    (l8 : 0 ≤ t → t < 4 → 60 < n → P (some (vI (-1))) s)
    : Cl X (d + 2) 28 [vR 0, vI t, vI n] s P := by
  refine Cl_of n_28 rfl ?_
  show Rn _ _ _ _ [some (vR 0), some (vI t), some (vI n)] [] _ _
  refine r_ldR_n (m := 0) F_28_0 rfl ?_
  refine r_getR (J := 1) F_28_1 o_28 fl_5_18 ty_0 (by decide) rfl (kd2 kd_0_1 (by decide)) (kd9 kd_0_1 (by decide)) rf_0_1 ?_
  refine r_ldI_n (m := 1) F_28_4 rfl ?_
  refine r_virt2 (A := [vI t]) (r := []) (n := 1) F_28_5 o_28 il_5_70 rfl rfl rfl rfl ty_10 vy_9 (lay_le n_9 rfl) ?_
  refine Cl_of n_9 rfl ?_
  show Rn _ _ _ _ [some (vR 10), some (vI t)] [] _ _
  refine r_ldI_n (m := 1) F_9_0 rfl ?_
  refine r_if (t := 17) F_9_1 rfl l1 ?_ ?_
  · intro e1
    replace e1 : t < 0 := e1
    refine r_iconst F_9_17 ?_
    refine r_zreturn F_9_18 rt_9 (Or.inl rfl) ?_
    show Rn _ _ _ _ _ [vI 0] _ _
    refine r_ifT (t := 17) F_28_8 rfl (by decide) (by show (0 : Int) = 0; decide) ?_
    refine r_iconst F_28_17 ?_
    refine r_ireturn F_28_18 rt_28 ?_
    exact (l2 e1)
  · intro e2
    replace e2 : 0 ≤ t := (Int.not_lt.mp e2)
    refine r_ldI_n (m := 1) F_9_4 rfl ?_
    refine r_ldR_n (m := 0) F_9_5 rfl ?_
    refine r_getR (J := 0) F_9_6 o_9 fl_3_19 ty_10 (by decide) rfl (kd2 kd_10_0 (by decide)) (kd9 kd_10_0 (by decide)) rf_10_0 ?_
    refine r_alen F_9_9 ty_11 (by decide) ln_11 ?_
    refine r_icmp (t := 17) F_9_10 rfl l1 (by decide) ?_ ?_
    · intro e3
      replace e3 : 4 ≤ t := e3
      refine r_iconst F_9_17 ?_
      refine r_zreturn F_9_18 rt_9 (Or.inl rfl) ?_
      show Rn _ _ _ _ _ [vI 0] _ _
      refine r_ifT (t := 17) F_28_8 rfl (by decide) (by show (0 : Int) = 0; decide) ?_
      refine r_iconst F_28_17 ?_
      refine r_ireturn F_28_18 rt_28 ?_
      exact (l3 e2 e3)
    · intro e4
      replace e4 : t < 4 := (Int.not_le.mp e4)
      refine r_iconst F_9_13 ?_
      refine r_goto (t := 18) F_9_14 rfl ?_
      refine r_zreturn F_9_18 rt_9 (Or.inr rfl) ?_
      show Rn _ _ _ _ _ [vI 1] _ _
      refine r_ifF (t := 17) F_28_8 rfl (by decide) (by show ¬ ((1 : Int) = 0); decide) ?_
      refine r_ldI_n (m := 2) F_28_11 rfl ?_
      refine r_bipush F_28_12 bi_60 ?_
      refine r_icmp (t := 19) F_28_14 rfl (l4 e2 e4) (by decide) ?_ ?_
      · intro e5
        replace e5 : n ≤ 60 := e5
        refine r_ldI_n (m := 2) F_28_19 rfl ?_
        refine r_if (t := 29) F_28_20 rfl (l4 e2 e4) ?_ ?_
        · intro e6
          replace e6 : 0 ≤ n := e6
          refine r_ldR_n (m := 0) F_28_29 rfl ?_
          refine r_getR (J := 1) F_28_30 o_28 fl_5_18 ty_0 (by decide) rfl (kd2 kd_0_1 (by decide)) (kd9 kd_0_1 (by decide)) rf_0_1 ?_
          refine r_ldI_n (m := 1) F_28_33 rfl ?_
          refine r_ldI_n (m := 2) F_28_34 rfl ?_
          refine r_bipush F_28_35 bi_32 ?_
          refine r_virt2 (A := [vI t, vI n, vI 32]) (r := []) (n := 3) F_28_37 o_28 il_5_78 rfl rfl rfl rfl ty_10 vy_11 (lay_le n_11 rfl) ?_
          refine sp_make10 e2 e4 e6 e5 (l5 e2 e4 e5 e6) ?_
          show Rn _ _ _ _ _ [] _ _
          refine r_ldI_n (m := 2) F_28_40 rfl ?_
          refine r_ireturn F_28_41 rt_28 ?_
          exact (l6 e2 e4 e5 e6)
        · intro e7
          replace e7 : n < 0 := (Int.not_le.mp e7)
          refine r_ldR_n (m := 0) F_28_23 rfl ?_
          refine r_iconst F_28_24 ?_
          refine r_virt2 (A := [vI 5]) (r := []) (n := 1) F_28_25 o_28 il_5_74 rfl rfl rfl rfl ty_0 vy_10 (lay_le n_10 rfl) ?_
          refine Cl_of n_10 rfl ?_
          show Rn _ _ _ _ [some (vR 0), some (vI 5)] [] _ _
          refine r_ldI_n (m := 1) F_10_0 rfl ?_
          refine r_iconst F_10_1 ?_
          refine r_icmpF (t := 25) F_10_2 rfl (by decide) (by decide) (by show ¬ ((5 : Int) < 1); decide) ?_
          refine r_ldI_n (m := 1) F_10_5 rfl ?_
          refine r_iconst F_10_6 ?_
          refine r_icmpF (t := 25) F_10_7 rfl (by decide) (by decide) (by show ¬ ((5 : Int) < 5); decide) ?_
          refine r_ldR_n (m := 0) F_10_10 rfl ?_
          refine r_ldI_n (m := 1) F_10_11 rfl ?_
          refine r_putI (J := 8) F_10_12 o_10 fl_5_56 ty_0 (by decide) rfl kd_0_8 pf_5_8 ?_
          refine r_ldR_n (m := 0) F_10_15 rfl ?_
          refine r_getR (J := 7) F_10_16 o_10 fl_5_52 ty_0 (by decide) rfl (kd2 kd_0_7 (by decide)) (kd9 kd_0_7 (by decide)) rf_0_7 ?_
          refine r_ldI_n (m := 1) F_10_19 rfl ?_
          refine r_dup2 F_10_20 ?_
          refine r_iald (e := (s 76 5)) F_10_21 ty_76 (by decide) (lt_ln ln_76 (by decide)) (upd_nc (by decide)) ?_
          refine r_iconst F_10_22 ?_
          refine r_iadd F_10_23 rfl ?_
          refine r_iast F_10_24 ty_76 (by decide) (lt_ln ln_76 (by decide)) ?_
          refine r_bipush F_10_25 bi__3 ?_
          refine r_ireturn F_10_27 rt_10 ?_
          show Rn _ _ _ _ _ [vI (-3)] _ _
          refine r_ireturn F_28_28 rt_28 ?_
          exact (l7 e2 e4 e5 e7)
      · intro e8
        replace e8 : 60 < n := (Int.not_le.mp e8)
        refine r_iconst F_28_17 ?_
        refine r_ireturn F_28_18 rt_28 ?_
        exact (l8 e2 e4 e8)
theorem t_X5_put {X : m_X} {d : Nat} {s : m_St} {P : Option Value → m_St → Prop} {t j v : Int}
    (l1 : inR t)
    (l2 : t < 0 → P (some (vI (-1))) s)
    (l3 : 0 ≤ t → 4 ≤ t → P (some (vI (-1))) s)
    (l4 : 0 ≤ t → t < 4 → inR (s 11 t))
    (l5 : 0 ≤ t → t < 4 → (s 11 t) = (-1) → P (some (vI (-3))) (m_upd (m_upd s 0 8 1) 76 1 ((s 76 1) + 1)))
    (l6 : 0 ≤ t → t < 4 → ¬ (s 11 t) = (-1) → inR j)
    (l7 : 0 ≤ t → t < 4 → ¬ (s 11 t) = (-1) → j < 0 → P (some (vI (-3))) (m_upd (m_upd s 0 8 2) 76 2 ((s 76 2) + 1)))
    (l8 : 0 ≤ t → t < 4 → ¬ (s 11 t) = (-1) → 0 ≤ j → inR ((s 11 t) - 1))
    (l9 : 0 ≤ t → t < 4 → ¬ (s 11 t) = (-1) → 0 ≤ j → ((s 11 t) - 1) < j → P (some (vI (-3))) (m_upd (m_upd s 0 8 2) 76 2 ((s 76 2) + 1)))
    (l10 : 0 ≤ t → t < 4 → ¬ (s 11 t) = (-1) → 0 ≤ j → j ≤ ((s 11 t) - 1) → j < (s 11 t))
    (l11 : 0 ≤ t → t < 4 → ¬ (s 11 t) = (-1) → 0 ≤ j → j ≤ ((s 11 t) - 1) → (s 11 t) ≤ 60)
    (l12 : 0 ≤ t → t < 4 → ¬ (s 11 t) = (-1) → 0 ≤ j → j ≤ ((s 11 t) - 1) → P (some (vI ((s (13 + t) j) + 1000))) (m_upd s (13 + t) j (i2B v)))
    : Cl X (d + 5) 29 [vR 0, vI t, vI j, vI v] s P := by
  refine Cl_of n_29 rfl ?_
  show Rn _ _ _ _ [some (vR 0), some (vI t), some (vI j), some (vI v), none, none] [] _ _
  refine r_ldR_n (m := 0) F_29_0 rfl ?_
  refine r_ldR_n (m := 0) F_29_1 rfl ?_
  refine r_getR (J := 1) F_29_2 o_29 fl_5_18 ty_0 (by decide) rfl (kd2 kd_0_1 (by decide)) (kd9 kd_0_1 (by decide)) rf_0_1 ?_
  refine r_ldI_n (m := 1) F_29_5 rfl ?_
  refine r_ldI_n (m := 2) F_29_6 rfl ?_
  refine r_virt2 (A := [vR 10, vI t, vI j]) (r := []) (n := 3) F_29_7 o_29 il_5_82 rfl rfl rfl rfl ty_0 vy_13 (lay_le n_13 rfl) ?_
  refine Cl_of n_13 rfl ?_
  show Rn _ _ _ _ [some (vR 0), some (vR 10), some (vI t), some (vI j), none] [] _ _
  refine r_ldR_n (m := 0) F_13_0 rfl ?_
  refine r_ldR_n (m := 1) F_13_1 rfl ?_
  refine r_ldI_n (m := 2) F_13_2 rfl ?_
  refine r_virt2 (A := [vR 10, vI t]) (r := []) (n := 2) F_13_3 o_13 il_5_96 rfl rfl rfl rfl ty_0 vy_14 (lay_le n_14 rfl) ?_
  refine Cl_of n_14 rfl ?_
  show Rn _ _ _ _ [some (vR 0), some (vR 10), some (vI t)] [] _ _
  refine r_ldR_n (m := 1) F_14_0 rfl ?_
  refine r_ldI_n (m := 2) F_14_1 rfl ?_
  refine r_virt2 (A := [vI t]) (r := []) (n := 1) F_14_2 o_14 il_5_70 rfl rfl rfl rfl ty_10 vy_9 (lay_le n_9 rfl) ?_
  refine Cl_of n_9 rfl ?_
  show Rn _ _ _ _ [some (vR 10), some (vI t)] [] _ _
  refine r_ldI_n (m := 1) F_9_0 rfl ?_
  refine r_if (t := 17) F_9_1 rfl l1 ?_ ?_
  · intro e1
    replace e1 : t < 0 := e1
    refine r_iconst F_9_17 ?_
    refine r_zreturn F_9_18 rt_9 (Or.inl rfl) ?_
    show Rn _ _ _ _ _ [vI 0] _ _
    refine r_ifF (t := 10) F_14_5 rfl (by decide) (by show ¬ (¬ (0 : Int) = 0); decide) ?_
    refine r_iconst F_14_8 ?_
    refine r_ireturn F_14_9 rt_14 ?_
    show Rn _ _ _ _ _ [vI (-1)] _ _
    refine r_stI (m := 4) (L' := [some (vR 0), some (vR 10), some (vI t), some (vI j), some (vI (-1))]) F_13_6 rfl rfl ?_
    refine r_ldI (m := 4) F_13_8 rfl ?_
    refine r_ifF (t := 16) F_13_10 rfl (by decide) (by show ¬ (((-1) : Int) = 0); decide) ?_
    refine r_ldI (m := 4) F_13_13 rfl ?_
    refine r_ireturn F_13_15 rt_13 ?_
    show Rn _ _ _ _ _ [vI (-1)] _ _
    refine r_stI (m := 4) (L' := [some (vR 0), some (vI t), some (vI j), some (vI v), some (vI (-1)), none]) F_29_10 rfl rfl ?_
    refine r_ldI (m := 4) F_29_12 rfl ?_
    refine r_ifF (t := 20) F_29_14 rfl (by decide) (by show ¬ (((-1) : Int) = 0); decide) ?_
    refine r_ldI (m := 4) F_29_17 rfl ?_
    refine r_ireturn F_29_19 rt_29 ?_
    exact (l2 e1)
  · intro e2
    replace e2 : 0 ≤ t := (Int.not_lt.mp e2)
    refine r_ldI_n (m := 1) F_9_4 rfl ?_
    refine r_ldR_n (m := 0) F_9_5 rfl ?_
    refine r_getR (J := 0) F_9_6 o_9 fl_3_19 ty_10 (by decide) rfl (kd2 kd_10_0 (by decide)) (kd9 kd_10_0 (by decide)) rf_10_0 ?_
    refine r_alen F_9_9 ty_11 (by decide) ln_11 ?_
    refine r_icmp (t := 17) F_9_10 rfl l1 (by decide) ?_ ?_
    · intro e3
      replace e3 : 4 ≤ t := e3
      refine r_iconst F_9_17 ?_
      refine r_zreturn F_9_18 rt_9 (Or.inl rfl) ?_
      show Rn _ _ _ _ _ [vI 0] _ _
      refine r_ifF (t := 10) F_14_5 rfl (by decide) (by show ¬ (¬ (0 : Int) = 0); decide) ?_
      refine r_iconst F_14_8 ?_
      refine r_ireturn F_14_9 rt_14 ?_
      show Rn _ _ _ _ _ [vI (-1)] _ _
      refine r_stI (m := 4) (L' := [some (vR 0), some (vR 10), some (vI t), some (vI j), some (vI (-1))]) F_13_6 rfl rfl ?_
      refine r_ldI (m := 4) F_13_8 rfl ?_
      refine r_ifF (t := 16) F_13_10 rfl (by decide) (by show ¬ (((-1) : Int) = 0); decide) ?_
      refine r_ldI (m := 4) F_13_13 rfl ?_
      refine r_ireturn F_13_15 rt_13 ?_
      show Rn _ _ _ _ _ [vI (-1)] _ _
      refine r_stI (m := 4) (L' := [some (vR 0), some (vI t), some (vI j), some (vI v), some (vI (-1)), none]) F_29_10 rfl rfl ?_
      refine r_ldI (m := 4) F_29_12 rfl ?_
      refine r_ifF (t := 20) F_29_14 rfl (by decide) (by show ¬ (((-1) : Int) = 0); decide) ?_
      refine r_ldI (m := 4) F_29_17 rfl ?_
      refine r_ireturn F_29_19 rt_29 ?_
      exact (l3 e2 e3)
    · intro e4
      replace e4 : t < 4 := (Int.not_le.mp e4)
      refine r_iconst F_9_13 ?_
      refine r_goto (t := 18) F_9_14 rfl ?_
      refine r_zreturn F_9_18 rt_9 (Or.inr rfl) ?_
      show Rn _ _ _ _ _ [vI 1] _ _
      refine r_ifT (t := 10) F_14_5 rfl (by decide) (by show ¬ (1 : Int) = 0; decide) ?_
      refine r_ldR_n (m := 1) F_14_10 rfl ?_
      refine r_ldI_n (m := 2) F_14_11 rfl ?_
      refine r_virt2 (A := [vI t]) (r := []) (n := 1) F_14_12 o_14 il_5_104 rfl rfl rfl rfl ty_10 vy_15 (lay_le n_15 rfl) ?_
      refine Cl_of n_15 rfl ?_
      show Rn _ _ _ _ [some (vR 10), some (vI t)] [] _ _
      refine r_ldR_n (m := 0) F_15_0 rfl ?_
      refine r_ldI_n (m := 1) F_15_1 rfl ?_
      refine r_virt2 (A := [vI t]) (r := []) (n := 1) F_15_2 o_15 il_3_28 rfl rfl rfl rfl ty_10 vy_16 (lay_le n_16 rfl) ?_
      refine Cl_of n_16 rfl ?_
      show Rn _ _ _ _ [some (vR 10), some (vI t)] [] _ _
      refine r_ldR_n (m := 0) F_16_0 rfl ?_
      refine r_ldI_n (m := 1) F_16_1 rfl ?_
      refine r_virt2 (A := [vI t]) (r := []) (n := 1) F_16_2 o_16 il_3_32 rfl rfl rfl rfl ty_10 vy_9 (lay_le n_9 rfl) ?_
      refine Cl_of n_9 rfl ?_
      show Rn _ _ _ _ [some (vR 10), some (vI t)] [] _ _
      refine r_ldI_n (m := 1) F_9_0 rfl ?_
      refine r_ifF (t := 17) F_9_1 rfl l1 (Int.not_lt.mpr e2) ?_
      refine r_ldI_n (m := 1) F_9_4 rfl ?_
      refine r_ldR_n (m := 0) F_9_5 rfl ?_
      refine r_getR (J := 0) F_9_6 o_9 fl_3_19 ty_10 (by decide) rfl (kd2 kd_10_0 (by decide)) (kd9 kd_10_0 (by decide)) rf_10_0 ?_
      refine r_alen F_9_9 ty_11 (by decide) ln_11 ?_
      refine r_icmpF (t := 17) F_9_10 rfl l1 (by decide) (Int.not_le.mpr e4) ?_
      refine r_iconst F_9_13 ?_
      refine r_goto (t := 18) F_9_14 rfl ?_
      refine r_zreturn F_9_18 rt_9 (Or.inr rfl) ?_
      show Rn _ _ _ _ _ [vI 1] _ _
      refine r_ifF (t := 17) F_16_5 rfl (by decide) (by show ¬ ((1 : Int) = 0); decide) ?_
      refine r_ldR_n (m := 0) F_16_8 rfl ?_
      refine r_getR (J := 0) F_16_9 o_16 fl_3_19 ty_10 (by decide) rfl (kd2 kd_10_0 (by decide)) (kd9 kd_10_0 (by decide)) rf_10_0 ?_
      refine r_ldI_n (m := 1) F_16_12 rfl ?_
      refine r_iald (e := (s 11 t)) F_16_13 ty_11 e2 (lt_ln ln_11 e4) rfl ?_
      refine r_goto (t := 18) F_16_14 rfl ?_
      refine r_ireturn F_16_18 rt_16 ?_
      show Rn _ _ _ _ _ [vI (s 11 t)] _ _
      refine r_iconst F_15_5 ?_
      refine r_icmp (t := 13) F_15_6 rfl (l4 e2 e4) (by decide) ?_ ?_
      · intro e5
        replace e5 : (s 11 t) = (-1) := e5
        refine r_iconst F_15_13 ?_
        refine r_zreturn F_15_14 rt_15 (Or.inl rfl) ?_
        show Rn _ _ _ _ _ [vI 0] _ _
        refine r_ifT (t := 22) F_14_15 rfl (by decide) (by show (0 : Int) = 0; decide) ?_
        refine r_ldR_n (m := 0) F_14_22 rfl ?_
        refine r_iconst F_14_23 ?_
        refine r_virt2 (A := [vI 1]) (r := []) (n := 1) F_14_24 o_14 il_5_74 rfl rfl rfl rfl ty_0 vy_10 (lay_le n_10 rfl) ?_
        refine Cl_of n_10 rfl ?_
        show Rn _ _ _ _ [some (vR 0), some (vI 1)] [] _ _
        refine r_ldI_n (m := 1) F_10_0 rfl ?_
        refine r_iconst F_10_1 ?_
        refine r_icmpF (t := 25) F_10_2 rfl (by decide) (by decide) (by show ¬ ((1 : Int) < 1); decide) ?_
        refine r_ldI_n (m := 1) F_10_5 rfl ?_
        refine r_iconst F_10_6 ?_
        refine r_icmpF (t := 25) F_10_7 rfl (by decide) (by decide) (by show ¬ ((5 : Int) < 1); decide) ?_
        refine r_ldR_n (m := 0) F_10_10 rfl ?_
        refine r_ldI_n (m := 1) F_10_11 rfl ?_
        refine r_putI (J := 8) F_10_12 o_10 fl_5_56 ty_0 (by decide) rfl kd_0_8 pf_5_8 ?_
        refine r_ldR_n (m := 0) F_10_15 rfl ?_
        refine r_getR (J := 7) F_10_16 o_10 fl_5_52 ty_0 (by decide) rfl (kd2 kd_0_7 (by decide)) (kd9 kd_0_7 (by decide)) rf_0_7 ?_
        refine r_ldI_n (m := 1) F_10_19 rfl ?_
        refine r_dup2 F_10_20 ?_
        refine r_iald (e := (s 76 1)) F_10_21 ty_76 (by decide) (lt_ln ln_76 (by decide)) (upd_nc (by decide)) ?_
        refine r_iconst F_10_22 ?_
        refine r_iadd F_10_23 rfl ?_
        refine r_iast F_10_24 ty_76 (by decide) (lt_ln ln_76 (by decide)) ?_
        refine r_bipush F_10_25 bi__3 ?_
        refine r_ireturn F_10_27 rt_10 ?_
        show Rn _ _ _ _ _ [vI (-3)] _ _
        refine r_ireturn F_14_27 rt_14 ?_
        show Rn _ _ _ _ _ [vI (-3)] _ _
        refine r_stI (m := 4) (L' := [some (vR 0), some (vR 10), some (vI t), some (vI j), some (vI (-3))]) F_13_6 rfl rfl ?_
        refine r_ldI (m := 4) F_13_8 rfl ?_
        refine r_ifF (t := 16) F_13_10 rfl (by decide) (by show ¬ (((-3) : Int) = 0); decide) ?_
        refine r_ldI (m := 4) F_13_13 rfl ?_
        refine r_ireturn F_13_15 rt_13 ?_
        show Rn _ _ _ _ _ [vI (-3)] _ _
        refine r_stI (m := 4) (L' := [some (vR 0), some (vI t), some (vI j), some (vI v), some (vI (-3)), none]) F_29_10 rfl rfl ?_
        refine r_ldI (m := 4) F_29_12 rfl ?_
        refine r_ifF (t := 20) F_29_14 rfl (by decide) (by show ¬ (((-3) : Int) = 0); decide) ?_
        refine r_ldI (m := 4) F_29_17 rfl ?_
        refine r_ireturn F_29_19 rt_29 ?_
        exact (l5 e2 e4 e5)
      · intro e6
        replace e6 : ¬ (s 11 t) = (-1) := e6
        refine r_iconst F_15_9 ?_
        refine r_goto (t := 14) F_15_10 rfl ?_
        refine r_zreturn F_15_14 rt_15 (Or.inr rfl) ?_
        show Rn _ _ _ _ _ [vI 1] _ _
        refine r_ifF (t := 22) F_14_15 rfl (by decide) (by show ¬ ((1 : Int) = 0); decide) ?_
        refine r_iconst F_14_18 ?_
        refine r_goto (t := 27) F_14_19 rfl ?_
        refine r_ireturn F_14_27 rt_14 ?_
        show Rn _ _ _ _ _ [vI 0] _ _
        refine r_stI (m := 4) (L' := [some (vR 0), some (vR 10), some (vI t), some (vI j), some (vI 0)]) F_13_6 rfl rfl ?_
        refine r_ldI (m := 4) F_13_8 rfl ?_
        refine r_ifT (t := 16) F_13_10 rfl (by decide) (by show (0 : Int) = 0; decide) ?_
        refine r_ldR_n (m := 1) F_13_16 rfl ?_
        refine r_ldI_n (m := 2) F_13_17 rfl ?_
        refine r_ldI_n (m := 3) F_13_18 rfl ?_
        refine r_iconst F_13_19 ?_
        refine r_virt2 (A := [vI t, vI j, vI 1]) (r := []) (n := 3) F_13_20 o_13 il_5_107 rfl rfl rfl rfl ty_10 vy_17 (lay_le n_17 rfl) ?_
        refine Cl_of n_17 rfl ?_
        show Rn _ _ _ _ [some (vR 10), some (vI t), some (vI j), some (vI 1)] [] _ _
        refine r_ldR_n (m := 0) F_17_0 rfl ?_
        refine r_ldI_n (m := 1) F_17_1 rfl ?_
        refine r_virt2 (A := [vI t]) (r := []) (n := 1) F_17_2 o_17 il_3_36 rfl rfl rfl rfl ty_10 vy_15 (lay_le n_15 rfl) ?_
        refine Cl_of n_15 rfl ?_
        show Rn _ _ _ _ [some (vR 10), some (vI t)] [] _ _
        refine r_ldR_n (m := 0) F_15_0 rfl ?_
        refine r_ldI_n (m := 1) F_15_1 rfl ?_
        refine r_virt2 (A := [vI t]) (r := []) (n := 1) F_15_2 o_15 il_3_28 rfl rfl rfl rfl ty_10 vy_16 (lay_le n_16 rfl) ?_
        refine Cl_of n_16 rfl ?_
        show Rn _ _ _ _ [some (vR 10), some (vI t)] [] _ _
        refine r_ldR_n (m := 0) F_16_0 rfl ?_
        refine r_ldI_n (m := 1) F_16_1 rfl ?_
        refine r_virt2 (A := [vI t]) (r := []) (n := 1) F_16_2 o_16 il_3_32 rfl rfl rfl rfl ty_10 vy_9 (lay_le n_9 rfl) ?_
        refine Cl_of n_9 rfl ?_
        show Rn _ _ _ _ [some (vR 10), some (vI t)] [] _ _
        refine r_ldI_n (m := 1) F_9_0 rfl ?_
        refine r_ifF (t := 17) F_9_1 rfl l1 (Int.not_lt.mpr e2) ?_
        refine r_ldI_n (m := 1) F_9_4 rfl ?_
        refine r_ldR_n (m := 0) F_9_5 rfl ?_
        refine r_getR (J := 0) F_9_6 o_9 fl_3_19 ty_10 (by decide) rfl (kd2 kd_10_0 (by decide)) (kd9 kd_10_0 (by decide)) rf_10_0 ?_
        refine r_alen F_9_9 ty_11 (by decide) ln_11 ?_
        refine r_icmpF (t := 17) F_9_10 rfl l1 (by decide) (Int.not_le.mpr e4) ?_
        refine r_iconst F_9_13 ?_
        refine r_goto (t := 18) F_9_14 rfl ?_
        refine r_zreturn F_9_18 rt_9 (Or.inr rfl) ?_
        show Rn _ _ _ _ _ [vI 1] _ _
        refine r_ifF (t := 17) F_16_5 rfl (by decide) (by show ¬ ((1 : Int) = 0); decide) ?_
        refine r_ldR_n (m := 0) F_16_8 rfl ?_
        refine r_getR (J := 0) F_16_9 o_16 fl_3_19 ty_10 (by decide) rfl (kd2 kd_10_0 (by decide)) (kd9 kd_10_0 (by decide)) rf_10_0 ?_
        refine r_ldI_n (m := 1) F_16_12 rfl ?_
        refine r_iald (e := (s 11 t)) F_16_13 ty_11 e2 (lt_ln ln_11 e4) rfl ?_
        refine r_goto (t := 18) F_16_14 rfl ?_
        refine r_ireturn F_16_18 rt_16 ?_
        show Rn _ _ _ _ _ [vI (s 11 t)] _ _
        refine r_iconst F_15_5 ?_
        refine r_icmpF (t := 13) F_15_6 rfl (l4 e2 e4) (by decide) e6 ?_
        refine r_iconst F_15_9 ?_
        refine r_goto (t := 14) F_15_10 rfl ?_
        refine r_zreturn F_15_14 rt_15 (Or.inr rfl) ?_
        show Rn _ _ _ _ _ [vI 1] _ _
        refine r_ifF (t := 31) F_17_5 rfl (by decide) (by show ¬ ((1 : Int) = 0); decide) ?_
        refine r_ldI_n (m := 2) F_17_8 rfl ?_
        refine r_if (t := 31) F_17_9 rfl (l6 e2 e4 e6) ?_ ?_
        · intro e7
          replace e7 : j < 0 := e7
          refine r_iconst F_17_31 ?_
          refine r_zreturn F_17_32 rt_17 (Or.inl rfl) ?_
          show Rn _ _ _ _ _ [vI 0] _ _
          refine r_ifT (t := 30) F_13_23 rfl (by decide) (by show (0 : Int) = 0; decide) ?_
          refine r_ldR_n (m := 0) F_13_30 rfl ?_
          refine r_iconst F_13_31 ?_
          refine r_virt2 (A := [vI 2]) (r := []) (n := 1) F_13_32 o_13 il_5_74 rfl rfl rfl rfl ty_0 vy_10 (lay_le n_10 rfl) ?_
          refine Cl_of n_10 rfl ?_
          show Rn _ _ _ _ [some (vR 0), some (vI 2)] [] _ _
          refine r_ldI_n (m := 1) F_10_0 rfl ?_
          refine r_iconst F_10_1 ?_
          refine r_icmpF (t := 25) F_10_2 rfl (by decide) (by decide) (by show ¬ ((2 : Int) < 1); decide) ?_
          refine r_ldI_n (m := 1) F_10_5 rfl ?_
          refine r_iconst F_10_6 ?_
          refine r_icmpF (t := 25) F_10_7 rfl (by decide) (by decide) (by show ¬ ((5 : Int) < 2); decide) ?_
          refine r_ldR_n (m := 0) F_10_10 rfl ?_
          refine r_ldI_n (m := 1) F_10_11 rfl ?_
          refine r_putI (J := 8) F_10_12 o_10 fl_5_56 ty_0 (by decide) rfl kd_0_8 pf_5_8 ?_
          refine r_ldR_n (m := 0) F_10_15 rfl ?_
          refine r_getR (J := 7) F_10_16 o_10 fl_5_52 ty_0 (by decide) rfl (kd2 kd_0_7 (by decide)) (kd9 kd_0_7 (by decide)) rf_0_7 ?_
          refine r_ldI_n (m := 1) F_10_19 rfl ?_
          refine r_dup2 F_10_20 ?_
          refine r_iald (e := (s 76 2)) F_10_21 ty_76 (by decide) (lt_ln ln_76 (by decide)) (upd_nc (by decide)) ?_
          refine r_iconst F_10_22 ?_
          refine r_iadd F_10_23 rfl ?_
          refine r_iast F_10_24 ty_76 (by decide) (lt_ln ln_76 (by decide)) ?_
          refine r_bipush F_10_25 bi__3 ?_
          refine r_ireturn F_10_27 rt_10 ?_
          show Rn _ _ _ _ _ [vI (-3)] _ _
          refine r_ireturn F_13_35 rt_13 ?_
          show Rn _ _ _ _ _ [vI (-3)] _ _
          refine r_stI (m := 4) (L' := [some (vR 0), some (vI t), some (vI j), some (vI v), some (vI (-3)), none]) F_29_10 rfl rfl ?_
          refine r_ldI (m := 4) F_29_12 rfl ?_
          refine r_ifF (t := 20) F_29_14 rfl (by decide) (by show ¬ (((-3) : Int) = 0); decide) ?_
          refine r_ldI (m := 4) F_29_17 rfl ?_
          refine r_ireturn F_29_19 rt_29 ?_
          exact (l7 e2 e4 e6 e7)
        · intro e8
          replace e8 : 0 ≤ j := (Int.not_lt.mp e8)
          refine r_ldI_n (m := 3) F_17_12 rfl ?_
          refine r_ifF (t := 31) F_17_13 rfl (by decide) (by show ¬ ((1 : Int) < 0); decide) ?_
          refine r_ldI_n (m := 2) F_17_16 rfl ?_
          refine r_ldR_n (m := 0) F_17_17 rfl ?_
          refine r_ldI_n (m := 1) F_17_18 rfl ?_
          refine r_virt2 (A := [vI t]) (r := [vI j]) (n := 1) F_17_19 o_17 il_3_28 rfl rfl rfl rfl ty_10 vy_16 (lay_le n_16 rfl) ?_
          refine Cl_of n_16 rfl ?_
          show Rn _ _ _ _ [some (vR 10), some (vI t)] [] _ _
          refine r_ldR_n (m := 0) F_16_0 rfl ?_
          refine r_ldI_n (m := 1) F_16_1 rfl ?_
          refine r_virt2 (A := [vI t]) (r := []) (n := 1) F_16_2 o_16 il_3_32 rfl rfl rfl rfl ty_10 vy_9 (lay_le n_9 rfl) ?_
          refine Cl_of n_9 rfl ?_
          show Rn _ _ _ _ [some (vR 10), some (vI t)] [] _ _
          refine r_ldI_n (m := 1) F_9_0 rfl ?_
          refine r_ifF (t := 17) F_9_1 rfl l1 (Int.not_lt.mpr e2) ?_
          refine r_ldI_n (m := 1) F_9_4 rfl ?_
          refine r_ldR_n (m := 0) F_9_5 rfl ?_
          refine r_getR (J := 0) F_9_6 o_9 fl_3_19 ty_10 (by decide) rfl (kd2 kd_10_0 (by decide)) (kd9 kd_10_0 (by decide)) rf_10_0 ?_
          refine r_alen F_9_9 ty_11 (by decide) ln_11 ?_
          refine r_icmpF (t := 17) F_9_10 rfl l1 (by decide) (Int.not_le.mpr e4) ?_
          refine r_iconst F_9_13 ?_
          refine r_goto (t := 18) F_9_14 rfl ?_
          refine r_zreturn F_9_18 rt_9 (Or.inr rfl) ?_
          show Rn _ _ _ _ _ [vI 1] _ _
          refine r_ifF (t := 17) F_16_5 rfl (by decide) (by show ¬ ((1 : Int) = 0); decide) ?_
          refine r_ldR_n (m := 0) F_16_8 rfl ?_
          refine r_getR (J := 0) F_16_9 o_16 fl_3_19 ty_10 (by decide) rfl (kd2 kd_10_0 (by decide)) (kd9 kd_10_0 (by decide)) rf_10_0 ?_
          refine r_ldI_n (m := 1) F_16_12 rfl ?_
          refine r_iald (e := (s 11 t)) F_16_13 ty_11 e2 (lt_ln ln_11 e4) rfl ?_
          refine r_goto (t := 18) F_16_14 rfl ?_
          refine r_ireturn F_16_18 rt_16 ?_
          show Rn _ _ _ _ _ [vI (s 11 t), vI j] _ _
          refine r_ldI_n (m := 3) F_17_22 rfl ?_
          refine r_isub F_17_23 rfl ?_
          refine r_icmp (t := 31) F_17_24 rfl (l6 e2 e4 e6) (l8 e2 e4 e6 e8) ?_ ?_
          · intro e9
            replace e9 : ((s 11 t) - 1) < j := e9
            refine r_iconst F_17_31 ?_
            refine r_zreturn F_17_32 rt_17 (Or.inl rfl) ?_
            show Rn _ _ _ _ _ [vI 0] _ _
            refine r_ifT (t := 30) F_13_23 rfl (by decide) (by show (0 : Int) = 0; decide) ?_
            refine r_ldR_n (m := 0) F_13_30 rfl ?_
            refine r_iconst F_13_31 ?_
            refine r_virt2 (A := [vI 2]) (r := []) (n := 1) F_13_32 o_13 il_5_74 rfl rfl rfl rfl ty_0 vy_10 (lay_le n_10 rfl) ?_
            refine Cl_of n_10 rfl ?_
            show Rn _ _ _ _ [some (vR 0), some (vI 2)] [] _ _
            refine r_ldI_n (m := 1) F_10_0 rfl ?_
            refine r_iconst F_10_1 ?_
            refine r_icmpF (t := 25) F_10_2 rfl (by decide) (by decide) (by show ¬ ((2 : Int) < 1); decide) ?_
            refine r_ldI_n (m := 1) F_10_5 rfl ?_
            refine r_iconst F_10_6 ?_
            refine r_icmpF (t := 25) F_10_7 rfl (by decide) (by decide) (by show ¬ ((5 : Int) < 2); decide) ?_
            refine r_ldR_n (m := 0) F_10_10 rfl ?_
            refine r_ldI_n (m := 1) F_10_11 rfl ?_
            refine r_putI (J := 8) F_10_12 o_10 fl_5_56 ty_0 (by decide) rfl kd_0_8 pf_5_8 ?_
            refine r_ldR_n (m := 0) F_10_15 rfl ?_
            refine r_getR (J := 7) F_10_16 o_10 fl_5_52 ty_0 (by decide) rfl (kd2 kd_0_7 (by decide)) (kd9 kd_0_7 (by decide)) rf_0_7 ?_
            refine r_ldI_n (m := 1) F_10_19 rfl ?_
            refine r_dup2 F_10_20 ?_
            refine r_iald (e := (s 76 2)) F_10_21 ty_76 (by decide) (lt_ln ln_76 (by decide)) (upd_nc (by decide)) ?_
            refine r_iconst F_10_22 ?_
            refine r_iadd F_10_23 rfl ?_
            refine r_iast F_10_24 ty_76 (by decide) (lt_ln ln_76 (by decide)) ?_
            refine r_bipush F_10_25 bi__3 ?_
            refine r_ireturn F_10_27 rt_10 ?_
            show Rn _ _ _ _ _ [vI (-3)] _ _
            refine r_ireturn F_13_35 rt_13 ?_
            show Rn _ _ _ _ _ [vI (-3)] _ _
            refine r_stI (m := 4) (L' := [some (vR 0), some (vI t), some (vI j), some (vI v), some (vI (-3)), none]) F_29_10 rfl rfl ?_
            refine r_ldI (m := 4) F_29_12 rfl ?_
            refine r_ifF (t := 20) F_29_14 rfl (by decide) (by show ¬ (((-3) : Int) = 0); decide) ?_
            refine r_ldI (m := 4) F_29_17 rfl ?_
            refine r_ireturn F_29_19 rt_29 ?_
            exact (l9 e2 e4 e6 e8 e9)
          · intro e10
            replace e10 : j ≤ ((s 11 t) - 1) := (Int.not_lt.mp e10)
            refine r_iconst F_17_27 ?_
            refine r_goto (t := 32) F_17_28 rfl ?_
            refine r_zreturn F_17_32 rt_17 (Or.inr rfl) ?_
            show Rn _ _ _ _ _ [vI 1] _ _
            refine r_ifF (t := 30) F_13_23 rfl (by decide) (by show ¬ ((1 : Int) = 0); decide) ?_
            refine r_iconst F_13_26 ?_
            refine r_goto (t := 35) F_13_27 rfl ?_
            refine r_ireturn F_13_35 rt_13 ?_
            show Rn _ _ _ _ _ [vI 0] _ _
            refine r_stI (m := 4) (L' := [some (vR 0), some (vI t), some (vI j), some (vI v), some (vI 0), none]) F_29_10 rfl rfl ?_
            refine r_ldI (m := 4) F_29_12 rfl ?_
            refine r_ifT (t := 20) F_29_14 rfl (by decide) (by show (0 : Int) = 0; decide) ?_
            refine r_ldR_n (m := 0) F_29_20 rfl ?_
            refine r_getR (J := 1) F_29_21 o_29 fl_5_18 ty_0 (by decide) rfl (kd2 kd_0_1 (by decide)) (kd9 kd_0_1 (by decide)) rf_0_1 ?_
            refine r_ldI_n (m := 1) F_29_24 rfl ?_
            refine r_ldI_n (m := 2) F_29_25 rfl ?_
            refine r_virt2 (A := [vI t, vI j]) (r := []) (n := 2) F_29_26 o_29 il_5_86 rfl rfl rfl rfl ty_10 vy_18 (lay_le n_18 rfl) ?_
            refine sp_get10 e2 e4 e8 (l10 e2 e4 e6 e8 e10) (l11 e2 e4 e6 e8 e10) ?_
            show Rn _ _ _ _ _ [vI (s (13 + t) j)] _ _
            refine r_stI (m := 5) (L' := [some (vR 0), some (vI t), some (vI j), some (vI v), some (vI 0), some (vI (s (13 + t) j))]) F_29_29 rfl rfl ?_
            refine r_ldR_n (m := 0) F_29_31 rfl ?_
            refine r_getR (J := 1) F_29_32 o_29 fl_5_18 ty_0 (by decide) rfl (kd2 kd_0_1 (by decide)) (kd9 kd_0_1 (by decide)) rf_0_1 ?_
            refine r_ldI_n (m := 1) F_29_35 rfl ?_
            refine r_ldI_n (m := 2) F_29_36 rfl ?_
            refine r_ldI_n (m := 3) F_29_37 rfl ?_
            refine r_i2b F_29_38 ?_
            refine r_virt2 (A := [vI t, vI j, vI (i2B v)]) (r := []) (n := 3) F_29_39 o_29 il_5_90 rfl rfl rfl rfl ty_10 vy_19 (lay_le n_19 rfl) ?_
            refine sp_set10 e2 e4 e8 (l10 e2 e4 e6 e8 e10) (l11 e2 e4 e6 e8 e10) ?_
            show Rn _ _ _ _ _ [] _ _
            refine r_ldI (m := 5) F_29_42 rfl ?_
            refine r_sipush F_29_44 si_1000 ?_
            refine r_iadd F_29_47 rfl ?_
            refine r_ireturn F_29_48 rt_29 ?_
            exact (l12 e2 e4 e6 e8 e10)
theorem t_X5_fault {X : m_X} {d : Nat} {s : m_St} {P : Option Value → m_St → Prop} {t : Int}
    (l1 : inR t)
    (l2 : t < 0 → P (some (vI (-1))) s)
    (l3 : 0 ≤ t → 4 ≤ t → P (some (vI (-1))) s)
    (l4 : 0 ≤ t → t < 4 → inR (s 11 t))
    (l5 : 0 ≤ t → t < 4 → (s 11 t) = (-1) → P (some (vI (-3))) (m_upd (m_upd s 0 8 1) 76 1 ((s 76 1) + 1)))
    (l6 : 0 ≤ t → t < 4 → ¬ (s 11 t) = (-1) → tok (s 11 t) (s (13 + t)))
    (l7 : 0 ≤ t → t < 4 → ¬ (s 11 t) = (-1) → rgk s)
    (l8 : 0 ≤ t → t < 4 → ¬ (s 11 t) = (-1) → ∀ (v7 : Int) (s7 : m_St), qD s t v7 s7 → P (some (vI v7)) s7)
    : Cl X (d + 7) 30 [vR 0, vI t] s P := by
  refine Cl_of n_30 rfl ?_
  show Rn _ _ _ _ [some (vR 0), some (vI t), none] [] _ _
  refine r_ldR_n (m := 0) F_30_0 rfl ?_
  refine r_ldR_n (m := 0) F_30_1 rfl ?_
  refine r_getR (J := 1) F_30_2 o_30 fl_5_18 ty_0 (by decide) rfl (kd2 kd_0_1 (by decide)) (kd9 kd_0_1 (by decide)) rf_0_1 ?_
  refine r_ldI_n (m := 1) F_30_5 rfl ?_
  refine r_virt2 (A := [vR 10, vI t]) (r := []) (n := 2) F_30_6 o_30 il_5_96 rfl rfl rfl rfl ty_0 vy_14 (lay_le n_14 rfl) ?_
  refine Cl_of n_14 rfl ?_
  show Rn _ _ _ _ [some (vR 0), some (vR 10), some (vI t)] [] _ _
  refine r_ldR_n (m := 1) F_14_0 rfl ?_
  refine r_ldI_n (m := 2) F_14_1 rfl ?_
  refine r_virt2 (A := [vI t]) (r := []) (n := 1) F_14_2 o_14 il_5_70 rfl rfl rfl rfl ty_10 vy_9 (lay_le n_9 rfl) ?_
  refine Cl_of n_9 rfl ?_
  show Rn _ _ _ _ [some (vR 10), some (vI t)] [] _ _
  refine r_ldI_n (m := 1) F_9_0 rfl ?_
  refine r_if (t := 17) F_9_1 rfl l1 ?_ ?_
  · intro e1
    replace e1 : t < 0 := e1
    refine r_iconst F_9_17 ?_
    refine r_zreturn F_9_18 rt_9 (Or.inl rfl) ?_
    show Rn _ _ _ _ _ [vI 0] _ _
    refine r_ifF (t := 10) F_14_5 rfl (by decide) (by show ¬ (¬ (0 : Int) = 0); decide) ?_
    refine r_iconst F_14_8 ?_
    refine r_ireturn F_14_9 rt_14 ?_
    show Rn _ _ _ _ _ [vI (-1)] _ _
    refine r_stI_n (m := 2) (L' := [some (vR 0), some (vI t), some (vI (-1))]) F_30_9 rfl rfl ?_
    refine r_ldI_n (m := 2) F_30_10 rfl ?_
    refine r_ifF (t := 18) F_30_11 rfl (by decide) (by show ¬ (((-1) : Int) = 0); decide) ?_
    refine r_ldI_n (m := 2) F_30_14 rfl ?_
    refine r_goto (t := 30) F_30_15 rfl ?_
    refine r_ireturn F_30_30 rt_30 ?_
    exact (l2 e1)
  · intro e2
    replace e2 : 0 ≤ t := (Int.not_lt.mp e2)
    refine r_ldI_n (m := 1) F_9_4 rfl ?_
    refine r_ldR_n (m := 0) F_9_5 rfl ?_
    refine r_getR (J := 0) F_9_6 o_9 fl_3_19 ty_10 (by decide) rfl (kd2 kd_10_0 (by decide)) (kd9 kd_10_0 (by decide)) rf_10_0 ?_
    refine r_alen F_9_9 ty_11 (by decide) ln_11 ?_
    refine r_icmp (t := 17) F_9_10 rfl l1 (by decide) ?_ ?_
    · intro e3
      replace e3 : 4 ≤ t := e3
      refine r_iconst F_9_17 ?_
      refine r_zreturn F_9_18 rt_9 (Or.inl rfl) ?_
      show Rn _ _ _ _ _ [vI 0] _ _
      refine r_ifF (t := 10) F_14_5 rfl (by decide) (by show ¬ (¬ (0 : Int) = 0); decide) ?_
      refine r_iconst F_14_8 ?_
      refine r_ireturn F_14_9 rt_14 ?_
      show Rn _ _ _ _ _ [vI (-1)] _ _
      refine r_stI_n (m := 2) (L' := [some (vR 0), some (vI t), some (vI (-1))]) F_30_9 rfl rfl ?_
      refine r_ldI_n (m := 2) F_30_10 rfl ?_
      refine r_ifF (t := 18) F_30_11 rfl (by decide) (by show ¬ (((-1) : Int) = 0); decide) ?_
      refine r_ldI_n (m := 2) F_30_14 rfl ?_
      refine r_goto (t := 30) F_30_15 rfl ?_
      refine r_ireturn F_30_30 rt_30 ?_
      exact (l3 e2 e3)
    · intro e4
      replace e4 : t < 4 := (Int.not_le.mp e4)
      refine r_iconst F_9_13 ?_
      refine r_goto (t := 18) F_9_14 rfl ?_
      refine r_zreturn F_9_18 rt_9 (Or.inr rfl) ?_
      show Rn _ _ _ _ _ [vI 1] _ _
      refine r_ifT (t := 10) F_14_5 rfl (by decide) (by show ¬ (1 : Int) = 0; decide) ?_
      refine r_ldR_n (m := 1) F_14_10 rfl ?_
      refine r_ldI_n (m := 2) F_14_11 rfl ?_
      refine r_virt2 (A := [vI t]) (r := []) (n := 1) F_14_12 o_14 il_5_104 rfl rfl rfl rfl ty_10 vy_15 (lay_le n_15 rfl) ?_
      refine Cl_of n_15 rfl ?_
      show Rn _ _ _ _ [some (vR 10), some (vI t)] [] _ _
      refine r_ldR_n (m := 0) F_15_0 rfl ?_
      refine r_ldI_n (m := 1) F_15_1 rfl ?_
      refine r_virt2 (A := [vI t]) (r := []) (n := 1) F_15_2 o_15 il_3_28 rfl rfl rfl rfl ty_10 vy_16 (lay_le n_16 rfl) ?_
      refine Cl_of n_16 rfl ?_
      show Rn _ _ _ _ [some (vR 10), some (vI t)] [] _ _
      refine r_ldR_n (m := 0) F_16_0 rfl ?_
      refine r_ldI_n (m := 1) F_16_1 rfl ?_
      refine r_virt2 (A := [vI t]) (r := []) (n := 1) F_16_2 o_16 il_3_32 rfl rfl rfl rfl ty_10 vy_9 (lay_le n_9 rfl) ?_
      refine Cl_of n_9 rfl ?_
      show Rn _ _ _ _ [some (vR 10), some (vI t)] [] _ _
      refine r_ldI_n (m := 1) F_9_0 rfl ?_
      refine r_ifF (t := 17) F_9_1 rfl l1 (Int.not_lt.mpr e2) ?_
      refine r_ldI_n (m := 1) F_9_4 rfl ?_
      refine r_ldR_n (m := 0) F_9_5 rfl ?_
      refine r_getR (J := 0) F_9_6 o_9 fl_3_19 ty_10 (by decide) rfl (kd2 kd_10_0 (by decide)) (kd9 kd_10_0 (by decide)) rf_10_0 ?_
      refine r_alen F_9_9 ty_11 (by decide) ln_11 ?_
      refine r_icmpF (t := 17) F_9_10 rfl l1 (by decide) (Int.not_le.mpr e4) ?_
      refine r_iconst F_9_13 ?_
      refine r_goto (t := 18) F_9_14 rfl ?_
      refine r_zreturn F_9_18 rt_9 (Or.inr rfl) ?_
      show Rn _ _ _ _ _ [vI 1] _ _
      refine r_ifF (t := 17) F_16_5 rfl (by decide) (by show ¬ ((1 : Int) = 0); decide) ?_
      refine r_ldR_n (m := 0) F_16_8 rfl ?_
      refine r_getR (J := 0) F_16_9 o_16 fl_3_19 ty_10 (by decide) rfl (kd2 kd_10_0 (by decide)) (kd9 kd_10_0 (by decide)) rf_10_0 ?_
      refine r_ldI_n (m := 1) F_16_12 rfl ?_
      refine r_iald (e := (s 11 t)) F_16_13 ty_11 e2 (lt_ln ln_11 e4) rfl ?_
      refine r_goto (t := 18) F_16_14 rfl ?_
      refine r_ireturn F_16_18 rt_16 ?_
      show Rn _ _ _ _ _ [vI (s 11 t)] _ _
      refine r_iconst F_15_5 ?_
      refine r_icmp (t := 13) F_15_6 rfl (l4 e2 e4) (by decide) ?_ ?_
      · intro e5
        replace e5 : (s 11 t) = (-1) := e5
        refine r_iconst F_15_13 ?_
        refine r_zreturn F_15_14 rt_15 (Or.inl rfl) ?_
        show Rn _ _ _ _ _ [vI 0] _ _
        refine r_ifT (t := 22) F_14_15 rfl (by decide) (by show (0 : Int) = 0; decide) ?_
        refine r_ldR_n (m := 0) F_14_22 rfl ?_
        refine r_iconst F_14_23 ?_
        refine r_virt2 (A := [vI 1]) (r := []) (n := 1) F_14_24 o_14 il_5_74 rfl rfl rfl rfl ty_0 vy_10 (lay_le n_10 rfl) ?_
        refine Cl_of n_10 rfl ?_
        show Rn _ _ _ _ [some (vR 0), some (vI 1)] [] _ _
        refine r_ldI_n (m := 1) F_10_0 rfl ?_
        refine r_iconst F_10_1 ?_
        refine r_icmpF (t := 25) F_10_2 rfl (by decide) (by decide) (by show ¬ ((1 : Int) < 1); decide) ?_
        refine r_ldI_n (m := 1) F_10_5 rfl ?_
        refine r_iconst F_10_6 ?_
        refine r_icmpF (t := 25) F_10_7 rfl (by decide) (by decide) (by show ¬ ((5 : Int) < 1); decide) ?_
        refine r_ldR_n (m := 0) F_10_10 rfl ?_
        refine r_ldI_n (m := 1) F_10_11 rfl ?_
        refine r_putI (J := 8) F_10_12 o_10 fl_5_56 ty_0 (by decide) rfl kd_0_8 pf_5_8 ?_
        refine r_ldR_n (m := 0) F_10_15 rfl ?_
        refine r_getR (J := 7) F_10_16 o_10 fl_5_52 ty_0 (by decide) rfl (kd2 kd_0_7 (by decide)) (kd9 kd_0_7 (by decide)) rf_0_7 ?_
        refine r_ldI_n (m := 1) F_10_19 rfl ?_
        refine r_dup2 F_10_20 ?_
        refine r_iald (e := (s 76 1)) F_10_21 ty_76 (by decide) (lt_ln ln_76 (by decide)) (upd_nc (by decide)) ?_
        refine r_iconst F_10_22 ?_
        refine r_iadd F_10_23 rfl ?_
        refine r_iast F_10_24 ty_76 (by decide) (lt_ln ln_76 (by decide)) ?_
        refine r_bipush F_10_25 bi__3 ?_
        refine r_ireturn F_10_27 rt_10 ?_
        show Rn _ _ _ _ _ [vI (-3)] _ _
        refine r_ireturn F_14_27 rt_14 ?_
        show Rn _ _ _ _ _ [vI (-3)] _ _
        refine r_stI_n (m := 2) (L' := [some (vR 0), some (vI t), some (vI (-3))]) F_30_9 rfl rfl ?_
        refine r_ldI_n (m := 2) F_30_10 rfl ?_
        refine r_ifF (t := 18) F_30_11 rfl (by decide) (by show ¬ (((-3) : Int) = 0); decide) ?_
        refine r_ldI_n (m := 2) F_30_14 rfl ?_
        refine r_goto (t := 30) F_30_15 rfl ?_
        refine r_ireturn F_30_30 rt_30 ?_
        exact (l5 e2 e4 e5)
      · intro e6
        replace e6 : ¬ (s 11 t) = (-1) := e6
        refine r_iconst F_15_9 ?_
        refine r_goto (t := 14) F_15_10 rfl ?_
        refine r_zreturn F_15_14 rt_15 (Or.inr rfl) ?_
        show Rn _ _ _ _ _ [vI 1] _ _
        refine r_ifF (t := 22) F_14_15 rfl (by decide) (by show ¬ ((1 : Int) = 0); decide) ?_
        refine r_iconst F_14_18 ?_
        refine r_goto (t := 27) F_14_19 rfl ?_
        refine r_ireturn F_14_27 rt_14 ?_
        show Rn _ _ _ _ _ [vI 0] _ _
        refine r_stI_n (m := 2) (L' := [some (vR 0), some (vI t), some (vI 0)]) F_30_9 rfl rfl ?_
        refine r_ldI_n (m := 2) F_30_10 rfl ?_
        refine r_ifT (t := 18) F_30_11 rfl (by decide) (by show (0 : Int) = 0; decide) ?_
        refine r_ldR_n (m := 0) F_30_18 rfl ?_
        refine r_getR (J := 3) F_30_19 o_30 fl_5_27 ty_0 (by decide) rfl (kd2 kd_0_3 (by decide)) (kd9 kd_0_3 (by decide)) rf_0_3 ?_
        refine r_ldR_n (m := 0) F_30_22 rfl ?_
        refine r_getR (J := 1) F_30_23 o_30 fl_5_18 ty_0 (by decide) rfl (kd2 kd_0_1 (by decide)) (kd9 kd_0_1 (by decide)) rf_0_1 ?_
        refine r_ldI_n (m := 1) F_30_26 rfl ?_
        refine r_virt2 (A := [vR 10, vI t]) (r := []) (n := 2) F_30_27 o_30 il_5_122 rfl rfl rfl rfl ty_23 vy_31 (lay_le n_31 rfl) ?_
        refine sp_read e2 e4 (l6 e2 e4 e6) (l7 e2 e4 e6) ?_
        intro v7 s7 q7
        show Rn _ _ _ _ _ [vI v7] _ _
        refine r_ireturn F_30_30 rt_30 ?_
        exact (l8 e2 e4 e6 v7 s7 q7)
theorem t_X5_hut {X : m_X} {d : Nat} {s : m_St} {P : Option Value → m_St → Prop} {t : Int}
    (l1 : inR t)
    (l2 : t < 0 → P (some (vI (-1))) s)
    (l3 : 0 ≤ t → 4 ≤ t → P (some (vI (-1))) s)
    (l4 : 0 ≤ t → t < 4 → inR (s 11 t))
    (l5 : 0 ≤ t → t < 4 → (s 11 t) = (-1) → P (some (vI (-3))) (m_upd (m_upd s 0 8 1) 76 1 ((s 76 1) + 1)))
    (l6 : 0 ≤ t → t < 4 → ¬ (s 11 t) = (-1) → tok (s 11 t) (s (13 + t)))
    (l7 : 0 ≤ t → t < 4 → ¬ (s 11 t) = (-1) → rgk s)
    (l8 : 0 ≤ t → t < 4 → ¬ (s 11 t) = (-1) → ∀ (v7 : Int) (s7 : m_St), qD s t v7 s7 → inR v7)
    (l9 : 0 ≤ t → t < 4 → ¬ (s 11 t) = (-1) → ∀ (v7 : Int) (s7 : m_St), qD s t v7 s7 → v7 = (-9) → rok s7)
    (l10 : 0 ≤ t → t < 4 → ¬ (s 11 t) = (-1) → ∀ (v7 : Int) (s7 : m_St), qD s t v7 s7 → v7 = (-9) → ∀ i, 0 ≤ i → i < 6 → gok s7 (44 + 4 * i))
    (l11 : 0 ≤ t → t < 4 → ¬ (s 11 t) = (-1) → ∀ (v7 : Int) (s7 : m_St), qD s t v7 s7 → v7 = (-9) → P (some (vI ((fil (ob s7) 18 3 (-1)) 38 3))) (fil (ob s7) 18 3 (-1)))
    (l12 : 0 ≤ t → t < 4 → ¬ (s 11 t) = (-1) → ∀ (v7 : Int) (s7 : m_St), qD s t v7 s7 → ¬ v7 = (-9) → P (some (vI (-4))) s7)
    : Cl X (d + 7) 47 [vR 0, vI t] s P := by
  refine Cl_of n_47 rfl ?_
  show Rn _ _ _ _ [some (vR 0), some (vI t), none] [] _ _
  refine r_ldR_n (m := 0) F_47_0 rfl ?_
  refine r_ldR_n (m := 0) F_47_1 rfl ?_
  refine r_getR (J := 1) F_47_2 o_47 fl_5_18 ty_0 (by decide) rfl (kd2 kd_0_1 (by decide)) (kd9 kd_0_1 (by decide)) rf_0_1 ?_
  refine r_ldI_n (m := 1) F_47_5 rfl ?_
  refine r_virt2 (A := [vR 10, vI t]) (r := []) (n := 2) F_47_6 o_47 il_5_96 rfl rfl rfl rfl ty_0 vy_14 (lay_le n_14 rfl) ?_
  refine Cl_of n_14 rfl ?_
  show Rn _ _ _ _ [some (vR 0), some (vR 10), some (vI t)] [] _ _
  refine r_ldR_n (m := 1) F_14_0 rfl ?_
  refine r_ldI_n (m := 2) F_14_1 rfl ?_
  refine r_virt2 (A := [vI t]) (r := []) (n := 1) F_14_2 o_14 il_5_70 rfl rfl rfl rfl ty_10 vy_9 (lay_le n_9 rfl) ?_
  refine Cl_of n_9 rfl ?_
  show Rn _ _ _ _ [some (vR 10), some (vI t)] [] _ _
  refine r_ldI_n (m := 1) F_9_0 rfl ?_
  refine r_if (t := 17) F_9_1 rfl l1 ?_ ?_
  · intro e1
    replace e1 : t < 0 := e1
    refine r_iconst F_9_17 ?_
    refine r_zreturn F_9_18 rt_9 (Or.inl rfl) ?_
    show Rn _ _ _ _ _ [vI 0] _ _
    refine r_ifF (t := 10) F_14_5 rfl (by decide) (by show ¬ (¬ (0 : Int) = 0); decide) ?_
    refine r_iconst F_14_8 ?_
    refine r_ireturn F_14_9 rt_14 ?_
    show Rn _ _ _ _ _ [vI (-1)] _ _
    refine r_stI_n (m := 2) (L' := [some (vR 0), some (vI t), some (vI (-1))]) F_47_9 rfl rfl ?_
    refine r_ldI_n (m := 2) F_47_10 rfl ?_
    refine r_ifF (t := 16) F_47_11 rfl (by decide) (by show ¬ (((-1) : Int) = 0); decide) ?_
    refine r_ldI_n (m := 2) F_47_14 rfl ?_
    refine r_ireturn F_47_15 rt_47 ?_
    exact (l2 e1)
  · intro e2
    replace e2 : 0 ≤ t := (Int.not_lt.mp e2)
    refine r_ldI_n (m := 1) F_9_4 rfl ?_
    refine r_ldR_n (m := 0) F_9_5 rfl ?_
    refine r_getR (J := 0) F_9_6 o_9 fl_3_19 ty_10 (by decide) rfl (kd2 kd_10_0 (by decide)) (kd9 kd_10_0 (by decide)) rf_10_0 ?_
    refine r_alen F_9_9 ty_11 (by decide) ln_11 ?_
    refine r_icmp (t := 17) F_9_10 rfl l1 (by decide) ?_ ?_
    · intro e3
      replace e3 : 4 ≤ t := e3
      refine r_iconst F_9_17 ?_
      refine r_zreturn F_9_18 rt_9 (Or.inl rfl) ?_
      show Rn _ _ _ _ _ [vI 0] _ _
      refine r_ifF (t := 10) F_14_5 rfl (by decide) (by show ¬ (¬ (0 : Int) = 0); decide) ?_
      refine r_iconst F_14_8 ?_
      refine r_ireturn F_14_9 rt_14 ?_
      show Rn _ _ _ _ _ [vI (-1)] _ _
      refine r_stI_n (m := 2) (L' := [some (vR 0), some (vI t), some (vI (-1))]) F_47_9 rfl rfl ?_
      refine r_ldI_n (m := 2) F_47_10 rfl ?_
      refine r_ifF (t := 16) F_47_11 rfl (by decide) (by show ¬ (((-1) : Int) = 0); decide) ?_
      refine r_ldI_n (m := 2) F_47_14 rfl ?_
      refine r_ireturn F_47_15 rt_47 ?_
      exact (l3 e2 e3)
    · intro e4
      replace e4 : t < 4 := (Int.not_le.mp e4)
      refine r_iconst F_9_13 ?_
      refine r_goto (t := 18) F_9_14 rfl ?_
      refine r_zreturn F_9_18 rt_9 (Or.inr rfl) ?_
      show Rn _ _ _ _ _ [vI 1] _ _
      refine r_ifT (t := 10) F_14_5 rfl (by decide) (by show ¬ (1 : Int) = 0; decide) ?_
      refine r_ldR_n (m := 1) F_14_10 rfl ?_
      refine r_ldI_n (m := 2) F_14_11 rfl ?_
      refine r_virt2 (A := [vI t]) (r := []) (n := 1) F_14_12 o_14 il_5_104 rfl rfl rfl rfl ty_10 vy_15 (lay_le n_15 rfl) ?_
      refine Cl_of n_15 rfl ?_
      show Rn _ _ _ _ [some (vR 10), some (vI t)] [] _ _
      refine r_ldR_n (m := 0) F_15_0 rfl ?_
      refine r_ldI_n (m := 1) F_15_1 rfl ?_
      refine r_virt2 (A := [vI t]) (r := []) (n := 1) F_15_2 o_15 il_3_28 rfl rfl rfl rfl ty_10 vy_16 (lay_le n_16 rfl) ?_
      refine Cl_of n_16 rfl ?_
      show Rn _ _ _ _ [some (vR 10), some (vI t)] [] _ _
      refine r_ldR_n (m := 0) F_16_0 rfl ?_
      refine r_ldI_n (m := 1) F_16_1 rfl ?_
      refine r_virt2 (A := [vI t]) (r := []) (n := 1) F_16_2 o_16 il_3_32 rfl rfl rfl rfl ty_10 vy_9 (lay_le n_9 rfl) ?_
      refine Cl_of n_9 rfl ?_
      show Rn _ _ _ _ [some (vR 10), some (vI t)] [] _ _
      refine r_ldI_n (m := 1) F_9_0 rfl ?_
      refine r_ifF (t := 17) F_9_1 rfl l1 (Int.not_lt.mpr e2) ?_
      refine r_ldI_n (m := 1) F_9_4 rfl ?_
      refine r_ldR_n (m := 0) F_9_5 rfl ?_
      refine r_getR (J := 0) F_9_6 o_9 fl_3_19 ty_10 (by decide) rfl (kd2 kd_10_0 (by decide)) (kd9 kd_10_0 (by decide)) rf_10_0 ?_
      refine r_alen F_9_9 ty_11 (by decide) ln_11 ?_
      refine r_icmpF (t := 17) F_9_10 rfl l1 (by decide) (Int.not_le.mpr e4) ?_
      refine r_iconst F_9_13 ?_
      refine r_goto (t := 18) F_9_14 rfl ?_
      refine r_zreturn F_9_18 rt_9 (Or.inr rfl) ?_
      show Rn _ _ _ _ _ [vI 1] _ _
      refine r_ifF (t := 17) F_16_5 rfl (by decide) (by show ¬ ((1 : Int) = 0); decide) ?_
      refine r_ldR_n (m := 0) F_16_8 rfl ?_
      refine r_getR (J := 0) F_16_9 o_16 fl_3_19 ty_10 (by decide) rfl (kd2 kd_10_0 (by decide)) (kd9 kd_10_0 (by decide)) rf_10_0 ?_
      refine r_ldI_n (m := 1) F_16_12 rfl ?_
      refine r_iald (e := (s 11 t)) F_16_13 ty_11 e2 (lt_ln ln_11 e4) rfl ?_
      refine r_goto (t := 18) F_16_14 rfl ?_
      refine r_ireturn F_16_18 rt_16 ?_
      show Rn _ _ _ _ _ [vI (s 11 t)] _ _
      refine r_iconst F_15_5 ?_
      refine r_icmp (t := 13) F_15_6 rfl (l4 e2 e4) (by decide) ?_ ?_
      · intro e5
        replace e5 : (s 11 t) = (-1) := e5
        refine r_iconst F_15_13 ?_
        refine r_zreturn F_15_14 rt_15 (Or.inl rfl) ?_
        show Rn _ _ _ _ _ [vI 0] _ _
        refine r_ifT (t := 22) F_14_15 rfl (by decide) (by show (0 : Int) = 0; decide) ?_
        refine r_ldR_n (m := 0) F_14_22 rfl ?_
        refine r_iconst F_14_23 ?_
        refine r_virt2 (A := [vI 1]) (r := []) (n := 1) F_14_24 o_14 il_5_74 rfl rfl rfl rfl ty_0 vy_10 (lay_le n_10 rfl) ?_
        refine Cl_of n_10 rfl ?_
        show Rn _ _ _ _ [some (vR 0), some (vI 1)] [] _ _
        refine r_ldI_n (m := 1) F_10_0 rfl ?_
        refine r_iconst F_10_1 ?_
        refine r_icmpF (t := 25) F_10_2 rfl (by decide) (by decide) (by show ¬ ((1 : Int) < 1); decide) ?_
        refine r_ldI_n (m := 1) F_10_5 rfl ?_
        refine r_iconst F_10_6 ?_
        refine r_icmpF (t := 25) F_10_7 rfl (by decide) (by decide) (by show ¬ ((5 : Int) < 1); decide) ?_
        refine r_ldR_n (m := 0) F_10_10 rfl ?_
        refine r_ldI_n (m := 1) F_10_11 rfl ?_
        refine r_putI (J := 8) F_10_12 o_10 fl_5_56 ty_0 (by decide) rfl kd_0_8 pf_5_8 ?_
        refine r_ldR_n (m := 0) F_10_15 rfl ?_
        refine r_getR (J := 7) F_10_16 o_10 fl_5_52 ty_0 (by decide) rfl (kd2 kd_0_7 (by decide)) (kd9 kd_0_7 (by decide)) rf_0_7 ?_
        refine r_ldI_n (m := 1) F_10_19 rfl ?_
        refine r_dup2 F_10_20 ?_
        refine r_iald (e := (s 76 1)) F_10_21 ty_76 (by decide) (lt_ln ln_76 (by decide)) (upd_nc (by decide)) ?_
        refine r_iconst F_10_22 ?_
        refine r_iadd F_10_23 rfl ?_
        refine r_iast F_10_24 ty_76 (by decide) (lt_ln ln_76 (by decide)) ?_
        refine r_bipush F_10_25 bi__3 ?_
        refine r_ireturn F_10_27 rt_10 ?_
        show Rn _ _ _ _ _ [vI (-3)] _ _
        refine r_ireturn F_14_27 rt_14 ?_
        show Rn _ _ _ _ _ [vI (-3)] _ _
        refine r_stI_n (m := 2) (L' := [some (vR 0), some (vI t), some (vI (-3))]) F_47_9 rfl rfl ?_
        refine r_ldI_n (m := 2) F_47_10 rfl ?_
        refine r_ifF (t := 16) F_47_11 rfl (by decide) (by show ¬ (((-3) : Int) = 0); decide) ?_
        refine r_ldI_n (m := 2) F_47_14 rfl ?_
        refine r_ireturn F_47_15 rt_47 ?_
        exact (l5 e2 e4 e5)
      · intro e6
        replace e6 : ¬ (s 11 t) = (-1) := e6
        refine r_iconst F_15_9 ?_
        refine r_goto (t := 14) F_15_10 rfl ?_
        refine r_zreturn F_15_14 rt_15 (Or.inr rfl) ?_
        show Rn _ _ _ _ _ [vI 1] _ _
        refine r_ifF (t := 22) F_14_15 rfl (by decide) (by show ¬ ((1 : Int) = 0); decide) ?_
        refine r_iconst F_14_18 ?_
        refine r_goto (t := 27) F_14_19 rfl ?_
        refine r_ireturn F_14_27 rt_14 ?_
        show Rn _ _ _ _ _ [vI 0] _ _
        refine r_stI_n (m := 2) (L' := [some (vR 0), some (vI t), some (vI 0)]) F_47_9 rfl rfl ?_
        refine r_ldI_n (m := 2) F_47_10 rfl ?_
        refine r_ifT (t := 16) F_47_11 rfl (by decide) (by show (0 : Int) = 0; decide) ?_
        refine r_ldR_n (m := 0) F_47_16 rfl ?_
        refine r_getR (J := 3) F_47_17 o_47 fl_5_27 ty_0 (by decide) rfl (kd2 kd_0_3 (by decide)) (kd9 kd_0_3 (by decide)) rf_0_3 ?_
        refine r_ldR_n (m := 0) F_47_20 rfl ?_
        refine r_getR (J := 1) F_47_21 o_47 fl_5_18 ty_0 (by decide) rfl (kd2 kd_0_1 (by decide)) (kd9 kd_0_1 (by decide)) rf_0_1 ?_
        refine r_ldI_n (m := 1) F_47_24 rfl ?_
        refine r_virt2 (A := [vR 10, vI t]) (r := []) (n := 2) F_47_25 o_47 il_5_122 rfl rfl rfl rfl ty_23 vy_31 (lay_le n_31 rfl) ?_
        refine sp_read e2 e4 (l6 e2 e4 e6) (l7 e2 e4 e6) ?_
        intro v7 s7 q7
        show Rn _ _ _ _ _ [vI v7] _ _
        refine r_bipush F_47_28 bi__9 ?_
        refine r_icmp (t := 36) F_47_30 rfl (l8 e2 e4 e6 v7 s7 q7) (by decide) ?_ ?_
        · intro e8
          replace e8 : v7 = (-9) := e8
          refine r_ldR_n (m := 0) F_47_36 rfl ?_
          refine r_getR (J := 4) F_47_37 o_47 fl_5_34 ty_0 (by decide) rfl (kd2 kd_0_4 (by decide)) (kd9 kd_0_4 (by decide)) rf_0_4 ?_
          refine r_ldR_n (m := 0) F_47_40 rfl ?_
          refine r_getR (J := 3) F_47_41 o_47 fl_5_27 ty_0 (by decide) rfl (kd2 kd_0_3 (by decide)) (kd9 kd_0_3 (by decide)) rf_0_3 ?_
          refine r_virt2 (A := [vR 23]) (r := []) (n := 1) F_47_44 o_47 il_5_125 rfl rfl rfl rfl ty_38 vy_48 (lay_le n_48 rfl) ?_
          refine sp_open (l9 e2 e4 e6 v7 s7 q7 e8) (l10 e2 e4 e6 v7 s7 q7 e8) ?_
          show Rn _ _ _ _ _ [] _ _
          refine r_ldR_n (m := 0) F_47_47 rfl ?_
          refine r_getR (J := 2) F_47_48 o_47 fl_5_21 ty_0 (by decide) rfl (kd2 kd_0_2 (by decide)) (kd9 kd_0_2 (by decide)) rf_0_2 ?_
          refine r_virt2 (A := []) (r := []) (n := 0) F_47_51 o_47 il_5_129 rfl rfl rfl rfl ty_17 vy_63 (lay_le n_63 rfl) ?_
          refine sp_dropAll17  ?_
          show Rn _ _ _ _ _ [] _ _
          refine r_ldR_n (m := 0) F_47_54 rfl ?_
          refine r_getR (J := 4) F_47_55 o_47 fl_5_34 ty_0 (by decide) rfl (kd2 kd_0_4 (by decide)) (kd9 kd_0_4 (by decide)) rf_0_4 ?_
          refine r_virt2 (A := []) (r := []) (n := 0) F_47_58 o_47 il_5_132 rfl rfl rfl rfl ty_38 vy_64 (lay_le n_64 rfl) ?_
          refine Cl_of n_64 rfl ?_
          show Rn _ _ _ _ [some (vR 38)] [] _ _
          refine r_ldR_n (m := 0) F_64_0 rfl ?_
          refine r_getI (J := 3) (e := ((fil (ob s7) 18 3 (-1)) 38 3)) F_64_1 o_64 fl_1_24 ty_38 (by decide) rfl kd_38_3 rfl ?_
          refine r_ireturn F_64_4 rt_64 ?_
          show Rn _ _ _ _ _ [vI ((fil (ob s7) 18 3 (-1)) 38 3)] _ _
          refine r_ireturn F_47_61 rt_47 ?_
          exact (l11 e2 e4 e6 v7 s7 q7 e8)
        · intro e9
          replace e9 : ¬ v7 = (-9) := e9
          refine r_bipush F_47_33 bi__4 ?_
          refine r_ireturn F_47_35 rt_47 ?_
          exact (l12 e2 e4 e6 v7 s7 q7 e9)
theorem t_X5_guest {X : m_X} {d : Nat} {s : m_St} {P : Option Value → m_St → Prop} {i w : Int}
    (l1 : inR i)
    (l2 : i < 0 → P (some (vI (-1))) s)
    (l3 : 0 ≤ i → inR (s 38 3))
    (l4 : 0 ≤ i → (s 38 3) ≤ i → P (some (vI (-1))) s)
    (l5 : 0 ≤ i → i < (s 38 3) → inR w)
    (l6 : 0 ≤ i → i < (s 38 3) → w < 0 → P (some (vI (-1))) s)
    (l7 : 0 ≤ i → i < (s 38 3) → 0 ≤ w → w < 7 → 6 ≤ i → w = 0 → P (some (vI 1)) (m_upd s 0 9 (s 44 1)))
    (l8 : 0 ≤ i → i < (s 38 3) → 0 ≤ w → w < 7 → 6 ≤ i → w = 5 → P (some (vI 1)) (m_upd s 0 9 (s 44 2)))
    (l9 : 0 ≤ i → i < (s 38 3) → 0 ≤ w → w < 7 → 6 ≤ i → w = 6 → inR (s 38 7))
    (l10 : 0 ≤ i → i < (s 38 3) → 0 ≤ w → w < 7 → 6 ≤ i → w = 6 → ¬ i = (s 38 7) → inR (s 38 8))
    (l11 : 0 ≤ i → i < (s 38 3) → 0 ≤ w → w < 7 → 6 ≤ i → w = 6 → ¬ i = (s 38 7) → ¬ i = (s 38 8) → P (some (vI 1)) (m_upd s 0 9 0))
    (l12 : 0 ≤ i → i < (s 38 3) → 0 ≤ w → w < 7 → 6 ≤ i → w = 6 → ¬ i = (s 38 7) → i = (s 38 8) → P (some (vI 1)) (m_upd s 0 9 2))
    (l13 : 0 ≤ i → i < (s 38 3) → 0 ≤ w → w < 7 → 6 ≤ i → w = 6 → i = (s 38 7) → P (some (vI 1)) (m_upd s 0 9 1))
    (l14 : 0 ≤ i → i < (s 38 3) → 0 ≤ w → w < 7 → 6 ≤ i → (¬ w = 0 ∧ ¬ w = 5 ∧ ¬ w = 6) → inR (w - 1))
    (l15 : 0 ≤ i → i < (s 38 3) → 0 ≤ w → w < 7 → 6 ≤ i → (¬ w = 0 ∧ ¬ w = 5 ∧ ¬ w = 6) → (w - 1) < 0 → P (some (vI 1)) (m_upd s 0 9 0))
    (l16 : 0 ≤ i → i < (s 38 3) → 0 ≤ w → w < 7 → 6 ≤ i → (¬ w = 0 ∧ ¬ w = 5 ∧ ¬ w = 6) → 0 ≤ (w - 1) → 4 ≤ (w - 1) → P (some (vI 1)) (m_upd s 0 9 0))
    (l17 : 0 ≤ i → i < (s 38 3) → 0 ≤ w → w < 7 → 6 ≤ i → (¬ w = 0 ∧ ¬ w = 5 ∧ ¬ w = 6) → 0 ≤ (w - 1) → (w - 1) < 4 → P (some (vI 1)) (m_upd s 0 9 (s 45 (w - 1))))
    (l18 : 0 ≤ i → i < (s 38 3) → 0 ≤ w → w < 7 → i < 6 → w = 0 → P (some (vI 1)) (m_upd s 0 9 (s (44 + 4 * i) 1)))
    (l19 : 0 ≤ i → i < (s 38 3) → 0 ≤ w → w < 7 → i < 6 → w = 5 → P (some (vI 1)) (m_upd s 0 9 (s (44 + 4 * i) 2)))
    (l20 : 0 ≤ i → i < (s 38 3) → 0 ≤ w → w < 7 → i < 6 → w = 6 → inR (s 38 7))
    (l21 : 0 ≤ i → i < (s 38 3) → 0 ≤ w → w < 7 → i < 6 → w = 6 → ¬ i = (s 38 7) → inR (s 38 8))
    (l22 : 0 ≤ i → i < (s 38 3) → 0 ≤ w → w < 7 → i < 6 → w = 6 → ¬ i = (s 38 7) → ¬ i = (s 38 8) → P (some (vI 1)) (m_upd s 0 9 0))
    (l23 : 0 ≤ i → i < (s 38 3) → 0 ≤ w → w < 7 → i < 6 → w = 6 → ¬ i = (s 38 7) → i = (s 38 8) → P (some (vI 1)) (m_upd s 0 9 2))
    (l24 : 0 ≤ i → i < (s 38 3) → 0 ≤ w → w < 7 → i < 6 → w = 6 → i = (s 38 7) → P (some (vI 1)) (m_upd s 0 9 1))
    (l25 : 0 ≤ i → i < (s 38 3) → 0 ≤ w → w < 7 → i < 6 → (¬ w = 0 ∧ ¬ w = 5 ∧ ¬ w = 6) → inR (w - 1))
    (l26 : 0 ≤ i → i < (s 38 3) → 0 ≤ w → w < 7 → i < 6 → (¬ w = 0 ∧ ¬ w = 5 ∧ ¬ w = 6) → (w - 1) < 0 → P (some (vI 1)) (m_upd s 0 9 0))
    (l27 : 0 ≤ i → i < (s 38 3) → 0 ≤ w → w < 7 → i < 6 → (¬ w = 0 ∧ ¬ w = 5 ∧ ¬ w = 6) → 0 ≤ (w - 1) → 4 ≤ (w - 1) → P (some (vI 1)) (m_upd s 0 9 0))
    (l28 : 0 ≤ i → i < (s 38 3) → 0 ≤ w → w < 7 → i < 6 → (¬ w = 0 ∧ ¬ w = 5 ∧ ¬ w = 6) → 0 ≤ (w - 1) → (w - 1) < 4 → P (some (vI 1)) (m_upd s 0 9 (s ((44 + 4 * i) + 1) (w - 1))))
    (l29 : 0 ≤ i → i < (s 38 3) → 0 ≤ w → 7 ≤ w → P (some (vI (-1))) s)
    : Cl X (d + 3) 65 [vR 0, vI i, vI w] s P := by
  refine Cl_of n_65 rfl ?_
  show Rn _ _ _ _ [some (vR 0), some (vI i), some (vI w)] [] _ _
  refine r_ldR_n (m := 0) F_65_0 rfl ?_
  refine r_getR (J := 4) F_65_1 o_65 fl_5_34 ty_0 (by decide) rfl (kd2 kd_0_4 (by decide)) (kd9 kd_0_4 (by decide)) rf_0_4 ?_
  refine r_ldI_n (m := 1) F_65_4 rfl ?_
  refine r_virt2 (A := [vI i]) (r := []) (n := 1) F_65_5 o_65 il_5_136 rfl rfl rfl rfl ty_38 vy_66 (lay_le n_66 rfl) ?_
  refine Cl_of n_66 rfl ?_
  show Rn _ _ _ _ [some (vR 38), some (vI i)] [] _ _
  refine r_ldI_n (m := 1) F_66_0 rfl ?_
  refine r_if (t := 16) F_66_1 rfl l1 ?_ ?_
  · intro e1
    replace e1 : i < 0 := e1
    refine r_iconst F_66_16 ?_
    refine r_zreturn F_66_17 rt_66 (Or.inl rfl) ?_
    show Rn _ _ _ _ _ [vI 0] _ _
    refine r_ifT (t := 21) F_65_8 rfl (by decide) (by show (0 : Int) = 0; decide) ?_
    refine r_iconst F_65_21 ?_
    refine r_ireturn F_65_22 rt_65 ?_
    exact (l2 e1)
  · intro e2
    replace e2 : 0 ≤ i := (Int.not_lt.mp e2)
    refine r_ldI_n (m := 1) F_66_4 rfl ?_
    refine r_ldR_n (m := 0) F_66_5 rfl ?_
    refine r_getI (J := 3) (e := (s 38 3)) F_66_6 o_66 fl_1_24 ty_38 (by decide) rfl kd_38_3 rfl ?_
    refine r_icmp (t := 16) F_66_9 rfl l1 (l3 e2) ?_ ?_
    · intro e3
      replace e3 : (s 38 3) ≤ i := e3
      refine r_iconst F_66_16 ?_
      refine r_zreturn F_66_17 rt_66 (Or.inl rfl) ?_
      show Rn _ _ _ _ _ [vI 0] _ _
      refine r_ifT (t := 21) F_65_8 rfl (by decide) (by show (0 : Int) = 0; decide) ?_
      refine r_iconst F_65_21 ?_
      refine r_ireturn F_65_22 rt_65 ?_
      exact (l4 e2 e3)
    · intro e4
      replace e4 : i < (s 38 3) := (Int.not_le.mp e4)
      refine r_iconst F_66_12 ?_
      refine r_goto (t := 17) F_66_13 rfl ?_
      refine r_zreturn F_66_17 rt_66 (Or.inr rfl) ?_
      show Rn _ _ _ _ _ [vI 1] _ _
      refine r_ifF (t := 21) F_65_8 rfl (by decide) (by show ¬ ((1 : Int) = 0); decide) ?_
      refine r_ldI_n (m := 2) F_65_11 rfl ?_
      refine r_if (t := 21) F_65_12 rfl (l5 e2 e4) ?_ ?_
      · intro e5
        replace e5 : w < 0 := e5
        refine r_iconst F_65_21 ?_
        refine r_ireturn F_65_22 rt_65 ?_
        exact (l6 e2 e4 e5)
      · intro e6
        replace e6 : 0 ≤ w := (Int.not_lt.mp e6)
        refine r_ldI_n (m := 2) F_65_15 rfl ?_
        refine r_bipush F_65_16 bi_7 ?_
        refine r_icmp (t := 23) F_65_18 rfl (l5 e2 e4) (by decide) ?_ ?_
        · intro e7
          replace e7 : w < 7 := e7
          refine r_ldR_n (m := 0) F_65_23 rfl ?_
          refine r_ldR_n (m := 0) F_65_24 rfl ?_
          refine r_getR (J := 4) F_65_25 o_65 fl_5_34 ty_0 (by decide) rfl (kd2 kd_0_4 (by decide)) (kd9 kd_0_4 (by decide)) rf_0_4 ?_
          refine r_ldI_n (m := 1) F_65_28 rfl ?_
          refine r_ldI_n (m := 2) F_65_29 rfl ?_
          refine r_virt2 (A := [vI i, vI w]) (r := [vR 0]) (n := 2) F_65_30 o_65 il_5_139 rfl rfl rfl rfl ty_38 vy_67 (lay_le n_67 rfl) ?_
          refine Cl_of n_67 rfl ?_
          show Rn _ _ _ _ [some (vR 38), some (vI i), some (vI w), none] [] _ _
          refine r_ldR_n (m := 0) F_67_0 rfl ?_
          refine r_ldI_n (m := 1) F_67_1 rfl ?_
          refine r_virt2 (A := [vI i]) (r := []) (n := 1) F_67_2 o_67 il_1_107 rfl rfl rfl rfl ty_38 vy_58 (lay_le n_58 rfl) ?_
          refine Cl_of n_58 rfl ?_
          show Rn _ _ _ _ [some (vR 38), some (vI i)] [] _ _
          refine r_ldR_n (m := 0) F_58_0 rfl ?_
          refine r_getR (J := 1) F_58_1 o_58 fl_1_17 ty_38 (by decide) rfl (kd2 kd_38_1 (by decide)) (kd9 kd_38_1 (by decide)) rf_38_1 ?_
          refine r_ldI_n (m := 1) F_58_4 rfl ?_
          refine r_ifF (t := 18) F_58_5 rfl l1 (Int.not_lt.mpr e2) ?_
          refine r_ldI_n (m := 1) F_58_8 rfl ?_
          refine r_bipush F_58_9 bi_6 ?_
          refine r_icmp (t := 18) F_58_11 rfl l1 (by decide) ?_ ?_
          · intro e8
            replace e8 : 6 ≤ i := e8
            refine r_iconst F_58_18 ?_
            refine r_aald F_58_19 ty_40 (by decide) (by decide) (lt_ln ln_40 (by decide)) rf_40_0 ?_
            refine r_areturn F_58_20 rob_58 ?_
            show Rn _ _ _ _ _ [vR 44] _ _
            refine r_stR_n (m := 3) (L' := [some (vR 38), some (vI i), some (vI w), some (vR 44)]) F_67_5 rfl rfl ?_
            refine r_ldI_n (m := 2) F_67_6 rfl ?_
            rcases (show w = 0 ∨ w = 5 ∨ w = 6 ∨ (¬ w = 0 ∧ ¬ w = 5 ∧ ¬ w = 6) by omega) with hh | hh | hh | hh
            · have e9 := hh
              refine r_lsw (t := 40) (z := 33) F_67_7 (l5 e2 e4) (by decide) (by rw [hh]; rfl) rfl ?_
              refine r_ldR_n (m := 3) F_67_40 rfl ?_
              refine r_virt2 (A := []) (r := []) (n := 0) F_67_41 o_67 il_1_68 rfl rfl rfl rfl ty_44 vy_52 (lay_le n_52 rfl) ?_
              refine Cl_of n_52 rfl ?_
              show Rn _ _ _ _ [some (vR 44)] [] _ _
              refine r_ldR_n (m := 0) F_52_0 rfl ?_
              refine r_getI (J := 1) (e := (s 44 1)) F_52_1 o_52 fl_0_15 ty_44 (by decide) rfl kd_44_1 rfl ?_
              refine r_ireturn F_52_4 rt_52 ?_
              show Rn _ _ _ _ _ [vI (s 44 1)] _ _
              refine r_ireturn F_67_44 rt_67 ?_
              show Rn _ _ _ _ _ [vI (s 44 1), vR 0] _ _
              refine r_virt2 (A := [vI (s 44 1)]) (r := []) (n := 1) F_65_33 o_65 il_5_93 rfl rfl rfl rfl ty_0 vy_20 (lay_le n_20 rfl) ?_
              refine Cl_of n_20 rfl ?_
              show Rn _ _ _ _ [some (vR 0), some (vI (s 44 1))] [] _ _
              refine r_ldR_n (m := 0) F_20_0 rfl ?_
              refine r_ldI_n (m := 1) F_20_1 rfl ?_
              refine r_putI (J := 9) F_20_2 o_20 fl_5_60 ty_0 (by decide) rfl kd_0_9 pf_5_9 ?_
              refine r_iconst F_20_5 ?_
              refine r_ireturn F_20_6 rt_20 ?_
              show Rn _ _ _ _ _ [vI 1] _ _
              refine r_ireturn F_65_36 rt_65 ?_
              exact (l7 e2 e4 e6 e7 e8 e9)
            · have e10 := hh
              refine r_lsw (t := 45) (z := 38) F_67_7 (l5 e2 e4) (by decide) (by rw [hh]; rfl) rfl ?_
              refine r_ldR_n (m := 3) F_67_45 rfl ?_
              refine r_virt2 (A := []) (r := []) (n := 0) F_67_46 o_67 il_1_108 rfl rfl rfl rfl ty_44 vy_68 (lay_le n_68 rfl) ?_
              refine Cl_of n_68 rfl ?_
              show Rn _ _ _ _ [some (vR 44)] [] _ _
              refine r_ldR_n (m := 0) F_68_0 rfl ?_
              refine r_getI (J := 2) (e := (s 44 2)) F_68_1 o_68 fl_0_19 ty_44 (by decide) rfl kd_44_2 rfl ?_
              refine r_ireturn F_68_4 rt_68 ?_
              show Rn _ _ _ _ _ [vI (s 44 2)] _ _
              refine r_ireturn F_67_49 rt_67 ?_
              show Rn _ _ _ _ _ [vI (s 44 2), vR 0] _ _
              refine r_virt2 (A := [vI (s 44 2)]) (r := []) (n := 1) F_65_33 o_65 il_5_93 rfl rfl rfl rfl ty_0 vy_20 (lay_le n_20 rfl) ?_
              refine Cl_of n_20 rfl ?_
              show Rn _ _ _ _ [some (vR 0), some (vI (s 44 2))] [] _ _
              refine r_ldR_n (m := 0) F_20_0 rfl ?_
              refine r_ldI_n (m := 1) F_20_1 rfl ?_
              refine r_putI (J := 9) F_20_2 o_20 fl_5_60 ty_0 (by decide) rfl kd_0_9 pf_5_9 ?_
              refine r_iconst F_20_5 ?_
              refine r_ireturn F_20_6 rt_20 ?_
              show Rn _ _ _ _ _ [vI 1] _ _
              refine r_ireturn F_65_36 rt_65 ?_
              exact (l8 e2 e4 e6 e7 e8 e10)
            · have e11 := hh
              refine r_lsw (t := 50) (z := 43) F_67_7 (l5 e2 e4) (by decide) (by rw [hh]; rfl) rfl ?_
              refine r_ldI_n (m := 1) F_67_50 rfl ?_
              refine r_ldR_n (m := 0) F_67_51 rfl ?_
              refine r_getI (J := 7) (e := (s 38 7)) F_67_52 o_67 fl_1_37 ty_38 (by decide) rfl kd_38_7 rfl ?_
              refine r_icmp (t := 62) F_67_55 rfl l1 (l9 e2 e4 e6 e7 e8 e11) ?_ ?_
              · intro e12
                replace e12 : ¬ i = (s 38 7) := e12
                refine r_ldI_n (m := 1) F_67_62 rfl ?_
                refine r_ldR_n (m := 0) F_67_63 rfl ?_
                refine r_getI (J := 8) (e := (s 38 8)) F_67_64 o_67 fl_1_40 ty_38 (by decide) rfl kd_38_8 rfl ?_
                refine r_icmp (t := 74) F_67_67 rfl l1 (l10 e2 e4 e6 e7 e8 e11 e12) ?_ ?_
                · intro e13
                  replace e13 : ¬ i = (s 38 8) := e13
                  refine r_iconst F_67_74 ?_
                  refine r_ireturn F_67_75 rt_67 ?_
                  show Rn _ _ _ _ _ [vI 0, vR 0] _ _
                  refine r_virt2 (A := [vI 0]) (r := []) (n := 1) F_65_33 o_65 il_5_93 rfl rfl rfl rfl ty_0 vy_20 (lay_le n_20 rfl) ?_
                  refine Cl_of n_20 rfl ?_
                  show Rn _ _ _ _ [some (vR 0), some (vI 0)] [] _ _
                  refine r_ldR_n (m := 0) F_20_0 rfl ?_
                  refine r_ldI_n (m := 1) F_20_1 rfl ?_
                  refine r_putI (J := 9) F_20_2 o_20 fl_5_60 ty_0 (by decide) rfl kd_0_9 pf_5_9 ?_
                  refine r_iconst F_20_5 ?_
                  refine r_ireturn F_20_6 rt_20 ?_
                  show Rn _ _ _ _ _ [vI 1] _ _
                  refine r_ireturn F_65_36 rt_65 ?_
                  exact (l11 e2 e4 e6 e7 e8 e11 e12 e13)
                · intro e14
                  replace e14 : i = (s 38 8) := (Classical.not_not.mp e14)
                  refine r_iconst F_67_70 ?_
                  refine r_goto (t := 75) F_67_71 rfl ?_
                  refine r_ireturn F_67_75 rt_67 ?_
                  show Rn _ _ _ _ _ [vI 2, vR 0] _ _
                  refine r_virt2 (A := [vI 2]) (r := []) (n := 1) F_65_33 o_65 il_5_93 rfl rfl rfl rfl ty_0 vy_20 (lay_le n_20 rfl) ?_
                  refine Cl_of n_20 rfl ?_
                  show Rn _ _ _ _ [some (vR 0), some (vI 2)] [] _ _
                  refine r_ldR_n (m := 0) F_20_0 rfl ?_
                  refine r_ldI_n (m := 1) F_20_1 rfl ?_
                  refine r_putI (J := 9) F_20_2 o_20 fl_5_60 ty_0 (by decide) rfl kd_0_9 pf_5_9 ?_
                  refine r_iconst F_20_5 ?_
                  refine r_ireturn F_20_6 rt_20 ?_
                  show Rn _ _ _ _ _ [vI 1] _ _
                  refine r_ireturn F_65_36 rt_65 ?_
                  exact (l12 e2 e4 e6 e7 e8 e11 e12 e14)
              · intro e15
                replace e15 : i = (s 38 7) := (Classical.not_not.mp e15)
                refine r_iconst F_67_58 ?_
                refine r_goto (t := 75) F_67_59 rfl ?_
                refine r_ireturn F_67_75 rt_67 ?_
                show Rn _ _ _ _ _ [vI 1, vR 0] _ _
                refine r_virt2 (A := [vI 1]) (r := []) (n := 1) F_65_33 o_65 il_5_93 rfl rfl rfl rfl ty_0 vy_20 (lay_le n_20 rfl) ?_
                refine Cl_of n_20 rfl ?_
                show Rn _ _ _ _ [some (vR 0), some (vI 1)] [] _ _
                refine r_ldR_n (m := 0) F_20_0 rfl ?_
                refine r_ldI_n (m := 1) F_20_1 rfl ?_
                refine r_putI (J := 9) F_20_2 o_20 fl_5_60 ty_0 (by decide) rfl kd_0_9 pf_5_9 ?_
                refine r_iconst F_20_5 ?_
                refine r_ireturn F_20_6 rt_20 ?_
                show Rn _ _ _ _ _ [vI 1] _ _
                refine r_ireturn F_65_36 rt_65 ?_
                exact (l13 e2 e4 e6 e7 e8 e11 e15)
            · have e16 := hh
              refine r_lsw (t := 76) (z := 69) F_67_7 (l5 e2 e4) (by decide) (by show Op.lookupswitch.offset [(0, 33), (5, 38), (6, 43)] 69 w = 69; simp only [Op.lookupswitch.offset]; repeat (rw [if_neg (by omega)])) rfl ?_
              refine r_ldR_n (m := 3) F_67_76 rfl ?_
              refine r_ldI_n (m := 2) F_67_77 rfl ?_
              refine r_iconst F_67_78 ?_
              refine r_isub F_67_79 rfl ?_
              refine r_virt2 (A := [vI (w - 1)]) (r := []) (n := 1) F_67_80 o_67 il_1_111 rfl rfl rfl rfl ty_44 vy_54 (lay_le n_54 rfl) ?_
              refine Cl_of n_54 rfl ?_
              show Rn _ _ _ _ [some (vR 44), some (vI (w - 1))] [] _ _
              refine r_ldI_n (m := 1) F_54_0 rfl ?_
              refine r_stat2 (A := [vI (w - 1)]) (r := []) (n := 1) F_54_1 o_54 il_0_33 (by decide) rfl rfl rfl rfl (lay_le n_46 rfl) ?_
              refine Cl_of n_46 rfl ?_
              show Rn _ _ _ _ [some (vI (w - 1))] [] _ _
              refine r_ldI_n (m := 0) F_46_0 rfl ?_
              refine r_if (t := 13) F_46_1 rfl (l14 e2 e4 e6 e7 e8 e16) ?_ ?_
              · intro e17
                replace e17 : (w - 1) < 0 := e17
                refine r_iconst F_46_13 ?_
                refine r_zreturn F_46_14 rt_46 (Or.inl rfl) ?_
                show Rn _ _ _ _ _ [vI 0] _ _
                refine r_ifT (t := 16) F_54_4 rfl (by decide) (by show (0 : Int) = 0; decide) ?_
                refine r_iconst F_54_16 ?_
                refine r_ireturn F_54_17 rt_54 ?_
                show Rn _ _ _ _ _ [vI 0] _ _
                refine r_ireturn F_67_83 rt_67 ?_
                show Rn _ _ _ _ _ [vI 0, vR 0] _ _
                refine r_virt2 (A := [vI 0]) (r := []) (n := 1) F_65_33 o_65 il_5_93 rfl rfl rfl rfl ty_0 vy_20 (lay_le n_20 rfl) ?_
                refine Cl_of n_20 rfl ?_
                show Rn _ _ _ _ [some (vR 0), some (vI 0)] [] _ _
                refine r_ldR_n (m := 0) F_20_0 rfl ?_
                refine r_ldI_n (m := 1) F_20_1 rfl ?_
                refine r_putI (J := 9) F_20_2 o_20 fl_5_60 ty_0 (by decide) rfl kd_0_9 pf_5_9 ?_
                refine r_iconst F_20_5 ?_
                refine r_ireturn F_20_6 rt_20 ?_
                show Rn _ _ _ _ _ [vI 1] _ _
                refine r_ireturn F_65_36 rt_65 ?_
                exact (l15 e2 e4 e6 e7 e8 e16 e17)
              · intro e18
                replace e18 : 0 ≤ (w - 1) := (Int.not_lt.mp e18)
                refine r_ldI_n (m := 0) F_46_4 rfl ?_
                refine r_iconst F_46_5 ?_
                refine r_icmp (t := 13) F_46_6 rfl (l14 e2 e4 e6 e7 e8 e16) (by decide) ?_ ?_
                · intro e19
                  replace e19 : 4 ≤ (w - 1) := e19
                  refine r_iconst F_46_13 ?_
                  refine r_zreturn F_46_14 rt_46 (Or.inl rfl) ?_
                  show Rn _ _ _ _ _ [vI 0] _ _
                  refine r_ifT (t := 16) F_54_4 rfl (by decide) (by show (0 : Int) = 0; decide) ?_
                  refine r_iconst F_54_16 ?_
                  refine r_ireturn F_54_17 rt_54 ?_
                  show Rn _ _ _ _ _ [vI 0] _ _
                  refine r_ireturn F_67_83 rt_67 ?_
                  show Rn _ _ _ _ _ [vI 0, vR 0] _ _
                  refine r_virt2 (A := [vI 0]) (r := []) (n := 1) F_65_33 o_65 il_5_93 rfl rfl rfl rfl ty_0 vy_20 (lay_le n_20 rfl) ?_
                  refine Cl_of n_20 rfl ?_
                  show Rn _ _ _ _ [some (vR 0), some (vI 0)] [] _ _
                  refine r_ldR_n (m := 0) F_20_0 rfl ?_
                  refine r_ldI_n (m := 1) F_20_1 rfl ?_
                  refine r_putI (J := 9) F_20_2 o_20 fl_5_60 ty_0 (by decide) rfl kd_0_9 pf_5_9 ?_
                  refine r_iconst F_20_5 ?_
                  refine r_ireturn F_20_6 rt_20 ?_
                  show Rn _ _ _ _ _ [vI 1] _ _
                  refine r_ireturn F_65_36 rt_65 ?_
                  exact (l16 e2 e4 e6 e7 e8 e16 e18 e19)
                · intro e20
                  replace e20 : (w - 1) < 4 := (Int.not_le.mp e20)
                  refine r_iconst F_46_9 ?_
                  refine r_goto (t := 14) F_46_10 rfl ?_
                  refine r_zreturn F_46_14 rt_46 (Or.inr rfl) ?_
                  show Rn _ _ _ _ _ [vI 1] _ _
                  refine r_ifF (t := 16) F_54_4 rfl (by decide) (by show ¬ ((1 : Int) = 0); decide) ?_
                  refine r_ldR_n (m := 0) F_54_7 rfl ?_
                  refine r_getR (J := 0) F_54_8 o_54 fl_0_9 ty_44 (by decide) rfl (kd2 kd_44_0 (by decide)) (kd9 kd_44_0 (by decide)) rf_44_0 ?_
                  refine r_ldI_n (m := 1) F_54_11 rfl ?_
                  refine r_iald (e := (s 45 (w - 1))) F_54_12 ty_45 e18 (lt_ln ln_45 e20) rfl ?_
                  refine r_goto (t := 17) F_54_13 rfl ?_
                  refine r_ireturn F_54_17 rt_54 ?_
                  show Rn _ _ _ _ _ [vI (s 45 (w - 1))] _ _
                  refine r_ireturn F_67_83 rt_67 ?_
                  show Rn _ _ _ _ _ [vI (s 45 (w - 1)), vR 0] _ _
                  refine r_virt2 (A := [vI (s 45 (w - 1))]) (r := []) (n := 1) F_65_33 o_65 il_5_93 rfl rfl rfl rfl ty_0 vy_20 (lay_le n_20 rfl) ?_
                  refine Cl_of n_20 rfl ?_
                  show Rn _ _ _ _ [some (vR 0), some (vI (s 45 (w - 1)))] [] _ _
                  refine r_ldR_n (m := 0) F_20_0 rfl ?_
                  refine r_ldI_n (m := 1) F_20_1 rfl ?_
                  refine r_putI (J := 9) F_20_2 o_20 fl_5_60 ty_0 (by decide) rfl kd_0_9 pf_5_9 ?_
                  refine r_iconst F_20_5 ?_
                  refine r_ireturn F_20_6 rt_20 ?_
                  show Rn _ _ _ _ _ [vI 1] _ _
                  refine r_ireturn F_65_36 rt_65 ?_
                  exact (l17 e2 e4 e6 e7 e8 e16 e18 e20)
          · intro e21
            replace e21 : i < 6 := (Int.not_le.mp e21)
            refine r_ldI_n (m := 1) F_58_14 rfl ?_
            refine r_goto (t := 19) F_58_15 rfl ?_
            refine r_aald F_58_19 ty_40 (by decide) e2 (lt_ln ln_40 e21) (rw_40 ⟨e2, e21⟩).2 ?_
            refine r_areturn F_58_20 rob_58 ?_
            show Rn _ _ _ _ _ [vR (44 + 4 * i)] _ _
            refine r_stR_n (m := 3) (L' := [some (vR 38), some (vI i), some (vI w), some (vR (44 + 4 * i))]) F_67_5 rfl rfl ?_
            refine r_ldI_n (m := 2) F_67_6 rfl ?_
            rcases (show w = 0 ∨ w = 5 ∨ w = 6 ∨ (¬ w = 0 ∧ ¬ w = 5 ∧ ¬ w = 6) by omega) with hh | hh | hh | hh
            · have e22 := hh
              refine r_lsw (t := 40) (z := 33) F_67_7 (l5 e2 e4) (by decide) (by rw [hh]; rfl) rfl ?_
              refine r_ldR_n (m := 3) F_67_40 rfl ?_
              refine r_virt2 (A := []) (r := []) (n := 0) F_67_41 o_67 il_1_68 rfl rfl rfl rfl (rw_40 ⟨e2, e21⟩).1 vy_52 (lay_le n_52 rfl) ?_
              refine Cl_of n_52 rfl ?_
              show Rn _ _ _ _ [some (vR (44 + 4 * i))] [] _ _
              refine r_ldR_n (m := 0) F_52_0 rfl ?_
              refine r_getI (J := 1) (e := (s (44 + 4 * i) 1)) F_52_1 o_52 fl_0_15 (rw_40 ⟨e2, e21⟩).1 (by decide) rfl (gw (rw_40 ⟨e2, e21⟩).1).2.2.1 rfl ?_
              refine r_ireturn F_52_4 rt_52 ?_
              show Rn _ _ _ _ _ [vI (s (44 + 4 * i) 1)] _ _
              refine r_ireturn F_67_44 rt_67 ?_
              show Rn _ _ _ _ _ [vI (s (44 + 4 * i) 1), vR 0] _ _
              refine r_virt2 (A := [vI (s (44 + 4 * i) 1)]) (r := []) (n := 1) F_65_33 o_65 il_5_93 rfl rfl rfl rfl ty_0 vy_20 (lay_le n_20 rfl) ?_
              refine Cl_of n_20 rfl ?_
              show Rn _ _ _ _ [some (vR 0), some (vI (s (44 + 4 * i) 1))] [] _ _
              refine r_ldR_n (m := 0) F_20_0 rfl ?_
              refine r_ldI_n (m := 1) F_20_1 rfl ?_
              refine r_putI (J := 9) F_20_2 o_20 fl_5_60 ty_0 (by decide) rfl kd_0_9 pf_5_9 ?_
              refine r_iconst F_20_5 ?_
              refine r_ireturn F_20_6 rt_20 ?_
              show Rn _ _ _ _ _ [vI 1] _ _
              refine r_ireturn F_65_36 rt_65 ?_
              exact (l18 e2 e4 e6 e7 e21 e22)
            · have e23 := hh
              refine r_lsw (t := 45) (z := 38) F_67_7 (l5 e2 e4) (by decide) (by rw [hh]; rfl) rfl ?_
              refine r_ldR_n (m := 3) F_67_45 rfl ?_
              refine r_virt2 (A := []) (r := []) (n := 0) F_67_46 o_67 il_1_108 rfl rfl rfl rfl (rw_40 ⟨e2, e21⟩).1 vy_68 (lay_le n_68 rfl) ?_
              refine Cl_of n_68 rfl ?_
              show Rn _ _ _ _ [some (vR (44 + 4 * i))] [] _ _
              refine r_ldR_n (m := 0) F_68_0 rfl ?_
              refine r_getI (J := 2) (e := (s (44 + 4 * i) 2)) F_68_1 o_68 fl_0_19 (rw_40 ⟨e2, e21⟩).1 (by decide) rfl (gw (rw_40 ⟨e2, e21⟩).1).2.2.2.1 rfl ?_
              refine r_ireturn F_68_4 rt_68 ?_
              show Rn _ _ _ _ _ [vI (s (44 + 4 * i) 2)] _ _
              refine r_ireturn F_67_49 rt_67 ?_
              show Rn _ _ _ _ _ [vI (s (44 + 4 * i) 2), vR 0] _ _
              refine r_virt2 (A := [vI (s (44 + 4 * i) 2)]) (r := []) (n := 1) F_65_33 o_65 il_5_93 rfl rfl rfl rfl ty_0 vy_20 (lay_le n_20 rfl) ?_
              refine Cl_of n_20 rfl ?_
              show Rn _ _ _ _ [some (vR 0), some (vI (s (44 + 4 * i) 2))] [] _ _
              refine r_ldR_n (m := 0) F_20_0 rfl ?_
              refine r_ldI_n (m := 1) F_20_1 rfl ?_
              refine r_putI (J := 9) F_20_2 o_20 fl_5_60 ty_0 (by decide) rfl kd_0_9 pf_5_9 ?_
              refine r_iconst F_20_5 ?_
              refine r_ireturn F_20_6 rt_20 ?_
              show Rn _ _ _ _ _ [vI 1] _ _
              refine r_ireturn F_65_36 rt_65 ?_
              exact (l19 e2 e4 e6 e7 e21 e23)
            · have e24 := hh
              refine r_lsw (t := 50) (z := 43) F_67_7 (l5 e2 e4) (by decide) (by rw [hh]; rfl) rfl ?_
              refine r_ldI_n (m := 1) F_67_50 rfl ?_
              refine r_ldR_n (m := 0) F_67_51 rfl ?_
              refine r_getI (J := 7) (e := (s 38 7)) F_67_52 o_67 fl_1_37 ty_38 (by decide) rfl kd_38_7 rfl ?_
              refine r_icmp (t := 62) F_67_55 rfl l1 (l20 e2 e4 e6 e7 e21 e24) ?_ ?_
              · intro e25
                replace e25 : ¬ i = (s 38 7) := e25
                refine r_ldI_n (m := 1) F_67_62 rfl ?_
                refine r_ldR_n (m := 0) F_67_63 rfl ?_
                refine r_getI (J := 8) (e := (s 38 8)) F_67_64 o_67 fl_1_40 ty_38 (by decide) rfl kd_38_8 rfl ?_
                refine r_icmp (t := 74) F_67_67 rfl l1 (l21 e2 e4 e6 e7 e21 e24 e25) ?_ ?_
                · intro e26
                  replace e26 : ¬ i = (s 38 8) := e26
                  refine r_iconst F_67_74 ?_
                  refine r_ireturn F_67_75 rt_67 ?_
                  show Rn _ _ _ _ _ [vI 0, vR 0] _ _
                  refine r_virt2 (A := [vI 0]) (r := []) (n := 1) F_65_33 o_65 il_5_93 rfl rfl rfl rfl ty_0 vy_20 (lay_le n_20 rfl) ?_
                  refine Cl_of n_20 rfl ?_
                  show Rn _ _ _ _ [some (vR 0), some (vI 0)] [] _ _
                  refine r_ldR_n (m := 0) F_20_0 rfl ?_
                  refine r_ldI_n (m := 1) F_20_1 rfl ?_
                  refine r_putI (J := 9) F_20_2 o_20 fl_5_60 ty_0 (by decide) rfl kd_0_9 pf_5_9 ?_
                  refine r_iconst F_20_5 ?_
                  refine r_ireturn F_20_6 rt_20 ?_
                  show Rn _ _ _ _ _ [vI 1] _ _
                  refine r_ireturn F_65_36 rt_65 ?_
                  exact (l22 e2 e4 e6 e7 e21 e24 e25 e26)
                · intro e27
                  replace e27 : i = (s 38 8) := (Classical.not_not.mp e27)
                  refine r_iconst F_67_70 ?_
                  refine r_goto (t := 75) F_67_71 rfl ?_
                  refine r_ireturn F_67_75 rt_67 ?_
                  show Rn _ _ _ _ _ [vI 2, vR 0] _ _
                  refine r_virt2 (A := [vI 2]) (r := []) (n := 1) F_65_33 o_65 il_5_93 rfl rfl rfl rfl ty_0 vy_20 (lay_le n_20 rfl) ?_
                  refine Cl_of n_20 rfl ?_
                  show Rn _ _ _ _ [some (vR 0), some (vI 2)] [] _ _
                  refine r_ldR_n (m := 0) F_20_0 rfl ?_
                  refine r_ldI_n (m := 1) F_20_1 rfl ?_
                  refine r_putI (J := 9) F_20_2 o_20 fl_5_60 ty_0 (by decide) rfl kd_0_9 pf_5_9 ?_
                  refine r_iconst F_20_5 ?_
                  refine r_ireturn F_20_6 rt_20 ?_
                  show Rn _ _ _ _ _ [vI 1] _ _
                  refine r_ireturn F_65_36 rt_65 ?_
                  exact (l23 e2 e4 e6 e7 e21 e24 e25 e27)
              · intro e28
                replace e28 : i = (s 38 7) := (Classical.not_not.mp e28)
                refine r_iconst F_67_58 ?_
                refine r_goto (t := 75) F_67_59 rfl ?_
                refine r_ireturn F_67_75 rt_67 ?_
                show Rn _ _ _ _ _ [vI 1, vR 0] _ _
                refine r_virt2 (A := [vI 1]) (r := []) (n := 1) F_65_33 o_65 il_5_93 rfl rfl rfl rfl ty_0 vy_20 (lay_le n_20 rfl) ?_
                refine Cl_of n_20 rfl ?_
                show Rn _ _ _ _ [some (vR 0), some (vI 1)] [] _ _
                refine r_ldR_n (m := 0) F_20_0 rfl ?_
                refine r_ldI_n (m := 1) F_20_1 rfl ?_
                refine r_putI (J := 9) F_20_2 o_20 fl_5_60 ty_0 (by decide) rfl kd_0_9 pf_5_9 ?_
                refine r_iconst F_20_5 ?_
                refine r_ireturn F_20_6 rt_20 ?_
                show Rn _ _ _ _ _ [vI 1] _ _
                refine r_ireturn F_65_36 rt_65 ?_
                exact (l24 e2 e4 e6 e7 e21 e24 e28)
            · have e29 := hh
              refine r_lsw (t := 76) (z := 69) F_67_7 (l5 e2 e4) (by decide) (by show Op.lookupswitch.offset [(0, 33), (5, 38), (6, 43)] 69 w = 69; simp only [Op.lookupswitch.offset]; repeat (rw [if_neg (by omega)])) rfl ?_
              refine r_ldR_n (m := 3) F_67_76 rfl ?_
              refine r_ldI_n (m := 2) F_67_77 rfl ?_
              refine r_iconst F_67_78 ?_
              refine r_isub F_67_79 rfl ?_
              refine r_virt2 (A := [vI (w - 1)]) (r := []) (n := 1) F_67_80 o_67 il_1_111 rfl rfl rfl rfl (rw_40 ⟨e2, e21⟩).1 vy_54 (lay_le n_54 rfl) ?_
              refine Cl_of n_54 rfl ?_
              show Rn _ _ _ _ [some (vR (44 + 4 * i)), some (vI (w - 1))] [] _ _
              refine r_ldI_n (m := 1) F_54_0 rfl ?_
              refine r_stat2 (A := [vI (w - 1)]) (r := []) (n := 1) F_54_1 o_54 il_0_33 (by decide) rfl rfl rfl rfl (lay_le n_46 rfl) ?_
              refine Cl_of n_46 rfl ?_
              show Rn _ _ _ _ [some (vI (w - 1))] [] _ _
              refine r_ldI_n (m := 0) F_46_0 rfl ?_
              refine r_if (t := 13) F_46_1 rfl (l25 e2 e4 e6 e7 e21 e29) ?_ ?_
              · intro e30
                replace e30 : (w - 1) < 0 := e30
                refine r_iconst F_46_13 ?_
                refine r_zreturn F_46_14 rt_46 (Or.inl rfl) ?_
                show Rn _ _ _ _ _ [vI 0] _ _
                refine r_ifT (t := 16) F_54_4 rfl (by decide) (by show (0 : Int) = 0; decide) ?_
                refine r_iconst F_54_16 ?_
                refine r_ireturn F_54_17 rt_54 ?_
                show Rn _ _ _ _ _ [vI 0] _ _
                refine r_ireturn F_67_83 rt_67 ?_
                show Rn _ _ _ _ _ [vI 0, vR 0] _ _
                refine r_virt2 (A := [vI 0]) (r := []) (n := 1) F_65_33 o_65 il_5_93 rfl rfl rfl rfl ty_0 vy_20 (lay_le n_20 rfl) ?_
                refine Cl_of n_20 rfl ?_
                show Rn _ _ _ _ [some (vR 0), some (vI 0)] [] _ _
                refine r_ldR_n (m := 0) F_20_0 rfl ?_
                refine r_ldI_n (m := 1) F_20_1 rfl ?_
                refine r_putI (J := 9) F_20_2 o_20 fl_5_60 ty_0 (by decide) rfl kd_0_9 pf_5_9 ?_
                refine r_iconst F_20_5 ?_
                refine r_ireturn F_20_6 rt_20 ?_
                show Rn _ _ _ _ _ [vI 1] _ _
                refine r_ireturn F_65_36 rt_65 ?_
                exact (l26 e2 e4 e6 e7 e21 e29 e30)
              · intro e31
                replace e31 : 0 ≤ (w - 1) := (Int.not_lt.mp e31)
                refine r_ldI_n (m := 0) F_46_4 rfl ?_
                refine r_iconst F_46_5 ?_
                refine r_icmp (t := 13) F_46_6 rfl (l25 e2 e4 e6 e7 e21 e29) (by decide) ?_ ?_
                · intro e32
                  replace e32 : 4 ≤ (w - 1) := e32
                  refine r_iconst F_46_13 ?_
                  refine r_zreturn F_46_14 rt_46 (Or.inl rfl) ?_
                  show Rn _ _ _ _ _ [vI 0] _ _
                  refine r_ifT (t := 16) F_54_4 rfl (by decide) (by show (0 : Int) = 0; decide) ?_
                  refine r_iconst F_54_16 ?_
                  refine r_ireturn F_54_17 rt_54 ?_
                  show Rn _ _ _ _ _ [vI 0] _ _
                  refine r_ireturn F_67_83 rt_67 ?_
                  show Rn _ _ _ _ _ [vI 0, vR 0] _ _
                  refine r_virt2 (A := [vI 0]) (r := []) (n := 1) F_65_33 o_65 il_5_93 rfl rfl rfl rfl ty_0 vy_20 (lay_le n_20 rfl) ?_
                  refine Cl_of n_20 rfl ?_
                  show Rn _ _ _ _ [some (vR 0), some (vI 0)] [] _ _
                  refine r_ldR_n (m := 0) F_20_0 rfl ?_
                  refine r_ldI_n (m := 1) F_20_1 rfl ?_
                  refine r_putI (J := 9) F_20_2 o_20 fl_5_60 ty_0 (by decide) rfl kd_0_9 pf_5_9 ?_
                  refine r_iconst F_20_5 ?_
                  refine r_ireturn F_20_6 rt_20 ?_
                  show Rn _ _ _ _ _ [vI 1] _ _
                  refine r_ireturn F_65_36 rt_65 ?_
                  exact (l27 e2 e4 e6 e7 e21 e29 e31 e32)
                · intro e33
                  replace e33 : (w - 1) < 4 := (Int.not_le.mp e33)
                  refine r_iconst F_46_9 ?_
                  refine r_goto (t := 14) F_46_10 rfl ?_
                  refine r_zreturn F_46_14 rt_46 (Or.inr rfl) ?_
                  show Rn _ _ _ _ _ [vI 1] _ _
                  refine r_ifF (t := 16) F_54_4 rfl (by decide) (by show ¬ ((1 : Int) = 0); decide) ?_
                  refine r_ldR_n (m := 0) F_54_7 rfl ?_
                  refine r_getR (J := 0) F_54_8 o_54 fl_0_9 (rw_40 ⟨e2, e21⟩).1 (by decide) rfl (gw2 (rw_40 ⟨e2, e21⟩).1).1 (gw2 (rw_40 ⟨e2, e21⟩).1).2 (gw (rw_40 ⟨e2, e21⟩).1).2.2.2.2.2.2.1 ?_
                  refine r_ldI_n (m := 1) F_54_11 rfl ?_
                  refine r_iald (e := (s ((44 + 4 * i) + 1) (w - 1))) F_54_12 (gw (rw_40 ⟨e2, e21⟩).1).2.2.2.2.1 e31 (lt_ln (gw (rw_40 ⟨e2, e21⟩).1).2.2.2.2.2.1 e33) rfl ?_
                  refine r_goto (t := 17) F_54_13 rfl ?_
                  refine r_ireturn F_54_17 rt_54 ?_
                  show Rn _ _ _ _ _ [vI (s ((44 + 4 * i) + 1) (w - 1))] _ _
                  refine r_ireturn F_67_83 rt_67 ?_
                  show Rn _ _ _ _ _ [vI (s ((44 + 4 * i) + 1) (w - 1)), vR 0] _ _
                  refine r_virt2 (A := [vI (s ((44 + 4 * i) + 1) (w - 1))]) (r := []) (n := 1) F_65_33 o_65 il_5_93 rfl rfl rfl rfl ty_0 vy_20 (lay_le n_20 rfl) ?_
                  refine Cl_of n_20 rfl ?_
                  show Rn _ _ _ _ [some (vR 0), some (vI (s ((44 + 4 * i) + 1) (w - 1)))] [] _ _
                  refine r_ldR_n (m := 0) F_20_0 rfl ?_
                  refine r_ldI_n (m := 1) F_20_1 rfl ?_
                  refine r_putI (J := 9) F_20_2 o_20 fl_5_60 ty_0 (by decide) rfl kd_0_9 pf_5_9 ?_
                  refine r_iconst F_20_5 ?_
                  refine r_ireturn F_20_6 rt_20 ?_
                  show Rn _ _ _ _ _ [vI 1] _ _
                  refine r_ireturn F_65_36 rt_65 ?_
                  exact (l28 e2 e4 e6 e7 e21 e29 e31 e33)
        · intro e34
          replace e34 : 7 ≤ w := (Int.not_lt.mp e34)
          refine r_iconst F_65_21 ?_
          refine r_ireturn F_65_22 rt_65 ?_
          exact (l29 e2 e4 e6 e34)
