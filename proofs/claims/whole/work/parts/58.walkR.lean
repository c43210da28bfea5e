/-! walks: the calls of the class -/
theorem n_8 : m_n 8 = 3 := by decide +kernel
theorem F_8_0 : F 8 0 (.aload_n 0) 1 := ⟨1, by decide +kernel, rfl, rfl⟩
theorem F_8_1 : F 8 1 (.getfield 14) 4 := ⟨3, by decide +kernel, rfl, rfl⟩
theorem o_8 : m_o 8 = 5 := by decide +kernel
theorem F_8_4 : F 8 4 (.iload_n 1) 5 := ⟨1, by decide +kernel, rfl, rfl⟩
theorem F_8_5 : F 8 5 (.invokevirtual 70) 8 := ⟨3, by decide +kernel, rfl, rfl⟩
theorem F_8_8 : F 8 8 (.ifCond .eq 9) 11 := ⟨3, by decide +kernel, rfl, rfl⟩
theorem F_8_17 : F 8 17 (.iconst (-1)) 18 := ⟨1, by decide +kernel, rfl, rfl⟩
theorem F_8_18 : F 8 18 (.ireturn) 19 := ⟨1, by decide +kernel, rfl, rfl⟩
theorem rt_8 : m_r 8 = (some .int) := by decide +kernel
theorem F_8_11 : F 8 11 (.iload_n 2) 12 := ⟨1, by decide +kernel, rfl, rfl⟩
theorem F_8_12 : F 8 12 (.bipush 40) 14 := ⟨2, by decide +kernel, rfl, rfl⟩
theorem F_8_14 : F 8 14 (.if_icmp .le 5) 17 := ⟨3, by decide +kernel, rfl, rfl⟩
theorem F_8_19 : F 8 19 (.iload_n 2) 20 := ⟨1, by decide +kernel, rfl, rfl⟩
theorem F_8_20 : F 8 20 (.ifCond .ge 9) 23 := ⟨3, by decide +kernel, rfl, rfl⟩
theorem F_8_29 : F 8 29 (.aload_n 0) 30 := ⟨1, by decide +kernel, rfl, rfl⟩
theorem F_8_30 : F 8 30 (.getfield 14) 33 := ⟨3, by decide +kernel, rfl, rfl⟩
theorem F_8_33 : F 8 33 (.iload_n 1) 34 := ⟨1, by decide +kernel, rfl, rfl⟩
theorem F_8_34 : F 8 34 (.iload_n 2) 35 := ⟨1, by decide +kernel, rfl, rfl⟩
theorem F_8_35 : F 8 35 (.iconst 0) 36 := ⟨1, by decide +kernel, rfl, rfl⟩
theorem F_8_36 : F 8 36 (.invokevirtual 78) 39 := ⟨3, by decide +kernel, rfl, rfl⟩
theorem il_5_78 : ilq 5 78 0 11 3 = true := by decide +kernel
theorem F_8_39 : F 8 39 (.iload_n 2) 40 := ⟨1, by decide +kernel, rfl, rfl⟩
theorem F_8_40 : F 8 40 (.ireturn) 41 := ⟨1, by decide +kernel, rfl, rfl⟩
theorem F_8_23 : F 8 23 (.aload_n 0) 24 := ⟨1, by decide +kernel, rfl, rfl⟩
theorem F_8_24 : F 8 24 (.iconst 5) 25 := ⟨1, by decide +kernel, rfl, rfl⟩
theorem F_8_25 : F 8 25 (.invokevirtual 74) 28 := ⟨3, by decide +kernel, rfl, rfl⟩
theorem F_8_28 : F 8 28 (.ireturn) 29 := ⟨1, by decide +kernel, rfl, rfl⟩
theorem n_12 : m_n 12 = 6 := by decide +kernel
theorem F_12_0 : F 12 0 (.aload_n 0) 1 := ⟨1, by decide +kernel, rfl, rfl⟩
theorem F_12_1 : F 12 1 (.aload_n 0) 2 := ⟨1, by decide +kernel, rfl, rfl⟩
theorem F_12_2 : F 12 2 (.getfield 14) 5 := ⟨3, by decide +kernel, rfl, rfl⟩
theorem o_12 : m_o 12 = 5 := by decide +kernel
theorem F_12_5 : F 12 5 (.iload_n 1) 6 := ⟨1, by decide +kernel, rfl, rfl⟩
theorem F_12_6 : F 12 6 (.iload_n 2) 7 := ⟨1, by decide +kernel, rfl, rfl⟩
theorem F_12_7 : F 12 7 (.invokevirtual 82) 10 := ⟨3, by decide +kernel, rfl, rfl⟩
theorem il_5_82 : ilq 5 82 0 13 3 = true := by decide +kernel
theorem vy_13 : (m_cls 5).1 = (m_y 13).cls ∧ 5 < m_cl.length := by decide +kernel
theorem n_13 : m_n 13 = 5 := by decide +kernel
theorem F_13_0 : F 13 0 (.aload_n 0) 1 := ⟨1, by decide +kernel, rfl, rfl⟩
theorem F_13_1 : F 13 1 (.aload_n 1) 2 := ⟨1, by decide +kernel, rfl, rfl⟩
theorem F_13_2 : F 13 2 (.iload_n 2) 3 := ⟨1, by decide +kernel, rfl, rfl⟩
theorem F_13_3 : F 13 3 (.invokevirtual 96) 6 := ⟨3, by decide +kernel, rfl, rfl⟩
theorem o_13 : m_o 13 = 5 := by decide +kernel
theorem il_5_96 : ilq 5 96 0 14 2 = true := by decide +kernel
theorem vy_14 : (m_cls 5).1 = (m_y 14).cls ∧ 5 < m_cl.length := by decide +kernel
theorem n_14 : m_n 14 = 3 := by decide +kernel
theorem F_14_0 : F 14 0 (.aload_n 1) 1 := ⟨1, by decide +kernel, rfl, rfl⟩
theorem F_14_1 : F 14 1 (.iload_n 2) 2 := ⟨1, by decide +kernel, rfl, rfl⟩
theorem F_14_2 : F 14 2 (.invokevirtual 70) 5 := ⟨3, by decide +kernel, rfl, rfl⟩
theorem o_14 : m_o 14 = 5 := by decide +kernel
theorem F_14_5 : F 14 5 (.ifCond .ne 5) 8 := ⟨3, by decide +kernel, rfl, rfl⟩
theorem F_14_8 : F 14 8 (.iconst (-1)) 9 := ⟨1, by decide +kernel, rfl, rfl⟩
theorem F_14_9 : F 14 9 (.ireturn) 10 := ⟨1, by decide +kernel, rfl, rfl⟩
theorem rt_14 : m_r 14 = (some .int) := by decide +kernel
theorem F_13_6 : F 13 6 (.istore 4) 8 := ⟨2, by decide +kernel, rfl, rfl⟩
theorem F_13_8 : F 13 8 (.iload 4) 10 := ⟨2, by decide +kernel, rfl, rfl⟩
theorem F_13_10 : F 13 10 (.ifCond .eq 6) 13 := ⟨3, by decide +kernel, rfl, rfl⟩
theorem F_13_13 : F 13 13 (.iload 4) 15 := ⟨2, by decide +kernel, rfl, rfl⟩
theorem F_13_15 : F 13 15 (.ireturn) 16 := ⟨1, by decide +kernel, rfl, rfl⟩
theorem rt_13 : m_r 13 = (some .int) := by decide +kernel
theorem F_12_10 : F 12 10 (.istore 4) 12 := ⟨2, by decide +kernel, rfl, rfl⟩
theorem F_12_12 : F 12 12 (.iload 4) 14 := ⟨2, by decide +kernel, rfl, rfl⟩
theorem F_12_14 : F 12 14 (.ifCond .eq 6) 17 := ⟨3, by decide +kernel, rfl, rfl⟩
theorem F_12_17 : F 12 17 (.iload 4) 19 := ⟨2, by decide +kernel, rfl, rfl⟩
theorem F_12_19 : F 12 19 (.ireturn) 20 := ⟨1, by decide +kernel, rfl, rfl⟩
theorem rt_12 : m_r 12 = (some .int) := by decide +kernel
theorem F_14_10 : F 14 10 (.aload_n 1) 11 := ⟨1, by decide +kernel, rfl, rfl⟩
theorem F_14_11 : F 14 11 (.iload_n 2) 12 := ⟨1, by decide +kernel, rfl, rfl⟩
theorem F_14_12 : F 14 12 (.invokevirtual 104) 15 := ⟨3, by decide +kernel, rfl, rfl⟩
theorem F_14_15 : F 14 15 (.ifCond .eq 7) 18 := ⟨3, by decide +kernel, rfl, rfl⟩
theorem F_14_22 : F 14 22 (.aload_n 0) 23 := ⟨1, by decide +kernel, rfl, rfl⟩
theorem F_14_23 : F 14 23 (.iconst 1) 24 := ⟨1, by decide +kernel, rfl, rfl⟩
theorem F_14_24 : F 14 24 (.invokevirtual 74) 27 := ⟨3, by decide +kernel, rfl, rfl⟩
theorem F_14_27 : F 14 27 (.ireturn) 28 := ⟨1, by decide +kernel, rfl, rfl⟩
theorem F_14_18 : F 14 18 (.iconst 0) 19 := ⟨1, by decide +kernel, rfl, rfl⟩
theorem F_14_19 : F 14 19 (.goto 8) 22 := ⟨3, by decide +kernel, rfl, rfl⟩
theorem F_13_16 : F 13 16 (.aload_n 1) 17 := ⟨1, by decide +kernel, rfl, rfl⟩
theorem F_13_17 : F 13 17 (.iload_n 2) 18 := ⟨1, by decide +kernel, rfl, rfl⟩
theorem F_13_18 : F 13 18 (.iload_n 3) 19 := ⟨1, by decide +kernel, rfl, rfl⟩
theorem F_13_19 : F 13 19 (.iconst 1) 20 := ⟨1, by decide +kernel, rfl, rfl⟩
theorem F_13_20 : F 13 20 (.invokevirtual 107) 23 := ⟨3, by decide +kernel, rfl, rfl⟩
theorem il_5_107 : ilq 5 107 0 17 3 = true := by decide +kernel
theorem F_13_23 : F 13 23 (.ifCond .eq 7) 26 := ⟨3, by decide +kernel, rfl, rfl⟩
theorem F_13_30 : F 13 30 (.aload_n 0) 31 := ⟨1, by decide +kernel, rfl, rfl⟩
theorem F_13_31 : F 13 31 (.iconst 2) 32 := ⟨1, by decide +kernel, rfl, rfl⟩
theorem F_13_32 : F 13 32 (.invokevirtual 74) 35 := ⟨3, by decide +kernel, rfl, rfl⟩
theorem F_13_35 : F 13 35 (.ireturn) 36 := ⟨1, by decide +kernel, rfl, rfl⟩
theorem F_13_26 : F 13 26 (.iconst 0) 27 := ⟨1, by decide +kernel, rfl, rfl⟩
theorem F_13_27 : F 13 27 (.goto 8) 30 := ⟨3, by decide +kernel, rfl, rfl⟩
theorem F_12_20 : F 12 20 (.aload_n 0) 21 := ⟨1, by decide +kernel, rfl, rfl⟩
theorem F_12_21 : F 12 21 (.getfield 14) 24 := ⟨3, by decide +kernel, rfl, rfl⟩
theorem F_12_24 : F 12 24 (.iload_n 1) 25 := ⟨1, by decide +kernel, rfl, rfl⟩
theorem F_12_25 : F 12 25 (.iload_n 2) 26 := ⟨1, by decide +kernel, rfl, rfl⟩
theorem F_12_26 : F 12 26 (.invokevirtual 86) 29 := ⟨3, by decide +kernel, rfl, rfl⟩
theorem F_12_29 : F 12 29 (.istore 5) 31 := ⟨2, by decide +kernel, rfl, rfl⟩
theorem F_12_31 : F 12 31 (.aload_n 0) 32 := ⟨1, by decide +kernel, rfl, rfl⟩
theorem F_12_32 : F 12 32 (.getfield 14) 35 := ⟨3, by decide +kernel, rfl, rfl⟩
theorem F_12_35 : F 12 35 (.iload_n 1) 36 := ⟨1, by decide +kernel, rfl, rfl⟩
theorem F_12_36 : F 12 36 (.iload_n 2) 37 := ⟨1, by decide +kernel, rfl, rfl⟩
theorem F_12_37 : F 12 37 (.iload_n 3) 38 := ⟨1, by decide +kernel, rfl, rfl⟩
theorem F_12_38 : F 12 38 (.invokevirtual 90) 41 := ⟨3, by decide +kernel, rfl, rfl⟩
theorem il_5_90 : ilq 5 90 0 19 3 = true := by decide +kernel
theorem F_12_41 : F 12 41 (.aload_n 0) 42 := ⟨1, by decide +kernel, rfl, rfl⟩
theorem F_12_42 : F 12 42 (.iload 5) 44 := ⟨2, by decide +kernel, rfl, rfl⟩
theorem F_12_44 : F 12 44 (.invokevirtual 93) 47 := ⟨3, by decide +kernel, rfl, rfl⟩
theorem il_5_93 : ilq 5 93 0 20 1 = true := by decide +kernel
theorem vy_20 : (m_cls 5).1 = (m_y 20).cls ∧ 5 < m_cl.length := by decide +kernel
theorem n_20 : m_n 20 = 2 := by decide +kernel
theorem F_20_0 : F 20 0 (.aload_n 0) 1 := ⟨1, by decide +kernel, rfl, rfl⟩
theorem F_20_1 : F 20 1 (.iload_n 1) 2 := ⟨1, by decide +kernel, rfl, rfl⟩
theorem F_20_2 : F 20 2 (.putfield 60) 5 := ⟨3, by decide +kernel, rfl, rfl⟩
theorem fl_5_60 : m_fl.lookup (5, 60) = some (5, 9, 1179) := by decide +kernel
theorem kd_0_9 : kd 0 9 = 0 := by decide +kernel
theorem pf_5_9 : pfT 5 9 .int = true := by decide +kernel
theorem o_20 : m_o 20 = 5 := by decide +kernel
theorem F_20_5 : F 20 5 (.iconst 1) 6 := ⟨1, by decide +kernel, rfl, rfl⟩
theorem F_20_6 : F 20 6 (.ireturn) 7 := ⟨1, by decide +kernel, rfl, rfl⟩
theorem rt_20 : m_r 20 = (some .int) := by decide +kernel
theorem F_12_47 : F 12 47 (.ireturn) 48 := ⟨1, by decide +kernel, rfl, rfl⟩
theorem n_21 : m_n 21 = 4 := by decide +kernel
theorem F_21_0 : F 21 0 (.aload_n 0) 1 := ⟨1, by decide +kernel, rfl, rfl⟩
theorem F_21_1 : F 21 1 (.aload_n 0) 2 := ⟨1, by decide +kernel, rfl, rfl⟩
theorem F_21_2 : F 21 2 (.getfield 14) 5 := ⟨3, by decide +kernel, rfl, rfl⟩
theorem o_21 : m_o 21 = 5 := by decide +kernel
theorem F_21_5 : F 21 5 (.iload_n 1) 6 := ⟨1, by decide +kernel, rfl, rfl⟩
theorem F_21_6 : F 21 6 (.iload_n 2) 7 := ⟨1, by decide +kernel, rfl, rfl⟩
theorem F_21_7 : F 21 7 (.invokevirtual 82) 10 := ⟨3, by decide +kernel, rfl, rfl⟩
theorem F_21_10 : F 21 10 (.istore_n 3) 11 := ⟨1, by decide +kernel, rfl, rfl⟩
theorem F_21_11 : F 21 11 (.iload_n 3) 12 := ⟨1, by decide +kernel, rfl, rfl⟩
theorem F_21_12 : F 21 12 (.ifCond .eq 7) 15 := ⟨3, by decide +kernel, rfl, rfl⟩
theorem F_21_15 : F 21 15 (.iload_n 3) 16 := ⟨1, by decide +kernel, rfl, rfl⟩
theorem F_21_16 : F 21 16 (.goto 16) 19 := ⟨3, by decide +kernel, rfl, rfl⟩
theorem F_21_32 : F 21 32 (.ireturn) 33 := ⟨1, by decide +kernel, rfl, rfl⟩
theorem rt_21 : m_r 21 = (some .int) := by decide +kernel
theorem F_21_19 : F 21 19 (.aload_n 0) 20 := ⟨1, by decide +kernel, rfl, rfl⟩
theorem F_21_20 : F 21 20 (.aload_n 0) 21 := ⟨1, by decide +kernel, rfl, rfl⟩
theorem F_21_21 : F 21 21 (.getfield 14) 24 := ⟨3, by decide +kernel, rfl, rfl⟩
theorem F_21_24 : F 21 24 (.iload_n 1) 25 := ⟨1, by decide +kernel, rfl, rfl⟩
theorem F_21_25 : F 21 25 (.iload_n 2) 26 := ⟨1, by decide +kernel, rfl, rfl⟩
theorem F_21_26 : F 21 26 (.invokevirtual 86) 29 := ⟨3, by decide +kernel, rfl, rfl⟩
theorem F_21_29 : F 21 29 (.invokevirtual 93) 32 := ⟨3, by decide +kernel, rfl, rfl⟩
theorem n_22 : m_n 22 = 3 := by decide +kernel
theorem F_22_0 : F 22 0 (.aload_n 0) 1 := ⟨1, by decide +kernel, rfl, rfl⟩
theorem F_22_1 : F 22 1 (.aload_n 0) 2 := ⟨1, by decide +kernel, rfl, rfl⟩
theorem F_22_2 : F 22 2 (.getfield 14) 5 := ⟨3, by decide +kernel, rfl, rfl⟩
theorem o_22 : m_o 22 = 5 := by decide +kernel
theorem F_22_5 : F 22 5 (.iload_n 1) 6 := ⟨1, by decide +kernel, rfl, rfl⟩
theorem F_22_6 : F 22 6 (.invokevirtual 96) 9 := ⟨3, by decide +kernel, rfl, rfl⟩
theorem F_22_9 : F 22 9 (.istore_n 2) 10 := ⟨1, by decide +kernel, rfl, rfl⟩
theorem F_22_10 : F 22 10 (.iload_n 2) 11 := ⟨1, by decide +kernel, rfl, rfl⟩
theorem F_22_11 : F 22 11 (.ifCond .eq 5) 14 := ⟨3, by decide +kernel, rfl, rfl⟩
theorem F_22_14 : F 22 14 (.iload_n 2) 15 := ⟨1, by decide +kernel, rfl, rfl⟩
theorem F_22_15 : F 22 15 (.ireturn) 16 := ⟨1, by decide +kernel, rfl, rfl⟩
theorem rt_22 : m_r 22 = (some .int) := by decide +kernel
theorem F_22_16 : F 22 16 (.aload_n 0) 17 := ⟨1, by decide +kernel, rfl, rfl⟩
theorem F_22_17 : F 22 17 (.getfield 14) 20 := ⟨3, by decide +kernel, rfl, rfl⟩
theorem F_22_20 : F 22 20 (.iload_n 1) 21 := ⟨1, by decide +kernel, rfl, rfl⟩
theorem F_22_21 : F 22 21 (.invokevirtual 100) 24 := ⟨3, by decide +kernel, rfl, rfl⟩
theorem il_5_100 : ilq 5 100 0 23 1 = true := by decide +kernel
theorem vy_23 : (m_cls 3).1 = (m_y 23).cls ∧ 3 < m_cl.length := by decide +kernel
theorem n_23 : m_n 23 = 2 := by decide +kernel
theorem F_23_0 : F 23 0 (.aload_n 0) 1 := ⟨1, by decide +kernel, rfl, rfl⟩
theorem F_23_1 : F 23 1 (.iload_n 1) 2 := ⟨1, by decide +kernel, rfl, rfl⟩
theorem F_23_2 : F 23 2 (.invokevirtual 32) 5 := ⟨3, by decide +kernel, rfl, rfl⟩
theorem o_23 : m_o 23 = 3 := by decide +kernel
theorem F_23_5 : F 23 5 (.ifCond .eq 10) 8 := ⟨3, by decide +kernel, rfl, rfl⟩
theorem F_23_8 : F 23 8 (.aload_n 0) 9 := ⟨1, by decide +kernel, rfl, rfl⟩
theorem F_23_9 : F 23 9 (.getfield 19) 12 := ⟨3, by decide +kernel, rfl, rfl⟩
theorem F_23_12 : F 23 12 (.iload_n 1) 13 := ⟨1, by decide +kernel, rfl, rfl⟩
theorem F_23_13 : F 23 13 (.iconst (-1)) 14 := ⟨1, by decide +kernel, rfl, rfl⟩
theorem F_23_14 : F 23 14 (.iastore) 15 := ⟨1, by decide +kernel, rfl, rfl⟩
theorem F_23_15 : F 23 15 (.return_) 16 := ⟨1, by decide +kernel, rfl, rfl⟩
theorem rt_23 : m_r 23 = none := by decide +kernel
theorem F_22_24 : F 22 24 (.iconst 1) 25 := ⟨1, by decide +kernel, rfl, rfl⟩
theorem F_22_25 : F 22 25 (.ireturn) 26 := ⟨1, by decide +kernel, rfl, rfl⟩
theorem n_24 : m_n 24 = 6 := by decide +kernel
theorem F_24_0 : F 24 0 (.aload_n 0) 1 := ⟨1, by decide +kernel, rfl, rfl⟩
theorem F_24_1 : F 24 1 (.getfield 14) 4 := ⟨3, by decide +kernel, rfl, rfl⟩
theorem o_24 : m_o 24 = 5 := by decide +kernel
theorem F_24_4 : F 24 4 (.iload_n 1) 5 := ⟨1, by decide +kernel, rfl, rfl⟩
theorem F_24_5 : F 24 5 (.invokevirtual 70) 8 := ⟨3, by decide +kernel, rfl, rfl⟩
theorem F_24_8 : F 24 8 (.ifCond .eq 14) 11 := ⟨3, by decide +kernel, rfl, rfl⟩
theorem F_24_22 : F 24 22 (.iconst (-1)) 23 := ⟨1, by decide +kernel, rfl, rfl⟩
theorem F_24_23 : F 24 23 (.ireturn) 24 := ⟨1, by decide +kernel, rfl, rfl⟩
theorem rt_24 : m_r 24 = (some .int) := by decide +kernel
theorem F_24_11 : F 24 11 (.aload_n 0) 12 := ⟨1, by decide +kernel, rfl, rfl⟩
theorem F_24_12 : F 24 12 (.getfield 14) 15 := ⟨3, by decide +kernel, rfl, rfl⟩
theorem F_24_15 : F 24 15 (.iload_n 3) 16 := ⟨1, by decide +kernel, rfl, rfl⟩
theorem F_24_16 : F 24 16 (.invokevirtual 70) 19 := ⟨3, by decide +kernel, rfl, rfl⟩
theorem F_24_19 : F 24 19 (.ifCond .ne 5) 22 := ⟨3, by decide +kernel, rfl, rfl⟩
theorem F_24_24 : F 24 24 (.iload 5) 26 := ⟨2, by decide +kernel, rfl, rfl⟩
theorem F_24_26 : F 24 26 (.ifCond .ge 9) 29 := ⟨3, by decide +kernel, rfl, rfl⟩
theorem F_24_35 : F 24 35 (.aload_n 0) 36 := ⟨1, by decide +kernel, rfl, rfl⟩
theorem F_24_36 : F 24 36 (.getfield 14) 39 := ⟨3, by decide +kernel, rfl, rfl⟩
theorem F_24_39 : F 24 39 (.iload_n 1) 40 := ⟨1, by decide +kernel, rfl, rfl⟩
theorem F_24_40 : F 24 40 (.invokevirtual 104) 43 := ⟨3, by decide +kernel, rfl, rfl⟩
theorem F_24_43 : F 24 43 (.ifCond .eq 14) 46 := ⟨3, by decide +kernel, rfl, rfl⟩
theorem F_24_57 : F 24 57 (.aload_n 0) 58 := ⟨1, by decide +kernel, rfl, rfl⟩
theorem F_24_58 : F 24 58 (.iconst 1) 59 := ⟨1, by decide +kernel, rfl, rfl⟩
theorem F_24_59 : F 24 59 (.invokevirtual 74) 62 := ⟨3, by decide +kernel, rfl, rfl⟩
theorem F_24_62 : F 24 62 (.ireturn) 63 := ⟨1, by decide +kernel, rfl, rfl⟩
theorem F_24_46 : F 24 46 (.aload_n 0) 47 := ⟨1, by decide +kernel, rfl, rfl⟩
theorem F_24_47 : F 24 47 (.getfield 14) 50 := ⟨3, by decide +kernel, rfl, rfl⟩
theorem F_24_50 : F 24 50 (.iload_n 3) 51 := ⟨1, by decide +kernel, rfl, rfl⟩
theorem F_24_51 : F 24 51 (.invokevirtual 104) 54 := ⟨3, by decide +kernel, rfl, rfl⟩
theorem F_24_54 : F 24 54 (.ifCond .ne 9) 57 := ⟨3, by decide +kernel, rfl, rfl⟩
theorem F_24_63 : F 24 63 (.aload_n 0) 64 := ⟨1, by decide +kernel, rfl, rfl⟩
theorem F_24_64 : F 24 64 (.getfield 14) 67 := ⟨3, by decide +kernel, rfl, rfl⟩
theorem F_24_67 : F 24 67 (.iload_n 1) 68 := ⟨1, by decide +kernel, rfl, rfl⟩
theorem F_24_68 : F 24 68 (.iload_n 2) 69 := ⟨1, by decide +kernel, rfl, rfl⟩
theorem F_24_69 : F 24 69 (.iload 5) 71 := ⟨2, by decide +kernel, rfl, rfl⟩
theorem F_24_71 : F 24 71 (.invokevirtual 107) 74 := ⟨3, by decide +kernel, rfl, rfl⟩
theorem F_24_74 : F 24 74 (.ifCond .eq 18) 77 := ⟨3, by decide +kernel, rfl, rfl⟩
theorem F_24_92 : F 24 92 (.aload_n 0) 93 := ⟨1, by decide +kernel, rfl, rfl⟩
theorem F_24_93 : F 24 93 (.iconst 2) 94 := ⟨1, by decide +kernel, rfl, rfl⟩
theorem F_24_94 : F 24 94 (.invokevirtual 74) 97 := ⟨3, by decide +kernel, rfl, rfl⟩
theorem F_24_97 : F 24 97 (.ireturn) 98 := ⟨1, by decide +kernel, rfl, rfl⟩
theorem F_24_77 : F 24 77 (.aload_n 0) 78 := ⟨1, by decide +kernel, rfl, rfl⟩
theorem F_24_78 : F 24 78 (.getfield 14) 81 := ⟨3, by decide +kernel, rfl, rfl⟩
theorem F_24_81 : F 24 81 (.iload_n 3) 82 := ⟨1, by decide +kernel, rfl, rfl⟩
theorem F_24_82 : F 24 82 (.iload 4) 84 := ⟨2, by decide +kernel, rfl, rfl⟩
theorem F_24_84 : F 24 84 (.iload 5) 86 := ⟨2, by decide +kernel, rfl, rfl⟩
theorem F_24_86 : F 24 86 (.invokevirtual 107) 89 := ⟨3, by decide +kernel, rfl, rfl⟩
theorem F_24_89 : F 24 89 (.ifCond .ne 9) 92 := ⟨3, by decide +kernel, rfl, rfl⟩
theorem F_24_98 : F 24 98 (.aload_n 0) 99 := ⟨1, by decide +kernel, rfl, rfl⟩
theorem F_24_99 : F 24 99 (.getfield 14) 102 := ⟨3, by decide +kernel, rfl, rfl⟩
theorem F_24_102 : F 24 102 (.iload_n 1) 103 := ⟨1, by decide +kernel, rfl, rfl⟩
theorem F_24_103 : F 24 103 (.iload_n 2) 104 := ⟨1, by decide +kernel, rfl, rfl⟩
theorem F_24_104 : F 24 104 (.iload_n 3) 105 := ⟨1, by decide +kernel, rfl, rfl⟩
theorem F_24_105 : F 24 105 (.iload 4) 107 := ⟨2, by decide +kernel, rfl, rfl⟩
theorem F_24_107 : F 24 107 (.iload 5) 109 := ⟨2, by decide +kernel, rfl, rfl⟩
theorem F_24_109 : F 24 109 (.invokevirtual 111) 112 := ⟨3, by decide +kernel, rfl, rfl⟩
theorem il_5_111 : ilq 5 111 0 25 5 = true := by decide +kernel
theorem vy_25 : (m_cls 3).1 = (m_y 25).cls ∧ 3 < m_cl.length := by decide +kernel
theorem n_25 : m_n 25 = 6 := by decide +kernel
theorem F_25_0 : F 25 0 (.aload_n 0) 1 := ⟨1, by decide +kernel, rfl, rfl⟩
theorem F_25_1 : F 25 1 (.iload_n 1) 2 := ⟨1, by decide +kernel, rfl, rfl⟩
theorem F_25_2 : F 25 2 (.iload_n 2) 3 := ⟨1, by decide +kernel, rfl, rfl⟩
theorem F_25_3 : F 25 3 (.iload 5) 5 := ⟨2, by decide +kernel, rfl, rfl⟩
theorem F_25_5 : F 25 5 (.invokevirtual 39) 8 := ⟨3, by decide +kernel, rfl, rfl⟩
theorem o_25 : m_o 25 = 3 := by decide +kernel
theorem F_25_8 : F 25 8 (.ifCond .eq 35) 11 := ⟨3, by decide +kernel, rfl, rfl⟩
theorem F_25_11 : F 25 11 (.aload_n 0) 12 := ⟨1, by decide +kernel, rfl, rfl⟩
theorem F_25_12 : F 25 12 (.iload_n 3) 13 := ⟨1, by decide +kernel, rfl, rfl⟩
theorem F_25_13 : F 25 13 (.iload 4) 15 := ⟨2, by decide +kernel, rfl, rfl⟩
theorem F_25_15 : F 25 15 (.iload 5) 17 := ⟨2, by decide +kernel, rfl, rfl⟩
theorem F_25_17 : F 25 17 (.invokevirtual 39) 20 := ⟨3, by decide +kernel, rfl, rfl⟩
theorem F_25_20 : F 25 20 (.ifCond .eq 23) 23 := ⟨3, by decide +kernel, rfl, rfl⟩
theorem F_25_23 : F 25 23 (.aload_n 0) 24 := ⟨1, by decide +kernel, rfl, rfl⟩
theorem F_25_24 : F 25 24 (.getfield 25) 27 := ⟨3, by decide +kernel, rfl, rfl⟩
theorem F_25_27 : F 25 27 (.iload_n 1) 28 := ⟨1, by decide +kernel, rfl, rfl⟩
theorem F_25_28 : F 25 28 (.aaload) 29 := ⟨1, by decide +kernel, rfl, rfl⟩
theorem F_25_29 : F 25 29 (.iload_n 2) 30 := ⟨1, by decide +kernel, rfl, rfl⟩
theorem F_25_30 : F 25 30 (.aload_n 0) 31 := ⟨1, by decide +kernel, rfl, rfl⟩
theorem F_25_31 : F 25 31 (.getfield 25) 34 := ⟨3, by decide +kernel, rfl, rfl⟩
theorem F_25_34 : F 25 34 (.iload_n 3) 35 := ⟨1, by decide +kernel, rfl, rfl⟩
theorem F_25_35 : F 25 35 (.aaload) 36 := ⟨1, by decide +kernel, rfl, rfl⟩
theorem F_25_36 : F 25 36 (.iload 4) 38 := ⟨2, by decide +kernel, rfl, rfl⟩
theorem F_25_38 : F 25 38 (.iload 5) 40 := ⟨2, by decide +kernel, rfl, rfl⟩
theorem F_25_40 : F 25 40 (.invokestatic 43) 43 := ⟨3, by decide +kernel, rfl, rfl⟩
theorem mmn_3_43 : m_mm.lookup (3, 43) = none := by decide +kernel
theorem ac_3_43 : (m_ac.lookup (3, 43)).isSome = true := by decide +kernel
theorem iln_3_43 : m_il.lookup (3, 43) = none := by decide +kernel
theorem F_25_43 : F 25 43 (.return_) 44 := ⟨1, by decide +kernel, rfl, rfl⟩
theorem rt_25 : m_r 25 = none := by decide +kernel
theorem F_24_112 : F 24 112 (.iconst 1) 113 := ⟨1, by decide +kernel, rfl, rfl⟩
theorem F_24_113 : F 24 113 (.ireturn) 114 := ⟨1, by decide +kernel, rfl, rfl⟩
theorem F_24_29 : F 24 29 (.aload_n 0) 30 := ⟨1, by decide +kernel, rfl, rfl⟩
theorem F_24_30 : F 24 30 (.iconst 5) 31 := ⟨1, by decide +kernel, rfl, rfl⟩
theorem F_24_31 : F 24 31 (.invokevirtual 74) 34 := ⟨3, by decide +kernel, rfl, rfl⟩
theorem F_24_34 : F 24 34 (.ireturn) 35 := ⟨1, by decide +kernel, rfl, rfl⟩
theorem n_26 : m_n 26 = 4 := by decide +kernel
theorem F_26_0 : F 26 0 (.aload_n 0) 1 := ⟨1, by decide +kernel, rfl, rfl⟩
theorem F_26_1 : F 26 1 (.aload_n 0) 2 := ⟨1, by decide +kernel, rfl, rfl⟩
theorem F_26_2 : F 26 2 (.getfield 14) 5 := ⟨3, by decide +kernel, rfl, rfl⟩
theorem o_26 : m_o 26 = 5 := by decide +kernel
theorem F_26_5 : F 26 5 (.iload_n 1) 6 := ⟨1, by decide +kernel, rfl, rfl⟩
theorem F_26_6 : F 26 6 (.invokevirtual 96) 9 := ⟨3, by decide +kernel, rfl, rfl⟩
theorem F_26_9 : F 26 9 (.istore_n 2) 10 := ⟨1, by decide +kernel, rfl, rfl⟩
theorem F_26_10 : F 26 10 (.iload_n 2) 11 := ⟨1, by decide +kernel, rfl, rfl⟩
theorem F_26_11 : F 26 11 (.ifCond .eq 5) 14 := ⟨3, by decide +kernel, rfl, rfl⟩
theorem F_26_14 : F 26 14 (.iload_n 2) 15 := ⟨1, by decide +kernel, rfl, rfl⟩
theorem F_26_15 : F 26 15 (.ireturn) 16 := ⟨1, by decide +kernel, rfl, rfl⟩
theorem rt_26 : m_r 26 = (some .int) := by decide +kernel
theorem F_26_16 : F 26 16 (.aload_n 0) 17 := ⟨1, by decide +kernel, rfl, rfl⟩
theorem F_26_17 : F 26 17 (.getfield 14) 20 := ⟨3, by decide +kernel, rfl, rfl⟩
theorem F_26_20 : F 26 20 (.iload_n 1) 21 := ⟨1, by decide +kernel, rfl, rfl⟩
theorem F_26_21 : F 26 21 (.invokevirtual 115) 24 := ⟨3, by decide +kernel, rfl, rfl⟩
theorem F_26_24 : F 26 24 (.istore_n 3) 25 := ⟨1, by decide +kernel, rfl, rfl⟩
theorem F_26_25 : F 26 25 (.iload_n 3) 26 := ⟨1, by decide +kernel, rfl, rfl⟩
theorem F_26_26 : F 26 26 (.ifCond .gt 9) 29 := ⟨3, by decide +kernel, rfl, rfl⟩
theorem F_26_35 : F 26 35 (.aload_n 0) 36 := ⟨1, by decide +kernel, rfl, rfl⟩
theorem F_26_36 : F 26 36 (.aload_n 0) 37 := ⟨1, by decide +kernel, rfl, rfl⟩
theorem F_26_37 : F 26 37 (.getfield 14) 40 := ⟨3, by decide +kernel, rfl, rfl⟩
theorem F_26_40 : F 26 40 (.iload_n 1) 41 := ⟨1, by decide +kernel, rfl, rfl⟩
theorem F_26_41 : F 26 41 (.invokevirtual 118) 44 := ⟨3, by decide +kernel, rfl, rfl⟩
theorem il_5_118 : ilq 5 118 0 27 1 = true := by decide +kernel
theorem vy_27 : (m_cls 3).1 = (m_y 27).cls ∧ 3 < m_cl.length := by decide +kernel
theorem F_26_44 : F 26 44 (.iload_n 3) 45 := ⟨1, by decide +kernel, rfl, rfl⟩
theorem F_26_45 : F 26 45 (.i2l) 46 := ⟨1, by decide +kernel, rfl, rfl⟩
theorem F_26_46 : F 26 46 (.ldiv) 47 := ⟨1, by decide +kernel, rfl, rfl⟩
theorem F_26_47 : F 26 47 (.l2i) 48 := ⟨1, by decide +kernel, rfl, rfl⟩
theorem F_26_48 : F 26 48 (.invokevirtual 93) 51 := ⟨3, by decide +kernel, rfl, rfl⟩
theorem F_26_51 : F 26 51 (.ireturn) 52 := ⟨1, by decide +kernel, rfl, rfl⟩
theorem F_26_29 : F 26 29 (.aload_n 0) 30 := ⟨1, by decide +kernel, rfl, rfl⟩
theorem F_26_30 : F 26 30 (.iconst 4) 31 := ⟨1, by decide +kernel, rfl, rfl⟩
theorem F_26_31 : F 26 31 (.invokevirtual 74) 34 := ⟨3, by decide +kernel, rfl, rfl⟩
theorem F_26_34 : F 26 34 (.ireturn) 35 := ⟨1, by decide +kernel, rfl, rfl⟩
theorem n_28 : m_n 28 = 3 := by decide +kernel
theorem F_28_0 : F 28 0 (.aload_n 0) 1 := ⟨1, by decide +kernel, rfl, rfl⟩
theorem F_28_1 : F 28 1 (.getfield 18) 4 := ⟨3, by decide +kernel, rfl, rfl⟩
theorem fl_5_18 : m_fl.lookup (5, 18) = some (5, 1, 1171) := by decide +kernel
theorem kd_0_1 : kd 0 1 = 12 := by decide +kernel
theorem o_28 : m_o 28 = 5 := by decide +kernel
theorem rf_0_1 : rf 0 1 = 10 := by decide +kernel
theorem F_28_4 : F 28 4 (.iload_n 1) 5 := ⟨1, by decide +kernel, rfl, rfl⟩
theorem F_28_5 : F 28 5 (.invokevirtual 70) 8 := ⟨3, by decide +kernel, rfl, rfl⟩
theorem F_28_8 : F 28 8 (.ifCond .eq 9) 11 := ⟨3, by decide +kernel, rfl, rfl⟩
theorem F_28_17 : F 28 17 (.iconst (-1)) 18 := ⟨1, by decide +kernel, rfl, rfl⟩
theorem F_28_18 : F 28 18 (.ireturn) 19 := ⟨1, by decide +kernel, rfl, rfl⟩
theorem rt_28 : m_r 28 = (some .int) := by decide +kernel
theorem F_28_11 : F 28 11 (.iload_n 2) 12 := ⟨1, by decide +kernel, rfl, rfl⟩
theorem F_28_12 : F 28 12 (.bipush 60) 14 := ⟨2, by decide +kernel, rfl, rfl⟩
theorem F_28_14 : F 28 14 (.if_icmp .le 5) 17 := ⟨3, by decide +kernel, rfl, rfl⟩
theorem F_28_19 : F 28 19 (.iload_n 2) 20 := ⟨1, by decide +kernel, rfl, rfl⟩
theorem F_28_20 : F 28 20 (.ifCond .ge 9) 23 := ⟨3, by decide +kernel, rfl, rfl⟩
theorem F_28_29 : F 28 29 (.aload_n 0) 30 := ⟨1, by decide +kernel, rfl, rfl⟩
theorem F_28_30 : F 28 30 (.getfield 18) 33 := ⟨3, by decide +kernel, rfl, rfl⟩
theorem F_28_33 : F 28 33 (.iload_n 1) 34 := ⟨1, by decide +kernel, rfl, rfl⟩
theorem F_28_34 : F 28 34 (.iload_n 2) 35 := ⟨1, by decide +kernel, rfl, rfl⟩
theorem F_28_35 : F 28 35 (.bipush 32) 37 := ⟨2, by decide +kernel, rfl, rfl⟩
theorem F_28_37 : F 28 37 (.invokevirtual 78) 40 := ⟨3, by decide +kernel, rfl, rfl⟩
theorem F_28_40 : F 28 40 (.iload_n 2) 41 := ⟨1, by decide +kernel, rfl, rfl⟩
theorem F_28_41 : F 28 41 (.ireturn) 42 := ⟨1, by decide +kernel, rfl, rfl⟩
theorem F_28_23 : F 28 23 (.aload_n 0) 24 := ⟨1, by decide +kernel, rfl, rfl⟩
theorem F_28_24 : F 28 24 (.iconst 5) 25 := ⟨1, by decide +kernel, rfl, rfl⟩
theorem F_28_25 : F 28 25 (.invokevirtual 74) 28 := ⟨3, by decide +kernel, rfl, rfl⟩
theorem F_28_28 : F 28 28 (.ireturn) 29 := ⟨1, by decide +kernel, rfl, rfl⟩
theorem n_29 : m_n 29 = 6 := by decide +kernel
theorem F_29_0 : F 29 0 (.aload_n 0) 1 := ⟨1, by decide +kernel, rfl, rfl⟩
theorem F_29_1 : F 29 1 (.aload_n 0) 2 := ⟨1, by decide +kernel, rfl, rfl⟩
theorem F_29_2 : F 29 2 (.getfield 18) 5 := ⟨3, by decide +kernel, rfl, rfl⟩
theorem o_29 : m_o 29 = 5 := by decide +kernel
theorem F_29_5 : F 29 5 (.iload_n 1) 6 := ⟨1, by decide +kernel, rfl, rfl⟩
theorem F_29_6 : F 29 6 (.iload_n 2) 7 := ⟨1, by decide +kernel, rfl, rfl⟩
theorem F_29_7 : F 29 7 (.invokevirtual 82) 10 := ⟨3, by decide +kernel, rfl, rfl⟩
theorem F_29_10 : F 29 10 (.istore 4) 12 := ⟨2, by decide +kernel, rfl, rfl⟩
theorem F_29_12 : F 29 12 (.iload 4) 14 := ⟨2, by decide +kernel, rfl, rfl⟩
theorem F_29_14 : F 29 14 (.ifCond .eq 6) 17 := ⟨3, by decide +kernel, rfl, rfl⟩
theorem F_29_17 : F 29 17 (.iload 4) 19 := ⟨2, by decide +kernel, rfl, rfl⟩
theorem F_29_19 : F 29 19 (.ireturn) 20 := ⟨1, by decide +kernel, rfl, rfl⟩
theorem rt_29 : m_r 29 = (some .int) := by decide +kernel
theorem F_29_20 : F 29 20 (.aload_n 0) 21 := ⟨1, by decide +kernel, rfl, rfl⟩
theorem F_29_21 : F 29 21 (.getfield 18) 24 := ⟨3, by decide +kernel, rfl, rfl⟩
theorem F_29_24 : F 29 24 (.iload_n 1) 25 := ⟨1, by decide +kernel, rfl, rfl⟩
theorem F_29_25 : F 29 25 (.iload_n 2) 26 := ⟨1, by decide +kernel, rfl, rfl⟩
theorem F_29_26 : F 29 26 (.invokevirtual 86) 29 := ⟨3, by decide +kernel, rfl, rfl⟩
theorem F_29_29 : F 29 29 (.istore 5) 31 := ⟨2, by decide +kernel, rfl, rfl⟩
theorem F_29_31 : F 29 31 (.aload_n 0) 32 := ⟨1, by decide +kernel, rfl, rfl⟩
theorem F_29_32 : F 29 32 (.getfield 18) 35 := ⟨3, by decide +kernel, rfl, rfl⟩
theorem F_29_35 : F 29 35 (.iload_n 1) 36 := ⟨1, by decide +kernel, rfl, rfl⟩
theorem F_29_36 : F 29 36 (.iload_n 2) 37 := ⟨1, by decide +kernel, rfl, rfl⟩
theorem F_29_37 : F 29 37 (.iload_n 3) 38 := ⟨1, by decide +kernel, rfl, rfl⟩
theorem F_29_38 : F 29 38 (.i2b) 39 := ⟨1, by decide +kernel, rfl, rfl⟩
theorem F_29_39 : F 29 39 (.invokevirtual 90) 42 := ⟨3, by decide +kernel, rfl, rfl⟩
theorem F_29_42 : F 29 42 (.iload 5) 44 := ⟨2, by decide +kernel, rfl, rfl⟩
theorem F_29_44 : F 29 44 (.sipush 1000) 47 := ⟨3, by decide +kernel, rfl, rfl⟩
theorem F_29_47 : F 29 47 (.iadd) 48 := ⟨1, by decide +kernel, rfl, rfl⟩
theorem F_29_48 : F 29 48 (.ireturn) 49 := ⟨1, by decide +kernel, rfl, rfl⟩
theorem n_30 : m_n 30 = 3 := by decide +kernel
theorem F_30_0 : F 30 0 (.aload_n 0) 1 := ⟨1, by decide +kernel, rfl, rfl⟩
theorem F_30_1 : F 30 1 (.aload_n 0) 2 := ⟨1, by decide +kernel, rfl, rfl⟩
theorem F_30_2 : F 30 2 (.getfield 18) 5 := ⟨3, by decide +kernel, rfl, rfl⟩
theorem o_30 : m_o 30 = 5 := by decide +kernel
theorem F_30_5 : F 30 5 (.iload_n 1) 6 := ⟨1, by decide +kernel, rfl, rfl⟩
theorem F_30_6 : F 30 6 (.invokevirtual 96) 9 := ⟨3, by decide +kernel, rfl, rfl⟩
theorem F_30_9 : F 30 9 (.istore_n 2) 10 := ⟨1, by decide +kernel, rfl, rfl⟩
theorem F_30_10 : F 30 10 (.iload_n 2) 11 := ⟨1, by decide +kernel, rfl, rfl⟩
theorem F_30_11 : F 30 11 (.ifCond .eq 7) 14 := ⟨3, by decide +kernel, rfl, rfl⟩
theorem F_30_14 : F 30 14 (.iload_n 2) 15 := ⟨1, by decide +kernel, rfl, rfl⟩
theorem F_30_15 : F 30 15 (.goto 15) 18 := ⟨3, by decide +kernel, rfl, rfl⟩
theorem F_30_30 : F 30 30 (.ireturn) 31 := ⟨1, by decide +kernel, rfl, rfl⟩
theorem rt_30 : m_r 30 = (some .int) := by decide +kernel
theorem F_30_18 : F 30 18 (.aload_n 0) 19 := ⟨1, by decide +kernel, rfl, rfl⟩
theorem F_30_19 : F 30 19 (.getfield 27) 22 := ⟨3, by decide +kernel, rfl, rfl⟩
theorem fl_5_27 : m_fl.lookup (5, 27) = some (5, 3, 1173) := by decide +kernel
theorem kd_0_3 : kd 0 3 = 25 := by decide +kernel
theorem rf_0_3 : rf 0 3 = 23 := by decide +kernel
theorem F_30_22 : F 30 22 (.aload_n 0) 23 := ⟨1, by decide +kernel, rfl, rfl⟩
theorem F_30_23 : F 30 23 (.getfield 18) 26 := ⟨3, by decide +kernel, rfl, rfl⟩
theorem F_30_26 : F 30 26 (.iload_n 1) 27 := ⟨1, by decide +kernel, rfl, rfl⟩
theorem F_30_27 : F 30 27 (.invokevirtual 122) 30 := ⟨3, by decide +kernel, rfl, rfl⟩
theorem il_5_122 : ilq 5 122 0 31 2 = true := by decide +kernel
theorem vy_31 : (m_cls 2).1 = (m_y 31).cls ∧ 2 < m_cl.length := by decide +kernel
theorem n_47 : m_n 47 = 3 := by decide +kernel
theorem F_47_0 : F 47 0 (.aload_n 0) 1 := ⟨1, by decide +kernel, rfl, rfl⟩
theorem F_47_1 : F 47 1 (.aload_n 0) 2 := ⟨1, by decide +kernel, rfl, rfl⟩
theorem F_47_2 : F 47 2 (.getfield 18) 5 := ⟨3, by decide +kernel, rfl, rfl⟩
theorem o_47 : m_o 47 = 5 := by decide +kernel
theorem F_47_5 : F 47 5 (.iload_n 1) 6 := ⟨1, by decide +kernel, rfl, rfl⟩
theorem F_47_6 : F 47 6 (.invokevirtual 96) 9 := ⟨3, by decide +kernel, rfl, rfl⟩
theorem F_47_9 : F 47 9 (.istore_n 2) 10 := ⟨1, by decide +kernel, rfl, rfl⟩
theorem F_47_10 : F 47 10 (.iload_n 2) 11 := ⟨1, by decide +kernel, rfl, rfl⟩
theorem F_47_11 : F 47 11 (.ifCond .eq 5) 14 := ⟨3, by decide +kernel, rfl, rfl⟩
theorem F_47_14 : F 47 14 (.iload_n 2) 15 := ⟨1, by decide +kernel, rfl, rfl⟩
theorem F_47_15 : F 47 15 (.ireturn) 16 := ⟨1, by decide +kernel, rfl, rfl⟩
theorem rt_47 : m_r 47 = (some .int) := by decide +kernel
theorem F_47_16 : F 47 16 (.aload_n 0) 17 := ⟨1, by decide +kernel, rfl, rfl⟩
theorem F_47_17 : F 47 17 (.getfield 27) 20 := ⟨3, by decide +kernel, rfl, rfl⟩
theorem F_47_20 : F 47 20 (.aload_n 0) 21 := ⟨1, by decide +kernel, rfl, rfl⟩
theorem F_47_21 : F 47 21 (.getfield 18) 24 := ⟨3, by decide +kernel, rfl, rfl⟩
theorem F_47_24 : F 47 24 (.iload_n 1) 25 := ⟨1, by decide +kernel, rfl, rfl⟩
theorem F_47_25 : F 47 25 (.invokevirtual 122) 28 := ⟨3, by decide +kernel, rfl, rfl⟩
theorem F_47_28 : F 47 28 (.bipush (-9)) 30 := ⟨2, by decide +kernel, rfl, rfl⟩
theorem F_47_30 : F 47 30 (.if_icmp .eq 6) 33 := ⟨3, by decide +kernel, rfl, rfl⟩
theorem F_47_36 : F 47 36 (.aload_n 0) 37 := ⟨1, by decide +kernel, rfl, rfl⟩
theorem F_47_37 : F 47 37 (.getfield 34) 40 := ⟨3, by decide +kernel, rfl, rfl⟩
theorem F_47_40 : F 47 40 (.aload_n 0) 41 := ⟨1, by decide +kernel, rfl, rfl⟩
theorem F_47_41 : F 47 41 (.getfield 27) 44 := ⟨3, by decide +kernel, rfl, rfl⟩
theorem F_47_44 : F 47 44 (.invokevirtual 125) 47 := ⟨3, by decide +kernel, rfl, rfl⟩
theorem il_5_125 : ilq 5 125 0 48 1 = true := by decide +kernel
theorem vy_48 : (m_cls 1).1 = (m_y 48).cls ∧ 1 < m_cl.length := by decide +kernel
theorem F_47_47 : F 47 47 (.aload_n 0) 48 := ⟨1, by decide +kernel, rfl, rfl⟩
theorem F_47_48 : F 47 48 (.getfield 21) 51 := ⟨3, by decide +kernel, rfl, rfl⟩
theorem fl_5_21 : m_fl.lookup (5, 21) = some (5, 2, 1172) := by decide +kernel
theorem kd_0_2 : kd 0 2 = 19 := by decide +kernel
theorem rf_0_2 : rf 0 2 = 17 := by decide +kernel
theorem F_47_51 : F 47 51 (.invokevirtual 129) 54 := ⟨3, by decide +kernel, rfl, rfl⟩
theorem il_5_129 : ilq 5 129 0 63 0 = true := by decide +kernel
theorem vy_63 : (m_cls 3).1 = (m_y 63).cls ∧ 3 < m_cl.length := by decide +kernel
theorem F_47_54 : F 47 54 (.aload_n 0) 55 := ⟨1, by decide +kernel, rfl, rfl⟩
theorem F_47_55 : F 47 55 (.getfield 34) 58 := ⟨3, by decide +kernel, rfl, rfl⟩
theorem F_47_58 : F 47 58 (.invokevirtual 132) 61 := ⟨3, by decide +kernel, rfl, rfl⟩
theorem il_5_132 : ilq 5 132 0 64 0 = true := by decide +kernel
theorem vy_64 : (m_cls 1).1 = (m_y 64).cls ∧ 1 < m_cl.length := by decide +kernel
theorem n_64 : m_n 64 = 1 := by decide +kernel
theorem F_64_0 : F 64 0 (.aload_n 0) 1 := ⟨1, by decide +kernel, rfl, rfl⟩
theorem F_64_1 : F 64 1 (.getfield 24) 4 := ⟨3, by decide +kernel, rfl, rfl⟩
theorem o_64 : m_o 64 = 1 := by decide +kernel
theorem F_64_4 : F 64 4 (.ireturn) 5 := ⟨1, by decide +kernel, rfl, rfl⟩
theorem rt_64 : m_r 64 = (some .int) := by decide +kernel
theorem F_47_61 : F 47 61 (.ireturn) 62 := ⟨1, by decide +kernel, rfl, rfl⟩
theorem F_47_33 : F 47 33 (.bipush (-4)) 35 := ⟨2, by decide +kernel, rfl, rfl⟩
theorem F_47_35 : F 47 35 (.ireturn) 36 := ⟨1, by decide +kernel, rfl, rfl⟩
theorem n_65 : m_n 65 = 3 := by decide +kernel
theorem F_65_0 : F 65 0 (.aload_n 0) 1 := ⟨1, by decide +kernel, rfl, rfl⟩
theorem F_65_1 : F 65 1 (.getfield 34) 4 := ⟨3, by decide +kernel, rfl, rfl⟩
theorem o_65 : m_o 65 = 5 := by decide +kernel
theorem F_65_4 : F 65 4 (.iload_n 1) 5 := ⟨1, by decide +kernel, rfl, rfl⟩
theorem F_65_5 : F 65 5 (.invokevirtual 136) 8 := ⟨3, by decide +kernel, rfl, rfl⟩
theorem F_65_8 : F 65 8 (.ifCond .eq 13) 11 := ⟨3, by decide +kernel, rfl, rfl⟩
theorem F_65_21 : F 65 21 (.iconst (-1)) 22 := ⟨1, by decide +kernel, rfl, rfl⟩
theorem F_65_22 : F 65 22 (.ireturn) 23 := ⟨1, by decide +kernel, rfl, rfl⟩
theorem rt_65 : m_r 65 = (some .int) := by decide +kernel
theorem F_65_11 : F 65 11 (.iload_n 2) 12 := ⟨1, by decide +kernel, rfl, rfl⟩
theorem F_65_12 : F 65 12 (.ifCond .lt 9) 15 := ⟨3, by decide +kernel, rfl, rfl⟩
theorem F_65_15 : F 65 15 (.iload_n 2) 16 := ⟨1, by decide +kernel, rfl, rfl⟩
theorem F_65_16 : F 65 16 (.bipush 7) 18 := ⟨2, by decide +kernel, rfl, rfl⟩
theorem F_65_18 : F 65 18 (.if_icmp .lt 5) 21 := ⟨3, by decide +kernel, rfl, rfl⟩
theorem F_65_23 : F 65 23 (.aload_n 0) 24 := ⟨1, by decide +kernel, rfl, rfl⟩
theorem F_65_24 : F 65 24 (.aload_n 0) 25 := ⟨1, by decide +kernel, rfl, rfl⟩
theorem F_65_25 : F 65 25 (.getfield 34) 28 := ⟨3, by decide +kernel, rfl, rfl⟩
theorem F_65_28 : F 65 28 (.iload_n 1) 29 := ⟨1, by decide +kernel, rfl, rfl⟩
theorem F_65_29 : F 65 29 (.iload_n 2) 30 := ⟨1, by decide +kernel, rfl, rfl⟩
theorem F_65_30 : F 65 30 (.invokevirtual 139) 33 := ⟨3, by decide +kernel, rfl, rfl⟩
theorem il_5_139 : ilq 5 139 0 67 2 = true := by decide +kernel
theorem vy_67 : (m_cls 1).1 = (m_y 67).cls ∧ 1 < m_cl.length := by decide +kernel
theorem n_67 : m_n 67 = 4 := by decide +kernel
theorem F_67_0 : F 67 0 (.aload_n 0) 1 := ⟨1, by decide +kernel, rfl, rfl⟩
theorem F_67_1 : F 67 1 (.iload_n 1) 2 := ⟨1, by decide +kernel, rfl, rfl⟩
theorem F_67_2 : F 67 2 (.invokevirtual 107) 5 := ⟨3, by decide +kernel, rfl, rfl⟩
theorem o_67 : m_o 67 = 1 := by decide +kernel
theorem F_58_18 : F 58 18 (.iconst 0) 19 := ⟨1, by decide +kernel, rfl, rfl⟩
theorem rf_40_0 : rf 40 0 = 44 := by decide +kernel
theorem F_67_5 : F 67 5 (.astore_n 3) 6 := ⟨1, by decide +kernel, rfl, rfl⟩
theorem F_67_6 : F 67 6 (.iload_n 2) 7 := ⟨1, by decide +kernel, rfl, rfl⟩
theorem F_67_7 : F 67 7 (.lookupswitch 69 #[(0, 33), (5, 38), (6, 43)]) 40 := ⟨33, by decide +kernel, rfl, rfl⟩
theorem F_67_40 : F 67 40 (.aload_n 3) 41 := ⟨1, by decide +kernel, rfl, rfl⟩
theorem F_67_41 : F 67 41 (.invokevirtual 68) 44 := ⟨3, by decide +kernel, rfl, rfl⟩
theorem ty_44 : ty 44 = 0 := by decide +kernel
theorem kd_44_1 : kd 44 1 = 0 := by decide +kernel
theorem F_67_44 : F 67 44 (.ireturn) 45 := ⟨1, by decide +kernel, rfl, rfl⟩
theorem rt_67 : m_r 67 = (some .int) := by decide +kernel
theorem F_65_33 : F 65 33 (.invokevirtual 93) 36 := ⟨3, by decide +kernel, rfl, rfl⟩
theorem F_65_36 : F 65 36 (.ireturn) 37 := ⟨1, by decide +kernel, rfl, rfl⟩
theorem F_67_45 : F 67 45 (.aload_n 3) 46 := ⟨1, by decide +kernel, rfl, rfl⟩
theorem F_67_46 : F 67 46 (.invokevirtual 108) 49 := ⟨3, by decide +kernel, rfl, rfl⟩
theorem kd_44_2 : kd 44 2 = 0 := by decide +kernel
theorem F_67_49 : F 67 49 (.ireturn) 50 := ⟨1, by decide +kernel, rfl, rfl⟩
theorem F_67_50 : F 67 50 (.iload_n 1) 51 := ⟨1, by decide +kernel, rfl, rfl⟩
theorem F_67_51 : F 67 51 (.aload_n 0) 52 := ⟨1, by decide +kernel, rfl, rfl⟩
theorem F_67_52 : F 67 52 (.getfield 37) 55 := ⟨3, by decide +kernel, rfl, rfl⟩
theorem F_67_55 : F 67 55 (.if_icmp .ne 7) 58 := ⟨3, by decide +kernel, rfl, rfl⟩
theorem F_67_62 : F 67 62 (.iload_n 1) 63 := ⟨1, by decide +kernel, rfl, rfl⟩
theorem F_67_63 : F 67 63 (.aload_n 0) 64 := ⟨1, by decide +kernel, rfl, rfl⟩
theorem F_67_64 : F 67 64 (.getfield 40) 67 := ⟨3, by decide +kernel, rfl, rfl⟩
theorem F_67_67 : F 67 67 (.if_icmp .ne 7) 70 := ⟨3, by decide +kernel, rfl, rfl⟩
theorem F_67_74 : F 67 74 (.iconst 0) 75 := ⟨1, by decide +kernel, rfl, rfl⟩
theorem F_67_75 : F 67 75 (.ireturn) 76 := ⟨1, by decide +kernel, rfl, rfl⟩
theorem F_67_70 : F 67 70 (.iconst 2) 71 := ⟨1, by decide +kernel, rfl, rfl⟩
theorem F_67_71 : F 67 71 (.goto 4) 74 := ⟨3, by decide +kernel, rfl, rfl⟩
theorem F_67_58 : F 67 58 (.iconst 1) 59 := ⟨1, by decide +kernel, rfl, rfl⟩
theorem F_67_59 : F 67 59 (.goto 16) 62 := ⟨3, by decide +kernel, rfl, rfl⟩
theorem F_67_76 : F 67 76 (.aload_n 3) 77 := ⟨1, by decide +kernel, rfl, rfl⟩
theorem F_67_77 : F 67 77 (.iload_n 2) 78 := ⟨1, by decide +kernel, rfl, rfl⟩
theorem F_67_78 : F 67 78 (.iconst 1) 79 := ⟨1, by decide +kernel, rfl, rfl⟩
theorem F_67_79 : F 67 79 (.isub) 80 := ⟨1, by decide +kernel, rfl, rfl⟩
theorem F_67_80 : F 67 80 (.invokevirtual 111) 83 := ⟨3, by decide +kernel, rfl, rfl⟩
theorem il_1_111 : ilq 1 111 0 54 1 = true := by decide +kernel
theorem F_54_16 : F 54 16 (.iconst 0) 17 := ⟨1, by decide +kernel, rfl, rfl⟩
theorem F_67_83 : F 67 83 (.ireturn) 84 := ⟨1, by decide +kernel, rfl, rfl⟩
theorem kd_44_0 : kd 44 0 = 47 := by decide +kernel
theorem rf_44_0 : rf 44 0 = 45 := by decide +kernel
theorem ln_45 : ln 45 = 4 := by decide +kernel
theorem ty_45 : ty 45 = 20 := by decide +kernel
theorem n_69 : m_n 69 = 4 := by decide +kernel
theorem F_69_0 : F 69 0 (.aload_n 0) 1 := ⟨1, by decide +kernel, rfl, rfl⟩
theorem F_69_1 : F 69 1 (.getfield 34) 4 := ⟨3, by decide +kernel, rfl, rfl⟩
theorem o_69 : m_o 69 = 5 := by decide +kernel
theorem F_69_4 : F 69 4 (.iload_n 1) 5 := ⟨1, by decide +kernel, rfl, rfl⟩
theorem F_69_5 : F 69 5 (.invokevirtual 136) 8 := ⟨3, by decide +kernel, rfl, rfl⟩
theorem F_69_8 : F 69 8 (.ifCond .eq 13) 11 := ⟨3, by decide +kernel, rfl, rfl⟩
theorem F_69_21 : F 69 21 (.iconst (-1)) 22 := ⟨1, by decide +kernel, rfl, rfl⟩
theorem F_69_22 : F 69 22 (.ireturn) 23 := ⟨1, by decide +kernel, rfl, rfl⟩
theorem rt_69 : m_r 69 = (some .int) := by decide +kernel
theorem F_69_11 : F 69 11 (.iload_n 2) 12 := ⟨1, by decide +kernel, rfl, rfl⟩
theorem F_69_12 : F 69 12 (.ifCond .le 9) 15 := ⟨3, by decide +kernel, rfl, rfl⟩
theorem F_69_15 : F 69 15 (.iload_n 2) 16 := ⟨1, by decide +kernel, rfl, rfl⟩
theorem F_69_16 : F 69 16 (.bipush 6) 18 := ⟨2, by decide +kernel, rfl, rfl⟩
theorem F_69_18 : F 69 18 (.if_icmp .lt 5) 21 := ⟨3, by decide +kernel, rfl, rfl⟩
theorem F_69_23 : F 69 23 (.aload_n 0) 24 := ⟨1, by decide +kernel, rfl, rfl⟩
theorem F_69_24 : F 69 24 (.getfield 34) 27 := ⟨3, by decide +kernel, rfl, rfl⟩
theorem F_69_27 : F 69 27 (.iload_n 1) 28 := ⟨1, by decide +kernel, rfl, rfl⟩
theorem F_69_28 : F 69 28 (.invokevirtual 142) 31 := ⟨3, by decide +kernel, rfl, rfl⟩
theorem F_69_31 : F 69 31 (.astore_n 3) 32 := ⟨1, by decide +kernel, rfl, rfl⟩
theorem F_69_32 : F 69 32 (.aload_n 3) 33 := ⟨1, by decide +kernel, rfl, rfl⟩
theorem F_69_33 : F 69 33 (.iload_n 2) 34 := ⟨1, by decide +kernel, rfl, rfl⟩
theorem F_69_34 : F 69 34 (.invokevirtual 146) 37 := ⟨3, by decide +kernel, rfl, rfl⟩
theorem il_5_146 : ilq 5 146 0 70 1 = true := by decide +kernel
theorem F_69_37 : F 69 37 (.ifCond .ne 9) 40 := ⟨3, by decide +kernel, rfl, rfl⟩
theorem F_69_46 : F 69 46 (.iload_n 2) 47 := ⟨1, by decide +kernel, rfl, rfl⟩
theorem F_69_47 : F 69 47 (.tableswitch 79 1 4 #[29, 41, 53, 63]) 76 := ⟨29, by decide +kernel, rfl, rfl⟩
theorem F_69_76 : F 69 76 (.aload_n 3) 77 := ⟨1, by decide +kernel, rfl, rfl⟩
theorem F_69_77 : F 69 77 (.aload_n 0) 78 := ⟨1, by decide +kernel, rfl, rfl⟩
theorem F_69_78 : F 69 78 (.getfield 34) 81 := ⟨3, by decide +kernel, rfl, rfl⟩
theorem F_69_81 : F 69 81 (.invokevirtual 149) 84 := ⟨3, by decide +kernel, rfl, rfl⟩
theorem F_69_84 : F 69 84 (.invokevirtual 152) 87 := ⟨3, by decide +kernel, rfl, rfl⟩
theorem il_5_152 : ilq 5 152 0 72 1 = true := by decide +kernel
theorem vy_72 : (m_cls 0).1 = (m_y 72).cls ∧ 0 < m_cl.length := by decide +kernel
theorem F_69_87 : F 69 87 (.ireturn) 88 := ⟨1, by decide +kernel, rfl, rfl⟩
theorem F_69_88 : F 69 88 (.aload_n 3) 89 := ⟨1, by decide +kernel, rfl, rfl⟩
theorem F_69_89 : F 69 89 (.aload_n 0) 90 := ⟨1, by decide +kernel, rfl, rfl⟩
theorem F_69_90 : F 69 90 (.getfield 34) 93 := ⟨3, by decide +kernel, rfl, rfl⟩
theorem F_69_93 : F 69 93 (.invokevirtual 149) 96 := ⟨3, by decide +kernel, rfl, rfl⟩
theorem F_69_96 : F 69 96 (.invokevirtual 155) 99 := ⟨3, by decide +kernel, rfl, rfl⟩
theorem il_5_155 : ilq 5 155 0 73 1 = true := by decide +kernel
theorem vy_73 : (m_cls 0).1 = (m_y 73).cls ∧ 0 < m_cl.length := by decide +kernel
theorem F_69_99 : F 69 99 (.ireturn) 100 := ⟨1, by decide +kernel, rfl, rfl⟩
theorem F_69_100 : F 69 100 (.iconst 4) 101 := ⟨1, by decide +kernel, rfl, rfl⟩
theorem F_69_101 : F 69 101 (.aload_n 3) 102 := ⟨1, by decide +kernel, rfl, rfl⟩
theorem F_69_102 : F 69 102 (.invokevirtual 158) 105 := ⟨3, by decide +kernel, rfl, rfl⟩
theorem il_5_158 : ilq 5 158 0 68 0 = true := by decide +kernel
theorem F_69_105 : F 69 105 (.invokestatic 161) 108 := ⟨3, by decide +kernel, rfl, rfl⟩
theorem il_5_161 : ilq 5 161 1 74 1 = true := by decide +kernel
theorem F_69_108 : F 69 108 (.isub) 109 := ⟨1, by decide +kernel, rfl, rfl⟩
theorem F_69_109 : F 69 109 (.ireturn) 110 := ⟨1, by decide +kernel, rfl, rfl⟩
theorem F_69_110 : F 69 110 (.aload_n 3) 111 := ⟨1, by decide +kernel, rfl, rfl⟩
theorem F_69_111 : F 69 111 (.iconst 1) 112 := ⟨1, by decide +kernel, rfl, rfl⟩
theorem F_69_112 : F 69 112 (.invokevirtual 166) 115 := ⟨3, by decide +kernel, rfl, rfl⟩
theorem il_5_166 : ilq 5 166 0 43 1 = true := by decide +kernel
theorem F_69_115 : F 69 115 (.aload_n 3) 116 := ⟨1, by decide +kernel, rfl, rfl⟩
theorem F_69_116 : F 69 116 (.invokevirtual 158) 119 := ⟨3, by decide +kernel, rfl, rfl⟩
theorem F_69_119 : F 69 119 (.iconst (-1)) 120 := ⟨1, by decide +kernel, rfl, rfl⟩
theorem F_69_120 : F 69 120 (.ixor) 121 := ⟨1, by decide +kernel, rfl, rfl⟩
theorem F_69_121 : F 69 121 (.iand) 122 := ⟨1, by decide +kernel, rfl, rfl⟩
theorem F_69_122 : F 69 122 (.invokestatic 161) 125 := ⟨3, by decide +kernel, rfl, rfl⟩
theorem F_69_125 : F 69 125 (.ireturn) 126 := ⟨1, by decide +kernel, rfl, rfl⟩
theorem F_69_126 : F 69 126 (.aload_n 3) 127 := ⟨1, by decide +kernel, rfl, rfl⟩
theorem F_69_127 : F 69 127 (.invokevirtual 158) 130 := ⟨3, by decide +kernel, rfl, rfl⟩
theorem F_69_130 : F 69 130 (.aload_n 3) 131 := ⟨1, by decide +kernel, rfl, rfl⟩
theorem F_69_131 : F 69 131 (.iconst 2) 132 := ⟨1, by decide +kernel, rfl, rfl⟩
theorem F_69_132 : F 69 132 (.invokevirtual 166) 135 := ⟨3, by decide +kernel, rfl, rfl⟩
theorem F_69_135 : F 69 135 (.iconst (-1)) 136 := ⟨1, by decide +kernel, rfl, rfl⟩
theorem F_69_136 : F 69 136 (.ixor) 137 := ⟨1, by decide +kernel, rfl, rfl⟩
theorem F_69_137 : F 69 137 (.iand) 138 := ⟨1, by decide +kernel, rfl, rfl⟩
theorem F_69_138 : F 69 138 (.invokestatic 161) 141 := ⟨3, by decide +kernel, rfl, rfl⟩
theorem F_69_141 : F 69 141 (.ireturn) 142 := ⟨1, by decide +kernel, rfl, rfl⟩
theorem F_69_40 : F 69 40 (.aload_n 0) 41 := ⟨1, by decide +kernel, rfl, rfl⟩
theorem F_69_41 : F 69 41 (.iconst 3) 42 := ⟨1, by decide +kernel, rfl, rfl⟩
theorem F_69_42 : F 69 42 (.invokevirtual 74) 45 := ⟨3, by decide +kernel, rfl, rfl⟩
theorem F_69_45 : F 69 45 (.ireturn) 46 := ⟨1, by decide +kernel, rfl, rfl⟩
theorem n_75 : m_n 75 = 2 := by decide +kernel
theorem F_75_0 : F 75 0 (.iload_n 1) 1 := ⟨1, by decide +kernel, rfl, rfl⟩
theorem F_75_1 : F 75 1 (.invokestatic 169) 4 := ⟨3, by decide +kernel, rfl, rfl⟩
theorem o_75 : m_o 75 = 5 := by decide +kernel
theorem il_5_169 : ilq 5 169 1 76 1 = true := by decide +kernel
theorem n_76 : m_n 76 = 1 := by decide +kernel
theorem F_76_0 : F 76 0 (.iload_n 0) 1 := ⟨1, by decide +kernel, rfl, rfl⟩
theorem F_76_1 : F 76 1 (.ifCond .lt 13) 4 := ⟨3, by decide +kernel, rfl, rfl⟩
theorem F_76_14 : F 76 14 (.iconst 0) 15 := ⟨1, by decide +kernel, rfl, rfl⟩
theorem F_76_15 : F 76 15 (.ireturn) 16 := ⟨1, by decide +kernel, rfl, rfl⟩
theorem rt_76 : m_r 76 = (some .boolean) := by decide +kernel
theorem F_75_4 : F 75 4 (.ifCond .eq 14) 7 := ⟨3, by decide +kernel, rfl, rfl⟩
theorem F_75_18 : F 75 18 (.iconst (-1)) 19 := ⟨1, by decide +kernel, rfl, rfl⟩
theorem F_75_19 : F 75 19 (.ireturn) 20 := ⟨1, by decide +kernel, rfl, rfl⟩
theorem rt_75 : m_r 75 = (some .int) := by decide +kernel
theorem F_76_4 : F 76 4 (.iload_n 0) 5 := ⟨1, by decide +kernel, rfl, rfl⟩
theorem F_76_5 : F 76 5 (.bipush 15) 7 := ⟨2, by decide +kernel, rfl, rfl⟩
theorem F_76_7 : F 76 7 (.if_icmp .gt 7) 10 := ⟨3, by decide +kernel, rfl, rfl⟩
theorem F_76_10 : F 76 10 (.iconst 1) 11 := ⟨1, by decide +kernel, rfl, rfl⟩
theorem F_76_11 : F 76 11 (.goto 4) 14 := ⟨3, by decide +kernel, rfl, rfl⟩
theorem F_75_7 : F 75 7 (.aload_n 0) 8 := ⟨1, by decide +kernel, rfl, rfl⟩
theorem F_75_8 : F 75 8 (.getfield 34) 11 := ⟨3, by decide +kernel, rfl, rfl⟩
theorem F_75_11 : F 75 11 (.iload_n 1) 12 := ⟨1, by decide +kernel, rfl, rfl⟩
theorem F_75_12 : F 75 12 (.invokevirtual 172) 15 := ⟨3, by decide +kernel, rfl, rfl⟩
theorem il_5_172 : ilq 5 172 0 77 1 = true := by decide +kernel
theorem vy_77 : (m_cls 1).1 = (m_y 77).cls ∧ 1 < m_cl.length := by decide +kernel
theorem F_75_15 : F 75 15 (.goto 4) 18 := ⟨3, by decide +kernel, rfl, rfl⟩
theorem n_78 : m_n 78 = 3 := by decide +kernel
theorem F_78_0 : F 78 0 (.aload_n 0) 1 := ⟨1, by decide +kernel, rfl, rfl⟩
theorem F_78_1 : F 78 1 (.getfield 34) 4 := ⟨3, by decide +kernel, rfl, rfl⟩
theorem o_78 : m_o 78 = 5 := by decide +kernel
theorem F_78_4 : F 78 4 (.iload_n 1) 5 := ⟨1, by decide +kernel, rfl, rfl⟩
theorem F_78_5 : F 78 5 (.invokevirtual 136) 8 := ⟨3, by decide +kernel, rfl, rfl⟩
theorem F_78_8 : F 78 8 (.ifCond .eq 10) 11 := ⟨3, by decide +kernel, rfl, rfl⟩
theorem F_78_18 : F 78 18 (.iconst (-1)) 19 := ⟨1, by decide +kernel, rfl, rfl⟩
theorem F_78_19 : F 78 19 (.ireturn) 20 := ⟨1, by decide +kernel, rfl, rfl⟩
theorem rt_78 : m_r 78 = (some .int) := by decide +kernel
theorem F_78_11 : F 78 11 (.iload_n 2) 12 := ⟨1, by decide +kernel, rfl, rfl⟩
theorem F_78_12 : F 78 12 (.invokestatic 175) 15 := ⟨3, by decide +kernel, rfl, rfl⟩
theorem F_78_15 : F 78 15 (.ifCond .ne 5) 18 := ⟨3, by decide +kernel, rfl, rfl⟩
theorem F_78_20 : F 78 20 (.aload_n 0) 21 := ⟨1, by decide +kernel, rfl, rfl⟩
theorem F_78_21 : F 78 21 (.getfield 34) 24 := ⟨3, by decide +kernel, rfl, rfl⟩
theorem F_78_24 : F 78 24 (.iload_n 1) 25 := ⟨1, by decide +kernel, rfl, rfl⟩
theorem F_78_25 : F 78 25 (.invokevirtual 142) 28 := ⟨3, by decide +kernel, rfl, rfl⟩
theorem F_78_28 : F 78 28 (.iload_n 2) 29 := ⟨1, by decide +kernel, rfl, rfl⟩
theorem F_78_29 : F 78 29 (.aload_n 0) 30 := ⟨1, by decide +kernel, rfl, rfl⟩
theorem F_78_30 : F 78 30 (.getfield 34) 33 := ⟨3, by decide +kernel, rfl, rfl⟩
theorem F_78_33 : F 78 33 (.invokevirtual 149) 36 := ⟨3, by decide +kernel, rfl, rfl⟩
theorem F_78_36 : F 78 36 (.invokevirtual 178) 39 := ⟨3, by decide +kernel, rfl, rfl⟩
theorem F_78_39 : F 78 39 (.bipush 10) 41 := ⟨2, by decide +kernel, rfl, rfl⟩
theorem F_78_41 : F 78 41 (.iadd) 42 := ⟨1, by decide +kernel, rfl, rfl⟩
theorem F_78_42 : F 78 42 (.ireturn) 43 := ⟨1, by decide +kernel, rfl, rfl⟩
theorem t_X5_row {X : List Int32} {d : Nat} {s : m_St} {P : Option Value → m_St → Prop} {r n : Int}
    (l1 : inR r)
    (l2 : r < 0 → P (some (vI (-1))) s)
    (l3 : 0 ≤ r → 6 ≤ r → P (some (vI (-1))) s)
    (l4 : 0 ≤ r → r < 6 → inR n)
    (l5 : 0 ≤ r → r < 6 → n ≤ 40 → 0 ≤ n → (s 1 2) = 40)
    (l6 : 0 ≤ r → r < 6 → n ≤ 40 → 0 ≤ n → P (some (vI n)) (fil (m_upd s 2 r n) (4 + r) n 0))
    (l7 : 0 ≤ r → r < 6 → n ≤ 40 → n < 0 → P (some (vI (-3))) (m_upd (m_upd s 0 8 5) 76 5 ((s 76 5) + 1)))
    (l8 : 0 ≤ r → r < 6 → 40 < n → P (some (vI (-1))) s)
    : Cl X (d + 2) 8 [vR 0, vI r, vI n] s P := by
  refine Cl_of n_8 rfl ?_
  show Rn _ _ _ _ [some (vR 0), some (vI r), some (vI n)] [] _ _
  refine r_ldR_n (m := 0) F_8_0 rfl ?_
  refine r_getR (J := 0) F_8_1 o_8 fl_5_14 ty_0 (by decide) rfl (kd2 kd_0_0 (by decide)) (kd9 kd_0_0 (by decide)) rf_0_0 ?_
  refine r_ldI_n (m := 1) F_8_4 rfl ?_
  refine r_virt2 (A := [vI r]) (r := []) (n := 1) F_8_5 o_8 il_5_70 rfl rfl rfl rfl ty_1 vy_9 (lay_le n_9 rfl) ?_
  refine Cl_of n_9 rfl ?_
  show Rn _ _ _ _ [some (vR 1), some (vI r)] [] _ _
  refine r_ldI_n (m := 1) F_9_0 rfl ?_
  refine r_if (t := 17) F_9_1 rfl l1 ?_ ?_
  · intro e1
    replace e1 : r < 0 := e1
    refine r_iconst F_9_17 ?_
    refine r_zreturn F_9_18 rt_9 (Or.inl rfl) ?_
    show Rn _ _ _ _ _ [vI 0] _ _
    refine r_ifT (t := 17) F_8_8 rfl (by decide) (by show (0 : Int) = 0; decide) ?_
    refine r_iconst F_8_17 ?_
    refine r_ireturn F_8_18 rt_8 ?_
    exact (l2 e1)
  · intro e2
    replace e2 : 0 ≤ r := (Int.not_lt.mp e2)
    refine r_ldI_n (m := 1) F_9_4 rfl ?_
    refine r_ldR_n (m := 0) F_9_5 rfl ?_
    refine r_getR (J := 0) F_9_6 o_9 fl_3_19 ty_1 (by decide) rfl (kd2 kd_1_0 (by decide)) (kd9 kd_1_0 (by decide)) rf_1_0 ?_
    refine r_alen F_9_9 ty_2 (by decide) ln_2 ?_
    refine r_icmp (t := 17) F_9_10 rfl l1 (by decide) ?_ ?_
    · intro e3
      replace e3 : 6 ≤ r := e3
      refine r_iconst F_9_17 ?_
      refine r_zreturn F_9_18 rt_9 (Or.inl rfl) ?_
      show Rn _ _ _ _ _ [vI 0] _ _
      refine r_ifT (t := 17) F_8_8 rfl (by decide) (by show (0 : Int) = 0; decide) ?_
      refine r_iconst F_8_17 ?_
      refine r_ireturn F_8_18 rt_8 ?_
      exact (l3 e2 e3)
    · intro e4
      replace e4 : r < 6 := (Int.not_le.mp e4)
      refine r_iconst F_9_13 ?_
      refine r_goto (t := 18) F_9_14 rfl ?_
      refine r_zreturn F_9_18 rt_9 (Or.inr rfl) ?_
      show Rn _ _ _ _ _ [vI 1] _ _
      refine r_ifF (t := 17) F_8_8 rfl (by decide) (by show ¬ ((1 : Int) = 0); decide) ?_
      refine r_ldI_n (m := 2) F_8_11 rfl ?_
      refine r_bipush F_8_12 bi_40 ?_
      refine r_icmp (t := 19) F_8_14 rfl (l4 e2 e4) (by decide) ?_ ?_
      · intro e5
        replace e5 : n ≤ 40 := e5
        refine r_ldI_n (m := 2) F_8_19 rfl ?_
        refine r_if (t := 29) F_8_20 rfl (l4 e2 e4) ?_ ?_
        · intro e6
          replace e6 : 0 ≤ n := e6
          refine r_ldR_n (m := 0) F_8_29 rfl ?_
          refine r_getR (J := 0) F_8_30 o_8 fl_5_14 ty_0 (by decide) rfl (kd2 kd_0_0 (by decide)) (kd9 kd_0_0 (by decide)) rf_0_0 ?_
          refine r_ldI_n (m := 1) F_8_33 rfl ?_
          refine r_ldI_n (m := 2) F_8_34 rfl ?_
          refine r_iconst F_8_35 ?_
          refine r_virt2 (A := [vI r, vI n, vI 0]) (r := []) (n := 3) F_8_36 o_8 il_5_78 rfl rfl rfl rfl ty_1 vy_11 (lay_le n_11 rfl) ?_
          refine sp_make1 e2 e4 e6 e5 (l5 e2 e4 e5 e6) ?_
          show Rn _ _ _ _ _ [] _ _
          refine r_ldI_n (m := 2) F_8_39 rfl ?_
          refine r_ireturn F_8_40 rt_8 ?_
          exact (l6 e2 e4 e5 e6)
        · intro e7
          replace e7 : n < 0 := (Int.not_le.mp e7)
          refine r_ldR_n (m := 0) F_8_23 rfl ?_
          refine r_iconst F_8_24 ?_
          refine r_virt2 (A := [vI 5]) (r := []) (n := 1) F_8_25 o_8 il_5_74 rfl rfl rfl rfl ty_0 vy_10 (lay_le n_10 rfl) ?_
          refine Cl_of n_10 rfl ?_
          show Rn _ _ _ _ [some (vR 0), some (vI 5)] [] _ _
          refine r_ldI_n (m := 1) F_10_0 rfl ?_
          refine r_iconst F_10_1 ?_
          refine r_icmpF (t := 25) F_10_2 rfl (by decide) (by decide) (by show ¬ ((5 : Int) < 1); decide) ?_
          refine r_ldI_n (m := 1) F_10_5 rfl ?_
          refine r_iconst F_10_6 ?_
          refine r_icmpF (t := 25) F_10_7 rfl (by decide) (by decide) (by show ¬ ((5 : Int) < 5); decide) ?_
          refine r_ldR_n (m := 0) F_10_10 rfl ?_
          refine r_ldI_n (m := 1) F_10_11 rfl ?_
          refine r_putI (J := 8) F_10_12 o_10 fl_5_56 ty_0 (by decide) rfl kd_0_8 pf_5_8 ?_
          refine r_ldR_n (m := 0) F_10_15 rfl ?_
          refine r_getR (J := 7) F_10_16 o_10 fl_5_52 ty_0 (by decide) rfl (kd2 kd_0_7 (by decide)) (kd9 kd_0_7 (by decide)) rf_0_7 ?_
          refine r_ldI_n (m := 1) F_10_19 rfl ?_
          refine r_dup2 F_10_20 ?_
          refine r_iald (e := (s 76 5)) F_10_21 ty_76 (by decide) (lt_ln ln_76 (by decide)) (upd_nc (by decide)) ?_
          refine r_iconst F_10_22 ?_
          refine r_iadd F_10_23 rfl ?_
          refine r_iast F_10_24 ty_76 (by decide) (lt_ln ln_76 (by decide)) ?_
          refine r_bipush F_10_25 bi__3 ?_
          refine r_ireturn F_10_27 rt_10 ?_
          show Rn _ _ _ _ _ [vI (-3)] _ _
          refine r_ireturn F_8_28 rt_8 ?_
          exact (l7 e2 e4 e5 e7)
      · intro e8
        replace e8 : 40 < n := (Int.not_le.mp e8)
        refine r_iconst F_8_17 ?_
        refine r_ireturn F_8_18 rt_8 ?_
        exact (l8 e2 e4 e8)
theorem t_X5_lay {X : List Int32} {d : Nat} {s : m_St} {P : Option Value → m_St → Prop} {r j v : Int}
    (l1 : inR r)
    (l2 : r < 0 → P (some (vI (-1))) s)
    (l3 : 0 ≤ r → 6 ≤ r → P (some (vI (-1))) s)
    (l4 : 0 ≤ r → r < 6 → inR (s 2 r))
    (l5 : 0 ≤ r → r < 6 → (s 2 r) = (-1) → P (some (vI (-3))) (m_upd (m_upd s 0 8 1) 76 1 ((s 76 1) + 1)))
    (l6 : 0 ≤ r → r < 6 → ¬ (s 2 r) = (-1) → inR j)
    (l7 : 0 ≤ r → r < 6 → ¬ (s 2 r) = (-1) → j < 0 → P (some (vI (-3))) (m_upd (m_upd s 0 8 2) 76 2 ((s 76 2) + 1)))
    (l8 : 0 ≤ r → r < 6 → ¬ (s 2 r) = (-1) → 0 ≤ j → inR ((s 2 r) - 1))
    (l9 : 0 ≤ r → r < 6 → ¬ (s 2 r) = (-1) → 0 ≤ j → ((s 2 r) - 1) < j → P (some (vI (-3))) (m_upd (m_upd s 0 8 2) 76 2 ((s 76 2) + 1)))
    (l10 : 0 ≤ r → r < 6 → ¬ (s 2 r) = (-1) → 0 ≤ j → j ≤ ((s 2 r) - 1) → j < (s 2 r))
    (l11 : 0 ≤ r → r < 6 → ¬ (s 2 r) = (-1) → 0 ≤ j → j ≤ ((s 2 r) - 1) → (s 2 r) ≤ 40)
    (l12 : 0 ≤ r → r < 6 → ¬ (s 2 r) = (-1) → 0 ≤ j → j ≤ ((s 2 r) - 1) → P (some (vI 1)) (m_upd (m_upd s (4 + r) j v) 0 9 (s (4 + r) j)))
    : Cl X (d + 5) 12 [vR 0, vI r, vI j, vI v] s P := by
  refine Cl_of n_12 rfl ?_
  show Rn _ _ _ _ [some (vR 0), some (vI r), some (vI j), some (vI v), none, none] [] _ _
  refine r_ldR_n (m := 0) F_12_0 rfl ?_
  refine r_ldR_n (m := 0) F_12_1 rfl ?_
  refine r_getR (J := 0) F_12_2 o_12 fl_5_14 ty_0 (by decide) rfl (kd2 kd_0_0 (by decide)) (kd9 kd_0_0 (by decide)) rf_0_0 ?_
  refine r_ldI_n (m := 1) F_12_5 rfl ?_
  refine r_ldI_n (m := 2) F_12_6 rfl ?_
  refine r_virt2 (A := [vR 1, vI r, vI j]) (r := []) (n := 3) F_12_7 o_12 il_5_82 rfl rfl rfl rfl ty_0 vy_13 (lay_le n_13 rfl) ?_
  refine Cl_of n_13 rfl ?_
  show Rn _ _ _ _ [some (vR 0), some (vR 1), some (vI r), some (vI j), none] [] _ _
  refine r_ldR_n (m := 0) F_13_0 rfl ?_
  refine r_ldR_n (m := 1) F_13_1 rfl ?_
  refine r_ldI_n (m := 2) F_13_2 rfl ?_
  refine r_virt2 (A := [vR 1, vI r]) (r := []) (n := 2) F_13_3 o_13 il_5_96 rfl rfl rfl rfl ty_0 vy_14 (lay_le n_14 rfl) ?_
  refine Cl_of n_14 rfl ?_
  show Rn _ _ _ _ [some (vR 0), some (vR 1), some (vI r)] [] _ _
  refine r_ldR_n (m := 1) F_14_0 rfl ?_
  refine r_ldI_n (m := 2) F_14_1 rfl ?_
  refine r_virt2 (A := [vI r]) (r := []) (n := 1) F_14_2 o_14 il_5_70 rfl rfl rfl rfl ty_1 vy_9 (lay_le n_9 rfl) ?_
  refine Cl_of n_9 rfl ?_
  show Rn _ _ _ _ [some (vR 1), some (vI r)] [] _ _
  refine r_ldI_n (m := 1) F_9_0 rfl ?_
  refine r_if (t := 17) F_9_1 rfl l1 ?_ ?_
  · intro e1
    replace e1 : r < 0 := e1
    refine r_iconst F_9_17 ?_
    refine r_zreturn F_9_18 rt_9 (Or.inl rfl) ?_
    show Rn _ _ _ _ _ [vI 0] _ _
    refine r_ifF (t := 10) F_14_5 rfl (by decide) (by show ¬ (¬ (0 : Int) = 0); decide) ?_
    refine r_iconst F_14_8 ?_
    refine r_ireturn F_14_9 rt_14 ?_
    show Rn _ _ _ _ _ [vI (-1)] _ _
    refine r_stI (m := 4) (L' := [some (vR 0), some (vR 1), some (vI r), some (vI j), some (vI (-1))]) F_13_6 rfl rfl ?_
    refine r_ldI (m := 4) F_13_8 rfl ?_
    refine r_ifF (t := 16) F_13_10 rfl (by decide) (by show ¬ (((-1) : Int) = 0); decide) ?_
    refine r_ldI (m := 4) F_13_13 rfl ?_
    refine r_ireturn F_13_15 rt_13 ?_
    show Rn _ _ _ _ _ [vI (-1)] _ _
    refine r_stI (m := 4) (L' := [some (vR 0), some (vI r), some (vI j), some (vI v), some (vI (-1)), none]) F_12_10 rfl rfl ?_
    refine r_ldI (m := 4) F_12_12 rfl ?_
    refine r_ifF (t := 20) F_12_14 rfl (by decide) (by show ¬ (((-1) : Int) = 0); decide) ?_
    refine r_ldI (m := 4) F_12_17 rfl ?_
    refine r_ireturn F_12_19 rt_12 ?_
    exact (l2 e1)
  · intro e2
    replace e2 : 0 ≤ r := (Int.not_lt.mp e2)
    refine r_ldI_n (m := 1) F_9_4 rfl ?_
    refine r_ldR_n (m := 0) F_9_5 rfl ?_
    refine r_getR (J := 0) F_9_6 o_9 fl_3_19 ty_1 (by decide) rfl (kd2 kd_1_0 (by decide)) (kd9 kd_1_0 (by decide)) rf_1_0 ?_
    refine r_alen F_9_9 ty_2 (by decide) ln_2 ?_
    refine r_icmp (t := 17) F_9_10 rfl l1 (by decide) ?_ ?_
    · intro e3
      replace e3 : 6 ≤ r := e3
      refine r_iconst F_9_17 ?_
      refine r_zreturn F_9_18 rt_9 (Or.inl rfl) ?_
      show Rn _ _ _ _ _ [vI 0] _ _
      refine r_ifF (t := 10) F_14_5 rfl (by decide) (by show ¬ (¬ (0 : Int) = 0); decide) ?_
      refine r_iconst F_14_8 ?_
      refine r_ireturn F_14_9 rt_14 ?_
      show Rn _ _ _ _ _ [vI (-1)] _ _
      refine r_stI (m := 4) (L' := [some (vR 0), some (vR 1), some (vI r), some (vI j), some (vI (-1))]) F_13_6 rfl rfl ?_
      refine r_ldI (m := 4) F_13_8 rfl ?_
      refine r_ifF (t := 16) F_13_10 rfl (by decide) (by show ¬ (((-1) : Int) = 0); decide) ?_
      refine r_ldI (m := 4) F_13_13 rfl ?_
      refine r_ireturn F_13_15 rt_13 ?_
      show Rn _ _ _ _ _ [vI (-1)] _ _
      refine r_stI (m := 4) (L' := [some (vR 0), some (vI r), some (vI j), some (vI v), some (vI (-1)), none]) F_12_10 rfl rfl ?_
      refine r_ldI (m := 4) F_12_12 rfl ?_
      refine r_ifF (t := 20) F_12_14 rfl (by decide) (by show ¬ (((-1) : Int) = 0); decide) ?_
      refine r_ldI (m := 4) F_12_17 rfl ?_
      refine r_ireturn F_12_19 rt_12 ?_
      exact (l3 e2 e3)
    · intro e4
      replace e4 : r < 6 := (Int.not_le.mp e4)
      refine r_iconst F_9_13 ?_
      refine r_goto (t := 18) F_9_14 rfl ?_
      refine r_zreturn F_9_18 rt_9 (Or.inr rfl) ?_
      show Rn _ _ _ _ _ [vI 1] _ _
      refine r_ifT (t := 10) F_14_5 rfl (by decide) (by show ¬ (1 : Int) = 0; decide) ?_
      refine r_ldR_n (m := 1) F_14_10 rfl ?_
      refine r_ldI_n (m := 2) F_14_11 rfl ?_
      refine r_virt2 (A := [vI r]) (r := []) (n := 1) F_14_12 o_14 il_5_104 rfl rfl rfl rfl ty_1 vy_15 (lay_le n_15 rfl) ?_
      refine Cl_of n_15 rfl ?_
      show Rn _ _ _ _ [some (vR 1), some (vI r)] [] _ _
      refine r_ldR_n (m := 0) F_15_0 rfl ?_
      refine r_ldI_n (m := 1) F_15_1 rfl ?_
      refine r_virt2 (A := [vI r]) (r := []) (n := 1) F_15_2 o_15 il_3_28 rfl rfl rfl rfl ty_1 vy_16 (lay_le n_16 rfl) ?_
      refine Cl_of n_16 rfl ?_
      show Rn _ _ _ _ [some (vR 1), some (vI r)] [] _ _
      refine r_ldR_n (m := 0) F_16_0 rfl ?_
      refine r_ldI_n (m := 1) F_16_1 rfl ?_
      refine r_virt2 (A := [vI r]) (r := []) (n := 1) F_16_2 o_16 il_3_32 rfl rfl rfl rfl ty_1 vy_9 (lay_le n_9 rfl) ?_
      refine Cl_of n_9 rfl ?_
      show Rn _ _ _ _ [some (vR 1), some (vI r)] [] _ _
      refine r_ldI_n (m := 1) F_9_0 rfl ?_
      refine r_ifF (t := 17) F_9_1 rfl l1 (Int.not_lt.mpr e2) ?_
      refine r_ldI_n (m := 1) F_9_4 rfl ?_
      refine r_ldR_n (m := 0) F_9_5 rfl ?_
      refine r_getR (J := 0) F_9_6 o_9 fl_3_19 ty_1 (by decide) rfl (kd2 kd_1_0 (by decide)) (kd9 kd_1_0 (by decide)) rf_1_0 ?_
      refine r_alen F_9_9 ty_2 (by decide) ln_2 ?_
      refine r_icmpF (t := 17) F_9_10 rfl l1 (by decide) (Int.not_le.mpr e4) ?_
      refine r_iconst F_9_13 ?_
      refine r_goto (t := 18) F_9_14 rfl ?_
      refine r_zreturn F_9_18 rt_9 (Or.inr rfl) ?_
      show Rn _ _ _ _ _ [vI 1] _ _
      refine r_ifF (t := 17) F_16_5 rfl (by decide) (by show ¬ ((1 : Int) = 0); decide) ?_
      refine r_ldR_n (m := 0) F_16_8 rfl ?_
      refine r_getR (J := 0) F_16_9 o_16 fl_3_19 ty_1 (by decide) rfl (kd2 kd_1_0 (by decide)) (kd9 kd_1_0 (by decide)) rf_1_0 ?_
      refine r_ldI_n (m := 1) F_16_12 rfl ?_
      refine r_iald (e := (s 2 r)) F_16_13 ty_2 e2 (lt_ln ln_2 e4) rfl ?_
      refine r_goto (t := 18) F_16_14 rfl ?_
      refine r_ireturn F_16_18 rt_16 ?_
      show Rn _ _ _ _ _ [vI (s 2 r)] _ _
      refine r_iconst F_15_5 ?_
      refine r_icmp (t := 13) F_15_6 rfl (l4 e2 e4) (by decide) ?_ ?_
      · intro e5
        replace e5 : (s 2 r) = (-1) := e5
        refine r_iconst F_15_13 ?_
        refine r_zreturn F_15_14 rt_15 (Or.inl rfl) ?_
        show Rn _ _ _ _ _ [vI 0] _ _
        refine r_ifT (t := 22) F_14_15 rfl (by decide) (by show (0 : Int) = 0; decide) ?_
        refine r_ldR_n (m := 0) F_14_22 rfl ?_
        refine r_iconst F_14_23 ?_
        refine r_virt2 (A := [vI 1]) (r := []) (n := 1) F_14_24 o_14 il_5_74 rfl rfl rfl rfl ty_0 vy_10 (lay_le n_10 rfl) ?_
        refine Cl_of n_10 rfl ?_
        show Rn _ _ _ _ [some (vR 0), some (vI 1)] [] _ _
        refine r_ldI_n (m := 1) F_10_0 rfl ?_
        refine r_iconst F_10_1 ?_
        refine r_icmpF (t := 25) F_10_2 rfl (by decide) (by decide) (by show ¬ ((1 : Int) < 1); decide) ?_
        refine r_ldI_n (m := 1) F_10_5 rfl ?_
        refine r_iconst F_10_6 ?_
        refine r_icmpF (t := 25) F_10_7 rfl (by decide) (by decide) (by show ¬ ((5 : Int) < 1); decide) ?_
        refine r_ldR_n (m := 0) F_10_10 rfl ?_
        refine r_ldI_n (m := 1) F_10_11 rfl ?_
        refine r_putI (J := 8) F_10_12 o_10 fl_5_56 ty_0 (by decide) rfl kd_0_8 pf_5_8 ?_
        refine r_ldR_n (m := 0) F_10_15 rfl ?_
        refine r_getR (J := 7) F_10_16 o_10 fl_5_52 ty_0 (by decide) rfl (kd2 kd_0_7 (by decide)) (kd9 kd_0_7 (by decide)) rf_0_7 ?_
        refine r_ldI_n (m := 1) F_10_19 rfl ?_
        refine r_dup2 F_10_20 ?_
        refine r_iald (e := (s 76 1)) F_10_21 ty_76 (by decide) (lt_ln ln_76 (by decide)) (upd_nc (by decide)) ?_
        refine r_iconst F_10_22 ?_
        refine r_iadd F_10_23 rfl ?_
        refine r_iast F_10_24 ty_76 (by decide) (lt_ln ln_76 (by decide)) ?_
        refine r_bipush F_10_25 bi__3 ?_
        refine r_ireturn F_10_27 rt_10 ?_
        show Rn _ _ _ _ _ [vI (-3)] _ _
        refine r_ireturn F_14_27 rt_14 ?_
        show Rn _ _ _ _ _ [vI (-3)] _ _
        refine r_stI (m := 4) (L' := [some (vR 0), some (vR 1), some (vI r), some (vI j), some (vI (-3))]) F_13_6 rfl rfl ?_
        refine r_ldI (m := 4) F_13_8 rfl ?_
        refine r_ifF (t := 16) F_13_10 rfl (by decide) (by show ¬ (((-3) : Int) = 0); decide) ?_
        refine r_ldI (m := 4) F_13_13 rfl ?_
        refine r_ireturn F_13_15 rt_13 ?_
        show Rn _ _ _ _ _ [vI (-3)] _ _
        refine r_stI (m := 4) (L' := [some (vR 0), some (vI r), some (vI j), some (vI v), some (vI (-3)), none]) F_12_10 rfl rfl ?_
        refine r_ldI (m := 4) F_12_12 rfl ?_
        refine r_ifF (t := 20) F_12_14 rfl (by decide) (by show ¬ (((-3) : Int) = 0); decide) ?_
        refine r_ldI (m := 4) F_12_17 rfl ?_
        refine r_ireturn F_12_19 rt_12 ?_
        exact (l5 e2 e4 e5)
      · intro e6
        replace e6 : ¬ (s 2 r) = (-1) := e6
        refine r_iconst F_15_9 ?_
        refine r_goto (t := 14) F_15_10 rfl ?_
        refine r_zreturn F_15_14 rt_15 (Or.inr rfl) ?_
        show Rn _ _ _ _ _ [vI 1] _ _
        refine r_ifF (t := 22) F_14_15 rfl (by decide) (by show ¬ ((1 : Int) = 0); decide) ?_
        refine r_iconst F_14_18 ?_
        refine r_goto (t := 27) F_14_19 rfl ?_
        refine r_ireturn F_14_27 rt_14 ?_
        show Rn _ _ _ _ _ [vI 0] _ _
        refine r_stI (m := 4) (L' := [some (vR 0), some (vR 1), some (vI r), some (vI j), some (vI 0)]) F_13_6 rfl rfl ?_
        refine r_ldI (m := 4) F_13_8 rfl ?_
        refine r_ifT (t := 16) F_13_10 rfl (by decide) (by show (0 : Int) = 0; decide) ?_
        refine r_ldR_n (m := 1) F_13_16 rfl ?_
        refine r_ldI_n (m := 2) F_13_17 rfl ?_
        refine r_ldI_n (m := 3) F_13_18 rfl ?_
        refine r_iconst F_13_19 ?_
        refine r_virt2 (A := [vI r, vI j, vI 1]) (r := []) (n := 3) F_13_20 o_13 il_5_107 rfl rfl rfl rfl ty_1 vy_17 (lay_le n_17 rfl) ?_
        refine Cl_of n_17 rfl ?_
        show Rn _ _ _ _ [some (vR 1), some (vI r), some (vI j), some (vI 1)] [] _ _
        refine r_ldR_n (m := 0) F_17_0 rfl ?_
        refine r_ldI_n (m := 1) F_17_1 rfl ?_
        refine r_virt2 (A := [vI r]) (r := []) (n := 1) F_17_2 o_17 il_3_36 rfl rfl rfl rfl ty_1 vy_15 (lay_le n_15 rfl) ?_
        refine Cl_of n_15 rfl ?_
        show Rn _ _ _ _ [some (vR 1), some (vI r)] [] _ _
        refine r_ldR_n (m := 0) F_15_0 rfl ?_
        refine r_ldI_n (m := 1) F_15_1 rfl ?_
        refine r_virt2 (A := [vI r]) (r := []) (n := 1) F_15_2 o_15 il_3_28 rfl rfl rfl rfl ty_1 vy_16 (lay_le n_16 rfl) ?_
        refine Cl_of n_16 rfl ?_
        show Rn _ _ _ _ [some (vR 1), some (vI r)] [] _ _
        refine r_ldR_n (m := 0) F_16_0 rfl ?_
        refine r_ldI_n (m := 1) F_16_1 rfl ?_
        refine r_virt2 (A := [vI r]) (r := []) (n := 1) F_16_2 o_16 il_3_32 rfl rfl rfl rfl ty_1 vy_9 (lay_le n_9 rfl) ?_
        refine Cl_of n_9 rfl ?_
        show Rn _ _ _ _ [some (vR 1), some (vI r)] [] _ _
        refine r_ldI_n (m := 1) F_9_0 rfl ?_
        refine r_ifF (t := 17) F_9_1 rfl l1 (Int.not_lt.mpr e2) ?_
        refine r_ldI_n (m := 1) F_9_4 rfl ?_
        refine r_ldR_n (m := 0) F_9_5 rfl ?_
        refine r_getR (J := 0) F_9_6 o_9 fl_3_19 ty_1 (by decide) rfl (kd2 kd_1_0 (by decide)) (kd9 kd_1_0 (by decide)) rf_1_0 ?_
        refine r_alen F_9_9 ty_2 (by decide) ln_2 ?_
        refine r_icmpF (t := 17) F_9_10 rfl l1 (by decide) (Int.not_le.mpr e4) ?_
        refine r_iconst F_9_13 ?_
        refine r_goto (t := 18) F_9_14 rfl ?_
        refine r_zreturn F_9_18 rt_9 (Or.inr rfl) ?_
        show Rn _ _ _ _ _ [vI 1] _ _
        refine r_ifF (t := 17) F_16_5 rfl (by decide) (by show ¬ ((1 : Int) = 0); decide) ?_
        refine r_ldR_n (m := 0) F_16_8 rfl ?_
        refine r_getR (J := 0) F_16_9 o_16 fl_3_19 ty_1 (by decide) rfl (kd2 kd_1_0 (by decide)) (kd9 kd_1_0 (by decide)) rf_1_0 ?_
        refine r_ldI_n (m := 1) F_16_12 rfl ?_
        refine r_iald (e := (s 2 r)) F_16_13 ty_2 e2 (lt_ln ln_2 e4) rfl ?_
        refine r_goto (t := 18) F_16_14 rfl ?_
        refine r_ireturn F_16_18 rt_16 ?_
        show Rn _ _ _ _ _ [vI (s 2 r)] _ _
        refine r_iconst F_15_5 ?_
        refine r_icmpF (t := 13) F_15_6 rfl (l4 e2 e4) (by decide) e6 ?_
        refine r_iconst F_15_9 ?_
        refine r_goto (t := 14) F_15_10 rfl ?_
        refine r_zreturn F_15_14 rt_15 (Or.inr rfl) ?_
        show Rn _ _ _ _ _ [vI 1] _ _
        refine r_ifF (t := 31) F_17_5 rfl (by decide) (by show ¬ ((1 : Int) = 0); decide) ?_
        refine r_ldI_n (m := 2) F_17_8 rfl ?_
        refine r_if (t := 31) F_17_9 rfl (l6 e2 e4 e6) ?_ ?_
        · intro e7
          replace e7 : j < 0 := e7
          refine r_iconst F_17_31 ?_
          refine r_zreturn F_17_32 rt_17 (Or.inl rfl) ?_
          show Rn _ _ _ _ _ [vI 0] _ _
          refine r_ifT (t := 30) F_13_23 rfl (by decide) (by show (0 : Int) = 0; decide) ?_
          refine r_ldR_n (m := 0) F_13_30 rfl ?_
          refine r_iconst F_13_31 ?_
          refine r_virt2 (A := [vI 2]) (r := []) (n := 1) F_13_32 o_13 il_5_74 rfl rfl rfl rfl ty_0 vy_10 (lay_le n_10 rfl) ?_
          refine Cl_of n_10 rfl ?_
          show Rn _ _ _ _ [some (vR 0), some (vI 2)] [] _ _
          refine r_ldI_n (m := 1) F_10_0 rfl ?_
          refine r_iconst F_10_1 ?_
          refine r_icmpF (t := 25) F_10_2 rfl (by decide) (by decide) (by show ¬ ((2 : Int) < 1); decide) ?_
          refine r_ldI_n (m := 1) F_10_5 rfl ?_
          refine r_iconst F_10_6 ?_
          refine r_icmpF (t := 25) F_10_7 rfl (by decide) (by decide) (by show ¬ ((5 : Int) < 2); decide) ?_
          refine r_ldR_n (m := 0) F_10_10 rfl ?_
          refine r_ldI_n (m := 1) F_10_11 rfl ?_
          refine r_putI (J := 8) F_10_12 o_10 fl_5_56 ty_0 (by decide) rfl kd_0_8 pf_5_8 ?_
          refine r_ldR_n (m := 0) F_10_15 rfl ?_
          refine r_getR (J := 7) F_10_16 o_10 fl_5_52 ty_0 (by decide) rfl (kd2 kd_0_7 (by decide)) (kd9 kd_0_7 (by decide)) rf_0_7 ?_
          refine r_ldI_n (m := 1) F_10_19 rfl ?_
          refine r_dup2 F_10_20 ?_
          refine r_iald (e := (s 76 2)) F_10_21 ty_76 (by decide) (lt_ln ln_76 (by decide)) (upd_nc (by decide)) ?_
          refine r_iconst F_10_22 ?_
          refine r_iadd F_10_23 rfl ?_
          refine r_iast F_10_24 ty_76 (by decide) (lt_ln ln_76 (by decide)) ?_
          refine r_bipush F_10_25 bi__3 ?_
          refine r_ireturn F_10_27 rt_10 ?_
          show Rn _ _ _ _ _ [vI (-3)] _ _
          refine r_ireturn F_13_35 rt_13 ?_
          show Rn _ _ _ _ _ [vI (-3)] _ _
          refine r_stI (m := 4) (L' := [some (vR 0), some (vI r), some (vI j), some (vI v), some (vI (-3)), none]) F_12_10 rfl rfl ?_
          refine r_ldI (m := 4) F_12_12 rfl ?_
          refine r_ifF (t := 20) F_12_14 rfl (by decide) (by show ¬ (((-3) : Int) = 0); decide) ?_
          refine r_ldI (m := 4) F_12_17 rfl ?_
          refine r_ireturn F_12_19 rt_12 ?_
          exact (l7 e2 e4 e6 e7)
        · intro e8
          replace e8 : 0 ≤ j := (Int.not_lt.mp e8)
          refine r_ldI_n (m := 3) F_17_12 rfl ?_
          refine r_ifF (t := 31) F_17_13 rfl (by decide) (by show ¬ ((1 : Int) < 0); decide) ?_
          refine r_ldI_n (m := 2) F_17_16 rfl ?_
          refine r_ldR_n (m := 0) F_17_17 rfl ?_
          refine r_ldI_n (m := 1) F_17_18 rfl ?_
          refine r_virt2 (A := [vI r]) (r := [vI j]) (n := 1) F_17_19 o_17 il_3_28 rfl rfl rfl rfl ty_1 vy_16 (lay_le n_16 rfl) ?_
          refine Cl_of n_16 rfl ?_
          show Rn _ _ _ _ [some (vR 1), some (vI r)] [] _ _
          refine r_ldR_n (m := 0) F_16_0 rfl ?_
          refine r_ldI_n (m := 1) F_16_1 rfl ?_
          refine r_virt2 (A := [vI r]) (r := []) (n := 1) F_16_2 o_16 il_3_32 rfl rfl rfl rfl ty_1 vy_9 (lay_le n_9 rfl) ?_
          refine Cl_of n_9 rfl ?_
          show Rn _ _ _ _ [some (vR 1), some (vI r)] [] _ _
          refine r_ldI_n (m := 1) F_9_0 rfl ?_
          refine r_ifF (t := 17) F_9_1 rfl l1 (Int.not_lt.mpr e2) ?_
          refine r_ldI_n (m := 1) F_9_4 rfl ?_
          refine r_ldR_n (m := 0) F_9_5 rfl ?_
          refine r_getR (J := 0) F_9_6 o_9 fl_3_19 ty_1 (by decide) rfl (kd2 kd_1_0 (by decide)) (kd9 kd_1_0 (by decide)) rf_1_0 ?_
          refine r_alen F_9_9 ty_2 (by decide) ln_2 ?_
          refine r_icmpF (t := 17) F_9_10 rfl l1 (by decide) (Int.not_le.mpr e4) ?_
          refine r_iconst F_9_13 ?_
          refine r_goto (t := 18) F_9_14 rfl ?_
          refine r_zreturn F_9_18 rt_9 (Or.inr rfl) ?_
          show Rn _ _ _ _ _ [vI 1] _ _
          refine r_ifF (t := 17) F_16_5 rfl (by decide) (by show ¬ ((1 : Int) = 0); decide) ?_
          refine r_ldR_n (m := 0) F_16_8 rfl ?_
          refine r_getR (J := 0) F_16_9 o_16 fl_3_19 ty_1 (by decide) rfl (kd2 kd_1_0 (by decide)) (kd9 kd_1_0 (by decide)) rf_1_0 ?_
          refine r_ldI_n (m := 1) F_16_12 rfl ?_
          refine r_iald (e := (s 2 r)) F_16_13 ty_2 e2 (lt_ln ln_2 e4) rfl ?_
          refine r_goto (t := 18) F_16_14 rfl ?_
          refine r_ireturn F_16_18 rt_16 ?_
          show Rn _ _ _ _ _ [vI (s 2 r), vI j] _ _
          refine r_ldI_n (m := 3) F_17_22 rfl ?_
          refine r_isub F_17_23 rfl ?_
          refine r_icmp (t := 31) F_17_24 rfl (l6 e2 e4 e6) (l8 e2 e4 e6 e8) ?_ ?_
          · intro e9
            replace e9 : ((s 2 r) - 1) < j := e9
            refine r_iconst F_17_31 ?_
            refine r_zreturn F_17_32 rt_17 (Or.inl rfl) ?_
            show Rn _ _ _ _ _ [vI 0] _ _
            refine r_ifT (t := 30) F_13_23 rfl (by decide) (by show (0 : Int) = 0; decide) ?_
            refine r_ldR_n (m := 0) F_13_30 rfl ?_
            refine r_iconst F_13_31 ?_
            refine r_virt2 (A := [vI 2]) (r := []) (n := 1) F_13_32 o_13 il_5_74 rfl rfl rfl rfl ty_0 vy_10 (lay_le n_10 rfl) ?_
            refine Cl_of n_10 rfl ?_
            show Rn _ _ _ _ [some (vR 0), some (vI 2)] [] _ _
            refine r_ldI_n (m := 1) F_10_0 rfl ?_
            refine r_iconst F_10_1 ?_
            refine r_icmpF (t := 25) F_10_2 rfl (by decide) (by decide) (by show ¬ ((2 : Int) < 1); decide) ?_
            refine r_ldI_n (m := 1) F_10_5 rfl ?_
            refine r_iconst F_10_6 ?_
            refine r_icmpF (t := 25) F_10_7 rfl (by decide) (by decide) (by show ¬ ((5 : Int) < 2); decide) ?_
            refine r_ldR_n (m := 0) F_10_10 rfl ?_
            refine r_ldI_n (m := 1) F_10_11 rfl ?_
            refine r_putI (J := 8) F_10_12 o_10 fl_5_56 ty_0 (by decide) rfl kd_0_8 pf_5_8 ?_
            refine r_ldR_n (m := 0) F_10_15 rfl ?_
            refine r_getR (J := 7) F_10_16 o_10 fl_5_52 ty_0 (by decide) rfl (kd2 kd_0_7 (by decide)) (kd9 kd_0_7 (by decide)) rf_0_7 ?_
            refine r_ldI_n (m := 1) F_10_19 rfl ?_
            refine r_dup2 F_10_20 ?_
            refine r_iald (e := (s 76 2)) F_10_21 ty_76 (by decide) (lt_ln ln_76 (by decide)) (upd_nc (by decide)) ?_
            refine r_iconst F_10_22 ?_
            refine r_iadd F_10_23 rfl ?_
            refine r_iast F_10_24 ty_76 (by decide) (lt_ln ln_76 (by decide)) ?_
            refine r_bipush F_10_25 bi__3 ?_
            refine r_ireturn F_10_27 rt_10 ?_
            show Rn _ _ _ _ _ [vI (-3)] _ _
            refine r_ireturn F_13_35 rt_13 ?_
            show Rn _ _ _ _ _ [vI (-3)] _ _
            refine r_stI (m := 4) (L' := [some (vR 0), some (vI r), some (vI j), some (vI v), some (vI (-3)), none]) F_12_10 rfl rfl ?_
            refine r_ldI (m := 4) F_12_12 rfl ?_
            refine r_ifF (t := 20) F_12_14 rfl (by decide) (by show ¬ (((-3) : Int) = 0); decide) ?_
            refine r_ldI (m := 4) F_12_17 rfl ?_
            refine r_ireturn F_12_19 rt_12 ?_
            exact (l9 e2 e4 e6 e8 e9)
          · intro e10
            replace e10 : j ≤ ((s 2 r) - 1) := (Int.not_lt.mp e10)
            refine r_iconst F_17_27 ?_
            refine r_goto (t := 32) F_17_28 rfl ?_
            refine r_zreturn F_17_32 rt_17 (Or.inr rfl) ?_
            show Rn _ _ _ _ _ [vI 1] _ _
            refine r_ifF (t := 30) F_13_23 rfl (by decide) (by show ¬ ((1 : Int) = 0); decide) ?_
            refine r_iconst F_13_26 ?_
            refine r_goto (t := 35) F_13_27 rfl ?_
            refine r_ireturn F_13_35 rt_13 ?_
            show Rn _ _ _ _ _ [vI 0] _ _
            refine r_stI (m := 4) (L' := [some (vR 0), some (vI r), some (vI j), some (vI v), some (vI 0), none]) F_12_10 rfl rfl ?_
            refine r_ldI (m := 4) F_12_12 rfl ?_
            refine r_ifT (t := 20) F_12_14 rfl (by decide) (by show (0 : Int) = 0; decide) ?_
            refine r_ldR_n (m := 0) F_12_20 rfl ?_
            refine r_getR (J := 0) F_12_21 o_12 fl_5_14 ty_0 (by decide) rfl (kd2 kd_0_0 (by decide)) (kd9 kd_0_0 (by decide)) rf_0_0 ?_
            refine r_ldI_n (m := 1) F_12_24 rfl ?_
            refine r_ldI_n (m := 2) F_12_25 rfl ?_
            refine r_virt2 (A := [vI r, vI j]) (r := []) (n := 2) F_12_26 o_12 il_5_86 rfl rfl rfl rfl ty_1 vy_18 (lay_le n_18 rfl) ?_
            refine sp_get1 e2 e4 e8 (l10 e2 e4 e6 e8 e10) (l11 e2 e4 e6 e8 e10) ?_
            show Rn _ _ _ _ _ [vI (s (4 + r) j)] _ _
            refine r_stI (m := 5) (L' := [some (vR 0), some (vI r), some (vI j), some (vI v), some (vI 0), some (vI (s (4 + r) j))]) F_12_29 rfl rfl ?_
            refine r_ldR_n (m := 0) F_12_31 rfl ?_
            refine r_getR (J := 0) F_12_32 o_12 fl_5_14 ty_0 (by decide) rfl (kd2 kd_0_0 (by decide)) (kd9 kd_0_0 (by decide)) rf_0_0 ?_
            refine r_ldI_n (m := 1) F_12_35 rfl ?_
            refine r_ldI_n (m := 2) F_12_36 rfl ?_
            refine r_ldI_n (m := 3) F_12_37 rfl ?_
            refine r_virt2 (A := [vI r, vI j, vI v]) (r := []) (n := 3) F_12_38 o_12 il_5_90 rfl rfl rfl rfl ty_1 vy_19 (lay_le n_19 rfl) ?_
            refine sp_set1 e2 e4 e8 (l10 e2 e4 e6 e8 e10) (l11 e2 e4 e6 e8 e10) ?_
            show Rn _ _ _ _ _ [] _ _
            refine r_ldR_n (m := 0) F_12_41 rfl ?_
            refine r_ldI (m := 5) F_12_42 rfl ?_
            refine r_virt2 (A := [vI (s (4 + r) j)]) (r := []) (n := 1) F_12_44 o_12 il_5_93 rfl rfl rfl rfl ty_0 vy_20 (lay_le n_20 rfl) ?_
            refine Cl_of n_20 rfl ?_
            show Rn _ _ _ _ [some (vR 0), some (vI (s (4 + r) j))] [] _ _
            refine r_ldR_n (m := 0) F_20_0 rfl ?_
            refine r_ldI_n (m := 1) F_20_1 rfl ?_
            refine r_putI (J := 9) F_20_2 o_20 fl_5_60 ty_0 (by decide) rfl kd_0_9 pf_5_9 ?_
            refine r_iconst F_20_5 ?_
            refine r_ireturn F_20_6 rt_20 ?_
            show Rn _ _ _ _ _ [vI 1] _ _
            refine r_ireturn F_12_47 rt_12 ?_
            exact (l12 e2 e4 e6 e8 e10)
theorem t_X5_at {X : List Int32} {d : Nat} {s : m_St} {P : Option Value → m_St → Prop} {r j : Int}
    (l1 : inR r)
    (l2 : r < 0 → P (some (vI (-1))) s)
    (l3 : 0 ≤ r → 6 ≤ r → P (some (vI (-1))) s)
    (l4 : 0 ≤ r → r < 6 → inR (s 2 r))
    (l5 : 0 ≤ r → r < 6 → (s 2 r) = (-1) → P (some (vI (-3))) (m_upd (m_upd s 0 8 1) 76 1 ((s 76 1) + 1)))
    (l6 : 0 ≤ r → r < 6 → ¬ (s 2 r) = (-1) → inR j)
    (l7 : 0 ≤ r → r < 6 → ¬ (s 2 r) = (-1) → j < 0 → P (some (vI (-3))) (m_upd (m_upd s 0 8 2) 76 2 ((s 76 2) + 1)))
    (l8 : 0 ≤ r → r < 6 → ¬ (s 2 r) = (-1) → 0 ≤ j → inR ((s 2 r) - 1))
    (l9 : 0 ≤ r → r < 6 → ¬ (s 2 r) = (-1) → 0 ≤ j → ((s 2 r) - 1) < j → P (some (vI (-3))) (m_upd (m_upd s 0 8 2) 76 2 ((s 76 2) + 1)))
    (l10 : 0 ≤ r → r < 6 → ¬ (s 2 r) = (-1) → 0 ≤ j → j ≤ ((s 2 r) - 1) → j < (s 2 r))
    (l11 : 0 ≤ r → r < 6 → ¬ (s 2 r) = (-1) → 0 ≤ j → j ≤ ((s 2 r) - 1) → (s 2 r) ≤ 40)
    (l12 : 0 ≤ r → r < 6 → ¬ (s 2 r) = (-1) → 0 ≤ j → j ≤ ((s 2 r) - 1) → P (some (vI 1)) (m_upd s 0 9 (s (4 + r) j)))
    : Cl X (d + 5) 21 [vR 0, vI r, vI j] s P := by
  refine Cl_of n_21 rfl ?_
  show Rn _ _ _ _ [some (vR 0), some (vI r), some (vI j), none] [] _ _
  refine r_ldR_n (m := 0) F_21_0 rfl ?_
  refine r_ldR_n (m := 0) F_21_1 rfl ?_
  refine r_getR (J := 0) F_21_2 o_21 fl_5_14 ty_0 (by decide) rfl (kd2 kd_0_0 (by decide)) (kd9 kd_0_0 (by decide)) rf_0_0 ?_
  refine r_ldI_n (m := 1) F_21_5 rfl ?_
  refine r_ldI_n (m := 2) F_21_6 rfl ?_
  refine r_virt2 (A := [vR 1, vI r, vI j]) (r := []) (n := 3) F_21_7 o_21 il_5_82 rfl rfl rfl rfl ty_0 vy_13 (lay_le n_13 rfl) ?_
  refine Cl_of n_13 rfl ?_
  show Rn _ _ _ _ [some (vR 0), some (vR 1), some (vI r), some (vI j), none] [] _ _
  refine r_ldR_n (m := 0) F_13_0 rfl ?_
  refine r_ldR_n (m := 1) F_13_1 rfl ?_
  refine r_ldI_n (m := 2) F_13_2 rfl ?_
  refine r_virt2 (A := [vR 1, vI r]) (r := []) (n := 2) F_13_3 o_13 il_5_96 rfl rfl rfl rfl ty_0 vy_14 (lay_le n_14 rfl) ?_
  refine Cl_of n_14 rfl ?_
  show Rn _ _ _ _ [some (vR 0), some (vR 1), some (vI r)] [] _ _
  refine r_ldR_n (m := 1) F_14_0 rfl ?_
  refine r_ldI_n (m := 2) F_14_1 rfl ?_
  refine r_virt2 (A := [vI r]) (r := []) (n := 1) F_14_2 o_14 il_5_70 rfl rfl rfl rfl ty_1 vy_9 (lay_le n_9 rfl) ?_
  refine Cl_of n_9 rfl ?_
  show Rn _ _ _ _ [some (vR 1), some (vI r)] [] _ _
  refine r_ldI_n (m := 1) F_9_0 rfl ?_
  refine r_if (t := 17) F_9_1 rfl l1 ?_ ?_
  · intro e1
    replace e1 : r < 0 := e1
    refine r_iconst F_9_17 ?_
    refine r_zreturn F_9_18 rt_9 (Or.inl rfl) ?_
    show Rn _ _ _ _ _ [vI 0] _ _
    refine r_ifF (t := 10) F_14_5 rfl (by decide) (by show ¬ (¬ (0 : Int) = 0); decide) ?_
    refine r_iconst F_14_8 ?_
    refine r_ireturn F_14_9 rt_14 ?_
    show Rn _ _ _ _ _ [vI (-1)] _ _
    refine r_stI (m := 4) (L' := [some (vR 0), some (vR 1), some (vI r), some (vI j), some (vI (-1))]) F_13_6 rfl rfl ?_
    refine r_ldI (m := 4) F_13_8 rfl ?_
    refine r_ifF (t := 16) F_13_10 rfl (by decide) (by show ¬ (((-1) : Int) = 0); decide) ?_
    refine r_ldI (m := 4) F_13_13 rfl ?_
    refine r_ireturn F_13_15 rt_13 ?_
    show Rn _ _ _ _ _ [vI (-1)] _ _
    refine r_stI_n (m := 3) (L' := [some (vR 0), some (vI r), some (vI j), some (vI (-1))]) F_21_10 rfl rfl ?_
    refine r_ldI_n (m := 3) F_21_11 rfl ?_
    refine r_ifF (t := 19) F_21_12 rfl (by decide) (by show ¬ (((-1) : Int) = 0); decide) ?_
    refine r_ldI_n (m := 3) F_21_15 rfl ?_
    refine r_goto (t := 32) F_21_16 rfl ?_
    refine r_ireturn F_21_32 rt_21 ?_
    exact (l2 e1)
  · intro e2
    replace e2 : 0 ≤ r := (Int.not_lt.mp e2)
    refine r_ldI_n (m := 1) F_9_4 rfl ?_
    refine r_ldR_n (m := 0) F_9_5 rfl ?_
    refine r_getR (J := 0) F_9_6 o_9 fl_3_19 ty_1 (by decide) rfl (kd2 kd_1_0 (by decide)) (kd9 kd_1_0 (by decide)) rf_1_0 ?_
    refine r_alen F_9_9 ty_2 (by decide) ln_2 ?_
    refine r_icmp (t := 17) F_9_10 rfl l1 (by decide) ?_ ?_
    · intro e3
      replace e3 : 6 ≤ r := e3
      refine r_iconst F_9_17 ?_
      refine r_zreturn F_9_18 rt_9 (Or.inl rfl) ?_
      show Rn _ _ _ _ _ [vI 0] _ _
      refine r_ifF (t := 10) F_14_5 rfl (by decide) (by show ¬ (¬ (0 : Int) = 0); decide) ?_
      refine r_iconst F_14_8 ?_
      refine r_ireturn F_14_9 rt_14 ?_
      show Rn _ _ _ _ _ [vI (-1)] _ _
      refine r_stI (m := 4) (L' := [some (vR 0), some (vR 1), some (vI r), some (vI j), some (vI (-1))]) F_13_6 rfl rfl ?_
      refine r_ldI (m := 4) F_13_8 rfl ?_
      refine r_ifF (t := 16) F_13_10 rfl (by decide) (by show ¬ (((-1) : Int) = 0); decide) ?_
      refine r_ldI (m := 4) F_13_13 rfl ?_
      refine r_ireturn F_13_15 rt_13 ?_
      show Rn _ _ _ _ _ [vI (-1)] _ _
      refine r_stI_n (m := 3) (L' := [some (vR 0), some (vI r), some (vI j), some (vI (-1))]) F_21_10 rfl rfl ?_
      refine r_ldI_n (m := 3) F_21_11 rfl ?_
      refine r_ifF (t := 19) F_21_12 rfl (by decide) (by show ¬ (((-1) : Int) = 0); decide) ?_
      refine r_ldI_n (m := 3) F_21_15 rfl ?_
      refine r_goto (t := 32) F_21_16 rfl ?_
      refine r_ireturn F_21_32 rt_21 ?_
      exact (l3 e2 e3)
    · intro e4
      replace e4 : r < 6 := (Int.not_le.mp e4)
      refine r_iconst F_9_13 ?_
      refine r_goto (t := 18) F_9_14 rfl ?_
      refine r_zreturn F_9_18 rt_9 (Or.inr rfl) ?_
      show Rn _ _ _ _ _ [vI 1] _ _
      refine r_ifT (t := 10) F_14_5 rfl (by decide) (by show ¬ (1 : Int) = 0; decide) ?_
      refine r_ldR_n (m := 1) F_14_10 rfl ?_
      refine r_ldI_n (m := 2) F_14_11 rfl ?_
      refine r_virt2 (A := [vI r]) (r := []) (n := 1) F_14_12 o_14 il_5_104 rfl rfl rfl rfl ty_1 vy_15 (lay_le n_15 rfl) ?_
      refine Cl_of n_15 rfl ?_
      show Rn _ _ _ _ [some (vR 1), some (vI r)] [] _ _
      refine r_ldR_n (m := 0) F_15_0 rfl ?_
      refine r_ldI_n (m := 1) F_15_1 rfl ?_
      refine r_virt2 (A := [vI r]) (r := []) (n := 1) F_15_2 o_15 il_3_28 rfl rfl rfl rfl ty_1 vy_16 (lay_le n_16 rfl) ?_
      refine Cl_of n_16 rfl ?_
      show Rn _ _ _ _ [some (vR 1), some (vI r)] [] _ _
      refine r_ldR_n (m := 0) F_16_0 rfl ?_
      refine r_ldI_n (m := 1) F_16_1 rfl ?_
      refine r_virt2 (A := [vI r]) (r := []) (n := 1) F_16_2 o_16 il_3_32 rfl rfl rfl rfl ty_1 vy_9 (lay_le n_9 rfl) ?_
      refine Cl_of n_9 rfl ?_
      show Rn _ _ _ _ [some (vR 1), some (vI r)] [] _ _
      refine r_ldI_n (m := 1) F_9_0 rfl ?_
      refine r_ifF (t := 17) F_9_1 rfl l1 (Int.not_lt.mpr e2) ?_
      refine r_ldI_n (m := 1) F_9_4 rfl ?_
      refine r_ldR_n (m := 0) F_9_5 rfl ?_
      refine r_getR (J := 0) F_9_6 o_9 fl_3_19 ty_1 (by decide) rfl (kd2 kd_1_0 (by decide)) (kd9 kd_1_0 (by decide)) rf_1_0 ?_
      refine r_alen F_9_9 ty_2 (by decide) ln_2 ?_
      refine r_icmpF (t := 17) F_9_10 rfl l1 (by decide) (Int.not_le.mpr e4) ?_
      refine r_iconst F_9_13 ?_
      refine r_goto (t := 18) F_9_14 rfl ?_
      refine r_zreturn F_9_18 rt_9 (Or.inr rfl) ?_
      show Rn _ _ _ _ _ [vI 1] _ _
      refine r_ifF (t := 17) F_16_5 rfl (by decide) (by show ¬ ((1 : Int) = 0); decide) ?_
      refine r_ldR_n (m := 0) F_16_8 rfl ?_
      refine r_getR (J := 0) F_16_9 o_16 fl_3_19 ty_1 (by decide) rfl (kd2 kd_1_0 (by decide)) (kd9 kd_1_0 (by decide)) rf_1_0 ?_
      refine r_ldI_n (m := 1) F_16_12 rfl ?_
      refine r_iald (e := (s 2 r)) F_16_13 ty_2 e2 (lt_ln ln_2 e4) rfl ?_
      refine r_goto (t := 18) F_16_14 rfl ?_
      refine r_ireturn F_16_18 rt_16 ?_
      show Rn _ _ _ _ _ [vI (s 2 r)] _ _
      refine r_iconst F_15_5 ?_
      refine r_icmp (t := 13) F_15_6 rfl (l4 e2 e4) (by decide) ?_ ?_
      · intro e5
        replace e5 : (s 2 r) = (-1) := e5
        refine r_iconst F_15_13 ?_
        refine r_zreturn F_15_14 rt_15 (Or.inl rfl) ?_
        show Rn _ _ _ _ _ [vI 0] _ _
        refine r_ifT (t := 22) F_14_15 rfl (by decide) (by show (0 : Int) = 0; decide) ?_
        refine r_ldR_n (m := 0) F_14_22 rfl ?_
        refine r_iconst F_14_23 ?_
        refine r_virt2 (A := [vI 1]) (r := []) (n := 1) F_14_24 o_14 il_5_74 rfl rfl rfl rfl ty_0 vy_10 (lay_le n_10 rfl) ?_
        refine Cl_of n_10 rfl ?_
        show Rn _ _ _ _ [some (vR 0), some (vI 1)] [] _ _
        refine r_ldI_n (m := 1) F_10_0 rfl ?_
        refine r_iconst F_10_1 ?_
        refine r_icmpF (t := 25) F_10_2 rfl (by decide) (by decide) (by show ¬ ((1 : Int) < 1); decide) ?_
        refine r_ldI_n (m := 1) F_10_5 rfl ?_
        refine r_iconst F_10_6 ?_
        refine r_icmpF (t := 25) F_10_7 rfl (by decide) (by decide) (by show ¬ ((5 : Int) < 1); decide) ?_
        refine r_ldR_n (m := 0) F_10_10 rfl ?_
        refine r_ldI_n (m := 1) F_10_11 rfl ?_
        refine r_putI (J := 8) F_10_12 o_10 fl_5_56 ty_0 (by decide) rfl kd_0_8 pf_5_8 ?_
        refine r_ldR_n (m := 0) F_10_15 rfl ?_
        refine r_getR (J := 7) F_10_16 o_10 fl_5_52 ty_0 (by decide) rfl (kd2 kd_0_7 (by decide)) (kd9 kd_0_7 (by decide)) rf_0_7 ?_
        refine r_ldI_n (m := 1) F_10_19 rfl ?_
        refine r_dup2 F_10_20 ?_
        refine r_iald (e := (s 76 1)) F_10_21 ty_76 (by decide) (lt_ln ln_76 (by decide)) (upd_nc (by decide)) ?_
        refine r_iconst F_10_22 ?_
        refine r_iadd F_10_23 rfl ?_
        refine r_iast F_10_24 ty_76 (by decide) (lt_ln ln_76 (by decide)) ?_
        refine r_bipush F_10_25 bi__3 ?_
        refine r_ireturn F_10_27 rt_10 ?_
        show Rn _ _ _ _ _ [vI (-3)] _ _
        refine r_ireturn F_14_27 rt_14 ?_
        show Rn _ _ _ _ _ [vI (-3)] _ _
        refine r_stI (m := 4) (L' := [some (vR 0), some (vR 1), some (vI r), some (vI j), some (vI (-3))]) F_13_6 rfl rfl ?_
        refine r_ldI (m := 4) F_13_8 rfl ?_
        refine r_ifF (t := 16) F_13_10 rfl (by decide) (by show ¬ (((-3) : Int) = 0); decide) ?_
        refine r_ldI (m := 4) F_13_13 rfl ?_
        refine r_ireturn F_13_15 rt_13 ?_
        show Rn _ _ _ _ _ [vI (-3)] _ _
        refine r_stI_n (m := 3) (L' := [some (vR 0), some (vI r), some (vI j), some (vI (-3))]) F_21_10 rfl rfl ?_
        refine r_ldI_n (m := 3) F_21_11 rfl ?_
        refine r_ifF (t := 19) F_21_12 rfl (by decide) (by show ¬ (((-3) : Int) = 0); decide) ?_
        refine r_ldI_n (m := 3) F_21_15 rfl ?_
        refine r_goto (t := 32) F_21_16 rfl ?_
        refine r_ireturn F_21_32 rt_21 ?_
        exact (l5 e2 e4 e5)
      · intro e6
        replace e6 : ¬ (s 2 r) = (-1) := e6
        refine r_iconst F_15_9 ?_
        refine r_goto (t := 14) F_15_10 rfl ?_
        refine r_zreturn F_15_14 rt_15 (Or.inr rfl) ?_
        show Rn _ _ _ _ _ [vI 1] _ _
        refine r_ifF (t := 22) F_14_15 rfl (by decide) (by show ¬ ((1 : Int) = 0); decide) ?_
        refine r_iconst F_14_18 ?_
        refine r_goto (t := 27) F_14_19 rfl ?_
        refine r_ireturn F_14_27 rt_14 ?_
        show Rn _ _ _ _ _ [vI 0] _ _
        refine r_stI (m := 4) (L' := [some (vR 0), some (vR 1), some (vI r), some (vI j), some (vI 0)]) F_13_6 rfl rfl ?_
        refine r_ldI (m := 4) F_13_8 rfl ?_
        refine r_ifT (t := 16) F_13_10 rfl (by decide) (by show (0 : Int) = 0; decide) ?_
        refine r_ldR_n (m := 1) F_13_16 rfl ?_
        refine r_ldI_n (m := 2) F_13_17 rfl ?_
        refine r_ldI_n (m := 3) F_13_18 rfl ?_
        refine r_iconst F_13_19 ?_
        refine r_virt2 (A := [vI r, vI j, vI 1]) (r := []) (n := 3) F_13_20 o_13 il_5_107 rfl rfl rfl rfl ty_1 vy_17 (lay_le n_17 rfl) ?_
        refine Cl_of n_17 rfl ?_
        show Rn _ _ _ _ [some (vR 1), some (vI r), some (vI j), some (vI 1)] [] _ _
        refine r_ldR_n (m := 0) F_17_0 rfl ?_
        refine r_ldI_n (m := 1) F_17_1 rfl ?_
        refine r_virt2 (A := [vI r]) (r := []) (n := 1) F_17_2 o_17 il_3_36 rfl rfl rfl rfl ty_1 vy_15 (lay_le n_15 rfl) ?_
        refine Cl_of n_15 rfl ?_
        show Rn _ _ _ _ [some (vR 1), some (vI r)] [] _ _
        refine r_ldR_n (m := 0) F_15_0 rfl ?_
        refine r_ldI_n (m := 1) F_15_1 rfl ?_
        refine r_virt2 (A := [vI r]) (r := []) (n := 1) F_15_2 o_15 il_3_28 rfl rfl rfl rfl ty_1 vy_16 (lay_le n_16 rfl) ?_
        refine Cl_of n_16 rfl ?_
        show Rn _ _ _ _ [some (vR 1), some (vI r)] [] _ _
        refine r_ldR_n (m := 0) F_16_0 rfl ?_
        refine r_ldI_n (m := 1) F_16_1 rfl ?_
        refine r_virt2 (A := [vI r]) (r := []) (n := 1) F_16_2 o_16 il_3_32 rfl rfl rfl rfl ty_1 vy_9 (lay_le n_9 rfl) ?_
        refine Cl_of n_9 rfl ?_
        show Rn _ _ _ _ [some (vR 1), some (vI r)] [] _ _
        refine r_ldI_n (m := 1) F_9_0 rfl ?_
        refine r_ifF (t := 17) F_9_1 rfl l1 (Int.not_lt.mpr e2) ?_
        refine r_ldI_n (m := 1) F_9_4 rfl ?_
        refine r_ldR_n (m := 0) F_9_5 rfl ?_
        refine r_getR (J := 0) F_9_6 o_9 fl_3_19 ty_1 (by decide) rfl (kd2 kd_1_0 (by decide)) (kd9 kd_1_0 (by decide)) rf_1_0 ?_
        refine r_alen F_9_9 ty_2 (by decide) ln_2 ?_
        refine r_icmpF (t := 17) F_9_10 rfl l1 (by decide) (Int.not_le.mpr e4) ?_
        refine r_iconst F_9_13 ?_
        refine r_goto (t := 18) F_9_14 rfl ?_
        refine r_zreturn F_9_18 rt_9 (Or.inr rfl) ?_
        show Rn _ _ _ _ _ [vI 1] _ _
        refine r_ifF (t := 17) F_16_5 rfl (by decide) (by show ¬ ((1 : Int) = 0); decide) ?_
        refine r_ldR_n (m := 0) F_16_8 rfl ?_
        refine r_getR (J := 0) F_16_9 o_16 fl_3_19 ty_1 (by decide) rfl (kd2 kd_1_0 (by decide)) (kd9 kd_1_0 (by decide)) rf_1_0 ?_
        refine r_ldI_n (m := 1) F_16_12 rfl ?_
        refine r_iald (e := (s 2 r)) F_16_13 ty_2 e2 (lt_ln ln_2 e4) rfl ?_
        refine r_goto (t := 18) F_16_14 rfl ?_
        refine r_ireturn F_16_18 rt_16 ?_
        show Rn _ _ _ _ _ [vI (s 2 r)] _ _
        refine r_iconst F_15_5 ?_
        refine r_icmpF (t := 13) F_15_6 rfl (l4 e2 e4) (by decide) e6 ?_
        refine r_iconst F_15_9 ?_
        refine r_goto (t := 14) F_15_10 rfl ?_
        refine r_zreturn F_15_14 rt_15 (Or.inr rfl) ?_
        show Rn _ _ _ _ _ [vI 1] _ _
        refine r_ifF (t := 31) F_17_5 rfl (by decide) (by show ¬ ((1 : Int) = 0); decide) ?_
        refine r_ldI_n (m := 2) F_17_8 rfl ?_
        refine r_if (t := 31) F_17_9 rfl (l6 e2 e4 e6) ?_ ?_
        · intro e7
          replace e7 : j < 0 := e7
          refine r_iconst F_17_31 ?_
          refine r_zreturn F_17_32 rt_17 (Or.inl rfl) ?_
          show Rn _ _ _ _ _ [vI 0] _ _
          refine r_ifT (t := 30) F_13_23 rfl (by decide) (by show (0 : Int) = 0; decide) ?_
          refine r_ldR_n (m := 0) F_13_30 rfl ?_
          refine r_iconst F_13_31 ?_
          refine r_virt2 (A := [vI 2]) (r := []) (n := 1) F_13_32 o_13 il_5_74 rfl rfl rfl rfl ty_0 vy_10 (lay_le n_10 rfl) ?_
          refine Cl_of n_10 rfl ?_
          show Rn _ _ _ _ [some (vR 0), some (vI 2)] [] _ _
          refine r_ldI_n (m := 1) F_10_0 rfl ?_
          refine r_iconst F_10_1 ?_
          refine r_icmpF (t := 25) F_10_2 rfl (by decide) (by decide) (by show ¬ ((2 : Int) < 1); decide) ?_
          refine r_ldI_n (m := 1) F_10_5 rfl ?_
          refine r_iconst F_10_6 ?_
          refine r_icmpF (t := 25) F_10_7 rfl (by decide) (by decide) (by show ¬ ((5 : Int) < 2); decide) ?_
          refine r_ldR_n (m := 0) F_10_10 rfl ?_
          refine r_ldI_n (m := 1) F_10_11 rfl ?_
          refine r_putI (J := 8) F_10_12 o_10 fl_5_56 ty_0 (by decide) rfl kd_0_8 pf_5_8 ?_
          refine r_ldR_n (m := 0) F_10_15 rfl ?_
          refine r_getR (J := 7) F_10_16 o_10 fl_5_52 ty_0 (by decide) rfl (kd2 kd_0_7 (by decide)) (kd9 kd_0_7 (by decide)) rf_0_7 ?_
          refine r_ldI_n (m := 1) F_10_19 rfl ?_
          refine r_dup2 F_10_20 ?_
          refine r_iald (e := (s 76 2)) F_10_21 ty_76 (by decide) (lt_ln ln_76 (by decide)) (upd_nc (by decide)) ?_
          refine r_iconst F_10_22 ?_
          refine r_iadd F_10_23 rfl ?_
          refine r_iast F_10_24 ty_76 (by decide) (lt_ln ln_76 (by decide)) ?_
          refine r_bipush F_10_25 bi__3 ?_
          refine r_ireturn F_10_27 rt_10 ?_
          show Rn _ _ _ _ _ [vI (-3)] _ _
          refine r_ireturn F_13_35 rt_13 ?_
          show Rn _ _ _ _ _ [vI (-3)] _ _
          refine r_stI_n (m := 3) (L' := [some (vR 0), some (vI r), some (vI j), some (vI (-3))]) F_21_10 rfl rfl ?_
          refine r_ldI_n (m := 3) F_21_11 rfl ?_
          refine r_ifF (t := 19) F_21_12 rfl (by decide) (by show ¬ (((-3) : Int) = 0); decide) ?_
          refine r_ldI_n (m := 3) F_21_15 rfl ?_
          refine r_goto (t := 32) F_21_16 rfl ?_
          refine r_ireturn F_21_32 rt_21 ?_
          exact (l7 e2 e4 e6 e7)
        · intro e8
          replace e8 : 0 ≤ j := (Int.not_lt.mp e8)
          refine r_ldI_n (m := 3) F_17_12 rfl ?_
          refine r_ifF (t := 31) F_17_13 rfl (by decide) (by show ¬ ((1 : Int) < 0); decide) ?_
          refine r_ldI_n (m := 2) F_17_16 rfl ?_
          refine r_ldR_n (m := 0) F_17_17 rfl ?_
          refine r_ldI_n (m := 1) F_17_18 rfl ?_
          refine r_virt2 (A := [vI r]) (r := [vI j]) (n := 1) F_17_19 o_17 il_3_28 rfl rfl rfl rfl ty_1 vy_16 (lay_le n_16 rfl) ?_
          refine Cl_of n_16 rfl ?_
          show Rn _ _ _ _ [some (vR 1), some (vI r)] [] _ _
          refine r_ldR_n (m := 0) F_16_0 rfl ?_
          refine r_ldI_n (m := 1) F_16_1 rfl ?_
          refine r_virt2 (A := [vI r]) (r := []) (n := 1) F_16_2 o_16 il_3_32 rfl rfl rfl rfl ty_1 vy_9 (lay_le n_9 rfl) ?_
          refine Cl_of n_9 rfl ?_
          show Rn _ _ _ _ [some (vR 1), some (vI r)] [] _ _
          refine r_ldI_n (m := 1) F_9_0 rfl ?_
          refine r_ifF (t := 17) F_9_1 rfl l1 (Int.not_lt.mpr e2) ?_
          refine r_ldI_n (m := 1) F_9_4 rfl ?_
          refine r_ldR_n (m := 0) F_9_5 rfl ?_
          refine r_getR (J := 0) F_9_6 o_9 fl_3_19 ty_1 (by decide) rfl (kd2 kd_1_0 (by decide)) (kd9 kd_1_0 (by decide)) rf_1_0 ?_
          refine r_alen F_9_9 ty_2 (by decide) ln_2 ?_
          refine r_icmpF (t := 17) F_9_10 rfl l1 (by decide) (Int.not_le.mpr e4) ?_
          refine r_iconst F_9_13 ?_
          refine r_goto (t := 18) F_9_14 rfl ?_
          refine r_zreturn F_9_18 rt_9 (Or.inr rfl) ?_
          show Rn _ _ _ _ _ [vI 1] _ _
          refine r_ifF (t := 17) F_16_5 rfl (by decide) (by show ¬ ((1 : Int) = 0); decide) ?_
          refine r_ldR_n (m := 0) F_16_8 rfl ?_
          refine r_getR (J := 0) F_16_9 o_16 fl_3_19 ty_1 (by decide) rfl (kd2 kd_1_0 (by decide)) (kd9 kd_1_0 (by decide)) rf_1_0 ?_
          refine r_ldI_n (m := 1) F_16_12 rfl ?_
          refine r_iald (e := (s 2 r)) F_16_13 ty_2 e2 (lt_ln ln_2 e4) rfl ?_
          refine r_goto (t := 18) F_16_14 rfl ?_
          refine r_ireturn F_16_18 rt_16 ?_
          show Rn _ _ _ _ _ [vI (s 2 r), vI j] _ _
          refine r_ldI_n (m := 3) F_17_22 rfl ?_
          refine r_isub F_17_23 rfl ?_
          refine r_icmp (t := 31) F_17_24 rfl (l6 e2 e4 e6) (l8 e2 e4 e6 e8) ?_ ?_
          · intro e9
            replace e9 : ((s 2 r) - 1) < j := e9
            refine r_iconst F_17_31 ?_
            refine r_zreturn F_17_32 rt_17 (Or.inl rfl) ?_
            show Rn _ _ _ _ _ [vI 0] _ _
            refine r_ifT (t := 30) F_13_23 rfl (by decide) (by show (0 : Int) = 0; decide) ?_
            refine r_ldR_n (m := 0) F_13_30 rfl ?_
            refine r_iconst F_13_31 ?_
            refine r_virt2 (A := [vI 2]) (r := []) (n := 1) F_13_32 o_13 il_5_74 rfl rfl rfl rfl ty_0 vy_10 (lay_le n_10 rfl) ?_
            refine Cl_of n_10 rfl ?_
            show Rn _ _ _ _ [some (vR 0), some (vI 2)] [] _ _
            refine r_ldI_n (m := 1) F_10_0 rfl ?_
            refine r_iconst F_10_1 ?_
            refine r_icmpF (t := 25) F_10_2 rfl (by decide) (by decide) (by show ¬ ((2 : Int) < 1); decide) ?_
            refine r_ldI_n (m := 1) F_10_5 rfl ?_
            refine r_iconst F_10_6 ?_
            refine r_icmpF (t := 25) F_10_7 rfl (by decide) (by decide) (by show ¬ ((5 : Int) < 2); decide) ?_
            refine r_ldR_n (m := 0) F_10_10 rfl ?_
            refine r_ldI_n (m := 1) F_10_11 rfl ?_
            refine r_putI (J := 8) F_10_12 o_10 fl_5_56 ty_0 (by decide) rfl kd_0_8 pf_5_8 ?_
            refine r_ldR_n (m := 0) F_10_15 rfl ?_
            refine r_getR (J := 7) F_10_16 o_10 fl_5_52 ty_0 (by decide) rfl (kd2 kd_0_7 (by decide)) (kd9 kd_0_7 (by decide)) rf_0_7 ?_
            refine r_ldI_n (m := 1) F_10_19 rfl ?_
            refine r_dup2 F_10_20 ?_
            refine r_iald (e := (s 76 2)) F_10_21 ty_76 (by decide) (lt_ln ln_76 (by decide)) (upd_nc (by decide)) ?_
            refine r_iconst F_10_22 ?_
            refine r_iadd F_10_23 rfl ?_
            refine r_iast F_10_24 ty_76 (by decide) (lt_ln ln_76 (by decide)) ?_
            refine r_bipush F_10_25 bi__3 ?_
            refine r_ireturn F_10_27 rt_10 ?_
            show Rn _ _ _ _ _ [vI (-3)] _ _
            refine r_ireturn F_13_35 rt_13 ?_
            show Rn _ _ _ _ _ [vI (-3)] _ _
            refine r_stI_n (m := 3) (L' := [some (vR 0), some (vI r), some (vI j), some (vI (-3))]) F_21_10 rfl rfl ?_
            refine r_ldI_n (m := 3) F_21_11 rfl ?_
            refine r_ifF (t := 19) F_21_12 rfl (by decide) (by show ¬ (((-3) : Int) = 0); decide) ?_
            refine r_ldI_n (m := 3) F_21_15 rfl ?_
            refine r_goto (t := 32) F_21_16 rfl ?_
            refine r_ireturn F_21_32 rt_21 ?_
            exact (l9 e2 e4 e6 e8 e9)
          · intro e10
            replace e10 : j ≤ ((s 2 r) - 1) := (Int.not_lt.mp e10)
            refine r_iconst F_17_27 ?_
            refine r_goto (t := 32) F_17_28 rfl ?_
            refine r_zreturn F_17_32 rt_17 (Or.inr rfl) ?_
            show Rn _ _ _ _ _ [vI 1] _ _
            refine r_ifF (t := 30) F_13_23 rfl (by decide) (by show ¬ ((1 : Int) = 0); decide) ?_
            refine r_iconst F_13_26 ?_
            refine r_goto (t := 35) F_13_27 rfl ?_
            refine r_ireturn F_13_35 rt_13 ?_
            show Rn _ _ _ _ _ [vI 0] _ _
            refine r_stI_n (m := 3) (L' := [some (vR 0), some (vI r), some (vI j), some (vI 0)]) F_21_10 rfl rfl ?_
            refine r_ldI_n (m := 3) F_21_11 rfl ?_
            refine r_ifT (t := 19) F_21_12 rfl (by decide) (by show (0 : Int) = 0; decide) ?_
            refine r_ldR_n (m := 0) F_21_19 rfl ?_
            refine r_ldR_n (m := 0) F_21_20 rfl ?_
            refine r_getR (J := 0) F_21_21 o_21 fl_5_14 ty_0 (by decide) rfl (kd2 kd_0_0 (by decide)) (kd9 kd_0_0 (by decide)) rf_0_0 ?_
            refine r_ldI_n (m := 1) F_21_24 rfl ?_
            refine r_ldI_n (m := 2) F_21_25 rfl ?_
            refine r_virt2 (A := [vI r, vI j]) (r := [vR 0]) (n := 2) F_21_26 o_21 il_5_86 rfl rfl rfl rfl ty_1 vy_18 (lay_le n_18 rfl) ?_
            refine sp_get1 e2 e4 e8 (l10 e2 e4 e6 e8 e10) (l11 e2 e4 e6 e8 e10) ?_
            show Rn _ _ _ _ _ [vI (s (4 + r) j), vR 0] _ _
            refine r_virt2 (A := [vI (s (4 + r) j)]) (r := []) (n := 1) F_21_29 o_21 il_5_93 rfl rfl rfl rfl ty_0 vy_20 (lay_le n_20 rfl) ?_
            refine Cl_of n_20 rfl ?_
            show Rn _ _ _ _ [some (vR 0), some (vI (s (4 + r) j))] [] _ _
            refine r_ldR_n (m := 0) F_20_0 rfl ?_
            refine r_ldI_n (m := 1) F_20_1 rfl ?_
            refine r_putI (J := 9) F_20_2 o_20 fl_5_60 ty_0 (by decide) rfl kd_0_9 pf_5_9 ?_
            refine r_iconst F_20_5 ?_
            refine r_ireturn F_20_6 rt_20 ?_
            show Rn _ _ _ _ _ [vI 1] _ _
            refine r_ireturn F_21_32 rt_21 ?_
            exact (l12 e2 e4 e6 e8 e10)
theorem t_X5_tear {X : List Int32} {d : Nat} {s : m_St} {P : Option Value → m_St → Prop} {r : Int}
    (l1 : inR r)
    (l2 : r < 0 → P (some (vI (-1))) s)
    (l3 : 0 ≤ r → 6 ≤ r → P (some (vI (-1))) s)
    (l4 : 0 ≤ r → r < 6 → inR (s 2 r))
    (l5 : 0 ≤ r → r < 6 → (s 2 r) = (-1) → P (some (vI (-3))) (m_upd (m_upd s 0 8 1) 76 1 ((s 76 1) + 1)))
    (l6 : 0 ≤ r → r < 6 → ¬ (s 2 r) = (-1) → P (some (vI 1)) (m_upd s 2 r (-1)))
    : Cl X (d + 4) 22 [vR 0, vI r] s P := by
  refine Cl_of n_22 rfl ?_
  show Rn _ _ _ _ [some (vR 0), some (vI r), none] [] _ _
  refine r_ldR_n (m := 0) F_22_0 rfl ?_
  refine r_ldR_n (m := 0) F_22_1 rfl ?_
  refine r_getR (J := 0) F_22_2 o_22 fl_5_14 ty_0 (by decide) rfl (kd2 kd_0_0 (by decide)) (kd9 kd_0_0 (by decide)) rf_0_0 ?_
  refine r_ldI_n (m := 1) F_22_5 rfl ?_
  refine r_virt2 (A := [vR 1, vI r]) (r := []) (n := 2) F_22_6 o_22 il_5_96 rfl rfl rfl rfl ty_0 vy_14 (lay_le n_14 rfl) ?_
  refine Cl_of n_14 rfl ?_
  show Rn _ _ _ _ [some (vR 0), some (vR 1), some (vI r)] [] _ _
  refine r_ldR_n (m := 1) F_14_0 rfl ?_
  refine r_ldI_n (m := 2) F_14_1 rfl ?_
  refine r_virt2 (A := [vI r]) (r := []) (n := 1) F_14_2 o_14 il_5_70 rfl rfl rfl rfl ty_1 vy_9 (lay_le n_9 rfl) ?_
  refine Cl_of n_9 rfl ?_
  show Rn _ _ _ _ [some (vR 1), some (vI r)] [] _ _
  refine r_ldI_n (m := 1) F_9_0 rfl ?_
  refine r_if (t := 17) F_9_1 rfl l1 ?_ ?_
  · intro e1
    replace e1 : r < 0 := e1
    refine r_iconst F_9_17 ?_
    refine r_zreturn F_9_18 rt_9 (Or.inl rfl) ?_
    show Rn _ _ _ _ _ [vI 0] _ _
    refine r_ifF (t := 10) F_14_5 rfl (by decide) (by show ¬ (¬ (0 : Int) = 0); decide) ?_
    refine r_iconst F_14_8 ?_
    refine r_ireturn F_14_9 rt_14 ?_
    show Rn _ _ _ _ _ [vI (-1)] _ _
    refine r_stI_n (m := 2) (L' := [some (vR 0), some (vI r), some (vI (-1))]) F_22_9 rfl rfl ?_
    refine r_ldI_n (m := 2) F_22_10 rfl ?_
    refine r_ifF (t := 16) F_22_11 rfl (by decide) (by show ¬ (((-1) : Int) = 0); decide) ?_
    refine r_ldI_n (m := 2) F_22_14 rfl ?_
    refine r_ireturn F_22_15 rt_22 ?_
    exact (l2 e1)
  · intro e2
    replace e2 : 0 ≤ r := (Int.not_lt.mp e2)
    refine r_ldI_n (m := 1) F_9_4 rfl ?_
    refine r_ldR_n (m := 0) F_9_5 rfl ?_
    refine r_getR (J := 0) F_9_6 o_9 fl_3_19 ty_1 (by decide) rfl (kd2 kd_1_0 (by decide)) (kd9 kd_1_0 (by decide)) rf_1_0 ?_
    refine r_alen F_9_9 ty_2 (by decide) ln_2 ?_
    refine r_icmp (t := 17) F_9_10 rfl l1 (by decide) ?_ ?_
    · intro e3
      replace e3 : 6 ≤ r := e3
      refine r_iconst F_9_17 ?_
      refine r_zreturn F_9_18 rt_9 (Or.inl rfl) ?_
      show Rn _ _ _ _ _ [vI 0] _ _
      refine r_ifF (t := 10) F_14_5 rfl (by decide) (by show ¬ (¬ (0 : Int) = 0); decide) ?_
      refine r_iconst F_14_8 ?_
      refine r_ireturn F_14_9 rt_14 ?_
      show Rn _ _ _ _ _ [vI (-1)] _ _
      refine r_stI_n (m := 2) (L' := [some (vR 0), some (vI r), some (vI (-1))]) F_22_9 rfl rfl ?_
      refine r_ldI_n (m := 2) F_22_10 rfl ?_
      refine r_ifF (t := 16) F_22_11 rfl (by decide) (by show ¬ (((-1) : Int) = 0); decide) ?_
      refine r_ldI_n (m := 2) F_22_14 rfl ?_
      refine r_ireturn F_22_15 rt_22 ?_
      exact (l3 e2 e3)
    · intro e4
      replace e4 : r < 6 := (Int.not_le.mp e4)
      refine r_iconst F_9_13 ?_
      refine r_goto (t := 18) F_9_14 rfl ?_
      refine r_zreturn F_9_18 rt_9 (Or.inr rfl) ?_
      show Rn _ _ _ _ _ [vI 1] _ _
      refine r_ifT (t := 10) F_14_5 rfl (by decide) (by show ¬ (1 : Int) = 0; decide) ?_
      refine r_ldR_n (m := 1) F_14_10 rfl ?_
      refine r_ldI_n (m := 2) F_14_11 rfl ?_
      refine r_virt2 (A := [vI r]) (r := []) (n := 1) F_14_12 o_14 il_5_104 rfl rfl rfl rfl ty_1 vy_15 (lay_le n_15 rfl) ?_
      refine Cl_of n_15 rfl ?_
      show Rn _ _ _ _ [some (vR 1), some (vI r)] [] _ _
      refine r_ldR_n (m := 0) F_15_0 rfl ?_
      refine r_ldI_n (m := 1) F_15_1 rfl ?_
      refine r_virt2 (A := [vI r]) (r := []) (n := 1) F_15_2 o_15 il_3_28 rfl rfl rfl rfl ty_1 vy_16 (lay_le n_16 rfl) ?_
      refine Cl_of n_16 rfl ?_
      show Rn _ _ _ _ [some (vR 1), some (vI r)] [] _ _
      refine r_ldR_n (m := 0) F_16_0 rfl ?_
      refine r_ldI_n (m := 1) F_16_1 rfl ?_
      refine r_virt2 (A := [vI r]) (r := []) (n := 1) F_16_2 o_16 il_3_32 rfl rfl rfl rfl ty_1 vy_9 (lay_le n_9 rfl) ?_
      refine Cl_of n_9 rfl ?_
      show Rn _ _ _ _ [some (vR 1), some (vI r)] [] _ _
      refine r_ldI_n (m := 1) F_9_0 rfl ?_
      refine r_ifF (t := 17) F_9_1 rfl l1 (Int.not_lt.mpr e2) ?_
      refine r_ldI_n (m := 1) F_9_4 rfl ?_
      refine r_ldR_n (m := 0) F_9_5 rfl ?_
      refine r_getR (J := 0) F_9_6 o_9 fl_3_19 ty_1 (by decide) rfl (kd2 kd_1_0 (by decide)) (kd9 kd_1_0 (by decide)) rf_1_0 ?_
      refine r_alen F_9_9 ty_2 (by decide) ln_2 ?_
      refine r_icmpF (t := 17) F_9_10 rfl l1 (by decide) (Int.not_le.mpr e4) ?_
      refine r_iconst F_9_13 ?_
      refine r_goto (t := 18) F_9_14 rfl ?_
      refine r_zreturn F_9_18 rt_9 (Or.inr rfl) ?_
      show Rn _ _ _ _ _ [vI 1] _ _
      refine r_ifF (t := 17) F_16_5 rfl (by decide) (by show ¬ ((1 : Int) = 0); decide) ?_
      refine r_ldR_n (m := 0) F_16_8 rfl ?_
      refine r_getR (J := 0) F_16_9 o_16 fl_3_19 ty_1 (by decide) rfl (kd2 kd_1_0 (by decide)) (kd9 kd_1_0 (by decide)) rf_1_0 ?_
      refine r_ldI_n (m := 1) F_16_12 rfl ?_
      refine r_iald (e := (s 2 r)) F_16_13 ty_2 e2 (lt_ln ln_2 e4) rfl ?_
      refine r_goto (t := 18) F_16_14 rfl ?_
      refine r_ireturn F_16_18 rt_16 ?_
      show Rn _ _ _ _ _ [vI (s 2 r)] _ _
      refine r_iconst F_15_5 ?_
      refine r_icmp (t := 13) F_15_6 rfl (l4 e2 e4) (by decide) ?_ ?_
      · intro e5
        replace e5 : (s 2 r) = (-1) := e5
        refine r_iconst F_15_13 ?_
        refine r_zreturn F_15_14 rt_15 (Or.inl rfl) ?_
        show Rn _ _ _ _ _ [vI 0] _ _
        refine r_ifT (t := 22) F_14_15 rfl (by decide) (by show (0 : Int) = 0; decide) ?_
        refine r_ldR_n (m := 0) F_14_22 rfl ?_
        refine r_iconst F_14_23 ?_
        refine r_virt2 (A := [vI 1]) (r := []) (n := 1) F_14_24 o_14 il_5_74 rfl rfl rfl rfl ty_0 vy_10 (lay_le n_10 rfl) ?_
        refine Cl_of n_10 rfl ?_
        show Rn _ _ _ _ [some (vR 0), some (vI 1)] [] _ _
        refine r_ldI_n (m := 1) F_10_0 rfl ?_
        refine r_iconst F_10_1 ?_
        refine r_icmpF (t := 25) F_10_2 rfl (by decide) (by decide) (by show ¬ ((1 : Int) < 1); decide) ?_
        refine r_ldI_n (m := 1) F_10_5 rfl ?_
        refine r_iconst F_10_6 ?_
        refine r_icmpF (t := 25) F_10_7 rfl (by decide) (by decide) (by show ¬ ((5 : Int) < 1); decide) ?_
        refine r_ldR_n (m := 0) F_10_10 rfl ?_
        refine r_ldI_n (m := 1) F_10_11 rfl ?_
        refine r_putI (J := 8) F_10_12 o_10 fl_5_56 ty_0 (by decide) rfl kd_0_8 pf_5_8 ?_
        refine r_ldR_n (m := 0) F_10_15 rfl ?_
        refine r_getR (J := 7) F_10_16 o_10 fl_5_52 ty_0 (by decide) rfl (kd2 kd_0_7 (by decide)) (kd9 kd_0_7 (by decide)) rf_0_7 ?_
        refine r_ldI_n (m := 1) F_10_19 rfl ?_
        refine r_dup2 F_10_20 ?_
        refine r_iald (e := (s 76 1)) F_10_21 ty_76 (by decide) (lt_ln ln_76 (by decide)) (upd_nc (by decide)) ?_
        refine r_iconst F_10_22 ?_
        refine r_iadd F_10_23 rfl ?_
        refine r_iast F_10_24 ty_76 (by decide) (lt_ln ln_76 (by decide)) ?_
        refine r_bipush F_10_25 bi__3 ?_
        refine r_ireturn F_10_27 rt_10 ?_
        show Rn _ _ _ _ _ [vI (-3)] _ _
        refine r_ireturn F_14_27 rt_14 ?_
        show Rn _ _ _ _ _ [vI (-3)] _ _
        refine r_stI_n (m := 2) (L' := [some (vR 0), some (vI r), some (vI (-3))]) F_22_9 rfl rfl ?_
        refine r_ldI_n (m := 2) F_22_10 rfl ?_
        refine r_ifF (t := 16) F_22_11 rfl (by decide) (by show ¬ (((-3) : Int) = 0); decide) ?_
        refine r_ldI_n (m := 2) F_22_14 rfl ?_
        refine r_ireturn F_22_15 rt_22 ?_
        exact (l5 e2 e4 e5)
      · intro e6
        replace e6 : ¬ (s 2 r) = (-1) := e6
        refine r_iconst F_15_9 ?_
        refine r_goto (t := 14) F_15_10 rfl ?_
        refine r_zreturn F_15_14 rt_15 (Or.inr rfl) ?_
        show Rn _ _ _ _ _ [vI 1] _ _
        refine r_ifF (t := 22) F_14_15 rfl (by decide) (by show ¬ ((1 : Int) = 0); decide) ?_
        refine r_iconst F_14_18 ?_
        refine r_goto (t := 27) F_14_19 rfl ?_
        refine r_ireturn F_14_27 rt_14 ?_
        show Rn _ _ _ _ _ [vI 0] _ _
        refine r_stI_n (m := 2) (L' := [some (vR 0), some (vI r), some (vI 0)]) F_22_9 rfl rfl ?_
        refine r_ldI_n (m := 2) F_22_10 rfl ?_
        refine r_ifT (t := 16) F_22_11 rfl (by decide) (by show (0 : Int) = 0; decide) ?_
        refine r_ldR_n (m := 0) F_22_16 rfl ?_
        refine r_getR (J := 0) F_22_17 o_22 fl_5_14 ty_0 (by decide) rfl (kd2 kd_0_0 (by decide)) (kd9 kd_0_0 (by decide)) rf_0_0 ?_
        refine r_ldI_n (m := 1) F_22_20 rfl ?_
        refine r_virt2 (A := [vI r]) (r := []) (n := 1) F_22_21 o_22 il_5_100 rfl rfl rfl rfl ty_1 vy_23 (lay_le n_23 rfl) ?_
        refine Cl_of n_23 rfl ?_
        show Rn _ _ _ _ [some (vR 1), some (vI r)] [] _ _
        refine r_ldR_n (m := 0) F_23_0 rfl ?_
        refine r_ldI_n (m := 1) F_23_1 rfl ?_
        refine r_virt2 (A := [vI r]) (r := []) (n := 1) F_23_2 o_23 il_3_32 rfl rfl rfl rfl ty_1 vy_9 (lay_le n_9 rfl) ?_
        refine Cl_of n_9 rfl ?_
        show Rn _ _ _ _ [some (vR 1), some (vI r)] [] _ _
        refine r_ldI_n (m := 1) F_9_0 rfl ?_
        refine r_ifF (t := 17) F_9_1 rfl l1 (Int.not_lt.mpr e2) ?_
        refine r_ldI_n (m := 1) F_9_4 rfl ?_
        refine r_ldR_n (m := 0) F_9_5 rfl ?_
        refine r_getR (J := 0) F_9_6 o_9 fl_3_19 ty_1 (by decide) rfl (kd2 kd_1_0 (by decide)) (kd9 kd_1_0 (by decide)) rf_1_0 ?_
        refine r_alen F_9_9 ty_2 (by decide) ln_2 ?_
        refine r_icmpF (t := 17) F_9_10 rfl l1 (by decide) (Int.not_le.mpr e4) ?_
        refine r_iconst F_9_13 ?_
        refine r_goto (t := 18) F_9_14 rfl ?_
        refine r_zreturn F_9_18 rt_9 (Or.inr rfl) ?_
        show Rn _ _ _ _ _ [vI 1] _ _
        refine r_ifF (t := 15) F_23_5 rfl (by decide) (by show ¬ ((1 : Int) = 0); decide) ?_
        refine r_ldR_n (m := 0) F_23_8 rfl ?_
        refine r_getR (J := 0) F_23_9 o_23 fl_3_19 ty_1 (by decide) rfl (kd2 kd_1_0 (by decide)) (kd9 kd_1_0 (by decide)) rf_1_0 ?_
        refine r_ldI_n (m := 1) F_23_12 rfl ?_
        refine r_iconst F_23_13 ?_
        refine r_iast F_23_14 ty_2 e2 (lt_ln ln_2 e4) ?_
        refine r_return F_23_15 rt_23 ?_
        show Rn _ _ _ _ _ [] _ _
        refine r_iconst F_22_24 ?_
        refine r_ireturn F_22_25 rt_22 ?_
        exact (l6 e2 e4 e6)
theorem t_X5_copy {X : List Int32} {d : Nat} {s : m_St} {P : Option Value → m_St → Prop} {r j t k n : Int}
    (l1 : inR r)
    (l2 : r < 0 → P (some (vI (-1))) s)
    (l3 : 0 ≤ r → 6 ≤ r → P (some (vI (-1))) s)
    (l4 : 0 ≤ r → r < 6 → inR t)
    (l5 : 0 ≤ r → r < 6 → t < 0 → P (some (vI (-1))) s)
    (l6 : 0 ≤ r → r < 6 → 0 ≤ t → 6 ≤ t → P (some (vI (-1))) s)
    (l7 : 0 ≤ r → r < 6 → 0 ≤ t → t < 6 → inR n)
    (l8 : 0 ≤ r → r < 6 → 0 ≤ t → t < 6 → 0 ≤ n → inR (s 2 r))
    (l9 : 0 ≤ r → r < 6 → 0 ≤ t → t < 6 → 0 ≤ n → (s 2 r) = (-1) → P (some (vI (-3))) (m_upd (m_upd s 0 8 1) 76 1 ((s 76 1) + 1)))
    (l10 : 0 ≤ r → r < 6 → 0 ≤ t → t < 6 → 0 ≤ n → ¬ (s 2 r) = (-1) → inR (s 2 t))
    (l11 : 0 ≤ r → r < 6 → 0 ≤ t → t < 6 → 0 ≤ n → ¬ (s 2 r) = (-1) → (s 2 t) = (-1) → P (some (vI (-3))) (m_upd (m_upd s 0 8 1) 76 1 ((s 76 1) + 1)))
    (l12 : 0 ≤ r → r < 6 → 0 ≤ t → t < 6 → 0 ≤ n → ¬ (s 2 r) = (-1) → ¬ (s 2 t) = (-1) → inR j)
    (l13 : 0 ≤ r → r < 6 → 0 ≤ t → t < 6 → 0 ≤ n → ¬ (s 2 r) = (-1) → ¬ (s 2 t) = (-1) → j < 0 → P (some (vI (-3))) (m_upd (m_upd s 0 8 2) 76 2 ((s 76 2) + 1)))
    (l14 : 0 ≤ r → r < 6 → 0 ≤ t → t < 6 → 0 ≤ n → ¬ (s 2 r) = (-1) → ¬ (s 2 t) = (-1) → 0 ≤ j → inR ((s 2 r) - n))
    (l15 : 0 ≤ r → r < 6 → 0 ≤ t → t < 6 → 0 ≤ n → ¬ (s 2 r) = (-1) → ¬ (s 2 t) = (-1) → 0 ≤ j → ((s 2 r) - n) < j → P (some (vI (-3))) (m_upd (m_upd s 0 8 2) 76 2 ((s 76 2) + 1)))
    (l16 : 0 ≤ r → r < 6 → 0 ≤ t → t < 6 → 0 ≤ n → ¬ (s 2 r) = (-1) → ¬ (s 2 t) = (-1) → 0 ≤ j → j ≤ ((s 2 r) - n) → inR k)
    (l17 : 0 ≤ r → r < 6 → 0 ≤ t → t < 6 → 0 ≤ n → ¬ (s 2 r) = (-1) → ¬ (s 2 t) = (-1) → 0 ≤ j → j ≤ ((s 2 r) - n) → k < 0 → P (some (vI (-3))) (m_upd (m_upd s 0 8 2) 76 2 ((s 76 2) + 1)))
    (l18 : 0 ≤ r → r < 6 → 0 ≤ t → t < 6 → 0 ≤ n → ¬ (s 2 r) = (-1) → ¬ (s 2 t) = (-1) → 0 ≤ j → j ≤ ((s 2 r) - n) → 0 ≤ k → inR ((s 2 t) - n))
    (l19 : 0 ≤ r → r < 6 → 0 ≤ t → t < 6 → 0 ≤ n → ¬ (s 2 r) = (-1) → ¬ (s 2 t) = (-1) → 0 ≤ j → j ≤ ((s 2 r) - n) → 0 ≤ k → ((s 2 t) - n) < k → P (some (vI (-3))) (m_upd (m_upd s 0 8 2) 76 2 ((s 76 2) + 1)))
    (l20 : 0 ≤ r → r < 6 → 0 ≤ t → t < 6 → 0 ≤ n → ¬ (s 2 r) = (-1) → ¬ (s 2 t) = (-1) → 0 ≤ j → j ≤ ((s 2 r) - n) → 0 ≤ k → k ≤ ((s 2 t) - n) → j + n ≤ 40)
    (l21 : 0 ≤ r → r < 6 → 0 ≤ t → t < 6 → 0 ≤ n → ¬ (s 2 r) = (-1) → ¬ (s 2 t) = (-1) → 0 ≤ j → j ≤ ((s 2 r) - n) → 0 ≤ k → k ≤ ((s 2 t) - n) → k + n ≤ 40)
    (l22 : 0 ≤ r → r < 6 → 0 ≤ t → t < 6 → 0 ≤ n → ¬ (s 2 r) = (-1) → ¬ (s 2 t) = (-1) → 0 ≤ j → j ≤ ((s 2 r) - n) → 0 ≤ k → k ≤ ((s 2 t) - n) → P (some (vI 1)) (m_cpy s (4 + r) j (4 + t) k n))
    (l23 : 0 ≤ r → r < 6 → 0 ≤ t → t < 6 → n < 0 → P (some (vI (-3))) (m_upd (m_upd s 0 8 5) 76 5 ((s 76 5) + 1)))
    : Cl X (d + 5) 24 [vR 0, vI r, vI j, vI t, vI k, vI n] s P := by
  refine Cl_of n_24 rfl ?_
  show Rn _ _ _ _ [some (vR 0), some (vI r), some (vI j), some (vI t), some (vI k), some (vI n)] [] _ _
  refine r_ldR_n (m := 0) F_24_0 rfl ?_
  refine r_getR (J := 0) F_24_1 o_24 fl_5_14 ty_0 (by decide) rfl (kd2 kd_0_0 (by decide)) (kd9 kd_0_0 (by decide)) rf_0_0 ?_
  refine r_ldI_n (m := 1) F_24_4 rfl ?_
  refine r_virt2 (A := [vI r]) (r := []) (n := 1) F_24_5 o_24 il_5_70 rfl rfl rfl rfl ty_1 vy_9 (lay_le n_9 rfl) ?_
  refine Cl_of n_9 rfl ?_
  show Rn _ _ _ _ [some (vR 1), some (vI r)] [] _ _
  refine r_ldI_n (m := 1) F_9_0 rfl ?_
  refine r_if (t := 17) F_9_1 rfl l1 ?_ ?_
  · intro e1
    replace e1 : r < 0 := e1
    refine r_iconst F_9_17 ?_
    refine r_zreturn F_9_18 rt_9 (Or.inl rfl) ?_
    show Rn _ _ _ _ _ [vI 0] _ _
    refine r_ifT (t := 22) F_24_8 rfl (by decide) (by show (0 : Int) = 0; decide) ?_
    refine r_iconst F_24_22 ?_
    refine r_ireturn F_24_23 rt_24 ?_
    exact (l2 e1)
  · intro e2
    replace e2 : 0 ≤ r := (Int.not_lt.mp e2)
    refine r_ldI_n (m := 1) F_9_4 rfl ?_
    refine r_ldR_n (m := 0) F_9_5 rfl ?_
    refine r_getR (J := 0) F_9_6 o_9 fl_3_19 ty_1 (by decide) rfl (kd2 kd_1_0 (by decide)) (kd9 kd_1_0 (by decide)) rf_1_0 ?_
    refine r_alen F_9_9 ty_2 (by decide) ln_2 ?_
    refine r_icmp (t := 17) F_9_10 rfl l1 (by decide) ?_ ?_
    · intro e3
      replace e3 : 6 ≤ r := e3
      refine r_iconst F_9_17 ?_
      refine r_zreturn F_9_18 rt_9 (Or.inl rfl) ?_
      show Rn _ _ _ _ _ [vI 0] _ _
      refine r_ifT (t := 22) F_24_8 rfl (by decide) (by show (0 : Int) = 0; decide) ?_
      refine r_iconst F_24_22 ?_
      refine r_ireturn F_24_23 rt_24 ?_
      exact (l3 e2 e3)
    · intro e4
      replace e4 : r < 6 := (Int.not_le.mp e4)
      refine r_iconst F_9_13 ?_
      refine r_goto (t := 18) F_9_14 rfl ?_
      refine r_zreturn F_9_18 rt_9 (Or.inr rfl) ?_
      show Rn _ _ _ _ _ [vI 1] _ _
      refine r_ifF (t := 22) F_24_8 rfl (by decide) (by show ¬ ((1 : Int) = 0); decide) ?_
      refine r_ldR_n (m := 0) F_24_11 rfl ?_
      refine r_getR (J := 0) F_24_12 o_24 fl_5_14 ty_0 (by decide) rfl (kd2 kd_0_0 (by decide)) (kd9 kd_0_0 (by decide)) rf_0_0 ?_
      refine r_ldI_n (m := 3) F_24_15 rfl ?_
      refine r_virt2 (A := [vI t]) (r := []) (n := 1) F_24_16 o_24 il_5_70 rfl rfl rfl rfl ty_1 vy_9 (lay_le n_9 rfl) ?_
      refine Cl_of n_9 rfl ?_
      show Rn _ _ _ _ [some (vR 1), some (vI t)] [] _ _
      refine r_ldI_n (m := 1) F_9_0 rfl ?_
      refine r_if (t := 17) F_9_1 rfl (l4 e2 e4) ?_ ?_
      · intro e5
        replace e5 : t < 0 := e5
        refine r_iconst F_9_17 ?_
        refine r_zreturn F_9_18 rt_9 (Or.inl rfl) ?_
        show Rn _ _ _ _ _ [vI 0] _ _
        refine r_ifF (t := 24) F_24_19 rfl (by decide) (by show ¬ (¬ (0 : Int) = 0); decide) ?_
        refine r_iconst F_24_22 ?_
        refine r_ireturn F_24_23 rt_24 ?_
        exact (l5 e2 e4 e5)
      · intro e6
        replace e6 : 0 ≤ t := (Int.not_lt.mp e6)
        refine r_ldI_n (m := 1) F_9_4 rfl ?_
        refine r_ldR_n (m := 0) F_9_5 rfl ?_
        refine r_getR (J := 0) F_9_6 o_9 fl_3_19 ty_1 (by decide) rfl (kd2 kd_1_0 (by decide)) (kd9 kd_1_0 (by decide)) rf_1_0 ?_
        refine r_alen F_9_9 ty_2 (by decide) ln_2 ?_
        refine r_icmp (t := 17) F_9_10 rfl (l4 e2 e4) (by decide) ?_ ?_
        · intro e7
          replace e7 : 6 ≤ t := e7
          refine r_iconst F_9_17 ?_
          refine r_zreturn F_9_18 rt_9 (Or.inl rfl) ?_
          show Rn _ _ _ _ _ [vI 0] _ _
          refine r_ifF (t := 24) F_24_19 rfl (by decide) (by show ¬ (¬ (0 : Int) = 0); decide) ?_
          refine r_iconst F_24_22 ?_
          refine r_ireturn F_24_23 rt_24 ?_
          exact (l6 e2 e4 e6 e7)
        · intro e8
          replace e8 : t < 6 := (Int.not_le.mp e8)
          refine r_iconst F_9_13 ?_
          refine r_goto (t := 18) F_9_14 rfl ?_
          refine r_zreturn F_9_18 rt_9 (Or.inr rfl) ?_
          show Rn _ _ _ _ _ [vI 1] _ _
          refine r_ifT (t := 24) F_24_19 rfl (by decide) (by show ¬ (1 : Int) = 0; decide) ?_
          refine r_ldI (m := 5) F_24_24 rfl ?_
          refine r_if (t := 35) F_24_26 rfl (l7 e2 e4 e6 e8) ?_ ?_
          · intro e9
            replace e9 : 0 ≤ n := e9
            refine r_ldR_n (m := 0) F_24_35 rfl ?_
            refine r_getR (J := 0) F_24_36 o_24 fl_5_14 ty_0 (by decide) rfl (kd2 kd_0_0 (by decide)) (kd9 kd_0_0 (by decide)) rf_0_0 ?_
            refine r_ldI_n (m := 1) F_24_39 rfl ?_
            refine r_virt2 (A := [vI r]) (r := []) (n := 1) F_24_40 o_24 il_5_104 rfl rfl rfl rfl ty_1 vy_15 (lay_le n_15 rfl) ?_
            refine Cl_of n_15 rfl ?_
            show Rn _ _ _ _ [some (vR 1), some (vI r)] [] _ _
            refine r_ldR_n (m := 0) F_15_0 rfl ?_
            refine r_ldI_n (m := 1) F_15_1 rfl ?_
            refine r_virt2 (A := [vI r]) (r := []) (n := 1) F_15_2 o_15 il_3_28 rfl rfl rfl rfl ty_1 vy_16 (lay_le n_16 rfl) ?_
            refine Cl_of n_16 rfl ?_
            show Rn _ _ _ _ [some (vR 1), some (vI r)] [] _ _
            refine r_ldR_n (m := 0) F_16_0 rfl ?_
            refine r_ldI_n (m := 1) F_16_1 rfl ?_
            refine r_virt2 (A := [vI r]) (r := []) (n := 1) F_16_2 o_16 il_3_32 rfl rfl rfl rfl ty_1 vy_9 (lay_le n_9 rfl) ?_
            refine Cl_of n_9 rfl ?_
            show Rn _ _ _ _ [some (vR 1), some (vI r)] [] _ _
            refine r_ldI_n (m := 1) F_9_0 rfl ?_
            refine r_ifF (t := 17) F_9_1 rfl l1 (Int.not_lt.mpr e2) ?_
            refine r_ldI_n (m := 1) F_9_4 rfl ?_
            refine r_ldR_n (m := 0) F_9_5 rfl ?_
            refine r_getR (J := 0) F_9_6 o_9 fl_3_19 ty_1 (by decide) rfl (kd2 kd_1_0 (by decide)) (kd9 kd_1_0 (by decide)) rf_1_0 ?_
            refine r_alen F_9_9 ty_2 (by decide) ln_2 ?_
            refine r_icmpF (t := 17) F_9_10 rfl l1 (by decide) (Int.not_le.mpr e4) ?_
            refine r_iconst F_9_13 ?_
            refine r_goto (t := 18) F_9_14 rfl ?_
            refine r_zreturn F_9_18 rt_9 (Or.inr rfl) ?_
            show Rn _ _ _ _ _ [vI 1] _ _
            refine r_ifF (t := 17) F_16_5 rfl (by decide) (by show ¬ ((1 : Int) = 0); decide) ?_
            refine r_ldR_n (m := 0) F_16_8 rfl ?_
            refine r_getR (J := 0) F_16_9 o_16 fl_3_19 ty_1 (by decide) rfl (kd2 kd_1_0 (by decide)) (kd9 kd_1_0 (by decide)) rf_1_0 ?_
            refine r_ldI_n (m := 1) F_16_12 rfl ?_
            refine r_iald (e := (s 2 r)) F_16_13 ty_2 e2 (lt_ln ln_2 e4) rfl ?_
            refine r_goto (t := 18) F_16_14 rfl ?_
            refine r_ireturn F_16_18 rt_16 ?_
            show Rn _ _ _ _ _ [vI (s 2 r)] _ _
            refine r_iconst F_15_5 ?_
            refine r_icmp (t := 13) F_15_6 rfl (l8 e2 e4 e6 e8 e9) (by decide) ?_ ?_
            · intro e10
              replace e10 : (s 2 r) = (-1) := e10
              refine r_iconst F_15_13 ?_
              refine r_zreturn F_15_14 rt_15 (Or.inl rfl) ?_
              show Rn _ _ _ _ _ [vI 0] _ _
              refine r_ifT (t := 57) F_24_43 rfl (by decide) (by show (0 : Int) = 0; decide) ?_
              refine r_ldR_n (m := 0) F_24_57 rfl ?_
              refine r_iconst F_24_58 ?_
              refine r_virt2 (A := [vI 1]) (r := []) (n := 1) F_24_59 o_24 il_5_74 rfl rfl rfl rfl ty_0 vy_10 (lay_le n_10 rfl) ?_
              refine Cl_of n_10 rfl ?_
              show Rn _ _ _ _ [some (vR 0), some (vI 1)] [] _ _
              refine r_ldI_n (m := 1) F_10_0 rfl ?_
              refine r_iconst F_10_1 ?_
              refine r_icmpF (t := 25) F_10_2 rfl (by decide) (by decide) (by show ¬ ((1 : Int) < 1); decide) ?_
              refine r_ldI_n (m := 1) F_10_5 rfl ?_
              refine r_iconst F_10_6 ?_
              refine r_icmpF (t := 25) F_10_7 rfl (by decide) (by decide) (by show ¬ ((5 : Int) < 1); decide) ?_
              refine r_ldR_n (m := 0) F_10_10 rfl ?_
              refine r_ldI_n (m := 1) F_10_11 rfl ?_
              refine r_putI (J := 8) F_10_12 o_10 fl_5_56 ty_0 (by decide) rfl kd_0_8 pf_5_8 ?_
              refine r_ldR_n (m := 0) F_10_15 rfl ?_
              refine r_getR (J := 7) F_10_16 o_10 fl_5_52 ty_0 (by decide) rfl (kd2 kd_0_7 (by decide)) (kd9 kd_0_7 (by decide)) rf_0_7 ?_
              refine r_ldI_n (m := 1) F_10_19 rfl ?_
              refine r_dup2 F_10_20 ?_
              refine r_iald (e := (s 76 1)) F_10_21 ty_76 (by decide) (lt_ln ln_76 (by decide)) (upd_nc (by decide)) ?_
              refine r_iconst F_10_22 ?_
              refine r_iadd F_10_23 rfl ?_
              refine r_iast F_10_24 ty_76 (by decide) (lt_ln ln_76 (by decide)) ?_
              refine r_bipush F_10_25 bi__3 ?_
              refine r_ireturn F_10_27 rt_10 ?_
              show Rn _ _ _ _ _ [vI (-3)] _ _
              refine r_ireturn F_24_62 rt_24 ?_
              exact (l9 e2 e4 e6 e8 e9 e10)
            · intro e11
              replace e11 : ¬ (s 2 r) = (-1) := e11
              refine r_iconst F_15_9 ?_
              refine r_goto (t := 14) F_15_10 rfl ?_
              refine r_zreturn F_15_14 rt_15 (Or.inr rfl) ?_
              show Rn _ _ _ _ _ [vI 1] _ _
              refine r_ifF (t := 57) F_24_43 rfl (by decide) (by show ¬ ((1 : Int) = 0); decide) ?_
              refine r_ldR_n (m := 0) F_24_46 rfl ?_
              refine r_getR (J := 0) F_24_47 o_24 fl_5_14 ty_0 (by decide) rfl (kd2 kd_0_0 (by decide)) (kd9 kd_0_0 (by decide)) rf_0_0 ?_
              refine r_ldI_n (m := 3) F_24_50 rfl ?_
              refine r_virt2 (A := [vI t]) (r := []) (n := 1) F_24_51 o_24 il_5_104 rfl rfl rfl rfl ty_1 vy_15 (lay_le n_15 rfl) ?_
              refine Cl_of n_15 rfl ?_
              show Rn _ _ _ _ [some (vR 1), some (vI t)] [] _ _
              refine r_ldR_n (m := 0) F_15_0 rfl ?_
              refine r_ldI_n (m := 1) F_15_1 rfl ?_
              refine r_virt2 (A := [vI t]) (r := []) (n := 1) F_15_2 o_15 il_3_28 rfl rfl rfl rfl ty_1 vy_16 (lay_le n_16 rfl) ?_
              refine Cl_of n_16 rfl ?_
              show Rn _ _ _ _ [some (vR 1), some (vI t)] [] _ _
              refine r_ldR_n (m := 0) F_16_0 rfl ?_
              refine r_ldI_n (m := 1) F_16_1 rfl ?_
              refine r_virt2 (A := [vI t]) (r := []) (n := 1) F_16_2 o_16 il_3_32 rfl rfl rfl rfl ty_1 vy_9 (lay_le n_9 rfl) ?_
              refine Cl_of n_9 rfl ?_
              show Rn _ _ _ _ [some (vR 1), some (vI t)] [] _ _
              refine r_ldI_n (m := 1) F_9_0 rfl ?_
              refine r_ifF (t := 17) F_9_1 rfl (l4 e2 e4) (Int.not_lt.mpr e6) ?_
              refine r_ldI_n (m := 1) F_9_4 rfl ?_
              refine r_ldR_n (m := 0) F_9_5 rfl ?_
              refine r_getR (J := 0) F_9_6 o_9 fl_3_19 ty_1 (by decide) rfl (kd2 kd_1_0 (by decide)) (kd9 kd_1_0 (by decide)) rf_1_0 ?_
              refine r_alen F_9_9 ty_2 (by decide) ln_2 ?_
              refine r_icmpF (t := 17) F_9_10 rfl (l4 e2 e4) (by decide) (Int.not_le.mpr e8) ?_
              refine r_iconst F_9_13 ?_
              refine r_goto (t := 18) F_9_14 rfl ?_
              refine r_zreturn F_9_18 rt_9 (Or.inr rfl) ?_
              show Rn _ _ _ _ _ [vI 1] _ _
              refine r_ifF (t := 17) F_16_5 rfl (by decide) (by show ¬ ((1 : Int) = 0); decide) ?_
              refine r_ldR_n (m := 0) F_16_8 rfl ?_
              refine r_getR (J := 0) F_16_9 o_16 fl_3_19 ty_1 (by decide) rfl (kd2 kd_1_0 (by decide)) (kd9 kd_1_0 (by decide)) rf_1_0 ?_
              refine r_ldI_n (m := 1) F_16_12 rfl ?_
              refine r_iald (e := (s 2 t)) F_16_13 ty_2 e6 (lt_ln ln_2 e8) rfl ?_
              refine r_goto (t := 18) F_16_14 rfl ?_
              refine r_ireturn F_16_18 rt_16 ?_
              show Rn _ _ _ _ _ [vI (s 2 t)] _ _
              refine r_iconst F_15_5 ?_
              refine r_icmp (t := 13) F_15_6 rfl (l10 e2 e4 e6 e8 e9 e11) (by decide) ?_ ?_
              · intro e12
                replace e12 : (s 2 t) = (-1) := e12
                refine r_iconst F_15_13 ?_
                refine r_zreturn F_15_14 rt_15 (Or.inl rfl) ?_
                show Rn _ _ _ _ _ [vI 0] _ _
                refine r_ifF (t := 63) F_24_54 rfl (by decide) (by show ¬ (¬ (0 : Int) = 0); decide) ?_
                refine r_ldR_n (m := 0) F_24_57 rfl ?_
                refine r_iconst F_24_58 ?_
                refine r_virt2 (A := [vI 1]) (r := []) (n := 1) F_24_59 o_24 il_5_74 rfl rfl rfl rfl ty_0 vy_10 (lay_le n_10 rfl) ?_
                refine Cl_of n_10 rfl ?_
                show Rn _ _ _ _ [some (vR 0), some (vI 1)] [] _ _
                refine r_ldI_n (m := 1) F_10_0 rfl ?_
                refine r_iconst F_10_1 ?_
                refine r_icmpF (t := 25) F_10_2 rfl (by decide) (by decide) (by show ¬ ((1 : Int) < 1); decide) ?_
                refine r_ldI_n (m := 1) F_10_5 rfl ?_
                refine r_iconst F_10_6 ?_
                refine r_icmpF (t := 25) F_10_7 rfl (by decide) (by decide) (by show ¬ ((5 : Int) < 1); decide) ?_
                refine r_ldR_n (m := 0) F_10_10 rfl ?_
                refine r_ldI_n (m := 1) F_10_11 rfl ?_
                refine r_putI (J := 8) F_10_12 o_10 fl_5_56 ty_0 (by decide) rfl kd_0_8 pf_5_8 ?_
                refine r_ldR_n (m := 0) F_10_15 rfl ?_
                refine r_getR (J := 7) F_10_16 o_10 fl_5_52 ty_0 (by decide) rfl (kd2 kd_0_7 (by decide)) (kd9 kd_0_7 (by decide)) rf_0_7 ?_
                refine r_ldI_n (m := 1) F_10_19 rfl ?_
                refine r_dup2 F_10_20 ?_
                refine r_iald (e := (s 76 1)) F_10_21 ty_76 (by decide) (lt_ln ln_76 (by decide)) (upd_nc (by decide)) ?_
                refine r_iconst F_10_22 ?_
                refine r_iadd F_10_23 rfl ?_
                refine r_iast F_10_24 ty_76 (by decide) (lt_ln ln_76 (by decide)) ?_
                refine r_bipush F_10_25 bi__3 ?_
                refine r_ireturn F_10_27 rt_10 ?_
                show Rn _ _ _ _ _ [vI (-3)] _ _
                refine r_ireturn F_24_62 rt_24 ?_
                exact (l11 e2 e4 e6 e8 e9 e11 e12)
              · intro e13
                replace e13 : ¬ (s 2 t) = (-1) := e13
                refine r_iconst F_15_9 ?_
                refine r_goto (t := 14) F_15_10 rfl ?_
                refine r_zreturn F_15_14 rt_15 (Or.inr rfl) ?_
                show Rn _ _ _ _ _ [vI 1] _ _
                refine r_ifT (t := 63) F_24_54 rfl (by decide) (by show ¬ (1 : Int) = 0; decide) ?_
                refine r_ldR_n (m := 0) F_24_63 rfl ?_
                refine r_getR (J := 0) F_24_64 o_24 fl_5_14 ty_0 (by decide) rfl (kd2 kd_0_0 (by decide)) (kd9 kd_0_0 (by decide)) rf_0_0 ?_
                refine r_ldI_n (m := 1) F_24_67 rfl ?_
                refine r_ldI_n (m := 2) F_24_68 rfl ?_
                refine r_ldI (m := 5) F_24_69 rfl ?_
                refine r_virt2 (A := [vI r, vI j, vI n]) (r := []) (n := 3) F_24_71 o_24 il_5_107 rfl rfl rfl rfl ty_1 vy_17 (lay_le n_17 rfl) ?_
                refine Cl_of n_17 rfl ?_
                show Rn _ _ _ _ [some (vR 1), some (vI r), some (vI j), some (vI n)] [] _ _
                refine r_ldR_n (m := 0) F_17_0 rfl ?_
                refine r_ldI_n (m := 1) F_17_1 rfl ?_
                refine r_virt2 (A := [vI r]) (r := []) (n := 1) F_17_2 o_17 il_3_36 rfl rfl rfl rfl ty_1 vy_15 (lay_le n_15 rfl) ?_
                refine Cl_of n_15 rfl ?_
                show Rn _ _ _ _ [some (vR 1), some (vI r)] [] _ _
                refine r_ldR_n (m := 0) F_15_0 rfl ?_
                refine r_ldI_n (m := 1) F_15_1 rfl ?_
                refine r_virt2 (A := [vI r]) (r := []) (n := 1) F_15_2 o_15 il_3_28 rfl rfl rfl rfl ty_1 vy_16 (lay_le n_16 rfl) ?_
                refine Cl_of n_16 rfl ?_
                show Rn _ _ _ _ [some (vR 1), some (vI r)] [] _ _
                refine r_ldR_n (m := 0) F_16_0 rfl ?_
                refine r_ldI_n (m := 1) F_16_1 rfl ?_
                refine r_virt2 (A := [vI r]) (r := []) (n := 1) F_16_2 o_16 il_3_32 rfl rfl rfl rfl ty_1 vy_9 (lay_le n_9 rfl) ?_
                refine Cl_of n_9 rfl ?_
                show Rn _ _ _ _ [some (vR 1), some (vI r)] [] _ _
                refine r_ldI_n (m := 1) F_9_0 rfl ?_
                refine r_ifF (t := 17) F_9_1 rfl l1 (Int.not_lt.mpr e2) ?_
                refine r_ldI_n (m := 1) F_9_4 rfl ?_
                refine r_ldR_n (m := 0) F_9_5 rfl ?_
                refine r_getR (J := 0) F_9_6 o_9 fl_3_19 ty_1 (by decide) rfl (kd2 kd_1_0 (by decide)) (kd9 kd_1_0 (by decide)) rf_1_0 ?_
                refine r_alen F_9_9 ty_2 (by decide) ln_2 ?_
                refine r_icmpF (t := 17) F_9_10 rfl l1 (by decide) (Int.not_le.mpr e4) ?_
                refine r_iconst F_9_13 ?_
                refine r_goto (t := 18) F_9_14 rfl ?_
                refine r_zreturn F_9_18 rt_9 (Or.inr rfl) ?_
                show Rn _ _ _ _ _ [vI 1] _ _
                refine r_ifF (t := 17) F_16_5 rfl (by decide) (by show ¬ ((1 : Int) = 0); decide) ?_
                refine r_ldR_n (m := 0) F_16_8 rfl ?_
                refine r_getR (J := 0) F_16_9 o_16 fl_3_19 ty_1 (by decide) rfl (kd2 kd_1_0 (by decide)) (kd9 kd_1_0 (by decide)) rf_1_0 ?_
                refine r_ldI_n (m := 1) F_16_12 rfl ?_
                refine r_iald (e := (s 2 r)) F_16_13 ty_2 e2 (lt_ln ln_2 e4) rfl ?_
                refine r_goto (t := 18) F_16_14 rfl ?_
                refine r_ireturn F_16_18 rt_16 ?_
                show Rn _ _ _ _ _ [vI (s 2 r)] _ _
                refine r_iconst F_15_5 ?_
                refine r_icmpF (t := 13) F_15_6 rfl (l8 e2 e4 e6 e8 e9) (by decide) e11 ?_
                refine r_iconst F_15_9 ?_
                refine r_goto (t := 14) F_15_10 rfl ?_
                refine r_zreturn F_15_14 rt_15 (Or.inr rfl) ?_
                show Rn _ _ _ _ _ [vI 1] _ _
                refine r_ifF (t := 31) F_17_5 rfl (by decide) (by show ¬ ((1 : Int) = 0); decide) ?_
                refine r_ldI_n (m := 2) F_17_8 rfl ?_
                refine r_if (t := 31) F_17_9 rfl (l12 e2 e4 e6 e8 e9 e11 e13) ?_ ?_
                · intro e14
                  replace e14 : j < 0 := e14
                  refine r_iconst F_17_31 ?_
                  refine r_zreturn F_17_32 rt_17 (Or.inl rfl) ?_
                  show Rn _ _ _ _ _ [vI 0] _ _
                  refine r_ifT (t := 92) F_24_74 rfl (by decide) (by show (0 : Int) = 0; decide) ?_
                  refine r_ldR_n (m := 0) F_24_92 rfl ?_
                  refine r_iconst F_24_93 ?_
                  refine r_virt2 (A := [vI 2]) (r := []) (n := 1) F_24_94 o_24 il_5_74 rfl rfl rfl rfl ty_0 vy_10 (lay_le n_10 rfl) ?_
                  refine Cl_of n_10 rfl ?_
                  show Rn _ _ _ _ [some (vR 0), some (vI 2)] [] _ _
                  refine r_ldI_n (m := 1) F_10_0 rfl ?_
                  refine r_iconst F_10_1 ?_
                  refine r_icmpF (t := 25) F_10_2 rfl (by decide) (by decide) (by show ¬ ((2 : Int) < 1); decide) ?_
                  refine r_ldI_n (m := 1) F_10_5 rfl ?_
                  refine r_iconst F_10_6 ?_
                  refine r_icmpF (t := 25) F_10_7 rfl (by decide) (by decide) (by show ¬ ((5 : Int) < 2); decide) ?_
                  refine r_ldR_n (m := 0) F_10_10 rfl ?_
                  refine r_ldI_n (m := 1) F_10_11 rfl ?_
                  refine r_putI (J := 8) F_10_12 o_10 fl_5_56 ty_0 (by decide) rfl kd_0_8 pf_5_8 ?_
                  refine r_ldR_n (m := 0) F_10_15 rfl ?_
                  refine r_getR (J := 7) F_10_16 o_10 fl_5_52 ty_0 (by decide) rfl (kd2 kd_0_7 (by decide)) (kd9 kd_0_7 (by decide)) rf_0_7 ?_
                  refine r_ldI_n (m := 1) F_10_19 rfl ?_
                  refine r_dup2 F_10_20 ?_
                  refine r_iald (e := (s 76 2)) F_10_21 ty_76 (by decide) (lt_ln ln_76 (by decide)) (upd_nc (by decide)) ?_
                  refine r_iconst F_10_22 ?_
                  refine r_iadd F_10_23 rfl ?_
                  refine r_iast F_10_24 ty_76 (by decide) (lt_ln ln_76 (by decide)) ?_
                  refine r_bipush F_10_25 bi__3 ?_
                  refine r_ireturn F_10_27 rt_10 ?_
                  show Rn _ _ _ _ _ [vI (-3)] _ _
                  refine r_ireturn F_24_97 rt_24 ?_
                  exact (l13 e2 e4 e6 e8 e9 e11 e13 e14)
                · intro e15
                  replace e15 : 0 ≤ j := (Int.not_lt.mp e15)
                  refine r_ldI_n (m := 3) F_17_12 rfl ?_
                  refine r_ifF (t := 31) F_17_13 rfl (l7 e2 e4 e6 e8) (Int.not_lt.mpr e9) ?_
                  refine r_ldI_n (m := 2) F_17_16 rfl ?_
                  refine r_ldR_n (m := 0) F_17_17 rfl ?_
                  refine r_ldI_n (m := 1) F_17_18 rfl ?_
                  refine r_virt2 (A := [vI r]) (r := [vI j]) (n := 1) F_17_19 o_17 il_3_28 rfl rfl rfl rfl ty_1 vy_16 (lay_le n_16 rfl) ?_
                  refine Cl_of n_16 rfl ?_
                  show Rn _ _ _ _ [some (vR 1), some (vI r)] [] _ _
                  refine r_ldR_n (m := 0) F_16_0 rfl ?_
                  refine r_ldI_n (m := 1) F_16_1 rfl ?_
                  refine r_virt2 (A := [vI r]) (r := []) (n := 1) F_16_2 o_16 il_3_32 rfl rfl rfl rfl ty_1 vy_9 (lay_le n_9 rfl) ?_
                  refine Cl_of n_9 rfl ?_
                  show Rn _ _ _ _ [some (vR 1), some (vI r)] [] _ _
                  refine r_ldI_n (m := 1) F_9_0 rfl ?_
                  refine r_ifF (t := 17) F_9_1 rfl l1 (Int.not_lt.mpr e2) ?_
                  refine r_ldI_n (m := 1) F_9_4 rfl ?_
                  refine r_ldR_n (m := 0) F_9_5 rfl ?_
                  refine r_getR (J := 0) F_9_6 o_9 fl_3_19 ty_1 (by decide) rfl (kd2 kd_1_0 (by decide)) (kd9 kd_1_0 (by decide)) rf_1_0 ?_
                  refine r_alen F_9_9 ty_2 (by decide) ln_2 ?_
                  refine r_icmpF (t := 17) F_9_10 rfl l1 (by decide) (Int.not_le.mpr e4) ?_
                  refine r_iconst F_9_13 ?_
                  refine r_goto (t := 18) F_9_14 rfl ?_
                  refine r_zreturn F_9_18 rt_9 (Or.inr rfl) ?_
                  show Rn _ _ _ _ _ [vI 1] _ _
                  refine r_ifF (t := 17) F_16_5 rfl (by decide) (by show ¬ ((1 : Int) = 0); decide) ?_
                  refine r_ldR_n (m := 0) F_16_8 rfl ?_
                  refine r_getR (J := 0) F_16_9 o_16 fl_3_19 ty_1 (by decide) rfl (kd2 kd_1_0 (by decide)) (kd9 kd_1_0 (by decide)) rf_1_0 ?_
                  refine r_ldI_n (m := 1) F_16_12 rfl ?_
                  refine r_iald (e := (s 2 r)) F_16_13 ty_2 e2 (lt_ln ln_2 e4) rfl ?_
                  refine r_goto (t := 18) F_16_14 rfl ?_
                  refine r_ireturn F_16_18 rt_16 ?_
                  show Rn _ _ _ _ _ [vI (s 2 r), vI j] _ _
                  refine r_ldI_n (m := 3) F_17_22 rfl ?_
                  refine r_isub F_17_23 rfl ?_
                  refine r_icmp (t := 31) F_17_24 rfl (l12 e2 e4 e6 e8 e9 e11 e13) (l14 e2 e4 e6 e8 e9 e11 e13 e15) ?_ ?_
                  · intro e16
                    replace e16 : ((s 2 r) - n) < j := e16
                    refine r_iconst F_17_31 ?_
                    refine r_zreturn F_17_32 rt_17 (Or.inl rfl) ?_
                    show Rn _ _ _ _ _ [vI 0] _ _
                    refine r_ifT (t := 92) F_24_74 rfl (by decide) (by show (0 : Int) = 0; decide) ?_
                    refine r_ldR_n (m := 0) F_24_92 rfl ?_
                    refine r_iconst F_24_93 ?_
                    refine r_virt2 (A := [vI 2]) (r := []) (n := 1) F_24_94 o_24 il_5_74 rfl rfl rfl rfl ty_0 vy_10 (lay_le n_10 rfl) ?_
                    refine Cl_of n_10 rfl ?_
                    show Rn _ _ _ _ [some (vR 0), some (vI 2)] [] _ _
                    refine r_ldI_n (m := 1) F_10_0 rfl ?_
                    refine r_iconst F_10_1 ?_
                    refine r_icmpF (t := 25) F_10_2 rfl (by decide) (by decide) (by show ¬ ((2 : Int) < 1); decide) ?_
                    refine r_ldI_n (m := 1) F_10_5 rfl ?_
                    refine r_iconst F_10_6 ?_
                    refine r_icmpF (t := 25) F_10_7 rfl (by decide) (by decide) (by show ¬ ((5 : Int) < 2); decide) ?_
                    refine r_ldR_n (m := 0) F_10_10 rfl ?_
                    refine r_ldI_n (m := 1) F_10_11 rfl ?_
                    refine r_putI (J := 8) F_10_12 o_10 fl_5_56 ty_0 (by decide) rfl kd_0_8 pf_5_8 ?_
                    refine r_ldR_n (m := 0) F_10_15 rfl ?_
                    refine r_getR (J := 7) F_10_16 o_10 fl_5_52 ty_0 (by decide) rfl (kd2 kd_0_7 (by decide)) (kd9 kd_0_7 (by decide)) rf_0_7 ?_
                    refine r_ldI_n (m := 1) F_10_19 rfl ?_
                    refine r_dup2 F_10_20 ?_
                    refine r_iald (e := (s 76 2)) F_10_21 ty_76 (by decide) (lt_ln ln_76 (by decide)) (upd_nc (by decide)) ?_
                    refine r_iconst F_10_22 ?_
                    refine r_iadd F_10_23 rfl ?_
                    refine r_iast F_10_24 ty_76 (by decide) (lt_ln ln_76 (by decide)) ?_
                    refine r_bipush F_10_25 bi__3 ?_
                    refine r_ireturn F_10_27 rt_10 ?_
                    show Rn _ _ _ _ _ [vI (-3)] _ _
                    refine r_ireturn F_24_97 rt_24 ?_
                    exact (l15 e2 e4 e6 e8 e9 e11 e13 e15 e16)
                  · intro e17
                    replace e17 : j ≤ ((s 2 r) - n) := (Int.not_lt.mp e17)
                    refine r_iconst F_17_27 ?_
                    refine r_goto (t := 32) F_17_28 rfl ?_
                    refine r_zreturn F_17_32 rt_17 (Or.inr rfl) ?_
                    show Rn _ _ _ _ _ [vI 1] _ _
                    refine r_ifF (t := 92) F_24_74 rfl (by decide) (by show ¬ ((1 : Int) = 0); decide) ?_
                    refine r_ldR_n (m := 0) F_24_77 rfl ?_
                    refine r_getR (J := 0) F_24_78 o_24 fl_5_14 ty_0 (by decide) rfl (kd2 kd_0_0 (by decide)) (kd9 kd_0_0 (by decide)) rf_0_0 ?_
                    refine r_ldI_n (m := 3) F_24_81 rfl ?_
                    refine r_ldI (m := 4) F_24_82 rfl ?_
                    refine r_ldI (m := 5) F_24_84 rfl ?_
                    refine r_virt2 (A := [vI t, vI k, vI n]) (r := []) (n := 3) F_24_86 o_24 il_5_107 rfl rfl rfl rfl ty_1 vy_17 (lay_le n_17 rfl) ?_
                    refine Cl_of n_17 rfl ?_
                    show Rn _ _ _ _ [some (vR 1), some (vI t), some (vI k), some (vI n)] [] _ _
                    refine r_ldR_n (m := 0) F_17_0 rfl ?_
                    refine r_ldI_n (m := 1) F_17_1 rfl ?_
                    refine r_virt2 (A := [vI t]) (r := []) (n := 1) F_17_2 o_17 il_3_36 rfl rfl rfl rfl ty_1 vy_15 (lay_le n_15 rfl) ?_
                    refine Cl_of n_15 rfl ?_
                    show Rn _ _ _ _ [some (vR 1), some (vI t)] [] _ _
                    refine r_ldR_n (m := 0) F_15_0 rfl ?_
                    refine r_ldI_n (m := 1) F_15_1 rfl ?_
                    refine r_virt2 (A := [vI t]) (r := []) (n := 1) F_15_2 o_15 il_3_28 rfl rfl rfl rfl ty_1 vy_16 (lay_le n_16 rfl) ?_
                    refine Cl_of n_16 rfl ?_
                    show Rn _ _ _ _ [some (vR 1), some (vI t)] [] _ _
                    refine r_ldR_n (m := 0) F_16_0 rfl ?_
                    refine r_ldI_n (m := 1) F_16_1 rfl ?_
                    refine r_virt2 (A := [vI t]) (r := []) (n := 1) F_16_2 o_16 il_3_32 rfl rfl rfl rfl ty_1 vy_9 (lay_le n_9 rfl) ?_
                    refine Cl_of n_9 rfl ?_
                    show Rn _ _ _ _ [some (vR 1), some (vI t)] [] _ _
                    refine r_ldI_n (m := 1) F_9_0 rfl ?_
                    refine r_ifF (t := 17) F_9_1 rfl (l4 e2 e4) (Int.not_lt.mpr e6) ?_
                    refine r_ldI_n (m := 1) F_9_4 rfl ?_
                    refine r_ldR_n (m := 0) F_9_5 rfl ?_
                    refine r_getR (J := 0) F_9_6 o_9 fl_3_19 ty_1 (by decide) rfl (kd2 kd_1_0 (by decide)) (kd9 kd_1_0 (by decide)) rf_1_0 ?_
                    refine r_alen F_9_9 ty_2 (by decide) ln_2 ?_
                    refine r_icmpF (t := 17) F_9_10 rfl (l4 e2 e4) (by decide) (Int.not_le.mpr e8) ?_
                    refine r_iconst F_9_13 ?_
                    refine r_goto (t := 18) F_9_14 rfl ?_
                    refine r_zreturn F_9_18 rt_9 (Or.inr rfl) ?_
                    show Rn _ _ _ _ _ [vI 1] _ _
                    refine r_ifF (t := 17) F_16_5 rfl (by decide) (by show ¬ ((1 : Int) = 0); decide) ?_
                    refine r_ldR_n (m := 0) F_16_8 rfl ?_
                    refine r_getR (J := 0) F_16_9 o_16 fl_3_19 ty_1 (by decide) rfl (kd2 kd_1_0 (by decide)) (kd9 kd_1_0 (by decide)) rf_1_0 ?_
                    refine r_ldI_n (m := 1) F_16_12 rfl ?_
                    refine r_iald (e := (s 2 t)) F_16_13 ty_2 e6 (lt_ln ln_2 e8) rfl ?_
                    refine r_goto (t := 18) F_16_14 rfl ?_
                    refine r_ireturn F_16_18 rt_16 ?_
                    show Rn _ _ _ _ _ [vI (s 2 t)] _ _
                    refine r_iconst F_15_5 ?_
                    refine r_icmpF (t := 13) F_15_6 rfl (l10 e2 e4 e6 e8 e9 e11) (by decide) e13 ?_
                    refine r_iconst F_15_9 ?_
                    refine r_goto (t := 14) F_15_10 rfl ?_
                    refine r_zreturn F_15_14 rt_15 (Or.inr rfl) ?_
                    show Rn _ _ _ _ _ [vI 1] _ _
                    refine r_ifF (t := 31) F_17_5 rfl (by decide) (by show ¬ ((1 : Int) = 0); decide) ?_
                    refine r_ldI_n (m := 2) F_17_8 rfl ?_
                    refine r_if (t := 31) F_17_9 rfl (l16 e2 e4 e6 e8 e9 e11 e13 e15 e17) ?_ ?_
                    · intro e18
                      replace e18 : k < 0 := e18
                      refine r_iconst F_17_31 ?_
                      refine r_zreturn F_17_32 rt_17 (Or.inl rfl) ?_
                      show Rn _ _ _ _ _ [vI 0] _ _
                      refine r_ifF (t := 98) F_24_89 rfl (by decide) (by show ¬ (¬ (0 : Int) = 0); decide) ?_
                      refine r_ldR_n (m := 0) F_24_92 rfl ?_
                      refine r_iconst F_24_93 ?_
                      refine r_virt2 (A := [vI 2]) (r := []) (n := 1) F_24_94 o_24 il_5_74 rfl rfl rfl rfl ty_0 vy_10 (lay_le n_10 rfl) ?_
                      refine Cl_of n_10 rfl ?_
                      show Rn _ _ _ _ [some (vR 0), some (vI 2)] [] _ _
                      refine r_ldI_n (m := 1) F_10_0 rfl ?_
                      refine r_iconst F_10_1 ?_
                      refine r_icmpF (t := 25) F_10_2 rfl (by decide) (by decide) (by show ¬ ((2 : Int) < 1); decide) ?_
                      refine r_ldI_n (m := 1) F_10_5 rfl ?_
                      refine r_iconst F_10_6 ?_
                      refine r_icmpF (t := 25) F_10_7 rfl (by decide) (by decide) (by show ¬ ((5 : Int) < 2); decide) ?_
                      refine r_ldR_n (m := 0) F_10_10 rfl ?_
                      refine r_ldI_n (m := 1) F_10_11 rfl ?_
                      refine r_putI (J := 8) F_10_12 o_10 fl_5_56 ty_0 (by decide) rfl kd_0_8 pf_5_8 ?_
                      refine r_ldR_n (m := 0) F_10_15 rfl ?_
                      refine r_getR (J := 7) F_10_16 o_10 fl_5_52 ty_0 (by decide) rfl (kd2 kd_0_7 (by decide)) (kd9 kd_0_7 (by decide)) rf_0_7 ?_
                      refine r_ldI_n (m := 1) F_10_19 rfl ?_
                      refine r_dup2 F_10_20 ?_
                      refine r_iald (e := (s 76 2)) F_10_21 ty_76 (by decide) (lt_ln ln_76 (by decide)) (upd_nc (by decide)) ?_
                      refine r_iconst F_10_22 ?_
                      refine r_iadd F_10_23 rfl ?_
                      refine r_iast F_10_24 ty_76 (by decide) (lt_ln ln_76 (by decide)) ?_
                      refine r_bipush F_10_25 bi__3 ?_
                      refine r_ireturn F_10_27 rt_10 ?_
                      show Rn _ _ _ _ _ [vI (-3)] _ _
                      refine r_ireturn F_24_97 rt_24 ?_
                      exact (l17 e2 e4 e6 e8 e9 e11 e13 e15 e17 e18)
                    · intro e19
                      replace e19 : 0 ≤ k := (Int.not_lt.mp e19)
                      refine r_ldI_n (m := 3) F_17_12 rfl ?_
                      refine r_ifF (t := 31) F_17_13 rfl (l7 e2 e4 e6 e8) (Int.not_lt.mpr e9) ?_
                      refine r_ldI_n (m := 2) F_17_16 rfl ?_
                      refine r_ldR_n (m := 0) F_17_17 rfl ?_
                      refine r_ldI_n (m := 1) F_17_18 rfl ?_
                      refine r_virt2 (A := [vI t]) (r := [vI k]) (n := 1) F_17_19 o_17 il_3_28 rfl rfl rfl rfl ty_1 vy_16 (lay_le n_16 rfl) ?_
                      refine Cl_of n_16 rfl ?_
                      show Rn _ _ _ _ [some (vR 1), some (vI t)] [] _ _
                      refine r_ldR_n (m := 0) F_16_0 rfl ?_
                      refine r_ldI_n (m := 1) F_16_1 rfl ?_
                      refine r_virt2 (A := [vI t]) (r := []) (n := 1) F_16_2 o_16 il_3_32 rfl rfl rfl rfl ty_1 vy_9 (lay_le n_9 rfl) ?_
                      refine Cl_of n_9 rfl ?_
                      show Rn _ _ _ _ [some (vR 1), some (vI t)] [] _ _
                      refine r_ldI_n (m := 1) F_9_0 rfl ?_
                      refine r_ifF (t := 17) F_9_1 rfl (l4 e2 e4) (Int.not_lt.mpr e6) ?_
                      refine r_ldI_n (m := 1) F_9_4 rfl ?_
                      refine r_ldR_n (m := 0) F_9_5 rfl ?_
                      refine r_getR (J := 0) F_9_6 o_9 fl_3_19 ty_1 (by decide) rfl (kd2 kd_1_0 (by decide)) (kd9 kd_1_0 (by decide)) rf_1_0 ?_
                      refine r_alen F_9_9 ty_2 (by decide) ln_2 ?_
                      refine r_icmpF (t := 17) F_9_10 rfl (l4 e2 e4) (by decide) (Int.not_le.mpr e8) ?_
                      refine r_iconst F_9_13 ?_
                      refine r_goto (t := 18) F_9_14 rfl ?_
                      refine r_zreturn F_9_18 rt_9 (Or.inr rfl) ?_
                      show Rn _ _ _ _ _ [vI 1] _ _
                      refine r_ifF (t := 17) F_16_5 rfl (by decide) (by show ¬ ((1 : Int) = 0); decide) ?_
                      refine r_ldR_n (m := 0) F_16_8 rfl ?_
                      refine r_getR (J := 0) F_16_9 o_16 fl_3_19 ty_1 (by decide) rfl (kd2 kd_1_0 (by decide)) (kd9 kd_1_0 (by decide)) rf_1_0 ?_
                      refine r_ldI_n (m := 1) F_16_12 rfl ?_
                      refine r_iald (e := (s 2 t)) F_16_13 ty_2 e6 (lt_ln ln_2 e8) rfl ?_
                      refine r_goto (t := 18) F_16_14 rfl ?_
                      refine r_ireturn F_16_18 rt_16 ?_
                      show Rn _ _ _ _ _ [vI (s 2 t), vI k] _ _
                      refine r_ldI_n (m := 3) F_17_22 rfl ?_
                      refine r_isub F_17_23 rfl ?_
                      refine r_icmp (t := 31) F_17_24 rfl (l16 e2 e4 e6 e8 e9 e11 e13 e15 e17) (l18 e2 e4 e6 e8 e9 e11 e13 e15 e17 e19) ?_ ?_
                      · intro e20
                        replace e20 : ((s 2 t) - n) < k := e20
                        refine r_iconst F_17_31 ?_
                        refine r_zreturn F_17_32 rt_17 (Or.inl rfl) ?_
                        show Rn _ _ _ _ _ [vI 0] _ _
                        refine r_ifF (t := 98) F_24_89 rfl (by decide) (by show ¬ (¬ (0 : Int) = 0); decide) ?_
                        refine r_ldR_n (m := 0) F_24_92 rfl ?_
                        refine r_iconst F_24_93 ?_
                        refine r_virt2 (A := [vI 2]) (r := []) (n := 1) F_24_94 o_24 il_5_74 rfl rfl rfl rfl ty_0 vy_10 (lay_le n_10 rfl) ?_
                        refine Cl_of n_10 rfl ?_
                        show Rn _ _ _ _ [some (vR 0), some (vI 2)] [] _ _
                        refine r_ldI_n (m := 1) F_10_0 rfl ?_
                        refine r_iconst F_10_1 ?_
                        refine r_icmpF (t := 25) F_10_2 rfl (by decide) (by decide) (by show ¬ ((2 : Int) < 1); decide) ?_
                        refine r_ldI_n (m := 1) F_10_5 rfl ?_
                        refine r_iconst F_10_6 ?_
                        refine r_icmpF (t := 25) F_10_7 rfl (by decide) (by decide) (by show ¬ ((5 : Int) < 2); decide) ?_
                        refine r_ldR_n (m := 0) F_10_10 rfl ?_
                        refine r_ldI_n (m := 1) F_10_11 rfl ?_
                        refine r_putI (J := 8) F_10_12 o_10 fl_5_56 ty_0 (by decide) rfl kd_0_8 pf_5_8 ?_
                        refine r_ldR_n (m := 0) F_10_15 rfl ?_
                        refine r_getR (J := 7) F_10_16 o_10 fl_5_52 ty_0 (by decide) rfl (kd2 kd_0_7 (by decide)) (kd9 kd_0_7 (by decide)) rf_0_7 ?_
                        refine r_ldI_n (m := 1) F_10_19 rfl ?_
                        refine r_dup2 F_10_20 ?_
                        refine r_iald (e := (s 76 2)) F_10_21 ty_76 (by decide) (lt_ln ln_76 (by decide)) (upd_nc (by decide)) ?_
                        refine r_iconst F_10_22 ?_
                        refine r_iadd F_10_23 rfl ?_
                        refine r_iast F_10_24 ty_76 (by decide) (lt_ln ln_76 (by decide)) ?_
                        refine r_bipush F_10_25 bi__3 ?_
                        refine r_ireturn F_10_27 rt_10 ?_
                        show Rn _ _ _ _ _ [vI (-3)] _ _
                        refine r_ireturn F_24_97 rt_24 ?_
                        exact (l19 e2 e4 e6 e8 e9 e11 e13 e15 e17 e19 e20)
                      · intro e21
                        replace e21 : k ≤ ((s 2 t) - n) := (Int.not_lt.mp e21)
                        refine r_iconst F_17_27 ?_
                        refine r_goto (t := 32) F_17_28 rfl ?_
                        refine r_zreturn F_17_32 rt_17 (Or.inr rfl) ?_
                        show Rn _ _ _ _ _ [vI 1] _ _
                        refine r_ifT (t := 98) F_24_89 rfl (by decide) (by show ¬ (1 : Int) = 0; decide) ?_
                        refine r_ldR_n (m := 0) F_24_98 rfl ?_
                        refine r_getR (J := 0) F_24_99 o_24 fl_5_14 ty_0 (by decide) rfl (kd2 kd_0_0 (by decide)) (kd9 kd_0_0 (by decide)) rf_0_0 ?_
                        refine r_ldI_n (m := 1) F_24_102 rfl ?_
                        refine r_ldI_n (m := 2) F_24_103 rfl ?_
                        refine r_ldI_n (m := 3) F_24_104 rfl ?_
                        refine r_ldI (m := 4) F_24_105 rfl ?_
                        refine r_ldI (m := 5) F_24_107 rfl ?_
                        refine r_virt2 (A := [vI r, vI j, vI t, vI k, vI n]) (r := []) (n := 5) F_24_109 o_24 il_5_111 rfl rfl rfl rfl ty_1 vy_25 (lay_le n_25 rfl) ?_
                        refine Cl_of n_25 rfl ?_
                        show Rn _ _ _ _ [some (vR 1), some (vI r), some (vI j), some (vI t), some (vI k), some (vI n)] [] _ _
                        refine r_ldR_n (m := 0) F_25_0 rfl ?_
                        refine r_ldI_n (m := 1) F_25_1 rfl ?_
                        refine r_ldI_n (m := 2) F_25_2 rfl ?_
                        refine r_ldI (m := 5) F_25_3 rfl ?_
                        refine r_virt2 (A := [vI r, vI j, vI n]) (r := []) (n := 3) F_25_5 o_25 il_3_39 rfl rfl rfl rfl ty_1 vy_17 (lay_le n_17 rfl) ?_
                        refine Cl_of n_17 rfl ?_
                        show Rn _ _ _ _ [some (vR 1), some (vI r), some (vI j), some (vI n)] [] _ _
                        refine r_ldR_n (m := 0) F_17_0 rfl ?_
                        refine r_ldI_n (m := 1) F_17_1 rfl ?_
                        refine r_virt2 (A := [vI r]) (r := []) (n := 1) F_17_2 o_17 il_3_36 rfl rfl rfl rfl ty_1 vy_15 (lay_le n_15 rfl) ?_
                        refine Cl_of n_15 rfl ?_
                        show Rn _ _ _ _ [some (vR 1), some (vI r)] [] _ _
                        refine r_ldR_n (m := 0) F_15_0 rfl ?_
                        refine r_ldI_n (m := 1) F_15_1 rfl ?_
                        refine r_virt2 (A := [vI r]) (r := []) (n := 1) F_15_2 o_15 il_3_28 rfl rfl rfl rfl ty_1 vy_16 (lay_le n_16 rfl) ?_
                        refine Cl_of n_16 rfl ?_
                        show Rn _ _ _ _ [some (vR 1), some (vI r)] [] _ _
                        refine r_ldR_n (m := 0) F_16_0 rfl ?_
                        refine r_ldI_n (m := 1) F_16_1 rfl ?_
                        refine r_virt2 (A := [vI r]) (r := []) (n := 1) F_16_2 o_16 il_3_32 rfl rfl rfl rfl ty_1 vy_9 (lay_le n_9 rfl) ?_
                        refine Cl_of n_9 rfl ?_
                        show Rn _ _ _ _ [some (vR 1), some (vI r)] [] _ _
                        refine r_ldI_n (m := 1) F_9_0 rfl ?_
                        refine r_ifF (t := 17) F_9_1 rfl l1 (Int.not_lt.mpr e2) ?_
                        refine r_ldI_n (m := 1) F_9_4 rfl ?_
                        refine r_ldR_n (m := 0) F_9_5 rfl ?_
                        refine r_getR (J := 0) F_9_6 o_9 fl_3_19 ty_1 (by decide) rfl (kd2 kd_1_0 (by decide)) (kd9 kd_1_0 (by decide)) rf_1_0 ?_
                        refine r_alen F_9_9 ty_2 (by decide) ln_2 ?_
                        refine r_icmpF (t := 17) F_9_10 rfl l1 (by decide) (Int.not_le.mpr e4) ?_
                        refine r_iconst F_9_13 ?_
                        refine r_goto (t := 18) F_9_14 rfl ?_
                        refine r_zreturn F_9_18 rt_9 (Or.inr rfl) ?_
                        show Rn _ _ _ _ _ [vI 1] _ _
                        refine r_ifF (t := 17) F_16_5 rfl (by decide) (by show ¬ ((1 : Int) = 0); decide) ?_
                        refine r_ldR_n (m := 0) F_16_8 rfl ?_
                        refine r_getR (J := 0) F_16_9 o_16 fl_3_19 ty_1 (by decide) rfl (kd2 kd_1_0 (by decide)) (kd9 kd_1_0 (by decide)) rf_1_0 ?_
                        refine r_ldI_n (m := 1) F_16_12 rfl ?_
                        refine r_iald (e := (s 2 r)) F_16_13 ty_2 e2 (lt_ln ln_2 e4) rfl ?_
                        refine r_goto (t := 18) F_16_14 rfl ?_
                        refine r_ireturn F_16_18 rt_16 ?_
                        show Rn _ _ _ _ _ [vI (s 2 r)] _ _
                        refine r_iconst F_15_5 ?_
                        refine r_icmpF (t := 13) F_15_6 rfl (l8 e2 e4 e6 e8 e9) (by decide) e11 ?_
                        refine r_iconst F_15_9 ?_
                        refine r_goto (t := 14) F_15_10 rfl ?_
                        refine r_zreturn F_15_14 rt_15 (Or.inr rfl) ?_
                        show Rn _ _ _ _ _ [vI 1] _ _
                        refine r_ifF (t := 31) F_17_5 rfl (by decide) (by show ¬ ((1 : Int) = 0); decide) ?_
                        refine r_ldI_n (m := 2) F_17_8 rfl ?_
                        refine r_ifF (t := 31) F_17_9 rfl (l12 e2 e4 e6 e8 e9 e11 e13) (Int.not_lt.mpr e15) ?_
                        refine r_ldI_n (m := 3) F_17_12 rfl ?_
                        refine r_ifF (t := 31) F_17_13 rfl (l7 e2 e4 e6 e8) (Int.not_lt.mpr e9) ?_
                        refine r_ldI_n (m := 2) F_17_16 rfl ?_
                        refine r_ldR_n (m := 0) F_17_17 rfl ?_
                        refine r_ldI_n (m := 1) F_17_18 rfl ?_
                        refine r_virt2 (A := [vI r]) (r := [vI j]) (n := 1) F_17_19 o_17 il_3_28 rfl rfl rfl rfl ty_1 vy_16 (lay_le n_16 rfl) ?_
                        refine Cl_of n_16 rfl ?_
                        show Rn _ _ _ _ [some (vR 1), some (vI r)] [] _ _
                        refine r_ldR_n (m := 0) F_16_0 rfl ?_
                        refine r_ldI_n (m := 1) F_16_1 rfl ?_
                        refine r_virt2 (A := [vI r]) (r := []) (n := 1) F_16_2 o_16 il_3_32 rfl rfl rfl rfl ty_1 vy_9 (lay_le n_9 rfl) ?_
                        refine Cl_of n_9 rfl ?_
                        show Rn _ _ _ _ [some (vR 1), some (vI r)] [] _ _
                        refine r_ldI_n (m := 1) F_9_0 rfl ?_
                        refine r_ifF (t := 17) F_9_1 rfl l1 (Int.not_lt.mpr e2) ?_
                        refine r_ldI_n (m := 1) F_9_4 rfl ?_
                        refine r_ldR_n (m := 0) F_9_5 rfl ?_
                        refine r_getR (J := 0) F_9_6 o_9 fl_3_19 ty_1 (by decide) rfl (kd2 kd_1_0 (by decide)) (kd9 kd_1_0 (by decide)) rf_1_0 ?_
                        refine r_alen F_9_9 ty_2 (by decide) ln_2 ?_
                        refine r_icmpF (t := 17) F_9_10 rfl l1 (by decide) (Int.not_le.mpr e4) ?_
                        refine r_iconst F_9_13 ?_
                        refine r_goto (t := 18) F_9_14 rfl ?_
                        refine r_zreturn F_9_18 rt_9 (Or.inr rfl) ?_
                        show Rn _ _ _ _ _ [vI 1] _ _
                        refine r_ifF (t := 17) F_16_5 rfl (by decide) (by show ¬ ((1 : Int) = 0); decide) ?_
                        refine r_ldR_n (m := 0) F_16_8 rfl ?_
                        refine r_getR (J := 0) F_16_9 o_16 fl_3_19 ty_1 (by decide) rfl (kd2 kd_1_0 (by decide)) (kd9 kd_1_0 (by decide)) rf_1_0 ?_
                        refine r_ldI_n (m := 1) F_16_12 rfl ?_
                        refine r_iald (e := (s 2 r)) F_16_13 ty_2 e2 (lt_ln ln_2 e4) rfl ?_
                        refine r_goto (t := 18) F_16_14 rfl ?_
                        refine r_ireturn F_16_18 rt_16 ?_
                        show Rn _ _ _ _ _ [vI (s 2 r), vI j] _ _
                        refine r_ldI_n (m := 3) F_17_22 rfl ?_
                        refine r_isub F_17_23 rfl ?_
                        refine r_icmpF (t := 31) F_17_24 rfl (l12 e2 e4 e6 e8 e9 e11 e13) (l14 e2 e4 e6 e8 e9 e11 e13 e15) (Int.not_lt.mpr e17) ?_
                        refine r_iconst F_17_27 ?_
                        refine r_goto (t := 32) F_17_28 rfl ?_
                        refine r_zreturn F_17_32 rt_17 (Or.inr rfl) ?_
                        show Rn _ _ _ _ _ [vI 1] _ _
                        refine r_ifF (t := 43) F_25_8 rfl (by decide) (by show ¬ ((1 : Int) = 0); decide) ?_
                        refine r_ldR_n (m := 0) F_25_11 rfl ?_
                        refine r_ldI_n (m := 3) F_25_12 rfl ?_
                        refine r_ldI (m := 4) F_25_13 rfl ?_
                        refine r_ldI (m := 5) F_25_15 rfl ?_
                        refine r_virt2 (A := [vI t, vI k, vI n]) (r := []) (n := 3) F_25_17 o_25 il_3_39 rfl rfl rfl rfl ty_1 vy_17 (lay_le n_17 rfl) ?_
                        refine Cl_of n_17 rfl ?_
                        show Rn _ _ _ _ [some (vR 1), some (vI t), some (vI k), some (vI n)] [] _ _
                        refine r_ldR_n (m := 0) F_17_0 rfl ?_
                        refine r_ldI_n (m := 1) F_17_1 rfl ?_
                        refine r_virt2 (A := [vI t]) (r := []) (n := 1) F_17_2 o_17 il_3_36 rfl rfl rfl rfl ty_1 vy_15 (lay_le n_15 rfl) ?_
                        refine Cl_of n_15 rfl ?_
                        show Rn _ _ _ _ [some (vR 1), some (vI t)] [] _ _
                        refine r_ldR_n (m := 0) F_15_0 rfl ?_
                        refine r_ldI_n (m := 1) F_15_1 rfl ?_
                        refine r_virt2 (A := [vI t]) (r := []) (n := 1) F_15_2 o_15 il_3_28 rfl rfl rfl rfl ty_1 vy_16 (lay_le n_16 rfl) ?_
                        refine Cl_of n_16 rfl ?_
                        show Rn _ _ _ _ [some (vR 1), some (vI t)] [] _ _
                        refine r_ldR_n (m := 0) F_16_0 rfl ?_
                        refine r_ldI_n (m := 1) F_16_1 rfl ?_
                        refine r_virt2 (A := [vI t]) (r := []) (n := 1) F_16_2 o_16 il_3_32 rfl rfl rfl rfl ty_1 vy_9 (lay_le n_9 rfl) ?_
                        refine Cl_of n_9 rfl ?_
                        show Rn _ _ _ _ [some (vR 1), some (vI t)] [] _ _
                        refine r_ldI_n (m := 1) F_9_0 rfl ?_
                        refine r_ifF (t := 17) F_9_1 rfl (l4 e2 e4) (Int.not_lt.mpr e6) ?_
                        refine r_ldI_n (m := 1) F_9_4 rfl ?_
                        refine r_ldR_n (m := 0) F_9_5 rfl ?_
                        refine r_getR (J := 0) F_9_6 o_9 fl_3_19 ty_1 (by decide) rfl (kd2 kd_1_0 (by decide)) (kd9 kd_1_0 (by decide)) rf_1_0 ?_
                        refine r_alen F_9_9 ty_2 (by decide) ln_2 ?_
                        refine r_icmpF (t := 17) F_9_10 rfl (l4 e2 e4) (by decide) (Int.not_le.mpr e8) ?_
                        refine r_iconst F_9_13 ?_
                        refine r_goto (t := 18) F_9_14 rfl ?_
                        refine r_zreturn F_9_18 rt_9 (Or.inr rfl) ?_
                        show Rn _ _ _ _ _ [vI 1] _ _
                        refine r_ifF (t := 17) F_16_5 rfl (by decide) (by show ¬ ((1 : Int) = 0); decide) ?_
                        refine r_ldR_n (m := 0) F_16_8 rfl ?_
                        refine r_getR (J := 0) F_16_9 o_16 fl_3_19 ty_1 (by decide) rfl (kd2 kd_1_0 (by decide)) (kd9 kd_1_0 (by decide)) rf_1_0 ?_
                        refine r_ldI_n (m := 1) F_16_12 rfl ?_
                        refine r_iald (e := (s 2 t)) F_16_13 ty_2 e6 (lt_ln ln_2 e8) rfl ?_
                        refine r_goto (t := 18) F_16_14 rfl ?_
                        refine r_ireturn F_16_18 rt_16 ?_
                        show Rn _ _ _ _ _ [vI (s 2 t)] _ _
                        refine r_iconst F_15_5 ?_
                        refine r_icmpF (t := 13) F_15_6 rfl (l10 e2 e4 e6 e8 e9 e11) (by decide) e13 ?_
                        refine r_iconst F_15_9 ?_
                        refine r_goto (t := 14) F_15_10 rfl ?_
                        refine r_zreturn F_15_14 rt_15 (Or.inr rfl) ?_
                        show Rn _ _ _ _ _ [vI 1] _ _
                        refine r_ifF (t := 31) F_17_5 rfl (by decide) (by show ¬ ((1 : Int) = 0); decide) ?_
                        refine r_ldI_n (m := 2) F_17_8 rfl ?_
                        refine r_ifF (t := 31) F_17_9 rfl (l16 e2 e4 e6 e8 e9 e11 e13 e15 e17) (Int.not_lt.mpr e19) ?_
                        refine r_ldI_n (m := 3) F_17_12 rfl ?_
                        refine r_ifF (t := 31) F_17_13 rfl (l7 e2 e4 e6 e8) (Int.not_lt.mpr e9) ?_
                        refine r_ldI_n (m := 2) F_17_16 rfl ?_
                        refine r_ldR_n (m := 0) F_17_17 rfl ?_
                        refine r_ldI_n (m := 1) F_17_18 rfl ?_
                        refine r_virt2 (A := [vI t]) (r := [vI k]) (n := 1) F_17_19 o_17 il_3_28 rfl rfl rfl rfl ty_1 vy_16 (lay_le n_16 rfl) ?_
                        refine Cl_of n_16 rfl ?_
                        show Rn _ _ _ _ [some (vR 1), some (vI t)] [] _ _
                        refine r_ldR_n (m := 0) F_16_0 rfl ?_
                        refine r_ldI_n (m := 1) F_16_1 rfl ?_
                        refine r_virt2 (A := [vI t]) (r := []) (n := 1) F_16_2 o_16 il_3_32 rfl rfl rfl rfl ty_1 vy_9 (lay_le n_9 rfl) ?_
                        refine Cl_of n_9 rfl ?_
                        show Rn _ _ _ _ [some (vR 1), some (vI t)] [] _ _
                        refine r_ldI_n (m := 1) F_9_0 rfl ?_
                        refine r_ifF (t := 17) F_9_1 rfl (l4 e2 e4) (Int.not_lt.mpr e6) ?_
                        refine r_ldI_n (m := 1) F_9_4 rfl ?_
                        refine r_ldR_n (m := 0) F_9_5 rfl ?_
                        refine r_getR (J := 0) F_9_6 o_9 fl_3_19 ty_1 (by decide) rfl (kd2 kd_1_0 (by decide)) (kd9 kd_1_0 (by decide)) rf_1_0 ?_
                        refine r_alen F_9_9 ty_2 (by decide) ln_2 ?_
                        refine r_icmpF (t := 17) F_9_10 rfl (l4 e2 e4) (by decide) (Int.not_le.mpr e8) ?_
                        refine r_iconst F_9_13 ?_
                        refine r_goto (t := 18) F_9_14 rfl ?_
                        refine r_zreturn F_9_18 rt_9 (Or.inr rfl) ?_
                        show Rn _ _ _ _ _ [vI 1] _ _
                        refine r_ifF (t := 17) F_16_5 rfl (by decide) (by show ¬ ((1 : Int) = 0); decide) ?_
                        refine r_ldR_n (m := 0) F_16_8 rfl ?_
                        refine r_getR (J := 0) F_16_9 o_16 fl_3_19 ty_1 (by decide) rfl (kd2 kd_1_0 (by decide)) (kd9 kd_1_0 (by decide)) rf_1_0 ?_
                        refine r_ldI_n (m := 1) F_16_12 rfl ?_
                        refine r_iald (e := (s 2 t)) F_16_13 ty_2 e6 (lt_ln ln_2 e8) rfl ?_
                        refine r_goto (t := 18) F_16_14 rfl ?_
                        refine r_ireturn F_16_18 rt_16 ?_
                        show Rn _ _ _ _ _ [vI (s 2 t), vI k] _ _
                        refine r_ldI_n (m := 3) F_17_22 rfl ?_
                        refine r_isub F_17_23 rfl ?_
                        refine r_icmpF (t := 31) F_17_24 rfl (l16 e2 e4 e6 e8 e9 e11 e13 e15 e17) (l18 e2 e4 e6 e8 e9 e11 e13 e15 e17 e19) (Int.not_lt.mpr e21) ?_
                        refine r_iconst F_17_27 ?_
                        refine r_goto (t := 32) F_17_28 rfl ?_
                        refine r_zreturn F_17_32 rt_17 (Or.inr rfl) ?_
                        show Rn _ _ _ _ _ [vI 1] _ _
                        refine r_ifF (t := 43) F_25_20 rfl (by decide) (by show ¬ ((1 : Int) = 0); decide) ?_
                        refine r_ldR_n (m := 0) F_25_23 rfl ?_
                        refine r_getR (J := 1) F_25_24 o_25 fl_3_25 ty_1 (by decide) rfl (kd2 kd_1_1 (by decide)) (kd9 kd_1_1 (by decide)) rf_1_1 ?_
                        refine r_ldI_n (m := 1) F_25_27 rfl ?_
                        refine r_aald F_25_28 ty_3 (by decide) e2 (lt_ln ln_3 e4) (rw_3 ⟨e2, e4⟩).2.2 ?_
                        refine r_ldI_n (m := 2) F_25_29 rfl ?_
                        refine r_ldR_n (m := 0) F_25_30 rfl ?_
                        refine r_getR (J := 1) F_25_31 o_25 fl_3_25 ty_1 (by decide) rfl (kd2 kd_1_1 (by decide)) (kd9 kd_1_1 (by decide)) rf_1_1 ?_
                        refine r_ldI_n (m := 3) F_25_34 rfl ?_
                        refine r_aald F_25_35 ty_3 (by decide) e6 (lt_ln ln_3 e8) (rw_3 ⟨e6, e8⟩).2.2 ?_
                        refine r_ldI (m := 4) F_25_36 rfl ?_
                        refine r_ldI (m := 5) F_25_38 rfl ?_
                        refine r_acopy F_25_40 o_25 iln_3_43 mmn_3_43 ac_3_43 rfl (rw_3 ⟨e2, e4⟩).1 (rw_3 ⟨e6, e8⟩).1 e15 e19 e9 (le_ln (rw_3 ⟨e2, e4⟩).2.1 (l20 e2 e4 e6 e8 e9 e11 e13 e15 e17 e19 e21)) (le_ln (rw_3 ⟨e6, e8⟩).2.1 (l21 e2 e4 e6 e8 e9 e11 e13 e15 e17 e19 e21)) ?_
                        refine r_return F_25_43 rt_25 ?_
                        show Rn _ _ _ _ _ [] _ _
                        refine r_iconst F_24_112 ?_
                        refine r_ireturn F_24_113 rt_24 ?_
                        exact (l22 e2 e4 e6 e8 e9 e11 e13 e15 e17 e19 e21)
          · intro e22
            replace e22 : n < 0 := (Int.not_le.mp e22)
            refine r_ldR_n (m := 0) F_24_29 rfl ?_
            refine r_iconst F_24_30 ?_
            refine r_virt2 (A := [vI 5]) (r := []) (n := 1) F_24_31 o_24 il_5_74 rfl rfl rfl rfl ty_0 vy_10 (lay_le n_10 rfl) ?_
            refine Cl_of n_10 rfl ?_
            show Rn _ _ _ _ [some (vR 0), some (vI 5)] [] _ _
            refine r_ldI_n (m := 1) F_10_0 rfl ?_
            refine r_iconst F_10_1 ?_
            refine r_icmpF (t := 25) F_10_2 rfl (by decide) (by decide) (by show ¬ ((5 : Int) < 1); decide) ?_
            refine r_ldI_n (m := 1) F_10_5 rfl ?_
            refine r_iconst F_10_6 ?_
            refine r_icmpF (t := 25) F_10_7 rfl (by decide) (by decide) (by show ¬ ((5 : Int) < 5); decide) ?_
            refine r_ldR_n (m := 0) F_10_10 rfl ?_
            refine r_ldI_n (m := 1) F_10_11 rfl ?_
            refine r_putI (J := 8) F_10_12 o_10 fl_5_56 ty_0 (by decide) rfl kd_0_8 pf_5_8 ?_
            refine r_ldR_n (m := 0) F_10_15 rfl ?_
            refine r_getR (J := 7) F_10_16 o_10 fl_5_52 ty_0 (by decide) rfl (kd2 kd_0_7 (by decide)) (kd9 kd_0_7 (by decide)) rf_0_7 ?_
            refine r_ldI_n (m := 1) F_10_19 rfl ?_
            refine r_dup2 F_10_20 ?_
            refine r_iald (e := (s 76 5)) F_10_21 ty_76 (by decide) (lt_ln ln_76 (by decide)) (upd_nc (by decide)) ?_
            refine r_iconst F_10_22 ?_
            refine r_iadd F_10_23 rfl ?_
            refine r_iast F_10_24 ty_76 (by decide) (lt_ln ln_76 (by decide)) ?_
            refine r_bipush F_10_25 bi__3 ?_
            refine r_ireturn F_10_27 rt_10 ?_
            show Rn _ _ _ _ _ [vI (-3)] _ _
            refine r_ireturn F_24_34 rt_24 ?_
            exact (l23 e2 e4 e6 e8 e22)
theorem t_X5_mean {X : List Int32} {d : Nat} {s : m_St} {P : Option Value → m_St → Prop} {r : Int}
    (l1 : inR r)
    (l2 : r < 0 → P (some (vI (-1))) s)
    (l3 : 0 ≤ r → 6 ≤ r → P (some (vI (-1))) s)
    (l4 : 0 ≤ r → r < 6 → inR (s 2 r))
    (l5 : 0 ≤ r → r < 6 → (s 2 r) = (-1) → P (some (vI (-3))) (m_upd (m_upd s 0 8 1) 76 1 ((s 76 1) + 1)))
    (l6 : 0 ≤ r → r < 6 → ¬ (s 2 r) = (-1) → 0 < (s 2 r) → 0 ≤ (s 2 r))
    (l7 : 0 ≤ r → r < 6 → ¬ (s 2 r) = (-1) → 0 < (s 2 r) → (s 2 r) ≤ 40)
    (l8 : 0 ≤ r → r < 6 → ¬ (s 2 r) = (-1) → 0 < (s 2 r) → ∀ j, 0 ≤ j → j < (s 2 r) → inR (s (4 + r) j))
    (l9 : 0 ≤ r → r < 6 → ¬ (s 2 r) = (-1) → 0 < (s 2 r) → inJ (sm (s (4 + r)) (Int.toNat (s 2 r))))
    (l10 : 0 ≤ r → r < 6 → ¬ (s 2 r) = (-1) → 0 < (s 2 r) → inJ (s 2 r))
    (l11 : 0 ≤ r → r < 6 → ¬ (s 2 r) = (-1) → 0 < (s 2 r) → P (some (vI 1)) (m_upd s 0 9 (Int.tdiv (sm (s (4 + r)) (Int.toNat (s 2 r))) (s 2 r))))
    (l12 : 0 ≤ r → r < 6 → ¬ (s 2 r) = (-1) → (s 2 r) ≤ 0 → P (some (vI (-3))) (m_upd (m_upd s 0 8 4) 76 4 ((s 76 4) + 1)))
    : Cl X (d + 6) 26 [vR 0, vI r] s P := by
  refine Cl_of n_26 rfl ?_
  show Rn _ _ _ _ [some (vR 0), some (vI r), none, none] [] _ _
  refine r_ldR_n (m := 0) F_26_0 rfl ?_
  refine r_ldR_n (m := 0) F_26_1 rfl ?_
  refine r_getR (J := 0) F_26_2 o_26 fl_5_14 ty_0 (by decide) rfl (kd2 kd_0_0 (by decide)) (kd9 kd_0_0 (by decide)) rf_0_0 ?_
  refine r_ldI_n (m := 1) F_26_5 rfl ?_
  refine r_virt2 (A := [vR 1, vI r]) (r := []) (n := 2) F_26_6 o_26 il_5_96 rfl rfl rfl rfl ty_0 vy_14 (lay_le n_14 rfl) ?_
  refine Cl_of n_14 rfl ?_
  show Rn _ _ _ _ [some (vR 0), some (vR 1), some (vI r)] [] _ _
  refine r_ldR_n (m := 1) F_14_0 rfl ?_
  refine r_ldI_n (m := 2) F_14_1 rfl ?_
  refine r_virt2 (A := [vI r]) (r := []) (n := 1) F_14_2 o_14 il_5_70 rfl rfl rfl rfl ty_1 vy_9 (lay_le n_9 rfl) ?_
  refine Cl_of n_9 rfl ?_
  show Rn _ _ _ _ [some (vR 1), some (vI r)] [] _ _
  refine r_ldI_n (m := 1) F_9_0 rfl ?_
  refine r_if (t := 17) F_9_1 rfl l1 ?_ ?_
  · intro e1
    replace e1 : r < 0 := e1
    refine r_iconst F_9_17 ?_
    refine r_zreturn F_9_18 rt_9 (Or.inl rfl) ?_
    show Rn _ _ _ _ _ [vI 0] _ _
    refine r_ifF (t := 10) F_14_5 rfl (by decide) (by show ¬ (¬ (0 : Int) = 0); decide) ?_
    refine r_iconst F_14_8 ?_
    refine r_ireturn F_14_9 rt_14 ?_
    show Rn _ _ _ _ _ [vI (-1)] _ _
    refine r_stI_n (m := 2) (L' := [some (vR 0), some (vI r), some (vI (-1)), none]) F_26_9 rfl rfl ?_
    refine r_ldI_n (m := 2) F_26_10 rfl ?_
    refine r_ifF (t := 16) F_26_11 rfl (by decide) (by show ¬ (((-1) : Int) = 0); decide) ?_
    refine r_ldI_n (m := 2) F_26_14 rfl ?_
    refine r_ireturn F_26_15 rt_26 ?_
    exact (l2 e1)
  · intro e2
    replace e2 : 0 ≤ r := (Int.not_lt.mp e2)
    refine r_ldI_n (m := 1) F_9_4 rfl ?_
    refine r_ldR_n (m := 0) F_9_5 rfl ?_
    refine r_getR (J := 0) F_9_6 o_9 fl_3_19 ty_1 (by decide) rfl (kd2 kd_1_0 (by decide)) (kd9 kd_1_0 (by decide)) rf_1_0 ?_
    refine r_alen F_9_9 ty_2 (by decide) ln_2 ?_
    refine r_icmp (t := 17) F_9_10 rfl l1 (by decide) ?_ ?_
    · intro e3
      replace e3 : 6 ≤ r := e3
      refine r_iconst F_9_17 ?_
      refine r_zreturn F_9_18 rt_9 (Or.inl rfl) ?_
      show Rn _ _ _ _ _ [vI 0] _ _
      refine r_ifF (t := 10) F_14_5 rfl (by decide) (by show ¬ (¬ (0 : Int) = 0); decide) ?_
      refine r_iconst F_14_8 ?_
      refine r_ireturn F_14_9 rt_14 ?_
      show Rn _ _ _ _ _ [vI (-1)] _ _
      refine r_stI_n (m := 2) (L' := [some (vR 0), some (vI r), some (vI (-1)), none]) F_26_9 rfl rfl ?_
      refine r_ldI_n (m := 2) F_26_10 rfl ?_
      refine r_ifF (t := 16) F_26_11 rfl (by decide) (by show ¬ (((-1) : Int) = 0); decide) ?_
      refine r_ldI_n (m := 2) F_26_14 rfl ?_
      refine r_ireturn F_26_15 rt_26 ?_
      exact (l3 e2 e3)
    · intro e4
      replace e4 : r < 6 := (Int.not_le.mp e4)
      refine r_iconst F_9_13 ?_
      refine r_goto (t := 18) F_9_14 rfl ?_
      refine r_zreturn F_9_18 rt_9 (Or.inr rfl) ?_
      show Rn _ _ _ _ _ [vI 1] _ _
      refine r_ifT (t := 10) F_14_5 rfl (by decide) (by show ¬ (1 : Int) = 0; decide) ?_
      refine r_ldR_n (m := 1) F_14_10 rfl ?_
      refine r_ldI_n (m := 2) F_14_11 rfl ?_
      refine r_virt2 (A := [vI r]) (r := []) (n := 1) F_14_12 o_14 il_5_104 rfl rfl rfl rfl ty_1 vy_15 (lay_le n_15 rfl) ?_
      refine Cl_of n_15 rfl ?_
      show Rn _ _ _ _ [some (vR 1), some (vI r)] [] _ _
      refine r_ldR_n (m := 0) F_15_0 rfl ?_
      refine r_ldI_n (m := 1) F_15_1 rfl ?_
      refine r_virt2 (A := [vI r]) (r := []) (n := 1) F_15_2 o_15 il_3_28 rfl rfl rfl rfl ty_1 vy_16 (lay_le n_16 rfl) ?_
      refine Cl_of n_16 rfl ?_
      show Rn _ _ _ _ [some (vR 1), some (vI r)] [] _ _
      refine r_ldR_n (m := 0) F_16_0 rfl ?_
      refine r_ldI_n (m := 1) F_16_1 rfl ?_
      refine r_virt2 (A := [vI r]) (r := []) (n := 1) F_16_2 o_16 il_3_32 rfl rfl rfl rfl ty_1 vy_9 (lay_le n_9 rfl) ?_
      refine Cl_of n_9 rfl ?_
      show Rn _ _ _ _ [some (vR 1), some (vI r)] [] _ _
      refine r_ldI_n (m := 1) F_9_0 rfl ?_
      refine r_ifF (t := 17) F_9_1 rfl l1 (Int.not_lt.mpr e2) ?_
      refine r_ldI_n (m := 1) F_9_4 rfl ?_
      refine r_ldR_n (m := 0) F_9_5 rfl ?_
      refine r_getR (J := 0) F_9_6 o_9 fl_3_19 ty_1 (by decide) rfl (kd2 kd_1_0 (by decide)) (kd9 kd_1_0 (by decide)) rf_1_0 ?_
      refine r_alen F_9_9 ty_2 (by decide) ln_2 ?_
      refine r_icmpF (t := 17) F_9_10 rfl l1 (by decide) (Int.not_le.mpr e4) ?_
      refine r_iconst F_9_13 ?_
      refine r_goto (t := 18) F_9_14 rfl ?_
      refine r_zreturn F_9_18 rt_9 (Or.inr rfl) ?_
      show Rn _ _ _ _ _ [vI 1] _ _
      refine r_ifF (t := 17) F_16_5 rfl (by decide) (by show ¬ ((1 : Int) = 0); decide) ?_
      refine r_ldR_n (m := 0) F_16_8 rfl ?_
      refine r_getR (J := 0) F_16_9 o_16 fl_3_19 ty_1 (by decide) rfl (kd2 kd_1_0 (by decide)) (kd9 kd_1_0 (by decide)) rf_1_0 ?_
      refine r_ldI_n (m := 1) F_16_12 rfl ?_
      refine r_iald (e := (s 2 r)) F_16_13 ty_2 e2 (lt_ln ln_2 e4) rfl ?_
      refine r_goto (t := 18) F_16_14 rfl ?_
      refine r_ireturn F_16_18 rt_16 ?_
      show Rn _ _ _ _ _ [vI (s 2 r)] _ _
      refine r_iconst F_15_5 ?_
      refine r_icmp (t := 13) F_15_6 rfl (l4 e2 e4) (by decide) ?_ ?_
      · intro e5
        replace e5 : (s 2 r) = (-1) := e5
        refine r_iconst F_15_13 ?_
        refine r_zreturn F_15_14 rt_15 (Or.inl rfl) ?_
        show Rn _ _ _ _ _ [vI 0] _ _
        refine r_ifT (t := 22) F_14_15 rfl (by decide) (by show (0 : Int) = 0; decide) ?_
        refine r_ldR_n (m := 0) F_14_22 rfl ?_
        refine r_iconst F_14_23 ?_
        refine r_virt2 (A := [vI 1]) (r := []) (n := 1) F_14_24 o_14 il_5_74 rfl rfl rfl rfl ty_0 vy_10 (lay_le n_10 rfl) ?_
        refine Cl_of n_10 rfl ?_
        show Rn _ _ _ _ [some (vR 0), some (vI 1)] [] _ _
        refine r_ldI_n (m := 1) F_10_0 rfl ?_
        refine r_iconst F_10_1 ?_
        refine r_icmpF (t := 25) F_10_2 rfl (by decide) (by decide) (by show ¬ ((1 : Int) < 1); decide) ?_
        refine r_ldI_n (m := 1) F_10_5 rfl ?_
        refine r_iconst F_10_6 ?_
        refine r_icmpF (t := 25) F_10_7 rfl (by decide) (by decide) (by show ¬ ((5 : Int) < 1); decide) ?_
        refine r_ldR_n (m := 0) F_10_10 rfl ?_
        refine r_ldI_n (m := 1) F_10_11 rfl ?_
        refine r_putI (J := 8) F_10_12 o_10 fl_5_56 ty_0 (by decide) rfl kd_0_8 pf_5_8 ?_
        refine r_ldR_n (m := 0) F_10_15 rfl ?_
        refine r_getR (J := 7) F_10_16 o_10 fl_5_52 ty_0 (by decide) rfl (kd2 kd_0_7 (by decide)) (kd9 kd_0_7 (by decide)) rf_0_7 ?_
        refine r_ldI_n (m := 1) F_10_19 rfl ?_
        refine r_dup2 F_10_20 ?_
        refine r_iald (e := (s 76 1)) F_10_21 ty_76 (by decide) (lt_ln ln_76 (by decide)) (upd_nc (by decide)) ?_
        refine r_iconst F_10_22 ?_
        refine r_iadd F_10_23 rfl ?_
        refine r_iast F_10_24 ty_76 (by decide) (lt_ln ln_76 (by decide)) ?_
        refine r_bipush F_10_25 bi__3 ?_
        refine r_ireturn F_10_27 rt_10 ?_
        show Rn _ _ _ _ _ [vI (-3)] _ _
        refine r_ireturn F_14_27 rt_14 ?_
        show Rn _ _ _ _ _ [vI (-3)] _ _
        refine r_stI_n (m := 2) (L' := [some (vR 0), some (vI r), some (vI (-3)), none]) F_26_9 rfl rfl ?_
        refine r_ldI_n (m := 2) F_26_10 rfl ?_
        refine r_ifF (t := 16) F_26_11 rfl (by decide) (by show ¬ (((-3) : Int) = 0); decide) ?_
        refine r_ldI_n (m := 2) F_26_14 rfl ?_
        refine r_ireturn F_26_15 rt_26 ?_
        exact (l5 e2 e4 e5)
      · intro e6
        replace e6 : ¬ (s 2 r) = (-1) := e6
        refine r_iconst F_15_9 ?_
        refine r_goto (t := 14) F_15_10 rfl ?_
        refine r_zreturn F_15_14 rt_15 (Or.inr rfl) ?_
        show Rn _ _ _ _ _ [vI 1] _ _
        refine r_ifF (t := 22) F_14_15 rfl (by decide) (by show ¬ ((1 : Int) = 0); decide) ?_
        refine r_iconst F_14_18 ?_
        refine r_goto (t := 27) F_14_19 rfl ?_
        refine r_ireturn F_14_27 rt_14 ?_
        show Rn _ _ _ _ _ [vI 0] _ _
        refine r_stI_n (m := 2) (L' := [some (vR 0), some (vI r), some (vI 0), none]) F_26_9 rfl rfl ?_
        refine r_ldI_n (m := 2) F_26_10 rfl ?_
        refine r_ifT (t := 16) F_26_11 rfl (by decide) (by show (0 : Int) = 0; decide) ?_
        refine r_ldR_n (m := 0) F_26_16 rfl ?_
        refine r_getR (J := 0) F_26_17 o_26 fl_5_14 ty_0 (by decide) rfl (kd2 kd_0_0 (by decide)) (kd9 kd_0_0 (by decide)) rf_0_0 ?_
        refine r_ldI_n (m := 1) F_26_20 rfl ?_
        refine r_virt2 (A := [vI r]) (r := []) (n := 1) F_26_21 o_26 il_5_115 rfl rfl rfl rfl ty_1 vy_16 (lay_le n_16 rfl) ?_
        refine Cl_of n_16 rfl ?_
        show Rn _ _ _ _ [some (vR 1), some (vI r)] [] _ _
        refine r_ldR_n (m := 0) F_16_0 rfl ?_
        refine r_ldI_n (m := 1) F_16_1 rfl ?_
        refine r_virt2 (A := [vI r]) (r := []) (n := 1) F_16_2 o_16 il_3_32 rfl rfl rfl rfl ty_1 vy_9 (lay_le n_9 rfl) ?_
        refine Cl_of n_9 rfl ?_
        show Rn _ _ _ _ [some (vR 1), some (vI r)] [] _ _
        refine r_ldI_n (m := 1) F_9_0 rfl ?_
        refine r_ifF (t := 17) F_9_1 rfl l1 (Int.not_lt.mpr e2) ?_
        refine r_ldI_n (m := 1) F_9_4 rfl ?_
        refine r_ldR_n (m := 0) F_9_5 rfl ?_
        refine r_getR (J := 0) F_9_6 o_9 fl_3_19 ty_1 (by decide) rfl (kd2 kd_1_0 (by decide)) (kd9 kd_1_0 (by decide)) rf_1_0 ?_
        refine r_alen F_9_9 ty_2 (by decide) ln_2 ?_
        refine r_icmpF (t := 17) F_9_10 rfl l1 (by decide) (Int.not_le.mpr e4) ?_
        refine r_iconst F_9_13 ?_
        refine r_goto (t := 18) F_9_14 rfl ?_
        refine r_zreturn F_9_18 rt_9 (Or.inr rfl) ?_
        show Rn _ _ _ _ _ [vI 1] _ _
        refine r_ifF (t := 17) F_16_5 rfl (by decide) (by show ¬ ((1 : Int) = 0); decide) ?_
        refine r_ldR_n (m := 0) F_16_8 rfl ?_
        refine r_getR (J := 0) F_16_9 o_16 fl_3_19 ty_1 (by decide) rfl (kd2 kd_1_0 (by decide)) (kd9 kd_1_0 (by decide)) rf_1_0 ?_
        refine r_ldI_n (m := 1) F_16_12 rfl ?_
        refine r_iald (e := (s 2 r)) F_16_13 ty_2 e2 (lt_ln ln_2 e4) rfl ?_
        refine r_goto (t := 18) F_16_14 rfl ?_
        refine r_ireturn F_16_18 rt_16 ?_
        show Rn _ _ _ _ _ [vI (s 2 r)] _ _
        refine r_stI_n (m := 3) (L' := [some (vR 0), some (vI r), some (vI 0), some (vI (s 2 r))]) F_26_24 rfl rfl ?_
        refine r_ldI_n (m := 3) F_26_25 rfl ?_
        refine r_if (t := 35) F_26_26 rfl (l4 e2 e4) ?_ ?_
        · intro e7
          replace e7 : 0 < (s 2 r) := e7
          refine r_ldR_n (m := 0) F_26_35 rfl ?_
          refine r_ldR_n (m := 0) F_26_36 rfl ?_
          refine r_getR (J := 0) F_26_37 o_26 fl_5_14 ty_0 (by decide) rfl (kd2 kd_0_0 (by decide)) (kd9 kd_0_0 (by decide)) rf_0_0 ?_
          refine r_ldI_n (m := 1) F_26_40 rfl ?_
          refine r_virt2 (A := [vI r]) (r := [vR 0]) (n := 1) F_26_41 o_26 il_5_118 rfl rfl rfl rfl ty_1 vy_27 (lay_le n_27 rfl) ?_
          refine sp_sum1 e2 e4 e6 (l6 e2 e4 e6 e7) (l7 e2 e4 e6 e7) (l8 e2 e4 e6 e7) ?_
          show Rn _ _ _ _ _ [vJ (sm (s (4 + r)) (Int.toNat (s 2 r))), vR 0] _ _
          refine r_ldI_n (m := 3) F_26_44 rfl ?_
          refine r_i2l F_26_45 (l4 e2 e4) ?_
          refine r_ldivT F_26_46 (l9 e2 e4 e6 e7) (l10 e2 e4 e6 e7) e7 ?_
          refine r_l2i F_26_47 ?_
          refine r_virt2 (A := [vI (Int.tdiv (sm (s (4 + r)) (Int.toNat (s 2 r))) (s 2 r))]) (r := []) (n := 1) F_26_48 o_26 il_5_93 rfl rfl rfl rfl ty_0 vy_20 (lay_le n_20 rfl) ?_
          refine Cl_of n_20 rfl ?_
          show Rn _ _ _ _ [some (vR 0), some (vI (Int.tdiv (sm (s (4 + r)) (Int.toNat (s 2 r))) (s 2 r)))] [] _ _
          refine r_ldR_n (m := 0) F_20_0 rfl ?_
          refine r_ldI_n (m := 1) F_20_1 rfl ?_
          refine r_putI (J := 9) F_20_2 o_20 fl_5_60 ty_0 (by decide) rfl kd_0_9 pf_5_9 ?_
          refine r_iconst F_20_5 ?_
          refine r_ireturn F_20_6 rt_20 ?_
          show Rn _ _ _ _ _ [vI 1] _ _
          refine r_ireturn F_26_51 rt_26 ?_
          exact (l11 e2 e4 e6 e7)
        · intro e8
          replace e8 : (s 2 r) ≤ 0 := (Int.not_lt.mp e8)
          refine r_ldR_n (m := 0) F_26_29 rfl ?_
          refine r_iconst F_26_30 ?_
          refine r_virt2 (A := [vI 4]) (r := []) (n := 1) F_26_31 o_26 il_5_74 rfl rfl rfl rfl ty_0 vy_10 (lay_le n_10 rfl) ?_
          refine Cl_of n_10 rfl ?_
          show Rn _ _ _ _ [some (vR 0), some (vI 4)] [] _ _
          refine r_ldI_n (m := 1) F_10_0 rfl ?_
          refine r_iconst F_10_1 ?_
          refine r_icmpF (t := 25) F_10_2 rfl (by decide) (by decide) (by show ¬ ((4 : Int) < 1); decide) ?_
          refine r_ldI_n (m := 1) F_10_5 rfl ?_
          refine r_iconst F_10_6 ?_
          refine r_icmpF (t := 25) F_10_7 rfl (by decide) (by decide) (by show ¬ ((5 : Int) < 4); decide) ?_
          refine r_ldR_n (m := 0) F_10_10 rfl ?_
          refine r_ldI_n (m := 1) F_10_11 rfl ?_
          refine r_putI (J := 8) F_10_12 o_10 fl_5_56 ty_0 (by decide) rfl kd_0_8 pf_5_8 ?_
          refine r_ldR_n (m := 0) F_10_15 rfl ?_
          refine r_getR (J := 7) F_10_16 o_10 fl_5_52 ty_0 (by decide) rfl (kd2 kd_0_7 (by decide)) (kd9 kd_0_7 (by decide)) rf_0_7 ?_
          refine r_ldI_n (m := 1) F_10_19 rfl ?_
          refine r_dup2 F_10_20 ?_
          refine r_iald (e := (s 76 4)) F_10_21 ty_76 (by decide) (lt_ln ln_76 (by decide)) (upd_nc (by decide)) ?_
          refine r_iconst F_10_22 ?_
          refine r_iadd F_10_23 rfl ?_
          refine r_iast F_10_24 ty_76 (by decide) (lt_ln ln_76 (by decide)) ?_
          refine r_bipush F_10_25 bi__3 ?_
          refine r_ireturn F_10_27 rt_10 ?_
          show Rn _ _ _ _ _ [vI (-3)] _ _
          refine r_ireturn F_26_34 rt_26 ?_
          exact (l12 e2 e4 e6 e8)
theorem t_X5_text {X : List Int32} {d : Nat} {s : m_St} {P : Option Value → m_St → Prop} {t n : Int}
    (l1 : inR t)
    (l2 : t < 0 → P (some (vI (-1))) s)
    (l3 : 0 ≤ t → 4 ≤ t → P (some (vI (-1))) s)
    (l4 : 0 ≤ t → t < 4 → inR n)
    (l5 : 0 ≤ t → t < 4 → n ≤ 60 → 0 ≤ n → (s 10 2) = 60)
    (l6 : 0 ≤ t → t < 4 → n ≤ 60 → 0 ≤ n → P (some (vI n)) (fil (m_upd s 11 t n) (13 + t) n 32))
    (l7 : 0 ≤ t → t < 4 → n ≤ 60 → n < 0 → P (some (vI (-3))) (m_upd (m_upd s 0 8 5) 76 5 ((s 76 5) + 1)))
    (l8 : 0 ≤ t → t < 4 → 60 < n → P (some (vI (-1))) s)
    : Cl X (d + 2) 28 [vR 0, vI t, vI n] s P := by
  refine Cl_of n_28 rfl ?_
  show Rn _ _ _ _ [some (vR 0), some (vI t), some (vI n)] [] _ _
  refine r_ldR_n (m := 0) F_28_0 rfl ?_
  refine r_getR (J := 1) F_28_1 o_28 fl_5_18 ty_0 (by decide) rfl (kd2 kd_0_1 (by decide)) (kd9 kd_0_1 (by decide)) rf_0_1 ?_
  refine r_ldI_n (m := 1) F_28_4 rfl ?_
  refine r_virt2 (A := [vI t]) (r := []) (n := 1) F_28_5 o_28 il_5_70 rfl rfl rfl rfl ty_10 vy_9 (lay_le n_9 rfl) ?_
  refine Cl_of n_9 rfl ?_
  show Rn _ _ _ _ [some (vR 10), some (vI t)] [] _ _
  refine r_ldI_n (m := 1) F_9_0 rfl ?_
  refine r_if (t := 17) F_9_1 rfl l1 ?_ ?_
  · intro e1
    replace e1 : t < 0 := e1
    refine r_iconst F_9_17 ?_
    refine r_zreturn F_9_18 rt_9 (Or.inl rfl) ?_
    show Rn _ _ _ _ _ [vI 0] _ _
    refine r_ifT (t := 17) F_28_8 rfl (by decide) (by show (0 : Int) = 0; decide) ?_
    refine r_iconst F_28_17 ?_
    refine r_ireturn F_28_18 rt_28 ?_
    exact (l2 e1)
  · intro e2
    replace e2 : 0 ≤ t := (Int.not_lt.mp e2)
    refine r_ldI_n (m := 1) F_9_4 rfl ?_
    refine r_ldR_n (m := 0) F_9_5 rfl ?_
    refine r_getR (J := 0) F_9_6 o_9 fl_3_19 ty_10 (by decide) rfl (kd2 kd_10_0 (by decide)) (kd9 kd_10_0 (by decide)) rf_10_0 ?_
    refine r_alen F_9_9 ty_11 (by decide) ln_11 ?_
    refine r_icmp (t := 17) F_9_10 rfl l1 (by decide) ?_ ?_
    · intro e3
      replace e3 : 4 ≤ t := e3
      refine r_iconst F_9_17 ?_
      refine r_zreturn F_9_18 rt_9 (Or.inl rfl) ?_
      show Rn _ _ _ _ _ [vI 0] _ _
      refine r_ifT (t := 17) F_28_8 rfl (by decide) (by show (0 : Int) = 0; decide) ?_
      refine r_iconst F_28_17 ?_
      refine r_ireturn F_28_18 rt_28 ?_
      exact (l3 e2 e3)
    · intro e4
      replace e4 : t < 4 := (Int.not_le.mp e4)
      refine r_iconst F_9_13 ?_
      refine r_goto (t := 18) F_9_14 rfl ?_
      refine r_zreturn F_9_18 rt_9 (Or.inr rfl) ?_
      show Rn _ _ _ _ _ [vI 1] _ _
      refine r_ifF (t := 17) F_28_8 rfl (by decide) (by show ¬ ((1 : Int) = 0); decide) ?_
      refine r_ldI_n (m := 2) F_28_11 rfl ?_
      refine r_bipush F_28_12 bi_60 ?_
      refine r_icmp (t := 19) F_28_14 rfl (l4 e2 e4) (by decide) ?_ ?_
      · intro e5
        replace e5 : n ≤ 60 := e5
        refine r_ldI_n (m := 2) F_28_19 rfl ?_
        refine r_if (t := 29) F_28_20 rfl (l4 e2 e4) ?_ ?_
        · intro e6
          replace e6 : 0 ≤ n := e6
          refine r_ldR_n (m := 0) F_28_29 rfl ?_
          refine r_getR (J := 1) F_28_30 o_28 fl_5_18 ty_0 (by decide) rfl (kd2 kd_0_1 (by decide)) (kd9 kd_0_1 (by decide)) rf_0_1 ?_
          refine r_ldI_n (m := 1) F_28_33 rfl ?_
          refine r_ldI_n (m := 2) F_28_34 rfl ?_
          refine r_bipush F_28_35 bi_32 ?_
          refine r_virt2 (A := [vI t, vI n, vI 32]) (r := []) (n := 3) F_28_37 o_28 il_5_78 rfl rfl rfl rfl ty_10 vy_11 (lay_le n_11 rfl) ?_
          refine sp_make10 e2 e4 e6 e5 (l5 e2 e4 e5 e6) ?_
          show Rn _ _ _ _ _ [] _ _
          refine r_ldI_n (m := 2) F_28_40 rfl ?_
          refine r_ireturn F_28_41 rt_28 ?_
          exact (l6 e2 e4 e5 e6)
        · intro e7
          replace e7 : n < 0 := (Int.not_le.mp e7)
          refine r_ldR_n (m := 0) F_28_23 rfl ?_
          refine r_iconst F_28_24 ?_
          refine r_virt2 (A := [vI 5]) (r := []) (n := 1) F_28_25 o_28 il_5_74 rfl rfl rfl rfl ty_0 vy_10 (lay_le n_10 rfl) ?_
          refine Cl_of n_10 rfl ?_
          show Rn _ _ _ _ [some (vR 0), some (vI 5)] [] _ _
          refine r_ldI_n (m := 1) F_10_0 rfl ?_
          refine r_iconst F_10_1 ?_
          refine r_icmpF (t := 25) F_10_2 rfl (by decide) (by decide) (by show ¬ ((5 : Int) < 1); decide) ?_
          refine r_ldI_n (m := 1) F_10_5 rfl ?_
          refine r_iconst F_10_6 ?_
          refine r_icmpF (t := 25) F_10_7 rfl (by decide) (by decide) (by show ¬ ((5 : Int) < 5); decide) ?_
          refine r_ldR_n (m := 0) F_10_10 rfl ?_
          refine r_ldI_n (m := 1) F_10_11 rfl ?_
          refine r_putI (J := 8) F_10_12 o_10 fl_5_56 ty_0 (by decide) rfl kd_0_8 pf_5_8 ?_
          refine r_ldR_n (m := 0) F_10_15 rfl ?_
          refine r_getR (J := 7) F_10_16 o_10 fl_5_52 ty_0 (by decide) rfl (kd2 kd_0_7 (by decide)) (kd9 kd_0_7 (by decide)) rf_0_7 ?_
          refine r_ldI_n (m := 1) F_10_19 rfl ?_
          refine r_dup2 F_10_20 ?_
          refine r_iald (e := (s 76 5)) F_10_21 ty_76 (by decide) (lt_ln ln_76 (by decide)) (upd_nc (by decide)) ?_
          refine r_iconst F_10_22 ?_
          refine r_iadd F_10_23 rfl ?_
          refine r_iast F_10_24 ty_76 (by decide) (lt_ln ln_76 (by decide)) ?_
          refine r_bipush F_10_25 bi__3 ?_
          refine r_ireturn F_10_27 rt_10 ?_
          show Rn _ _ _ _ _ [vI (-3)] _ _
          refine r_ireturn F_28_28 rt_28 ?_
          exact (l7 e2 e4 e5 e7)
      · intro e8
        replace e8 : 60 < n := (Int.not_le.mp e8)
        refine r_iconst F_28_17 ?_
        refine r_ireturn F_28_18 rt_28 ?_
        exact (l8 e2 e4 e8)
theorem t_X5_put {X : List Int32} {d : Nat} {s : m_St} {P : Option Value → m_St → Prop} {t j v : Int}
    (l1 : inR t)
    (l2 : t < 0 → P (some (vI (-1))) s)
    (l3 : 0 ≤ t → 4 ≤ t → P (some (vI (-1))) s)
    (l4 : 0 ≤ t → t < 4 → inR (s 11 t))
    (l5 : 0 ≤ t → t < 4 → (s 11 t) = (-1) → P (some (vI (-3))) (m_upd (m_upd s 0 8 1) 76 1 ((s 76 1) + 1)))
    (l6 : 0 ≤ t → t < 4 → ¬ (s 11 t) = (-1) → inR j)
    (l7 : 0 ≤ t → t < 4 → ¬ (s 11 t) = (-1) → j < 0 → P (some (vI (-3))) (m_upd (m_upd s 0 8 2) 76 2 ((s 76 2) + 1)))
    (l8 : 0 ≤ t → t < 4 → ¬ (s 11 t) = (-1) → 0 ≤ j → inR ((s 11 t) - 1))
    (l9 : 0 ≤ t → t < 4 → ¬ (s 11 t) = (-1) → 0 ≤ j → ((s 11 t) - 1) < j → P (some (vI (-3))) (m_upd (m_upd s 0 8 2) 76 2 ((s 76 2) + 1)))
    (l10 : 0 ≤ t → t < 4 → ¬ (s 11 t) = (-1) → 0 ≤ j → j ≤ ((s 11 t) - 1) → j < (s 11 t))
    (l11 : 0 ≤ t → t < 4 → ¬ (s 11 t) = (-1) → 0 ≤ j → j ≤ ((s 11 t) - 1) → (s 11 t) ≤ 60)
    (l12 : 0 ≤ t → t < 4 → ¬ (s 11 t) = (-1) → 0 ≤ j → j ≤ ((s 11 t) - 1) → P (some (vI ((s (13 + t) j) + 1000))) (m_upd s (13 + t) j (i2B v)))
    : Cl X (d + 5) 29 [vR 0, vI t, vI j, vI v] s P := by
  refine Cl_of n_29 rfl ?_
  show Rn _ _ _ _ [some (vR 0), some (vI t), some (vI j), some (vI v), none, none] [] _ _
  refine r_ldR_n (m := 0) F_29_0 rfl ?_
  refine r_ldR_n (m := 0) F_29_1 rfl ?_
  refine r_getR (J := 1) F_29_2 o_29 fl_5_18 ty_0 (by decide) rfl (kd2 kd_0_1 (by decide)) (kd9 kd_0_1 (by decide)) rf_0_1 ?_
  refine r_ldI_n (m := 1) F_29_5 rfl ?_
  refine r_ldI_n (m := 2) F_29_6 rfl ?_
  refine r_virt2 (A := [vR 10, vI t, vI j]) (r := []) (n := 3) F_29_7 o_29 il_5_82 rfl rfl rfl rfl ty_0 vy_13 (lay_le n_13 rfl) ?_
  refine Cl_of n_13 rfl ?_
  show Rn _ _ _ _ [some (vR 0), some (vR 10), some (vI t), some (vI j), none] [] _ _
  refine r_ldR_n (m := 0) F_13_0 rfl ?_
  refine r_ldR_n (m := 1) F_13_1 rfl ?_
  refine r_ldI_n (m := 2) F_13_2 rfl ?_
  refine r_virt2 (A := [vR 10, vI t]) (r := []) (n := 2) F_13_3 o_13 il_5_96 rfl rfl rfl rfl ty_0 vy_14 (lay_le n_14 rfl) ?_
  refine Cl_of n_14 rfl ?_
  show Rn _ _ _ _ [some (vR 0), some (vR 10), some (vI t)] [] _ _
  refine r_ldR_n (m := 1) F_14_0 rfl ?_
  refine r_ldI_n (m := 2) F_14_1 rfl ?_
  refine r_virt2 (A := [vI t]) (r := []) (n := 1) F_14_2 o_14 il_5_70 rfl rfl rfl rfl ty_10 vy_9 (lay_le n_9 rfl) ?_
  refine Cl_of n_9 rfl ?_
  show Rn _ _ _ _ [some (vR 10), some (vI t)] [] _ _
  refine r_ldI_n (m := 1) F_9_0 rfl ?_
  refine r_if (t := 17) F_9_1 rfl l1 ?_ ?_
  · intro e1
    replace e1 : t < 0 := e1
    refine r_iconst F_9_17 ?_
    refine r_zreturn F_9_18 rt_9 (Or.inl rfl) ?_
    show Rn _ _ _ _ _ [vI 0] _ _
    refine r_ifF (t := 10) F_14_5 rfl (by decide) (by show ¬ (¬ (0 : Int) = 0); decide) ?_
    refine r_iconst F_14_8 ?_
    refine r_ireturn F_14_9 rt_14 ?_
    show Rn _ _ _ _ _ [vI (-1)] _ _
    refine r_stI (m := 4) (L' := [some (vR 0), some (vR 10), some (vI t), some (vI j), some (vI (-1))]) F_13_6 rfl rfl ?_
    refine r_ldI (m := 4) F_13_8 rfl ?_
    refine r_ifF (t := 16) F_13_10 rfl (by decide) (by show ¬ (((-1) : Int) = 0); decide) ?_
    refine r_ldI (m := 4) F_13_13 rfl ?_
    refine r_ireturn F_13_15 rt_13 ?_
    show Rn _ _ _ _ _ [vI (-1)] _ _
    refine r_stI (m := 4) (L' := [some (vR 0), some (vI t), some (vI j), some (vI v), some (vI (-1)), none]) F_29_10 rfl rfl ?_
    refine r_ldI (m := 4) F_29_12 rfl ?_
    refine r_ifF (t := 20) F_29_14 rfl (by decide) (by show ¬ (((-1) : Int) = 0); decide) ?_
    refine r_ldI (m := 4) F_29_17 rfl ?_
    refine r_ireturn F_29_19 rt_29 ?_
    exact (l2 e1)
  · intro e2
    replace e2 : 0 ≤ t := (Int.not_lt.mp e2)
    refine r_ldI_n (m := 1) F_9_4 rfl ?_
    refine r_ldR_n (m := 0) F_9_5 rfl ?_
    refine r_getR (J := 0) F_9_6 o_9 fl_3_19 ty_10 (by decide) rfl (kd2 kd_10_0 (by decide)) (kd9 kd_10_0 (by decide)) rf_10_0 ?_
    refine r_alen F_9_9 ty_11 (by decide) ln_11 ?_
    refine r_icmp (t := 17) F_9_10 rfl l1 (by decide) ?_ ?_
    · intro e3
      replace e3 : 4 ≤ t := e3
      refine r_iconst F_9_17 ?_
      refine r_zreturn F_9_18 rt_9 (Or.inl rfl) ?_
      show Rn _ _ _ _ _ [vI 0] _ _
      refine r_ifF (t := 10) F_14_5 rfl (by decide) (by show ¬ (¬ (0 : Int) = 0); decide) ?_
      refine r_iconst F_14_8 ?_
      refine r_ireturn F_14_9 rt_14 ?_
      show Rn _ _ _ _ _ [vI (-1)] _ _
      refine r_stI (m := 4) (L' := [some (vR 0), some (vR 10), some (vI t), some (vI j), some (vI (-1))]) F_13_6 rfl rfl ?_
      refine r_ldI (m := 4) F_13_8 rfl ?_
      refine r_ifF (t := 16) F_13_10 rfl (by decide) (by show ¬ (((-1) : Int) = 0); decide) ?_
      refine r_ldI (m := 4) F_13_13 rfl ?_
      refine r_ireturn F_13_15 rt_13 ?_
      show Rn _ _ _ _ _ [vI (-1)] _ _
      refine r_stI (m := 4) (L' := [some (vR 0), some (vI t), some (vI j), some (vI v), some (vI (-1)), none]) F_29_10 rfl rfl ?_
      refine r_ldI (m := 4) F_29_12 rfl ?_
      refine r_ifF (t := 20) F_29_14 rfl (by decide) (by show ¬ (((-1) : Int) = 0); decide) ?_
      refine r_ldI (m := 4) F_29_17 rfl ?_
      refine r_ireturn F_29_19 rt_29 ?_
      exact (l3 e2 e3)
    · intro e4
      replace e4 : t < 4 := (Int.not_le.mp e4)
      refine r_iconst F_9_13 ?_
      refine r_goto (t := 18) F_9_14 rfl ?_
      refine r_zreturn F_9_18 rt_9 (Or.inr rfl) ?_
      show Rn _ _ _ _ _ [vI 1] _ _
      refine r_ifT (t := 10) F_14_5 rfl (by decide) (by show ¬ (1 : Int) = 0; decide) ?_
      refine r_ldR_n (m := 1) F_14_10 rfl ?_
      refine r_ldI_n (m := 2) F_14_11 rfl ?_
      refine r_virt2 (A := [vI t]) (r := []) (n := 1) F_14_12 o_14 il_5_104 rfl rfl rfl rfl ty_10 vy_15 (lay_le n_15 rfl) ?_
      refine Cl_of n_15 rfl ?_
      show Rn _ _ _ _ [some (vR 10), some (vI t)] [] _ _
      refine r_ldR_n (m := 0) F_15_0 rfl ?_
      refine r_ldI_n (m := 1) F_15_1 rfl ?_
      refine r_virt2 (A := [vI t]) (r := []) (n := 1) F_15_2 o_15 il_3_28 rfl rfl rfl rfl ty_10 vy_16 (lay_le n_16 rfl) ?_
      refine Cl_of n_16 rfl ?_
      show Rn _ _ _ _ [some (vR 10), some (vI t)] [] _ _
      refine r_ldR_n (m := 0) F_16_0 rfl ?_
      refine r_ldI_n (m := 1) F_16_1 rfl ?_
      refine r_virt2 (A := [vI t]) (r := []) (n := 1) F_16_2 o_16 il_3_32 rfl rfl rfl rfl ty_10 vy_9 (lay_le n_9 rfl) ?_
      refine Cl_of n_9 rfl ?_
      show Rn _ _ _ _ [some (vR 10), some (vI t)] [] _ _
      refine r_ldI_n (m := 1) F_9_0 rfl ?_
      refine r_ifF (t := 17) F_9_1 rfl l1 (Int.not_lt.mpr e2) ?_
      refine r_ldI_n (m := 1) F_9_4 rfl ?_
      refine r_ldR_n (m := 0) F_9_5 rfl ?_
      refine r_getR (J := 0) F_9_6 o_9 fl_3_19 ty_10 (by decide) rfl (kd2 kd_10_0 (by decide)) (kd9 kd_10_0 (by decide)) rf_10_0 ?_
      refine r_alen F_9_9 ty_11 (by decide) ln_11 ?_
      refine r_icmpF (t := 17) F_9_10 rfl l1 (by decide) (Int.not_le.mpr e4) ?_
      refine r_iconst F_9_13 ?_
      refine r_goto (t := 18) F_9_14 rfl ?_
      refine r_zreturn F_9_18 rt_9 (Or.inr rfl) ?_
      show Rn _ _ _ _ _ [vI 1] _ _
      refine r_ifF (t := 17) F_16_5 rfl (by decide) (by show ¬ ((1 : Int) = 0); decide) ?_
      refine r_ldR_n (m := 0) F_16_8 rfl ?_
      refine r_getR (J := 0) F_16_9 o_16 fl_3_19 ty_10 (by decide) rfl (kd2 kd_10_0 (by decide)) (kd9 kd_10_0 (by decide)) rf_10_0 ?_
      refine r_ldI_n (m := 1) F_16_12 rfl ?_
      refine r_iald (e := (s 11 t)) F_16_13 ty_11 e2 (lt_ln ln_11 e4) rfl ?_
      refine r_goto (t := 18) F_16_14 rfl ?_
      refine r_ireturn F_16_18 rt_16 ?_
      show Rn _ _ _ _ _ [vI (s 11 t)] _ _
      refine r_iconst F_15_5 ?_
      refine r_icmp (t := 13) F_15_6 rfl (l4 e2 e4) (by decide) ?_ ?_
      · intro e5
        replace e5 : (s 11 t) = (-1) := e5
        refine r_iconst F_15_13 ?_
        refine r_zreturn F_15_14 rt_15 (Or.inl rfl) ?_
        show Rn _ _ _ _ _ [vI 0] _ _
        refine r_ifT (t := 22) F_14_15 rfl (by decide) (by show (0 : Int) = 0; decide) ?_
        refine r_ldR_n (m := 0) F_14_22 rfl ?_
        refine r_iconst F_14_23 ?_
        refine r_virt2 (A := [vI 1]) (r := []) (n := 1) F_14_24 o_14 il_5_74 rfl rfl rfl rfl ty_0 vy_10 (lay_le n_10 rfl) ?_
        refine Cl_of n_10 rfl ?_
        show Rn _ _ _ _ [some (vR 0), some (vI 1)] [] _ _
        refine r_ldI_n (m := 1) F_10_0 rfl ?_
        refine r_iconst F_10_1 ?_
        refine r_icmpF (t := 25) F_10_2 rfl (by decide) (by decide) (by show ¬ ((1 : Int) < 1); decide) ?_
        refine r_ldI_n (m := 1) F_10_5 rfl ?_
        refine r_iconst F_10_6 ?_
        refine r_icmpF (t := 25) F_10_7 rfl (by decide) (by decide) (by show ¬ ((5 : Int) < 1); decide) ?_
        refine r_ldR_n (m := 0) F_10_10 rfl ?_
        refine r_ldI_n (m := 1) F_10_11 rfl ?_
        refine r_putI (J := 8) F_10_12 o_10 fl_5_56 ty_0 (by decide) rfl kd_0_8 pf_5_8 ?_
        refine r_ldR_n (m := 0) F_10_15 rfl ?_
        refine r_getR (J := 7) F_10_16 o_10 fl_5_52 ty_0 (by decide) rfl (kd2 kd_0_7 (by decide)) (kd9 kd_0_7 (by decide)) rf_0_7 ?_
        refine r_ldI_n (m := 1) F_10_19 rfl ?_
        refine r_dup2 F_10_20 ?_
        refine r_iald (e := (s 76 1)) F_10_21 ty_76 (by decide) (lt_ln ln_76 (by decide)) (upd_nc (by decide)) ?_
        refine r_iconst F_10_22 ?_
        refine r_iadd F_10_23 rfl ?_
        refine r_iast F_10_24 ty_76 (by decide) (lt_ln ln_76 (by decide)) ?_
        refine r_bipush F_10_25 bi__3 ?_
        refine r_ireturn F_10_27 rt_10 ?_
        show Rn _ _ _ _ _ [vI (-3)] _ _
        refine r_ireturn F_14_27 rt_14 ?_
        show Rn _ _ _ _ _ [vI (-3)] _ _
        refine r_stI (m := 4) (L' := [some (vR 0), some (vR 10), some (vI t), some (vI j), some (vI (-3))]) F_13_6 rfl rfl ?_
        refine r_ldI (m := 4) F_13_8 rfl ?_
        refine r_ifF (t := 16) F_13_10 rfl (by decide) (by show ¬ (((-3) : Int) = 0); decide) ?_
        refine r_ldI (m := 4) F_13_13 rfl ?_
        refine r_ireturn F_13_15 rt_13 ?_
        show Rn _ _ _ _ _ [vI (-3)] _ _
        refine r_stI (m := 4) (L' := [some (vR 0), some (vI t), some (vI j), some (vI v), some (vI (-3)), none]) F_29_10 rfl rfl ?_
        refine r_ldI (m := 4) F_29_12 rfl ?_
        refine r_ifF (t := 20) F_29_14 rfl (by decide) (by show ¬ (((-3) : Int) = 0); decide) ?_
        refine r_ldI (m := 4) F_29_17 rfl ?_
        refine r_ireturn F_29_19 rt_29 ?_
        exact (l5 e2 e4 e5)
      · intro e6
        replace e6 : ¬ (s 11 t) = (-1) := e6
        refine r_iconst F_15_9 ?_
        refine r_goto (t := 14) F_15_10 rfl ?_
        refine r_zreturn F_15_14 rt_15 (Or.inr rfl) ?_
        show Rn _ _ _ _ _ [vI 1] _ _
        refine r_ifF (t := 22) F_14_15 rfl (by decide) (by show ¬ ((1 : Int) = 0); decide) ?_
        refine r_iconst F_14_18 ?_
        refine r_goto (t := 27) F_14_19 rfl ?_
        refine r_ireturn F_14_27 rt_14 ?_
        show Rn _ _ _ _ _ [vI 0] _ _
        refine r_stI (m := 4) (L' := [some (vR 0), some (vR 10), some (vI t), some (vI j), some (vI 0)]) F_13_6 rfl rfl ?_
        refine r_ldI (m := 4) F_13_8 rfl ?_
        refine r_ifT (t := 16) F_13_10 rfl (by decide) (by show (0 : Int) = 0; decide) ?_
        refine r_ldR_n (m := 1) F_13_16 rfl ?_
        refine r_ldI_n (m := 2) F_13_17 rfl ?_
        refine r_ldI_n (m := 3) F_13_18 rfl ?_
        refine r_iconst F_13_19 ?_
        refine r_virt2 (A := [vI t, vI j, vI 1]) (r := []) (n := 3) F_13_20 o_13 il_5_107 rfl rfl rfl rfl ty_10 vy_17 (lay_le n_17 rfl) ?_
        refine Cl_of n_17 rfl ?_
        show Rn _ _ _ _ [some (vR 10), some (vI t), some (vI j), some (vI 1)] [] _ _
        refine r_ldR_n (m := 0) F_17_0 rfl ?_
        refine r_ldI_n (m := 1) F_17_1 rfl ?_
        refine r_virt2 (A := [vI t]) (r := []) (n := 1) F_17_2 o_17 il_3_36 rfl rfl rfl rfl ty_10 vy_15 (lay_le n_15 rfl) ?_
        refine Cl_of n_15 rfl ?_
        show Rn _ _ _ _ [some (vR 10), some (vI t)] [] _ _
        refine r_ldR_n (m := 0) F_15_0 rfl ?_
        refine r_ldI_n (m := 1) F_15_1 rfl ?_
        refine r_virt2 (A := [vI t]) (r := []) (n := 1) F_15_2 o_15 il_3_28 rfl rfl rfl rfl ty_10 vy_16 (lay_le n_16 rfl) ?_
        refine Cl_of n_16 rfl ?_
        show Rn _ _ _ _ [some (vR 10), some (vI t)] [] _ _
        refine r_ldR_n (m := 0) F_16_0 rfl ?_
        refine r_ldI_n (m := 1) F_16_1 rfl ?_
        refine r_virt2 (A := [vI t]) (r := []) (n := 1) F_16_2 o_16 il_3_32 rfl rfl rfl rfl ty_10 vy_9 (lay_le n_9 rfl) ?_
        refine Cl_of n_9 rfl ?_
        show Rn _ _ _ _ [some (vR 10), some (vI t)] [] _ _
        refine r_ldI_n (m := 1) F_9_0 rfl ?_
        refine r_ifF (t := 17) F_9_1 rfl l1 (Int.not_lt.mpr e2) ?_
        refine r_ldI_n (m := 1) F_9_4 rfl ?_
        refine r_ldR_n (m := 0) F_9_5 rfl ?_
        refine r_getR (J := 0) F_9_6 o_9 fl_3_19 ty_10 (by decide) rfl (kd2 kd_10_0 (by decide)) (kd9 kd_10_0 (by decide)) rf_10_0 ?_
        refine r_alen F_9_9 ty_11 (by decide) ln_11 ?_
        refine r_icmpF (t := 17) F_9_10 rfl l1 (by decide) (Int.not_le.mpr e4) ?_
        refine r_iconst F_9_13 ?_
        refine r_goto (t := 18) F_9_14 rfl ?_
        refine r_zreturn F_9_18 rt_9 (Or.inr rfl) ?_
        show Rn _ _ _ _ _ [vI 1] _ _
        refine r_ifF (t := 17) F_16_5 rfl (by decide) (by show ¬ ((1 : Int) = 0); decide) ?_
        refine r_ldR_n (m := 0) F_16_8 rfl ?_
        refine r_getR (J := 0) F_16_9 o_16 fl_3_19 ty_10 (by decide) rfl (kd2 kd_10_0 (by decide)) (kd9 kd_10_0 (by decide)) rf_10_0 ?_
        refine r_ldI_n (m := 1) F_16_12 rfl ?_
        refine r_iald (e := (s 11 t)) F_16_13 ty_11 e2 (lt_ln ln_11 e4) rfl ?_
        refine r_goto (t := 18) F_16_14 rfl ?_
        refine r_ireturn F_16_18 rt_16 ?_
        show Rn _ _ _ _ _ [vI (s 11 t)] _ _
        refine r_iconst F_15_5 ?_
        refine r_icmpF (t := 13) F_15_6 rfl (l4 e2 e4) (by decide) e6 ?_
        refine r_iconst F_15_9 ?_
        refine r_goto (t := 14) F_15_10 rfl ?_
        refine r_zreturn F_15_14 rt_15 (Or.inr rfl) ?_
        show Rn _ _ _ _ _ [vI 1] _ _
        refine r_ifF (t := 31) F_17_5 rfl (by decide) (by show ¬ ((1 : Int) = 0); decide) ?_
        refine r_ldI_n (m := 2) F_17_8 rfl ?_
        refine r_if (t := 31) F_17_9 rfl (l6 e2 e4 e6) ?_ ?_
        · intro e7
          replace e7 : j < 0 := e7
          refine r_iconst F_17_31 ?_
          refine r_zreturn F_17_32 rt_17 (Or.inl rfl) ?_
          show Rn _ _ _ _ _ [vI 0] _ _
          refine r_ifT (t := 30) F_13_23 rfl (by decide) (by show (0 : Int) = 0; decide) ?_
          refine r_ldR_n (m := 0) F_13_30 rfl ?_
          refine r_iconst F_13_31 ?_
          refine r_virt2 (A := [vI 2]) (r := []) (n := 1) F_13_32 o_13 il_5_74 rfl rfl rfl rfl ty_0 vy_10 (lay_le n_10 rfl) ?_
          refine Cl_of n_10 rfl ?_
          show Rn _ _ _ _ [some (vR 0), some (vI 2)] [] _ _
          refine r_ldI_n (m := 1) F_10_0 rfl ?_
          refine r_iconst F_10_1 ?_
          refine r_icmpF (t := 25) F_10_2 rfl (by decide) (by decide) (by show ¬ ((2 : Int) < 1); decide) ?_
          refine r_ldI_n (m := 1) F_10_5 rfl ?_
          refine r_iconst F_10_6 ?_
          refine r_icmpF (t := 25) F_10_7 rfl (by decide) (by decide) (by show ¬ ((5 : Int) < 2); decide) ?_
          refine r_ldR_n (m := 0) F_10_10 rfl ?_
          refine r_ldI_n (m := 1) F_10_11 rfl ?_
          refine r_putI (J := 8) F_10_12 o_10 fl_5_56 ty_0 (by decide) rfl kd_0_8 pf_5_8 ?_
          refine r_ldR_n (m := 0) F_10_15 rfl ?_
          refine r_getR (J := 7) F_10_16 o_10 fl_5_52 ty_0 (by decide) rfl (kd2 kd_0_7 (by decide)) (kd9 kd_0_7 (by decide)) rf_0_7 ?_
          refine r_ldI_n (m := 1) F_10_19 rfl ?_
          refine r_dup2 F_10_20 ?_
          refine r_iald (e := (s 76 2)) F_10_21 ty_76 (by decide) (lt_ln ln_76 (by decide)) (upd_nc (by decide)) ?_
          refine r_iconst F_10_22 ?_
          refine r_iadd F_10_23 rfl ?_
          refine r_iast F_10_24 ty_76 (by decide) (lt_ln ln_76 (by decide)) ?_
          refine r_bipush F_10_25 bi__3 ?_
          refine r_ireturn F_10_27 rt_10 ?_
          show Rn _ _ _ _ _ [vI (-3)] _ _
          refine r_ireturn F_13_35 rt_13 ?_
          show Rn _ _ _ _ _ [vI (-3)] _ _
          refine r_stI (m := 4) (L' := [some (vR 0), some (vI t), some (vI j), some (vI v), some (vI (-3)), none]) F_29_10 rfl rfl ?_
          refine r_ldI (m := 4) F_29_12 rfl ?_
          refine r_ifF (t := 20) F_29_14 rfl (by decide) (by show ¬ (((-3) : Int) = 0); decide) ?_
          refine r_ldI (m := 4) F_29_17 rfl ?_
          refine r_ireturn F_29_19 rt_29 ?_
          exact (l7 e2 e4 e6 e7)
        · intro e8
          replace e8 : 0 ≤ j := (Int.not_lt.mp e8)
          refine r_ldI_n (m := 3) F_17_12 rfl ?_
          refine r_ifF (t := 31) F_17_13 rfl (by decide) (by show ¬ ((1 : Int) < 0); decide) ?_
          refine r_ldI_n (m := 2) F_17_16 rfl ?_
          refine r_ldR_n (m := 0) F_17_17 rfl ?_
          refine r_ldI_n (m := 1) F_17_18 rfl ?_
          refine r_virt2 (A := [vI t]) (r := [vI j]) (n := 1) F_17_19 o_17 il_3_28 rfl rfl rfl rfl ty_10 vy_16 (lay_le n_16 rfl) ?_
          refine Cl_of n_16 rfl ?_
          show Rn _ _ _ _ [some (vR 10), some (vI t)] [] _ _
          refine r_ldR_n (m := 0) F_16_0 rfl ?_
          refine r_ldI_n (m := 1) F_16_1 rfl ?_
          refine r_virt2 (A := [vI t]) (r := []) (n := 1) F_16_2 o_16 il_3_32 rfl rfl rfl rfl ty_10 vy_9 (lay_le n_9 rfl) ?_
          refine Cl_of n_9 rfl ?_
          show Rn _ _ _ _ [some (vR 10), some (vI t)] [] _ _
          refine r_ldI_n (m := 1) F_9_0 rfl ?_
          refine r_ifF (t := 17) F_9_1 rfl l1 (Int.not_lt.mpr e2) ?_
          refine r_ldI_n (m := 1) F_9_4 rfl ?_
          refine r_ldR_n (m := 0) F_9_5 rfl ?_
          refine r_getR (J := 0) F_9_6 o_9 fl_3_19 ty_10 (by decide) rfl (kd2 kd_10_0 (by decide)) (kd9 kd_10_0 (by decide)) rf_10_0 ?_
          refine r_alen F_9_9 ty_11 (by decide) ln_11 ?_
          refine r_icmpF (t := 17) F_9_10 rfl l1 (by decide) (Int.not_le.mpr e4) ?_
          refine r_iconst F_9_13 ?_
          refine r_goto (t := 18) F_9_14 rfl ?_
          refine r_zreturn F_9_18 rt_9 (Or.inr rfl) ?_
          show Rn _ _ _ _ _ [vI 1] _ _
          refine r_ifF (t := 17) F_16_5 rfl (by decide) (by show ¬ ((1 : Int) = 0); decide) ?_
          refine r_ldR_n (m := 0) F_16_8 rfl ?_
          refine r_getR (J := 0) F_16_9 o_16 fl_3_19 ty_10 (by decide) rfl (kd2 kd_10_0 (by decide)) (kd9 kd_10_0 (by decide)) rf_10_0 ?_
          refine r_ldI_n (m := 1) F_16_12 rfl ?_
          refine r_iald (e := (s 11 t)) F_16_13 ty_11 e2 (lt_ln ln_11 e4) rfl ?_
          refine r_goto (t := 18) F_16_14 rfl ?_
          refine r_ireturn F_16_18 rt_16 ?_
          show Rn _ _ _ _ _ [vI (s 11 t), vI j] _ _
          refine r_ldI_n (m := 3) F_17_22 rfl ?_
          refine r_isub F_17_23 rfl ?_
          refine r_icmp (t := 31) F_17_24 rfl (l6 e2 e4 e6) (l8 e2 e4 e6 e8) ?_ ?_
          · intro e9
            replace e9 : ((s 11 t) - 1) < j := e9
            refine r_iconst F_17_31 ?_
            refine r_zreturn F_17_32 rt_17 (Or.inl rfl) ?_
            show Rn _ _ _ _ _ [vI 0] _ _
            refine r_ifT (t := 30) F_13_23 rfl (by decide) (by show (0 : Int) = 0; decide) ?_
            refine r_ldR_n (m := 0) F_13_30 rfl ?_
            refine r_iconst F_13_31 ?_
            refine r_virt2 (A := [vI 2]) (r := []) (n := 1) F_13_32 o_13 il_5_74 rfl rfl rfl rfl ty_0 vy_10 (lay_le n_10 rfl) ?_
            refine Cl_of n_10 rfl ?_
            show Rn _ _ _ _ [some (vR 0), some (vI 2)] [] _ _
            refine r_ldI_n (m := 1) F_10_0 rfl ?_
            refine r_iconst F_10_1 ?_
            refine r_icmpF (t := 25) F_10_2 rfl (by decide) (by decide) (by show ¬ ((2 : Int) < 1); decide) ?_
            refine r_ldI_n (m := 1) F_10_5 rfl ?_
            refine r_iconst F_10_6 ?_
            refine r_icmpF (t := 25) F_10_7 rfl (by decide) (by decide) (by show ¬ ((5 : Int) < 2); decide) ?_
            refine r_ldR_n (m := 0) F_10_10 rfl ?_
            refine r_ldI_n (m := 1) F_10_11 rfl ?_
            refine r_putI (J := 8) F_10_12 o_10 fl_5_56 ty_0 (by decide) rfl kd_0_8 pf_5_8 ?_
            refine r_ldR_n (m := 0) F_10_15 rfl ?_
            refine r_getR (J := 7) F_10_16 o_10 fl_5_52 ty_0 (by decide) rfl (kd2 kd_0_7 (by decide)) (kd9 kd_0_7 (by decide)) rf_0_7 ?_
            refine r_ldI_n (m := 1) F_10_19 rfl ?_
            refine r_dup2 F_10_20 ?_
            refine r_iald (e := (s 76 2)) F_10_21 ty_76 (by decide) (lt_ln ln_76 (by decide)) (upd_nc (by decide)) ?_
            refine r_iconst F_10_22 ?_
            refine r_iadd F_10_23 rfl ?_
            refine r_iast F_10_24 ty_76 (by decide) (lt_ln ln_76 (by decide)) ?_
            refine r_bipush F_10_25 bi__3 ?_
            refine r_ireturn F_10_27 rt_10 ?_
            show Rn _ _ _ _ _ [vI (-3)] _ _
            refine r_ireturn F_13_35 rt_13 ?_
            show Rn _ _ _ _ _ [vI (-3)] _ _
            refine r_stI (m := 4) (L' := [some (vR 0), some (vI t), some (vI j), some (vI v), some (vI (-3)), none]) F_29_10 rfl rfl ?_
            refine r_ldI (m := 4) F_29_12 rfl ?_
            refine r_ifF (t := 20) F_29_14 rfl (by decide) (by show ¬ (((-3) : Int) = 0); decide) ?_
            refine r_ldI (m := 4) F_29_17 rfl ?_
            refine r_ireturn F_29_19 rt_29 ?_
            exact (l9 e2 e4 e6 e8 e9)
          · intro e10
            replace e10 : j ≤ ((s 11 t) - 1) := (Int.not_lt.mp e10)
            refine r_iconst F_17_27 ?_
            refine r_goto (t := 32) F_17_28 rfl ?_
            refine r_zreturn F_17_32 rt_17 (Or.inr rfl) ?_
            show Rn _ _ _ _ _ [vI 1] _ _
            refine r_ifF (t := 30) F_13_23 rfl (by decide) (by show ¬ ((1 : Int) = 0); decide) ?_
            refine r_iconst F_13_26 ?_
            refine r_goto (t := 35) F_13_27 rfl ?_
            refine r_ireturn F_13_35 rt_13 ?_
            show Rn _ _ _ _ _ [vI 0] _ _
            refine r_stI (m := 4) (L' := [some (vR 0), some (vI t), some (vI j), some (vI v), some (vI 0), none]) F_29_10 rfl rfl ?_
            refine r_ldI (m := 4) F_29_12 rfl ?_
            refine r_ifT (t := 20) F_29_14 rfl (by decide) (by show (0 : Int) = 0; decide) ?_
            refine r_ldR_n (m := 0) F_29_20 rfl ?_
            refine r_getR (J := 1) F_29_21 o_29 fl_5_18 ty_0 (by decide) rfl (kd2 kd_0_1 (by decide)) (kd9 kd_0_1 (by decide)) rf_0_1 ?_
            refine r_ldI_n (m := 1) F_29_24 rfl ?_
            refine r_ldI_n (m := 2) F_29_25 rfl ?_
            refine r_virt2 (A := [vI t, vI j]) (r := []) (n := 2) F_29_26 o_29 il_5_86 rfl rfl rfl rfl ty_10 vy_18 (lay_le n_18 rfl) ?_
            refine sp_get10 e2 e4 e8 (l10 e2 e4 e6 e8 e10) (l11 e2 e4 e6 e8 e10) ?_
            show Rn _ _ _ _ _ [vI (s (13 + t) j)] _ _
            refine r_stI (m := 5) (L' := [some (vR 0), some (vI t), some (vI j), some (vI v), some (vI 0), some (vI (s (13 + t) j))]) F_29_29 rfl rfl ?_
            refine r_ldR_n (m := 0) F_29_31 rfl ?_
            refine r_getR (J := 1) F_29_32 o_29 fl_5_18 ty_0 (by decide) rfl (kd2 kd_0_1 (by decide)) (kd9 kd_0_1 (by decide)) rf_0_1 ?_
            refine r_ldI_n (m := 1) F_29_35 rfl ?_
            refine r_ldI_n (m := 2) F_29_36 rfl ?_
            refine r_ldI_n (m := 3) F_29_37 rfl ?_
            refine r_i2b F_29_38 ?_
            refine r_virt2 (A := [vI t, vI j, vI (i2B v)]) (r := []) (n := 3) F_29_39 o_29 il_5_90 rfl rfl rfl rfl ty_10 vy_19 (lay_le n_19 rfl) ?_
            refine sp_set10 e2 e4 e8 (l10 e2 e4 e6 e8 e10) (l11 e2 e4 e6 e8 e10) ?_
            show Rn _ _ _ _ _ [] _ _
            refine r_ldI (m := 5) F_29_42 rfl ?_
            refine r_sipush F_29_44 si_1000 ?_
            refine r_iadd F_29_47 rfl ?_
            refine r_ireturn F_29_48 rt_29 ?_
            exact (l12 e2 e4 e6 e8 e10)
theorem t_X5_fault {X : List Int32} {d : Nat} {s : m_St} {P : Option Value → m_St → Prop} {t : Int}
    (l1 : inR t)
    (l2 : t < 0 → P (some (vI (-1))) s)
    (l3 : 0 ≤ t → 4 ≤ t → P (some (vI (-1))) s)
    (l4 : 0 ≤ t → t < 4 → inR (s 11 t))
    (l5 : 0 ≤ t → t < 4 → (s 11 t) = (-1) → P (some (vI (-3))) (m_upd (m_upd s 0 8 1) 76 1 ((s 76 1) + 1)))
    (l6 : 0 ≤ t → t < 4 → ¬ (s 11 t) = (-1) → tok (s 11 t) (s (13 + t)))
    (l7 : 0 ≤ t → t < 4 → ¬ (s 11 t) = (-1) → rgk s)
    (l8 : 0 ≤ t → t < 4 → ¬ (s 11 t) = (-1) → ∀ (v7 : Int) (s7 : m_St), qD s t v7 s7 → P (some (vI v7)) s7)
    : Cl X (d + 7) 30 [vR 0, vI t] s P := by
  refine Cl_of n_30 rfl ?_
  show Rn _ _ _ _ [some (vR 0), some (vI t), none] [] _ _
  refine r_ldR_n (m := 0) F_30_0 rfl ?_
  refine r_ldR_n (m := 0) F_30_1 rfl ?_
  refine r_getR (J := 1) F_30_2 o_30 fl_5_18 ty_0 (by decide) rfl (kd2 kd_0_1 (by decide)) (kd9 kd_0_1 (by decide)) rf_0_1 ?_
  refine r_ldI_n (m := 1) F_30_5 rfl ?_
  refine r_virt2 (A := [vR 10, vI t]) (r := []) (n := 2) F_30_6 o_30 il_5_96 rfl rfl rfl rfl ty_0 vy_14 (lay_le n_14 rfl) ?_
  refine Cl_of n_14 rfl ?_
  show Rn _ _ _ _ [some (vR 0), some (vR 10), some (vI t)] [] _ _
  refine r_ldR_n (m := 1) F_14_0 rfl ?_
  refine r_ldI_n (m := 2) F_14_1 rfl ?_
  refine r_virt2 (A := [vI t]) (r := []) (n := 1) F_14_2 o_14 il_5_70 rfl rfl rfl rfl ty_10 vy_9 (lay_le n_9 rfl) ?_
  refine Cl_of n_9 rfl ?_
  show Rn _ _ _ _ [some (vR 10), some (vI t)] [] _ _
  refine r_ldI_n (m := 1) F_9_0 rfl ?_
  refine r_if (t := 17) F_9_1 rfl l1 ?_ ?_
  · intro e1
    replace e1 : t < 0 := e1
    refine r_iconst F_9_17 ?_
    refine r_zreturn F_9_18 rt_9 (Or.inl rfl) ?_
    show Rn _ _ _ _ _ [vI 0] _ _
    refine r_ifF (t := 10) F_14_5 rfl (by decide) (by show ¬ (¬ (0 : Int) = 0); decide) ?_
    refine r_iconst F_14_8 ?_
    refine r_ireturn F_14_9 rt_14 ?_
    show Rn _ _ _ _ _ [vI (-1)] _ _
    refine r_stI_n (m := 2) (L' := [some (vR 0), some (vI t), some (vI (-1))]) F_30_9 rfl rfl ?_
    refine r_ldI_n (m := 2) F_30_10 rfl ?_
    refine r_ifF (t := 18) F_30_11 rfl (by decide) (by show ¬ (((-1) : Int) = 0); decide) ?_
    refine r_ldI_n (m := 2) F_30_14 rfl ?_
    refine r_goto (t := 30) F_30_15 rfl ?_
    refine r_ireturn F_30_30 rt_30 ?_
    exact (l2 e1)
  · intro e2
    replace e2 : 0 ≤ t := (Int.not_lt.mp e2)
    refine r_ldI_n (m := 1) F_9_4 rfl ?_
    refine r_ldR_n (m := 0) F_9_5 rfl ?_
    refine r_getR (J := 0) F_9_6 o_9 fl_3_19 ty_10 (by decide) rfl (kd2 kd_10_0 (by decide)) (kd9 kd_10_0 (by decide)) rf_10_0 ?_
    refine r_alen F_9_9 ty_11 (by decide) ln_11 ?_
    refine r_icmp (t := 17) F_9_10 rfl l1 (by decide) ?_ ?_
    · intro e3
      replace e3 : 4 ≤ t := e3
      refine r_iconst F_9_17 ?_
      refine r_zreturn F_9_18 rt_9 (Or.inl rfl) ?_
      show Rn _ _ _ _ _ [vI 0] _ _
      refine r_ifF (t := 10) F_14_5 rfl (by decide) (by show ¬ (¬ (0 : Int) = 0); decide) ?_
      refine r_iconst F_14_8 ?_
      refine r_ireturn F_14_9 rt_14 ?_
      show Rn _ _ _ _ _ [vI (-1)] _ _
      refine r_stI_n (m := 2) (L' := [some (vR 0), some (vI t), some (vI (-1))]) F_30_9 rfl rfl ?_
      refine r_ldI_n (m := 2) F_30_10 rfl ?_
      refine r_ifF (t := 18) F_30_11 rfl (by decide) (by show ¬ (((-1) : Int) = 0); decide) ?_
      refine r_ldI_n (m := 2) F_30_14 rfl ?_
      refine r_goto (t := 30) F_30_15 rfl ?_
      refine r_ireturn F_30_30 rt_30 ?_
      exact (l3 e2 e3)
    · intro e4
      replace e4 : t < 4 := (Int.not_le.mp e4)
      refine r_iconst F_9_13 ?_
      refine r_goto (t := 18) F_9_14 rfl ?_
      refine r_zreturn F_9_18 rt_9 (Or.inr rfl) ?_
      show Rn _ _ _ _ _ [vI 1] _ _
      refine r_ifT (t := 10) F_14_5 rfl (by decide) (by show ¬ (1 : Int) = 0; decide) ?_
      refine r_ldR_n (m := 1) F_14_10 rfl ?_
      refine r_ldI_n (m := 2) F_14_11 rfl ?_
      refine r_virt2 (A := [vI t]) (r := []) (n := 1) F_14_12 o_14 il_5_104 rfl rfl rfl rfl ty_10 vy_15 (lay_le n_15 rfl) ?_
      refine Cl_of n_15 rfl ?_
      show Rn _ _ _ _ [some (vR 10), some (vI t)] [] _ _
      refine r_ldR_n (m := 0) F_15_0 rfl ?_
      refine r_ldI_n (m := 1) F_15_1 rfl ?_
      refine r_virt2 (A := [vI t]) (r := []) (n := 1) F_15_2 o_15 il_3_28 rfl rfl rfl rfl ty_10 vy_16 (lay_le n_16 rfl) ?_
      refine Cl_of n_16 rfl ?_
      show Rn _ _ _ _ [some (vR 10), some (vI t)] [] _ _
      refine r_ldR_n (m := 0) F_16_0 rfl ?_
      refine r_ldI_n (m := 1) F_16_1 rfl ?_
      refine r_virt2 (A := [vI t]) (r := []) (n := 1) F_16_2 o_16 il_3_32 rfl rfl rfl rfl ty_10 vy_9 (lay_le n_9 rfl) ?_
      refine Cl_of n_9 rfl ?_
      show Rn _ _ _ _ [some (vR 10), some (vI t)] [] _ _
      refine r_ldI_n (m := 1) F_9_0 rfl ?_
      refine r_ifF (t := 17) F_9_1 rfl l1 (Int.not_lt.mpr e2) ?_
      refine r_ldI_n (m := 1) F_9_4 rfl ?_
      refine r_ldR_n (m := 0) F_9_5 rfl ?_
      refine r_getR (J := 0) F_9_6 o_9 fl_3_19 ty_10 (by decide) rfl (kd2 kd_10_0 (by decide)) (kd9 kd_10_0 (by decide)) rf_10_0 ?_
      refine r_alen F_9_9 ty_11 (by decide) ln_11 ?_
      refine r_icmpF (t := 17) F_9_10 rfl l1 (by decide) (Int.not_le.mpr e4) ?_
      refine r_iconst F_9_13 ?_
      refine r_goto (t := 18) F_9_14 rfl ?_
      refine r_zreturn F_9_18 rt_9 (Or.inr rfl) ?_
      show Rn _ _ _ _ _ [vI 1] _ _
      refine r_ifF (t := 17) F_16_5 rfl (by decide) (by show ¬ ((1 : Int) = 0); decide) ?_
      refine r_ldR_n (m := 0) F_16_8 rfl ?_
      refine r_getR (J := 0) F_16_9 o_16 fl_3_19 ty_10 (by decide) rfl (kd2 kd_10_0 (by decide)) (kd9 kd_10_0 (by decide)) rf_10_0 ?_
      refine r_ldI_n (m := 1) F_16_12 rfl ?_
      refine r_iald (e := (s 11 t)) F_16_13 ty_11 e2 (lt_ln ln_11 e4) rfl ?_
      refine r_goto (t := 18) F_16_14 rfl ?_
      refine r_ireturn F_16_18 rt_16 ?_
      show Rn _ _ _ _ _ [vI (s 11 t)] _ _
      refine r_iconst F_15_5 ?_
      refine r_icmp (t := 13) F_15_6 rfl (l4 e2 e4) (by decide) ?_ ?_
      · intro e5
        replace e5 : (s 11 t) = (-1) := e5
        refine r_iconst F_15_13 ?_
        refine r_zreturn F_15_14 rt_15 (Or.inl rfl) ?_
        show Rn _ _ _ _ _ [vI 0] _ _
        refine r_ifT (t := 22) F_14_15 rfl (by decide) (by show (0 : Int) = 0; decide) ?_
        refine r_ldR_n (m := 0) F_14_22 rfl ?_
        refine r_iconst F_14_23 ?_
        refine r_virt2 (A := [vI 1]) (r := []) (n := 1) F_14_24 o_14 il_5_74 rfl rfl rfl rfl ty_0 vy_10 (lay_le n_10 rfl) ?_
        refine Cl_of n_10 rfl ?_
        show Rn _ _ _ _ [some (vR 0), some (vI 1)] [] _ _
        refine r_ldI_n (m := 1) F_10_0 rfl ?_
        refine r_iconst F_10_1 ?_
        refine r_icmpF (t := 25) F_10_2 rfl (by decide) (by decide) (by show ¬ ((1 : Int) < 1); decide) ?_
        refine r_ldI_n (m := 1) F_10_5 rfl ?_
        refine r_iconst F_10_6 ?_
        refine r_icmpF (t := 25) F_10_7 rfl (by decide) (by decide) (by show ¬ ((5 : Int) < 1); decide) ?_
        refine r_ldR_n (m := 0) F_10_10 rfl ?_
        refine r_ldI_n (m := 1) F_10_11 rfl ?_
        refine r_putI (J := 8) F_10_12 o_10 fl_5_56 ty_0 (by decide) rfl kd_0_8 pf_5_8 ?_
        refine r_ldR_n (m := 0) F_10_15 rfl ?_
        refine r_getR (J := 7) F_10_16 o_10 fl_5_52 ty_0 (by decide) rfl (kd2 kd_0_7 (by decide)) (kd9 kd_0_7 (by decide)) rf_0_7 ?_
        refine r_ldI_n (m := 1) F_10_19 rfl ?_
        refine r_dup2 F_10_20 ?_
        refine r_iald (e := (s 76 1)) F_10_21 ty_76 (by decide) (lt_ln ln_76 (by decide)) (upd_nc (by decide)) ?_
        refine r_iconst F_10_22 ?_
        refine r_iadd F_10_23 rfl ?_
        refine r_iast F_10_24 ty_76 (by decide) (lt_ln ln_76 (by decide)) ?_
        refine r_bipush F_10_25 bi__3 ?_
        refine r_ireturn F_10_27 rt_10 ?_
        show Rn _ _ _ _ _ [vI (-3)] _ _
        refine r_ireturn F_14_27 rt_14 ?_
        show Rn _ _ _ _ _ [vI (-3)] _ _
        refine r_stI_n (m := 2) (L' := [some (vR 0), some (vI t), some (vI (-3))]) F_30_9 rfl rfl ?_
        refine r_ldI_n (m := 2) F_30_10 rfl ?_
        refine r_ifF (t := 18) F_30_11 rfl (by decide) (by show ¬ (((-3) : Int) = 0); decide) ?_
        refine r_ldI_n (m := 2) F_30_14 rfl ?_
        refine r_goto (t := 30) F_30_15 rfl ?_
        refine r_ireturn F_30_30 rt_30 ?_
        exact (l5 e2 e4 e5)
      · intro e6
        replace e6 : ¬ (s 11 t) = (-1) := e6
        refine r_iconst F_15_9 ?_
        refine r_goto (t := 14) F_15_10 rfl ?_
        refine r_zreturn F_15_14 rt_15 (Or.inr rfl) ?_
        show Rn _ _ _ _ _ [vI 1] _ _
        refine r_ifF (t := 22) F_14_15 rfl (by decide) (by show ¬ ((1 : Int) = 0); decide) ?_
        refine r_iconst F_14_18 ?_
        refine r_goto (t := 27) F_14_19 rfl ?_
        refine r_ireturn F_14_27 rt_14 ?_
        show Rn _ _ _ _ _ [vI 0] _ _
        refine r_stI_n (m := 2) (L' := [some (vR 0), some (vI t), some (vI 0)]) F_30_9 rfl rfl ?_
        refine r_ldI_n (m := 2) F_30_10 rfl ?_
        refine r_ifT (t := 18) F_30_11 rfl (by decide) (by show (0 : Int) = 0; decide) ?_
        refine r_ldR_n (m := 0) F_30_18 rfl ?_
        refine r_getR (J := 3) F_30_19 o_30 fl_5_27 ty_0 (by decide) rfl (kd2 kd_0_3 (by decide)) (kd9 kd_0_3 (by decide)) rf_0_3 ?_
        refine r_ldR_n (m := 0) F_30_22 rfl ?_
        refine r_getR (J := 1) F_30_23 o_30 fl_5_18 ty_0 (by decide) rfl (kd2 kd_0_1 (by decide)) (kd9 kd_0_1 (by decide)) rf_0_1 ?_
        refine r_ldI_n (m := 1) F_30_26 rfl ?_
        refine r_virt2 (A := [vR 10, vI t]) (r := []) (n := 2) F_30_27 o_30 il_5_122 rfl rfl rfl rfl ty_23 vy_31 (lay_le n_31 rfl) ?_
        refine sp_read e2 e4 (l6 e2 e4 e6) (l7 e2 e4 e6) ?_
        intro v7 s7 q7
        show Rn _ _ _ _ _ [vI v7] _ _
        refine r_ireturn F_30_30 rt_30 ?_
        exact (l8 e2 e4 e6 v7 s7 q7)
theorem t_X5_hut {X : List Int32} {d : Nat} {s : m_St} {P : Option Value → m_St → Prop} {t : Int}
    (l1 : inR t)
    (l2 : t < 0 → P (some (vI (-1))) s)
    (l3 : 0 ≤ t → 4 ≤ t → P (some (vI (-1))) s)
    (l4 : 0 ≤ t → t < 4 → inR (s 11 t))
    (l5 : 0 ≤ t → t < 4 → (s 11 t) = (-1) → P (some (vI (-3))) (m_upd (m_upd s 0 8 1) 76 1 ((s 76 1) + 1)))
    (l6 : 0 ≤ t → t < 4 → ¬ (s 11 t) = (-1) → tok (s 11 t) (s (13 + t)))
    (l7 : 0 ≤ t → t < 4 → ¬ (s 11 t) = (-1) → rgk s)
    (l8 : 0 ≤ t → t < 4 → ¬ (s 11 t) = (-1) → ∀ (v7 : Int) (s7 : m_St), qD s t v7 s7 → inR v7)
    (l9 : 0 ≤ t → t < 4 → ¬ (s 11 t) = (-1) → ∀ (v7 : Int) (s7 : m_St), qD s t v7 s7 → v7 = (-9) → rok s7)
    (l10 : 0 ≤ t → t < 4 → ¬ (s 11 t) = (-1) → ∀ (v7 : Int) (s7 : m_St), qD s t v7 s7 → v7 = (-9) → ∀ i, 0 ≤ i → i < 6 → gok s7 (44 + 4 * i))
    (l11 : 0 ≤ t → t < 4 → ¬ (s 11 t) = (-1) → ∀ (v7 : Int) (s7 : m_St), qD s t v7 s7 → v7 = (-9) → P (some (vI ((fil (ob s7) 18 3 (-1)) 38 3))) (fil (ob s7) 18 3 (-1)))
    (l12 : 0 ≤ t → t < 4 → ¬ (s 11 t) = (-1) → ∀ (v7 : Int) (s7 : m_St), qD s t v7 s7 → ¬ v7 = (-9) → P (some (vI (-4))) s7)
    : Cl X (d + 7) 47 [vR 0, vI t] s P := by
  refine Cl_of n_47 rfl ?_
  show Rn _ _ _ _ [some (vR 0), some (vI t), none] [] _ _
  refine r_ldR_n (m := 0) F_47_0 rfl ?_
  refine r_ldR_n (m := 0) F_47_1 rfl ?_
  refine r_getR (J := 1) F_47_2 o_47 fl_5_18 ty_0 (by decide) rfl (kd2 kd_0_1 (by decide)) (kd9 kd_0_1 (by decide)) rf_0_1 ?_
  refine r_ldI_n (m := 1) F_47_5 rfl ?_
  refine r_virt2 (A := [vR 10, vI t]) (r := []) (n := 2) F_47_6 o_47 il_5_96 rfl rfl rfl rfl ty_0 vy_14 (lay_le n_14 rfl) ?_
  refine Cl_of n_14 rfl ?_
  show Rn _ _ _ _ [some (vR 0), some (vR 10), some (vI t)] [] _ _
  refine r_ldR_n (m := 1) F_14_0 rfl ?_
  refine r_ldI_n (m := 2) F_14_1 rfl ?_
  refine r_virt2 (A := [vI t]) (r := []) (n := 1) F_14_2 o_14 il_5_70 rfl rfl rfl rfl ty_10 vy_9 (lay_le n_9 rfl) ?_
  refine Cl_of n_9 rfl ?_
  show Rn _ _ _ _ [some (vR 10), some (vI t)] [] _ _
  refine r_ldI_n (m := 1) F_9_0 rfl ?_
  refine r_if (t := 17) F_9_1 rfl l1 ?_ ?_
  · intro e1
    replace e1 : t < 0 := e1
    refine r_iconst F_9_17 ?_
    refine r_zreturn F_9_18 rt_9 (Or.inl rfl) ?_
    show Rn _ _ _ _ _ [vI 0] _ _
    refine r_ifF (t := 10) F_14_5 rfl (by decide) (by show ¬ (¬ (0 : Int) = 0); decide) ?_
    refine r_iconst F_14_8 ?_
    refine r_ireturn F_14_9 rt_14 ?_
    show Rn _ _ _ _ _ [vI (-1)] _ _
    refine r_stI_n (m := 2) (L' := [some (vR 0), some (vI t), some (vI (-1))]) F_47_9 rfl rfl ?_
    refine r_ldI_n (m := 2) F_47_10 rfl ?_
    refine r_ifF (t := 16) F_47_11 rfl (by decide) (by show ¬ (((-1) : Int) = 0); decide) ?_
    refine r_ldI_n (m := 2) F_47_14 rfl ?_
    refine r_ireturn F_47_15 rt_47 ?_
    exact (l2 e1)
  · intro e2
    replace e2 : 0 ≤ t := (Int.not_lt.mp e2)
    refine r_ldI_n (m := 1) F_9_4 rfl ?_
    refine r_ldR_n (m := 0) F_9_5 rfl ?_
    refine r_getR (J := 0) F_9_6 o_9 fl_3_19 ty_10 (by decide) rfl (kd2 kd_10_0 (by decide)) (kd9 kd_10_0 (by decide)) rf_10_0 ?_
    refine r_alen F_9_9 ty_11 (by decide) ln_11 ?_
    refine r_icmp (t := 17) F_9_10 rfl l1 (by decide) ?_ ?_
    · intro e3
      replace e3 : 4 ≤ t := e3
      refine r_iconst F_9_17 ?_
      refine r_zreturn F_9_18 rt_9 (Or.inl rfl) ?_
      show Rn _ _ _ _ _ [vI 0] _ _
      refine r_ifF (t := 10) F_14_5 rfl (by decide) (by show ¬ (¬ (0 : Int) = 0); decide) ?_
      refine r_iconst F_14_8 ?_
      refine r_ireturn F_14_9 rt_14 ?_
      show Rn _ _ _ _ _ [vI (-1)] _ _
      refine r_stI_n (m := 2) (L' := [some (vR 0), some (vI t), some (vI (-1))]) F_47_9 rfl rfl ?_
      refine r_ldI_n (m := 2) F_47_10 rfl ?_
      refine r_ifF (t := 16) F_47_11 rfl (by decide) (by show ¬ (((-1) : Int) = 0); decide) ?_
      refine r_ldI_n (m := 2) F_47_14 rfl ?_
      refine r_ireturn F_47_15 rt_47 ?_
      exact (l3 e2 e3)
    · intro e4
      replace e4 : t < 4 := (Int.not_le.mp e4)
      refine r_iconst F_9_13 ?_
      refine r_goto (t := 18) F_9_14 rfl ?_
      refine r_zreturn F_9_18 rt_9 (Or.inr rfl) ?_
      show Rn _ _ _ _ _ [vI 1] _ _
      refine r_ifT (t := 10) F_14_5 rfl (by decide) (by show ¬ (1 : Int) = 0; decide) ?_
      refine r_ldR_n (m := 1) F_14_10 rfl ?_
      refine r_ldI_n (m := 2) F_14_11 rfl ?_
      refine r_virt2 (A := [vI t]) (r := []) (n := 1) F_14_12 o_14 il_5_104 rfl rfl rfl rfl ty_10 vy_15 (lay_le n_15 rfl) ?_
      refine Cl_of n_15 rfl ?_
      show Rn _ _ _ _ [some (vR 10), some (vI t)] [] _ _
      refine r_ldR_n (m := 0) F_15_0 rfl ?_
      refine r_ldI_n (m := 1) F_15_1 rfl ?_
      refine r_virt2 (A := [vI t]) (r := []) (n := 1) F_15_2 o_15 il_3_28 rfl rfl rfl rfl ty_10 vy_16 (lay_le n_16 rfl) ?_
      refine Cl_of n_16 rfl ?_
      show Rn _ _ _ _ [some (vR 10), some (vI t)] [] _ _
      refine r_ldR_n (m := 0) F_16_0 rfl ?_
      refine r_ldI_n (m := 1) F_16_1 rfl ?_
      refine r_virt2 (A := [vI t]) (r := []) (n := 1) F_16_2 o_16 il_3_32 rfl rfl rfl rfl ty_10 vy_9 (lay_le n_9 rfl) ?_
      refine Cl_of n_9 rfl ?_
      show Rn _ _ _ _ [some (vR 10), some (vI t)] [] _ _
      refine r_ldI_n (m := 1) F_9_0 rfl ?_
      refine r_ifF (t := 17) F_9_1 rfl l1 (Int.not_lt.mpr e2) ?_
      refine r_ldI_n (m := 1) F_9_4 rfl ?_
      refine r_ldR_n (m := 0) F_9_5 rfl ?_
      refine r_getR (J := 0) F_9_6 o_9 fl_3_19 ty_10 (by decide) rfl (kd2 kd_10_0 (by decide)) (kd9 kd_10_0 (by decide)) rf_10_0 ?_
      refine r_alen F_9_9 ty_11 (by decide) ln_11 ?_
      refine r_icmpF (t := 17) F_9_10 rfl l1 (by decide) (Int.not_le.mpr e4) ?_
      refine r_iconst F_9_13 ?_
      refine r_goto (t := 18) F_9_14 rfl ?_
      refine r_zreturn F_9_18 rt_9 (Or.inr rfl) ?_
      show Rn _ _ _ _ _ [vI 1] _ _
      refine r_ifF (t := 17) F_16_5 rfl (by decide) (by show ¬ ((1 : Int) = 0); decide) ?_
      refine r_ldR_n (m := 0) F_16_8 rfl ?_
      refine r_getR (J := 0) F_16_9 o_16 fl_3_19 ty_10 (by decide) rfl (kd2 kd_10_0 (by decide)) (kd9 kd_10_0 (by decide)) rf_10_0 ?_
      refine r_ldI_n (m := 1) F_16_12 rfl ?_
      refine r_iald (e := (s 11 t)) F_16_13 ty_11 e2 (lt_ln ln_11 e4) rfl ?_
      refine r_goto (t := 18) F_16_14 rfl ?_
      refine r_ireturn F_16_18 rt_16 ?_
      show Rn _ _ _ _ _ [vI (s 11 t)] _ _
      refine r_iconst F_15_5 ?_
      refine r_icmp (t := 13) F_15_6 rfl (l4 e2 e4) (by decide) ?_ ?_
      · intro e5
        replace e5 : (s 11 t) = (-1) := e5
        refine r_iconst F_15_13 ?_
        refine r_zreturn F_15_14 rt_15 (Or.inl rfl) ?_
        show Rn _ _ _ _ _ [vI 0] _ _
        refine r_ifT (t := 22) F_14_15 rfl (by decide) (by show (0 : Int) = 0; decide) ?_
        refine r_ldR_n (m := 0) F_14_22 rfl ?_
        refine r_iconst F_14_23 ?_
        refine r_virt2 (A := [vI 1]) (r := []) (n := 1) F_14_24 o_14 il_5_74 rfl rfl rfl rfl ty_0 vy_10 (lay_le n_10 rfl) ?_
        refine Cl_of n_10 rfl ?_
        show Rn _ _ _ _ [some (vR 0), some (vI 1)] [] _ _
        refine r_ldI_n (m := 1) F_10_0 rfl ?_
        refine r_iconst F_10_1 ?_
        refine r_icmpF (t := 25) F_10_2 rfl (by decide) (by decide) (by show ¬ ((1 : Int) < 1); decide) ?_
        refine r_ldI_n (m := 1) F_10_5 rfl ?_
        refine r_iconst F_10_6 ?_
        refine r_icmpF (t := 25) F_10_7 rfl (by decide) (by decide) (by show ¬ ((5 : Int) < 1); decide) ?_
        refine r_ldR_n (m := 0) F_10_10 rfl ?_
        refine r_ldI_n (m := 1) F_10_11 rfl ?_
        refine r_putI (J := 8) F_10_12 o_10 fl_5_56 ty_0 (by decide) rfl kd_0_8 pf_5_8 ?_
        refine r_ldR_n (m := 0) F_10_15 rfl ?_
        refine r_getR (J := 7) F_10_16 o_10 fl_5_52 ty_0 (by decide) rfl (kd2 kd_0_7 (by decide)) (kd9 kd_0_7 (by decide)) rf_0_7 ?_
        refine r_ldI_n (m := 1) F_10_19 rfl ?_
        refine r_dup2 F_10_20 ?_
        refine r_iald (e := (s 76 1)) F_10_21 ty_76 (by decide) (lt_ln ln_76 (by decide)) (upd_nc (by decide)) ?_
        refine r_iconst F_10_22 ?_
        refine r_iadd F_10_23 rfl ?_
        refine r_iast F_10_24 ty_76 (by decide) (lt_ln ln_76 (by decide)) ?_
        refine r_bipush F_10_25 bi__3 ?_
        refine r_ireturn F_10_27 rt_10 ?_
        show Rn _ _ _ _ _ [vI (-3)] _ _
        refine r_ireturn F_14_27 rt_14 ?_
        show Rn _ _ _ _ _ [vI (-3)] _ _
        refine r_stI_n (m := 2) (L' := [some (vR 0), some (vI t), some (vI (-3))]) F_47_9 rfl rfl ?_
        refine r_ldI_n (m := 2) F_47_10 rfl ?_
        refine r_ifF (t := 16) F_47_11 rfl (by decide) (by show ¬ (((-3) : Int) = 0); decide) ?_
        refine r_ldI_n (m := 2) F_47_14 rfl ?_
        refine r_ireturn F_47_15 rt_47 ?_
        exact (l5 e2 e4 e5)
      · intro e6
        replace e6 : ¬ (s 11 t) = (-1) := e6
        refine r_iconst F_15_9 ?_
        refine r_goto (t := 14) F_15_10 rfl ?_
        refine r_zreturn F_15_14 rt_15 (Or.inr rfl) ?_
        show Rn _ _ _ _ _ [vI 1] _ _
        refine r_ifF (t := 22) F_14_15 rfl (by decide) (by show ¬ ((1 : Int) = 0); decide) ?_
        refine r_iconst F_14_18 ?_
        refine r_goto (t := 27) F_14_19 rfl ?_
        refine r_ireturn F_14_27 rt_14 ?_
        show Rn _ _ _ _ _ [vI 0] _ _
        refine r_stI_n (m := 2) (L' := [some (vR 0), some (vI t), some (vI 0)]) F_47_9 rfl rfl ?_
        refine r_ldI_n (m := 2) F_47_10 rfl ?_
        refine r_ifT (t := 16) F_47_11 rfl (by decide) (by show (0 : Int) = 0; decide) ?_
        refine r_ldR_n (m := 0) F_47_16 rfl ?_
        refine r_getR (J := 3) F_47_17 o_47 fl_5_27 ty_0 (by decide) rfl (kd2 kd_0_3 (by decide)) (kd9 kd_0_3 (by decide)) rf_0_3 ?_
        refine r_ldR_n (m := 0) F_47_20 rfl ?_
        refine r_getR (J := 1) F_47_21 o_47 fl_5_18 ty_0 (by decide) rfl (kd2 kd_0_1 (by decide)) (kd9 kd_0_1 (by decide)) rf_0_1 ?_
        refine r_ldI_n (m := 1) F_47_24 rfl ?_
        refine r_virt2 (A := [vR 10, vI t]) (r := []) (n := 2) F_47_25 o_47 il_5_122 rfl rfl rfl rfl ty_23 vy_31 (lay_le n_31 rfl) ?_
        refine sp_read e2 e4 (l6 e2 e4 e6) (l7 e2 e4 e6) ?_
        intro v7 s7 q7
        show Rn _ _ _ _ _ [vI v7] _ _
        refine r_bipush F_47_28 bi__9 ?_
        refine r_icmp (t := 36) F_47_30 rfl (l8 e2 e4 e6 v7 s7 q7) (by decide) ?_ ?_
        · intro e8
          replace e8 : v7 = (-9) := e8
          refine r_ldR_n (m := 0) F_47_36 rfl ?_
          refine r_getR (J := 4) F_47_37 o_47 fl_5_34 ty_0 (by decide) rfl (kd2 kd_0_4 (by decide)) (kd9 kd_0_4 (by decide)) rf_0_4 ?_
          refine r_ldR_n (m := 0) F_47_40 rfl ?_
          refine r_getR (J := 3) F_47_41 o_47 fl_5_27 ty_0 (by decide) rfl (kd2 kd_0_3 (by decide)) (kd9 kd_0_3 (by decide)) rf_0_3 ?_
          refine r_virt2 (A := [vR 23]) (r := []) (n := 1) F_47_44 o_47 il_5_125 rfl rfl rfl rfl ty_38 vy_48 (lay_le n_48 rfl) ?_
          refine sp_open (l9 e2 e4 e6 v7 s7 q7 e8) (l10 e2 e4 e6 v7 s7 q7 e8) ?_
          show Rn _ _ _ _ _ [] _ _
          refine r_ldR_n (m := 0) F_47_47 rfl ?_
          refine r_getR (J := 2) F_47_48 o_47 fl_5_21 ty_0 (by decide) rfl (kd2 kd_0_2 (by decide)) (kd9 kd_0_2 (by decide)) rf_0_2 ?_
          refine r_virt2 (A := []) (r := []) (n := 0) F_47_51 o_47 il_5_129 rfl rfl rfl rfl ty_17 vy_63 (lay_le n_63 rfl) ?_
          refine sp_dropAll17  ?_
          show Rn _ _ _ _ _ [] _ _
          refine r_ldR_n (m := 0) F_47_54 rfl ?_
          refine r_getR (J := 4) F_47_55 o_47 fl_5_34 ty_0 (by decide) rfl (kd2 kd_0_4 (by decide)) (kd9 kd_0_4 (by decide)) rf_0_4 ?_
          refine r_virt2 (A := []) (r := []) (n := 0) F_47_58 o_47 il_5_132 rfl rfl rfl rfl ty_38 vy_64 (lay_le n_64 rfl) ?_
          refine Cl_of n_64 rfl ?_
          show Rn _ _ _ _ [some (vR 38)] [] _ _
          refine r_ldR_n (m := 0) F_64_0 rfl ?_
          refine r_getI (J := 3) (e := ((fil (ob s7) 18 3 (-1)) 38 3)) F_64_1 o_64 fl_1_24 ty_38 (by decide) rfl kd_38_3 rfl ?_
          refine r_ireturn F_64_4 rt_64 ?_
          show Rn _ _ _ _ _ [vI ((fil (ob s7) 18 3 (-1)) 38 3)] _ _
          refine r_ireturn F_47_61 rt_47 ?_
          exact (l11 e2 e4 e6 v7 s7 q7 e8)
        · intro e9
          replace e9 : ¬ v7 = (-9) := e9
          refine r_bipush F_47_33 bi__4 ?_
          refine r_ireturn F_47_35 rt_47 ?_
          exact (l12 e2 e4 e6 v7 s7 q7 e9)
theorem t_X5_guest {X : List Int32} {d : Nat} {s : m_St} {P : Option Value → m_St → Prop} {i w : Int}
    (l1 : inR i)
    (l2 : i < 0 → P (some (vI (-1))) s)
    (l3 : 0 ≤ i → inR (s 38 3))
    (l4 : 0 ≤ i → (s 38 3) ≤ i → P (some (vI (-1))) s)
    (l5 : 0 ≤ i → i < (s 38 3) → inR w)
    (l6 : 0 ≤ i → i < (s 38 3) → w < 0 → P (some (vI (-1))) s)
    (l7 : 0 ≤ i → i < (s 38 3) → 0 ≤ w → w < 7 → 6 ≤ i → w = 0 → P (some (vI 1)) (m_upd s 0 9 (s 44 1)))
    (l8 : 0 ≤ i → i < (s 38 3) → 0 ≤ w → w < 7 → 6 ≤ i → w = 5 → P (some (vI 1)) (m_upd s 0 9 (s 44 2)))
    (l9 : 0 ≤ i → i < (s 38 3) → 0 ≤ w → w < 7 → 6 ≤ i → w = 6 → inR (s 38 7))
    (l10 : 0 ≤ i → i < (s 38 3) → 0 ≤ w → w < 7 → 6 ≤ i → w = 6 → ¬ i = (s 38 7) → inR (s 38 8))
    (l11 : 0 ≤ i → i < (s 38 3) → 0 ≤ w → w < 7 → 6 ≤ i → w = 6 → ¬ i = (s 38 7) → ¬ i = (s 38 8) → P (some (vI 1)) (m_upd s 0 9 0))
    (l12 : 0 ≤ i → i < (s 38 3) → 0 ≤ w → w < 7 → 6 ≤ i → w = 6 → ¬ i = (s 38 7) → i = (s 38 8) → P (some (vI 1)) (m_upd s 0 9 2))
    (l13 : 0 ≤ i → i < (s 38 3) → 0 ≤ w → w < 7 → 6 ≤ i → w = 6 → i = (s 38 7) → P (some (vI 1)) (m_upd s 0 9 1))
    (l14 : 0 ≤ i → i < (s 38 3) → 0 ≤ w → w < 7 → 6 ≤ i → (¬ w = 0 ∧ ¬ w = 5 ∧ ¬ w = 6) → inR (w - 1))
    (l15 : 0 ≤ i → i < (s 38 3) → 0 ≤ w → w < 7 → 6 ≤ i → (¬ w = 0 ∧ ¬ w = 5 ∧ ¬ w = 6) → (w - 1) < 0 → P (some (vI 1)) (m_upd s 0 9 0))
    (l16 : 0 ≤ i → i < (s 38 3) → 0 ≤ w → w < 7 → 6 ≤ i → (¬ w = 0 ∧ ¬ w = 5 ∧ ¬ w = 6) → 0 ≤ (w - 1) → 4 ≤ (w - 1) → P (some (vI 1)) (m_upd s 0 9 0))
    (l17 : 0 ≤ i → i < (s 38 3) → 0 ≤ w → w < 7 → 6 ≤ i → (¬ w = 0 ∧ ¬ w = 5 ∧ ¬ w = 6) → 0 ≤ (w - 1) → (w - 1) < 4 → P (some (vI 1)) (m_upd s 0 9 (s 45 (w - 1))))
    (l18 : 0 ≤ i → i < (s 38 3) → 0 ≤ w → w < 7 → i < 6 → w = 0 → P (some (vI 1)) (m_upd s 0 9 (s (44 + 4 * i) 1)))
    (l19 : 0 ≤ i → i < (s 38 3) → 0 ≤ w → w < 7 → i < 6 → w = 5 → P (some (vI 1)) (m_upd s 0 9 (s (44 + 4 * i) 2)))
    (l20 : 0 ≤ i → i < (s 38 3) → 0 ≤ w → w < 7 → i < 6 → w = 6 → inR (s 38 7))
    (l21 : 0 ≤ i → i < (s 38 3) → 0 ≤ w → w < 7 → i < 6 → w = 6 → ¬ i = (s 38 7) → inR (s 38 8))
    (l22 : 0 ≤ i → i < (s 38 3) → 0 ≤ w → w < 7 → i < 6 → w = 6 → ¬ i = (s 38 7) → ¬ i = (s 38 8) → P (some (vI 1)) (m_upd s 0 9 0))
    (l23 : 0 ≤ i → i < (s 38 3) → 0 ≤ w → w < 7 → i < 6 → w = 6 → ¬ i = (s 38 7) → i = (s 38 8) → P (some (vI 1)) (m_upd s 0 9 2))
    (l24 : 0 ≤ i → i < (s 38 3) → 0 ≤ w → w < 7 → i < 6 → w = 6 → i = (s 38 7) → P (some (vI 1)) (m_upd s 0 9 1))
    (l25 : 0 ≤ i → i < (s 38 3) → 0 ≤ w → w < 7 → i < 6 → (¬ w = 0 ∧ ¬ w = 5 ∧ ¬ w = 6) → inR (w - 1))
    (l26 : 0 ≤ i → i < (s 38 3) → 0 ≤ w → w < 7 → i < 6 → (¬ w = 0 ∧ ¬ w = 5 ∧ ¬ w = 6) → (w - 1) < 0 → P (some (vI 1)) (m_upd s 0 9 0))
    (l27 : 0 ≤ i → i < (s 38 3) → 0 ≤ w → w < 7 → i < 6 → (¬ w = 0 ∧ ¬ w = 5 ∧ ¬ w = 6) → 0 ≤ (w - 1) → 4 ≤ (w - 1) → P (some (vI 1)) (m_upd s 0 9 0))
    (l28 : 0 ≤ i → i < (s 38 3) → 0 ≤ w → w < 7 → i < 6 → (¬ w = 0 ∧ ¬ w = 5 ∧ ¬ w = 6) → 0 ≤ (w - 1) → (w - 1) < 4 → P (some (vI 1)) (m_upd s 0 9 (s ((44 + 4 * i) + 1) (w - 1))))
    (l29 : 0 ≤ i → i < (s 38 3) → 0 ≤ w → 7 ≤ w → P (some (vI (-1))) s)
    : Cl X (d + 3) 65 [vR 0, vI i, vI w] s P := by
  refine Cl_of n_65 rfl ?_
  show Rn _ _ _ _ [some (vR 0), some (vI i), some (vI w)] [] _ _
  refine r_ldR_n (m := 0) F_65_0 rfl ?_
  refine r_getR (J := 4) F_65_1 o_65 fl_5_34 ty_0 (by decide) rfl (kd2 kd_0_4 (by decide)) (kd9 kd_0_4 (by decide)) rf_0_4 ?_
  refine r_ldI_n (m := 1) F_65_4 rfl ?_
  refine r_virt2 (A := [vI i]) (r := []) (n := 1) F_65_5 o_65 il_5_136 rfl rfl rfl rfl ty_38 vy_66 (lay_le n_66 rfl) ?_
  refine Cl_of n_66 rfl ?_
  show Rn _ _ _ _ [some (vR 38), some (vI i)] [] _ _
  refine r_ldI_n (m := 1) F_66_0 rfl ?_
  refine r_if (t := 16) F_66_1 rfl l1 ?_ ?_
  · intro e1
    replace e1 : i < 0 := e1
    refine r_iconst F_66_16 ?_
    refine r_zreturn F_66_17 rt_66 (Or.inl rfl) ?_
    show Rn _ _ _ _ _ [vI 0] _ _
    refine r_ifT (t := 21) F_65_8 rfl (by decide) (by show (0 : Int) = 0; decide) ?_
    refine r_iconst F_65_21 ?_
    refine r_ireturn F_65_22 rt_65 ?_
    exact (l2 e1)
  · intro e2
    replace e2 : 0 ≤ i := (Int.not_lt.mp e2)
    refine r_ldI_n (m := 1) F_66_4 rfl ?_
    refine r_ldR_n (m := 0) F_66_5 rfl ?_
    refine r_getI (J := 3) (e := (s 38 3)) F_66_6 o_66 fl_1_24 ty_38 (by decide) rfl kd_38_3 rfl ?_
    refine r_icmp (t := 16) F_66_9 rfl l1 (l3 e2) ?_ ?_
    · intro e3
      replace e3 : (s 38 3) ≤ i := e3
      refine r_iconst F_66_16 ?_
      refine r_zreturn F_66_17 rt_66 (Or.inl rfl) ?_
      show Rn _ _ _ _ _ [vI 0] _ _
      refine r_ifT (t := 21) F_65_8 rfl (by decide) (by show (0 : Int) = 0; decide) ?_
      refine r_iconst F_65_21 ?_
      refine r_ireturn F_65_22 rt_65 ?_
      exact (l4 e2 e3)
    · intro e4
      replace e4 : i < (s 38 3) := (Int.not_le.mp e4)
      refine r_iconst F_66_12 ?_
      refine r_goto (t := 17) F_66_13 rfl ?_
      refine r_zreturn F_66_17 rt_66 (Or.inr rfl) ?_
      show Rn _ _ _ _ _ [vI 1] _ _
      refine r_ifF (t := 21) F_65_8 rfl (by decide) (by show ¬ ((1 : Int) = 0); decide) ?_
      refine r_ldI_n (m := 2) F_65_11 rfl ?_
      refine r_if (t := 21) F_65_12 rfl (l5 e2 e4) ?_ ?_
      · intro e5
        replace e5 : w < 0 := e5
        refine r_iconst F_65_21 ?_
        refine r_ireturn F_65_22 rt_65 ?_
        exact (l6 e2 e4 e5)
      · intro e6
        replace e6 : 0 ≤ w := (Int.not_lt.mp e6)
        refine r_ldI_n (m := 2) F_65_15 rfl ?_
        refine r_bipush F_65_16 bi_7 ?_
        refine r_icmp (t := 23) F_65_18 rfl (l5 e2 e4) (by decide) ?_ ?_
        · intro e7
          replace e7 : w < 7 := e7
          refine r_ldR_n (m := 0) F_65_23 rfl ?_
          refine r_ldR_n (m := 0) F_65_24 rfl ?_
          refine r_getR (J := 4) F_65_25 o_65 fl_5_34 ty_0 (by decide) rfl (kd2 kd_0_4 (by decide)) (kd9 kd_0_4 (by decide)) rf_0_4 ?_
          refine r_ldI_n (m := 1) F_65_28 rfl ?_
          refine r_ldI_n (m := 2) F_65_29 rfl ?_
          refine r_virt2 (A := [vI i, vI w]) (r := [vR 0]) (n := 2) F_65_30 o_65 il_5_139 rfl rfl rfl rfl ty_38 vy_67 (lay_le n_67 rfl) ?_
          refine Cl_of n_67 rfl ?_
          show Rn _ _ _ _ [some (vR 38), some (vI i), some (vI w), none] [] _ _
          refine r_ldR_n (m := 0) F_67_0 rfl ?_
          refine r_ldI_n (m := 1) F_67_1 rfl ?_
          refine r_virt2 (A := [vI i]) (r := []) (n := 1) F_67_2 o_67 il_1_107 rfl rfl rfl rfl ty_38 vy_58 (lay_le n_58 rfl) ?_
          refine Cl_of n_58 rfl ?_
          show Rn _ _ _ _ [some (vR 38), some (vI i)] [] _ _
          refine r_ldR_n (m := 0) F_58_0 rfl ?_
          refine r_getR (J := 1) F_58_1 o_58 fl_1_17 ty_38 (by decide) rfl (kd2 kd_38_1 (by decide)) (kd9 kd_38_1 (by decide)) rf_38_1 ?_
          refine r_ldI_n (m := 1) F_58_4 rfl ?_
          refine r_ifF (t := 18) F_58_5 rfl l1 (Int.not_lt.mpr e2) ?_
          refine r_ldI_n (m := 1) F_58_8 rfl ?_
          refine r_bipush F_58_9 bi_6 ?_
          refine r_icmp (t := 18) F_58_11 rfl l1 (by decide) ?_ ?_
          · intro e8
            replace e8 : 6 ≤ i := e8
            refine r_iconst F_58_18 ?_
            refine r_aald F_58_19 ty_40 (by decide) (by decide) (lt_ln ln_40 (by decide)) rf_40_0 ?_
            refine r_areturn F_58_20 rob_58 ?_
            show Rn _ _ _ _ _ [vR 44] _ _
            refine r_stR_n (m := 3) (L' := [some (vR 38), some (vI i), some (vI w), some (vR 44)]) F_67_5 rfl rfl ?_
            refine r_ldI_n (m := 2) F_67_6 rfl ?_
            rcases (show w = 0 ∨ w = 5 ∨ w = 6 ∨ (¬ w = 0 ∧ ¬ w = 5 ∧ ¬ w = 6) by omega) with hh | hh | hh | hh
            · have e9 := hh
              refine r_lsw (t := 40) (z := 33) F_67_7 (l5 e2 e4) (by decide) (by rw [hh]; rfl) rfl ?_
              refine r_ldR_n (m := 3) F_67_40 rfl ?_
              refine r_virt2 (A := []) (r := []) (n := 0) F_67_41 o_67 il_1_68 rfl rfl rfl rfl ty_44 vy_52 (lay_le n_52 rfl) ?_
              refine Cl_of n_52 rfl ?_
              show Rn _ _ _ _ [some (vR 44)] [] _ _
              refine r_ldR_n (m := 0) F_52_0 rfl ?_
              refine r_getI (J := 1) (e := (s 44 1)) F_52_1 o_52 fl_0_15 ty_44 (by decide) rfl kd_44_1 rfl ?_
              refine r_ireturn F_52_4 rt_52 ?_
              show Rn _ _ _ _ _ [vI (s 44 1)] _ _
              refine r_ireturn F_67_44 rt_67 ?_
              show Rn _ _ _ _ _ [vI (s 44 1), vR 0] _ _
              refine r_virt2 (A := [vI (s 44 1)]) (r := []) (n := 1) F_65_33 o_65 il_5_93 rfl rfl rfl rfl ty_0 vy_20 (lay_le n_20 rfl) ?_
              refine Cl_of n_20 rfl ?_
              show Rn _ _ _ _ [some (vR 0), some (vI (s 44 1))] [] _ _
              refine r_ldR_n (m := 0) F_20_0 rfl ?_
              refine r_ldI_n (m := 1) F_20_1 rfl ?_
              refine r_putI (J := 9) F_20_2 o_20 fl_5_60 ty_0 (by decide) rfl kd_0_9 pf_5_9 ?_
              refine r_iconst F_20_5 ?_
              refine r_ireturn F_20_6 rt_20 ?_
              show Rn _ _ _ _ _ [vI 1] _ _
              refine r_ireturn F_65_36 rt_65 ?_
              exact (l7 e2 e4 e6 e7 e8 e9)
            · have e10 := hh
              refine r_lsw (t := 45) (z := 38) F_67_7 (l5 e2 e4) (by decide) (by rw [hh]; rfl) rfl ?_
              refine r_ldR_n (m := 3) F_67_45 rfl ?_
              refine r_virt2 (A := []) (r := []) (n := 0) F_67_46 o_67 il_1_108 rfl rfl rfl rfl ty_44 vy_68 (lay_le n_68 rfl) ?_
              refine Cl_of n_68 rfl ?_
              show Rn _ _ _ _ [some (vR 44)] [] _ _
              refine r_ldR_n (m := 0) F_68_0 rfl ?_
              refine r_getI (J := 2) (e := (s 44 2)) F_68_1 o_68 fl_0_19 ty_44 (by decide) rfl kd_44_2 rfl ?_
              refine r_ireturn F_68_4 rt_68 ?_
              show Rn _ _ _ _ _ [vI (s 44 2)] _ _
              refine r_ireturn F_67_49 rt_67 ?_
              show Rn _ _ _ _ _ [vI (s 44 2), vR 0] _ _
              refine r_virt2 (A := [vI (s 44 2)]) (r := []) (n := 1) F_65_33 o_65 il_5_93 rfl rfl rfl rfl ty_0 vy_20 (lay_le n_20 rfl) ?_
              refine Cl_of n_20 rfl ?_
              show Rn _ _ _ _ [some (vR 0), some (vI (s 44 2))] [] _ _
              refine r_ldR_n (m := 0) F_20_0 rfl ?_
              refine r_ldI_n (m := 1) F_20_1 rfl ?_
              refine r_putI (J := 9) F_20_2 o_20 fl_5_60 ty_0 (by decide) rfl kd_0_9 pf_5_9 ?_
              refine r_iconst F_20_5 ?_
              refine r_ireturn F_20_6 rt_20 ?_
              show Rn _ _ _ _ _ [vI 1] _ _
              refine r_ireturn F_65_36 rt_65 ?_
              exact (l8 e2 e4 e6 e7 e8 e10)
            · have e11 := hh
              refine r_lsw (t := 50) (z := 43) F_67_7 (l5 e2 e4) (by decide) (by rw [hh]; rfl) rfl ?_
              refine r_ldI_n (m := 1) F_67_50 rfl ?_
              refine r_ldR_n (m := 0) F_67_51 rfl ?_
              refine r_getI (J := 7) (e := (s 38 7)) F_67_52 o_67 fl_1_37 ty_38 (by decide) rfl kd_38_7 rfl ?_
              refine r_icmp (t := 62) F_67_55 rfl l1 (l9 e2 e4 e6 e7 e8 e11) ?_ ?_
              · intro e12
                replace e12 : ¬ i = (s 38 7) := e12
                refine r_ldI_n (m := 1) F_67_62 rfl ?_
                refine r_ldR_n (m := 0) F_67_63 rfl ?_
                refine r_getI (J := 8) (e := (s 38 8)) F_67_64 o_67 fl_1_40 ty_38 (by decide) rfl kd_38_8 rfl ?_
                refine r_icmp (t := 74) F_67_67 rfl l1 (l10 e2 e4 e6 e7 e8 e11 e12) ?_ ?_
                · intro e13
                  replace e13 : ¬ i = (s 38 8) := e13
                  refine r_iconst F_67_74 ?_
                  refine r_ireturn F_67_75 rt_67 ?_
                  show Rn _ _ _ _ _ [vI 0, vR 0] _ _
                  refine r_virt2 (A := [vI 0]) (r := []) (n := 1) F_65_33 o_65 il_5_93 rfl rfl rfl rfl ty_0 vy_20 (lay_le n_20 rfl) ?_
                  refine Cl_of n_20 rfl ?_
                  show Rn _ _ _ _ [some (vR 0), some (vI 0)] [] _ _
                  refine r_ldR_n (m := 0) F_20_0 rfl ?_
                  refine r_ldI_n (m := 1) F_20_1 rfl ?_
                  refine r_putI (J := 9) F_20_2 o_20 fl_5_60 ty_0 (by decide) rfl kd_0_9 pf_5_9 ?_
                  refine r_iconst F_20_5 ?_
                  refine r_ireturn F_20_6 rt_20 ?_
                  show Rn _ _ _ _ _ [vI 1] _ _
                  refine r_ireturn F_65_36 rt_65 ?_
                  exact (l11 e2 e4 e6 e7 e8 e11 e12 e13)
                · intro e14
                  replace e14 : i = (s 38 8) := (Classical.not_not.mp e14)
                  refine r_iconst F_67_70 ?_
                  refine r_goto (t := 75) F_67_71 rfl ?_
                  refine r_ireturn F_67_75 rt_67 ?_
                  show Rn _ _ _ _ _ [vI 2, vR 0] _ _
                  refine r_virt2 (A := [vI 2]) (r := []) (n := 1) F_65_33 o_65 il_5_93 rfl rfl rfl rfl ty_0 vy_20 (lay_le n_20 rfl) ?_
                  refine Cl_of n_20 rfl ?_
                  show Rn _ _ _ _ [some (vR 0), some (vI 2)] [] _ _
                  refine r_ldR_n (m := 0) F_20_0 rfl ?_
                  refine r_ldI_n (m := 1) F_20_1 rfl ?_
                  refine r_putI (J := 9) F_20_2 o_20 fl_5_60 ty_0 (by decide) rfl kd_0_9 pf_5_9 ?_
                  refine r_iconst F_20_5 ?_
                  refine r_ireturn F_20_6 rt_20 ?_
                  show Rn _ _ _ _ _ [vI 1] _ _
                  refine r_ireturn F_65_36 rt_65 ?_
                  exact (l12 e2 e4 e6 e7 e8 e11 e12 e14)
              · intro e15
                replace e15 : i = (s 38 7) := (Classical.not_not.mp e15)
                refine r_iconst F_67_58 ?_
                refine r_goto (t := 75) F_67_59 rfl ?_
                refine r_ireturn F_67_75 rt_67 ?_
                show Rn _ _ _ _ _ [vI 1, vR 0] _ _
                refine r_virt2 (A := [vI 1]) (r := []) (n := 1) F_65_33 o_65 il_5_93 rfl rfl rfl rfl ty_0 vy_20 (lay_le n_20 rfl) ?_
                refine Cl_of n_20 rfl ?_
                show Rn _ _ _ _ [some (vR 0), some (vI 1)] [] _ _
                refine r_ldR_n (m := 0) F_20_0 rfl ?_
                refine r_ldI_n (m := 1) F_20_1 rfl ?_
                refine r_putI (J := 9) F_20_2 o_20 fl_5_60 ty_0 (by decide) rfl kd_0_9 pf_5_9 ?_
                refine r_iconst F_20_5 ?_
                refine r_ireturn F_20_6 rt_20 ?_
                show Rn _ _ _ _ _ [vI 1] _ _
                refine r_ireturn F_65_36 rt_65 ?_
                exact (l13 e2 e4 e6 e7 e8 e11 e15)
            · have e16 := hh
              refine r_lsw (t := 76) (z := 69) F_67_7 (l5 e2 e4) (by decide) (by show Op.lookupswitch.offset [(0, 33), (5, 38), (6, 43)] 69 w = 69; simp only [Op.lookupswitch.offset]; repeat (rw [if_neg (by omega)])) rfl ?_
              refine r_ldR_n (m := 3) F_67_76 rfl ?_
              refine r_ldI_n (m := 2) F_67_77 rfl ?_
              refine r_iconst F_67_78 ?_
              refine r_isub F_67_79 rfl ?_
              refine r_virt2 (A := [vI (w - 1)]) (r := []) (n := 1) F_67_80 o_67 il_1_111 rfl rfl rfl rfl ty_44 vy_54 (lay_le n_54 rfl) ?_
              refine Cl_of n_54 rfl ?_
              show Rn _ _ _ _ [some (vR 44), some (vI (w - 1))] [] _ _
              refine r_ldI_n (m := 1) F_54_0 rfl ?_
              refine r_stat2 (A := [vI (w - 1)]) (r := []) (n := 1) F_54_1 o_54 il_0_33 (by decide) rfl rfl rfl rfl (lay_le n_46 rfl) ?_
              refine Cl_of n_46 rfl ?_
              show Rn _ _ _ _ [some (vI (w - 1))] [] _ _
              refine r_ldI_n (m := 0) F_46_0 rfl ?_
              refine r_if (t := 13) F_46_1 rfl (l14 e2 e4 e6 e7 e8 e16) ?_ ?_
              · intro e17
                replace e17 : (w - 1) < 0 := e17
                refine r_iconst F_46_13 ?_
                refine r_zreturn F_46_14 rt_46 (Or.inl rfl) ?_
                show Rn _ _ _ _ _ [vI 0] _ _
                refine r_ifT (t := 16) F_54_4 rfl (by decide) (by show (0 : Int) = 0; decide) ?_
                refine r_iconst F_54_16 ?_
                refine r_ireturn F_54_17 rt_54 ?_
                show Rn _ _ _ _ _ [vI 0] _ _
                refine r_ireturn F_67_83 rt_67 ?_
                show Rn _ _ _ _ _ [vI 0, vR 0] _ _
                refine r_virt2 (A := [vI 0]) (r := []) (n := 1) F_65_33 o_65 il_5_93 rfl rfl rfl rfl ty_0 vy_20 (lay_le n_20 rfl) ?_
                refine Cl_of n_20 rfl ?_
                show Rn _ _ _ _ [some (vR 0), some (vI 0)] [] _ _
                refine r_ldR_n (m := 0) F_20_0 rfl ?_
                refine r_ldI_n (m := 1) F_20_1 rfl ?_
                refine r_putI (J := 9) F_20_2 o_20 fl_5_60 ty_0 (by decide) rfl kd_0_9 pf_5_9 ?_
                refine r_iconst F_20_5 ?_
                refine r_ireturn F_20_6 rt_20 ?_
                show Rn _ _ _ _ _ [vI 1] _ _
                refine r_ireturn F_65_36 rt_65 ?_
                exact (l15 e2 e4 e6 e7 e8 e16 e17)
              · intro e18
                replace e18 : 0 ≤ (w - 1) := (Int.not_lt.mp e18)
                refine r_ldI_n (m := 0) F_46_4 rfl ?_
                refine r_iconst F_46_5 ?_
                refine r_icmp (t := 13) F_46_6 rfl (l14 e2 e4 e6 e7 e8 e16) (by decide) ?_ ?_
                · intro e19
                  replace e19 : 4 ≤ (w - 1) := e19
                  refine r_iconst F_46_13 ?_
                  refine r_zreturn F_46_14 rt_46 (Or.inl rfl) ?_
                  show Rn _ _ _ _ _ [vI 0] _ _
                  refine r_ifT (t := 16) F_54_4 rfl (by decide) (by show (0 : Int) = 0; decide) ?_
                  refine r_iconst F_54_16 ?_
                  refine r_ireturn F_54_17 rt_54 ?_
                  show Rn _ _ _ _ _ [vI 0] _ _
                  refine r_ireturn F_67_83 rt_67 ?_
                  show Rn _ _ _ _ _ [vI 0, vR 0] _ _
                  refine r_virt2 (A := [vI 0]) (r := []) (n := 1) F_65_33 o_65 il_5_93 rfl rfl rfl rfl ty_0 vy_20 (lay_le n_20 rfl) ?_
                  refine Cl_of n_20 rfl ?_
                  show Rn _ _ _ _ [some (vR 0), some (vI 0)] [] _ _
                  refine r_ldR_n (m := 0) F_20_0 rfl ?_
                  refine r_ldI_n (m := 1) F_20_1 rfl ?_
                  refine r_putI (J := 9) F_20_2 o_20 fl_5_60 ty_0 (by decide) rfl kd_0_9 pf_5_9 ?_
                  refine r_iconst F_20_5 ?_
                  refine r_ireturn F_20_6 rt_20 ?_
                  show Rn _ _ _ _ _ [vI 1] _ _
                  refine r_ireturn F_65_36 rt_65 ?_
                  exact (l16 e2 e4 e6 e7 e8 e16 e18 e19)
                · intro e20
                  replace e20 : (w - 1) < 4 := (Int.not_le.mp e20)
                  refine r_iconst F_46_9 ?_
                  refine r_goto (t := 14) F_46_10 rfl ?_
                  refine r_zreturn F_46_14 rt_46 (Or.inr rfl) ?_
                  show Rn _ _ _ _ _ [vI 1] _ _
                  refine r_ifF (t := 16) F_54_4 rfl (by decide) (by show ¬ ((1 : Int) = 0); decide) ?_
                  refine r_ldR_n (m := 0) F_54_7 rfl ?_
                  refine r_getR (J := 0) F_54_8 o_54 fl_0_9 ty_44 (by decide) rfl (kd2 kd_44_0 (by decide)) (kd9 kd_44_0 (by decide)) rf_44_0 ?_
                  refine r_ldI_n (m := 1) F_54_11 rfl ?_
                  refine r_iald (e := (s 45 (w - 1))) F_54_12 ty_45 e18 (lt_ln ln_45 e20) rfl ?_
                  refine r_goto (t := 17) F_54_13 rfl ?_
                  refine r_ireturn F_54_17 rt_54 ?_
                  show Rn _ _ _ _ _ [vI (s 45 (w - 1))] _ _
                  refine r_ireturn F_67_83 rt_67 ?_
                  show Rn _ _ _ _ _ [vI (s 45 (w - 1)), vR 0] _ _
                  refine r_virt2 (A := [vI (s 45 (w - 1))]) (r := []) (n := 1) F_65_33 o_65 il_5_93 rfl rfl rfl rfl ty_0 vy_20 (lay_le n_20 rfl) ?_
                  refine Cl_of n_20 rfl ?_
                  show Rn _ _ _ _ [some (vR 0), some (vI (s 45 (w - 1)))] [] _ _
                  refine r_ldR_n (m := 0) F_20_0 rfl ?_
                  refine r_ldI_n (m := 1) F_20_1 rfl ?_
                  refine r_putI (J := 9) F_20_2 o_20 fl_5_60 ty_0 (by decide) rfl kd_0_9 pf_5_9 ?_
                  refine r_iconst F_20_5 ?_
                  refine r_ireturn F_20_6 rt_20 ?_
                  show Rn _ _ _ _ _ [vI 1] _ _
                  refine r_ireturn F_65_36 rt_65 ?_
                  exact (l17 e2 e4 e6 e7 e8 e16 e18 e20)
          · intro e21
            replace e21 : i < 6 := (Int.not_le.mp e21)
            refine r_ldI_n (m := 1) F_58_14 rfl ?_
            refine r_goto (t := 19) F_58_15 rfl ?_
            refine r_aald F_58_19 ty_40 (by decide) e2 (lt_ln ln_40 e21) (rw_40 ⟨e2, e21⟩).2 ?_
            refine r_areturn F_58_20 rob_58 ?_
            show Rn _ _ _ _ _ [vR (44 + 4 * i)] _ _
            refine r_stR_n (m := 3) (L' := [some (vR 38), some (vI i), some (vI w), some (vR (44 + 4 * i))]) F_67_5 rfl rfl ?_
            refine r_ldI_n (m := 2) F_67_6 rfl ?_
            rcases (show w = 0 ∨ w = 5 ∨ w = 6 ∨ (¬ w = 0 ∧ ¬ w = 5 ∧ ¬ w = 6) by omega) with hh | hh | hh | hh
            · have e22 := hh
              refine r_lsw (t := 40) (z := 33) F_67_7 (l5 e2 e4) (by decide) (by rw [hh]; rfl) rfl ?_
              refine r_ldR_n (m := 3) F_67_40 rfl ?_
              refine r_virt2 (A := []) (r := []) (n := 0) F_67_41 o_67 il_1_68 rfl rfl rfl rfl (rw_40 ⟨e2, e21⟩).1 vy_52 (lay_le n_52 rfl) ?_
              refine Cl_of n_52 rfl ?_
              show Rn _ _ _ _ [some (vR (44 + 4 * i))] [] _ _
              refine r_ldR_n (m := 0) F_52_0 rfl ?_
              refine r_getI (J := 1) (e := (s (44 + 4 * i) 1)) F_52_1 o_52 fl_0_15 (rw_40 ⟨e2, e21⟩).1 (by decide) rfl (gw (rw_40 ⟨e2, e21⟩).1).2.2.1 rfl ?_
              refine r_ireturn F_52_4 rt_52 ?_
              show Rn _ _ _ _ _ [vI (s (44 + 4 * i) 1)] _ _
              refine r_ireturn F_67_44 rt_67 ?_
              show Rn _ _ _ _ _ [vI (s (44 + 4 * i) 1), vR 0] _ _
              refine r_virt2 (A := [vI (s (44 + 4 * i) 1)]) (r := []) (n := 1) F_65_33 o_65 il_5_93 rfl rfl rfl rfl ty_0 vy_20 (lay_le n_20 rfl) ?_
              refine Cl_of n_20 rfl ?_
              show Rn _ _ _ _ [some (vR 0), some (vI (s (44 + 4 * i) 1))] [] _ _
              refine r_ldR_n (m := 0) F_20_0 rfl ?_
              refine r_ldI_n (m := 1) F_20_1 rfl ?_
              refine r_putI (J := 9) F_20_2 o_20 fl_5_60 ty_0 (by decide) rfl kd_0_9 pf_5_9 ?_
              refine r_iconst F_20_5 ?_
              refine r_ireturn F_20_6 rt_20 ?_
              show Rn _ _ _ _ _ [vI 1] _ _
              refine r_ireturn F_65_36 rt_65 ?_
              exact (l18 e2 e4 e6 e7 e21 e22)
            · have e23 := hh
              refine r_lsw (t := 45) (z := 38) F_67_7 (l5 e2 e4) (by decide) (by rw [hh]; rfl) rfl ?_
              refine r_ldR_n (m := 3) F_67_45 rfl ?_
              refine r_virt2 (A := []) (r := []) (n := 0) F_67_46 o_67 il_1_108 rfl rfl rfl rfl (rw_40 ⟨e2, e21⟩).1 vy_68 (lay_le n_68 rfl) ?_
              refine Cl_of n_68 rfl ?_
              show Rn _ _ _ _ [some (vR (44 + 4 * i))] [] _ _
              refine r_ldR_n (m := 0) F_68_0 rfl ?_
              refine r_getI (J := 2) (e := (s (44 + 4 * i) 2)) F_68_1 o_68 fl_0_19 (rw_40 ⟨e2, e21⟩).1 (by decide) rfl (gw (rw_40 ⟨e2, e21⟩).1).2.2.2.1 rfl ?_
              refine r_ireturn F_68_4 rt_68 ?_
              show Rn _ _ _ _ _ [vI (s (44 + 4 * i) 2)] _ _
              refine r_ireturn F_67_49 rt_67 ?_
              show Rn _ _ _ _ _ [vI (s (44 + 4 * i) 2), vR 0] _ _
              refine r_virt2 (A := [vI (s (44 + 4 * i) 2)]) (r := []) (n := 1) F_65_33 o_65 il_5_93 rfl rfl rfl rfl ty_0 vy_20 (lay_le n_20 rfl) ?_
              refine Cl_of n_20 rfl ?_
              show Rn _ _ _ _ [some (vR 0), some (vI (s (44 + 4 * i) 2))] [] _ _
              refine r_ldR_n (m := 0) F_20_0 rfl ?_
              refine r_ldI_n (m := 1) F_20_1 rfl ?_
              refine r_putI (J := 9) F_20_2 o_20 fl_5_60 ty_0 (by decide) rfl kd_0_9 pf_5_9 ?_
              refine r_iconst F_20_5 ?_
              refine r_ireturn F_20_6 rt_20 ?_
              show Rn _ _ _ _ _ [vI 1] _ _
              refine r_ireturn F_65_36 rt_65 ?_
              exact (l19 e2 e4 e6 e7 e21 e23)
            · have e24 := hh
              refine r_lsw (t := 50) (z := 43) F_67_7 (l5 e2 e4) (by decide) (by rw [hh]; rfl) rfl ?_
              refine r_ldI_n (m := 1) F_67_50 rfl ?_
              refine r_ldR_n (m := 0) F_67_51 rfl ?_
              refine r_getI (J := 7) (e := (s 38 7)) F_67_52 o_67 fl_1_37 ty_38 (by decide) rfl kd_38_7 rfl ?_
              refine r_icmp (t := 62) F_67_55 rfl l1 (l20 e2 e4 e6 e7 e21 e24) ?_ ?_
              · intro e25
                replace e25 : ¬ i = (s 38 7) := e25
                refine r_ldI_n (m := 1) F_67_62 rfl ?_
                refine r_ldR_n (m := 0) F_67_63 rfl ?_
                refine r_getI (J := 8) (e := (s 38 8)) F_67_64 o_67 fl_1_40 ty_38 (by decide) rfl kd_38_8 rfl ?_
                refine r_icmp (t := 74) F_67_67 rfl l1 (l21 e2 e4 e6 e7 e21 e24 e25) ?_ ?_
                · intro e26
                  replace e26 : ¬ i = (s 38 8) := e26
                  refine r_iconst F_67_74 ?_
                  refine r_ireturn F_67_75 rt_67 ?_
                  show Rn _ _ _ _ _ [vI 0, vR 0] _ _
                  refine r_virt2 (A := [vI 0]) (r := []) (n := 1) F_65_33 o_65 il_5_93 rfl rfl rfl rfl ty_0 vy_20 (lay_le n_20 rfl) ?_
                  refine Cl_of n_20 rfl ?_
                  show Rn _ _ _ _ [some (vR 0), some (vI 0)] [] _ _
                  refine r_ldR_n (m := 0) F_20_0 rfl ?_
                  refine r_ldI_n (m := 1) F_20_1 rfl ?_
                  refine r_putI (J := 9) F_20_2 o_20 fl_5_60 ty_0 (by decide) rfl kd_0_9 pf_5_9 ?_
                  refine r_iconst F_20_5 ?_
                  refine r_ireturn F_20_6 rt_20 ?_
                  show Rn _ _ _ _ _ [vI 1] _ _
                  refine r_ireturn F_65_36 rt_65 ?_
                  exact (l22 e2 e4 e6 e7 e21 e24 e25 e26)
                · intro e27
                  replace e27 : i = (s 38 8) := (Classical.not_not.mp e27)
                  refine r_iconst F_67_70 ?_
                  refine r_goto (t := 75) F_67_71 rfl ?_
                  refine r_ireturn F_67_75 rt_67 ?_
                  show Rn _ _ _ _ _ [vI 2, vR 0] _ _
                  refine r_virt2 (A := [vI 2]) (r := []) (n := 1) F_65_33 o_65 il_5_93 rfl rfl rfl rfl ty_0 vy_20 (lay_le n_20 rfl) ?_
                  refine Cl_of n_20 rfl ?_
                  show Rn _ _ _ _ [some (vR 0), some (vI 2)] [] _ _
                  refine r_ldR_n (m := 0) F_20_0 rfl ?_
                  refine r_ldI_n (m := 1) F_20_1 rfl ?_
                  refine r_putI (J := 9) F_20_2 o_20 fl_5_60 ty_0 (by decide) rfl kd_0_9 pf_5_9 ?_
                  refine r_iconst F_20_5 ?_
                  refine r_ireturn F_20_6 rt_20 ?_
                  show Rn _ _ _ _ _ [vI 1] _ _
                  refine r_ireturn F_65_36 rt_65 ?_
                  exact (l23 e2 e4 e6 e7 e21 e24 e25 e27)
              · intro e28
                replace e28 : i = (s 38 7) := (Classical.not_not.mp e28)
                refine r_iconst F_67_58 ?_
                refine r_goto (t := 75) F_67_59 rfl ?_
                refine r_ireturn F_67_75 rt_67 ?_
                show Rn _ _ _ _ _ [vI 1, vR 0] _ _
                refine r_virt2 (A := [vI 1]) (r := []) (n := 1) F_65_33 o_65 il_5_93 rfl rfl rfl rfl ty_0 vy_20 (lay_le n_20 rfl) ?_
                refine Cl_of n_20 rfl ?_
                show Rn _ _ _ _ [some (vR 0), some (vI 1)] [] _ _
                refine r_ldR_n (m := 0) F_20_0 rfl ?_
                refine r_ldI_n (m := 1) F_20_1 rfl ?_
                refine r_putI (J := 9) F_20_2 o_20 fl_5_60 ty_0 (by decide) rfl kd_0_9 pf_5_9 ?_
                refine r_iconst F_20_5 ?_
                refine r_ireturn F_20_6 rt_20 ?_
                show Rn _ _ _ _ _ [vI 1] _ _
                refine r_ireturn F_65_36 rt_65 ?_
                exact (l24 e2 e4 e6 e7 e21 e24 e28)
            · have e29 := hh
              refine r_lsw (t := 76) (z := 69) F_67_7 (l5 e2 e4) (by decide) (by show Op.lookupswitch.offset [(0, 33), (5, 38), (6, 43)] 69 w = 69; simp only [Op.lookupswitch.offset]; repeat (rw [if_neg (by omega)])) rfl ?_
              refine r_ldR_n (m := 3) F_67_76 rfl ?_
              refine r_ldI_n (m := 2) F_67_77 rfl ?_
              refine r_iconst F_67_78 ?_
              refine r_isub F_67_79 rfl ?_
              refine r_virt2 (A := [vI (w - 1)]) (r := []) (n := 1) F_67_80 o_67 il_1_111 rfl rfl rfl rfl (rw_40 ⟨e2, e21⟩).1 vy_54 (lay_le n_54 rfl) ?_
              refine Cl_of n_54 rfl ?_
              show Rn _ _ _ _ [some (vR (44 + 4 * i)), some (vI (w - 1))] [] _ _
              refine r_ldI_n (m := 1) F_54_0 rfl ?_
              refine r_stat2 (A := [vI (w - 1)]) (r := []) (n := 1) F_54_1 o_54 il_0_33 (by decide) rfl rfl rfl rfl (lay_le n_46 rfl) ?_
              refine Cl_of n_46 rfl ?_
              show Rn _ _ _ _ [some (vI (w - 1))] [] _ _
              refine r_ldI_n (m := 0) F_46_0 rfl ?_
              refine r_if (t := 13) F_46_1 rfl (l25 e2 e4 e6 e7 e21 e29) ?_ ?_
              · intro e30
                replace e30 : (w - 1) < 0 := e30
                refine r_iconst F_46_13 ?_
                refine r_zreturn F_46_14 rt_46 (Or.inl rfl) ?_
                show Rn _ _ _ _ _ [vI 0] _ _
                refine r_ifT (t := 16) F_54_4 rfl (by decide) (by show (0 : Int) = 0; decide) ?_
                refine r_iconst F_54_16 ?_
                refine r_ireturn F_54_17 rt_54 ?_
                show Rn _ _ _ _ _ [vI 0] _ _
                refine r_ireturn F_67_83 rt_67 ?_
                show Rn _ _ _ _ _ [vI 0, vR 0] _ _
                refine r_virt2 (A := [vI 0]) (r := []) (n := 1) F_65_33 o_65 il_5_93 rfl rfl rfl rfl ty_0 vy_20 (lay_le n_20 rfl) ?_
                refine Cl_of n_20 rfl ?_
                show Rn _ _ _ _ [some (vR 0), some (vI 0)] [] _ _
                refine r_ldR_n (m := 0) F_20_0 rfl ?_
                refine r_ldI_n (m := 1) F_20_1 rfl ?_
                refine r_putI (J := 9) F_20_2 o_20 fl_5_60 ty_0 (by decide) rfl kd_0_9 pf_5_9 ?_
                refine r_iconst F_20_5 ?_
                refine r_ireturn F_20_6 rt_20 ?_
                show Rn _ _ _ _ _ [vI 1] _ _
                refine r_ireturn F_65_36 rt_65 ?_
                exact (l26 e2 e4 e6 e7 e21 e29 e30)
              · intro e31
                replace e31 : 0 ≤ (w - 1) := (Int.not_lt.mp e31)
                refine r_ldI_n (m := 0) F_46_4 rfl ?_
                refine r_iconst F_46_5 ?_
                refine r_icmp (t := 13) F_46_6 rfl (l25 e2 e4 e6 e7 e21 e29) (by decide) ?_ ?_
                · intro e32
                  replace e32 : 4 ≤ (w - 1) := e32
                  refine r_iconst F_46_13 ?_
                  refine r_zreturn F_46_14 rt_46 (Or.inl rfl) ?_
                  show Rn _ _ _ _ _ [vI 0] _ _
                  refine r_ifT (t := 16) F_54_4 rfl (by decide) (by show (0 : Int) = 0; decide) ?_
                  refine r_iconst F_54_16 ?_
                  refine r_ireturn F_54_17 rt_54 ?_
                  show Rn _ _ _ _ _ [vI 0] _ _
                  refine r_ireturn F_67_83 rt_67 ?_
                  show Rn _ _ _ _ _ [vI 0, vR 0] _ _
                  refine r_virt2 (A := [vI 0]) (r := []) (n := 1) F_65_33 o_65 il_5_93 rfl rfl rfl rfl ty_0 vy_20 (lay_le n_20 rfl) ?_
                  refine Cl_of n_20 rfl ?_
                  show Rn _ _ _ _ [some (vR 0), some (vI 0)] [] _ _
                  refine r_ldR_n (m := 0) F_20_0 rfl ?_
                  refine r_ldI_n (m := 1) F_20_1 rfl ?_
                  refine r_putI (J := 9) F_20_2 o_20 fl_5_60 ty_0 (by decide) rfl kd_0_9 pf_5_9 ?_
                  refine r_iconst F_20_5 ?_
                  refine r_ireturn F_20_6 rt_20 ?_
                  show Rn _ _ _ _ _ [vI 1] _ _
                  refine r_ireturn F_65_36 rt_65 ?_
                  exact (l27 e2 e4 e6 e7 e21 e29 e31 e32)
                · intro e33
                  replace e33 : (w - 1) < 4 := (Int.not_le.mp e33)
                  refine r_iconst F_46_9 ?_
                  refine r_goto (t := 14) F_46_10 rfl ?_
                  refine r_zreturn F_46_14 rt_46 (Or.inr rfl) ?_
                  show Rn _ _ _ _ _ [vI 1] _ _
                  refine r_ifF (t := 16) F_54_4 rfl (by decide) (by show ¬ ((1 : Int) = 0); decide) ?_
                  refine r_ldR_n (m := 0) F_54_7 rfl ?_
                  refine r_getR (J := 0) F_54_8 o_54 fl_0_9 (rw_40 ⟨e2, e21⟩).1 (by decide) rfl (gw2 (rw_40 ⟨e2, e21⟩).1).1 (gw2 (rw_40 ⟨e2, e21⟩).1).2 (gw (rw_40 ⟨e2, e21⟩).1).2.2.2.2.2.2.1 ?_
                  refine r_ldI_n (m := 1) F_54_11 rfl ?_
                  refine r_iald (e := (s ((44 + 4 * i) + 1) (w - 1))) F_54_12 (gw (rw_40 ⟨e2, e21⟩).1).2.2.2.2.1 e31 (lt_ln (gw (rw_40 ⟨e2, e21⟩).1).2.2.2.2.2.1 e33) rfl ?_
                  refine r_goto (t := 17) F_54_13 rfl ?_
                  refine r_ireturn F_54_17 rt_54 ?_
                  show Rn _ _ _ _ _ [vI (s ((44 + 4 * i) + 1) (w - 1))] _ _
                  refine r_ireturn F_67_83 rt_67 ?_
                  show Rn _ _ _ _ _ [vI (s ((44 + 4 * i) + 1) (w - 1)), vR 0] _ _
                  refine r_virt2 (A := [vI (s ((44 + 4 * i) + 1) (w - 1))]) (r := []) (n := 1) F_65_33 o_65 il_5_93 rfl rfl rfl rfl ty_0 vy_20 (lay_le n_20 rfl) ?_
                  refine Cl_of n_20 rfl ?_
                  show Rn _ _ _ _ [some (vR 0), some (vI (s ((44 + 4 * i) + 1) (w - 1)))] [] _ _
                  refine r_ldR_n (m := 0) F_20_0 rfl ?_
                  refine r_ldI_n (m := 1) F_20_1 rfl ?_
                  refine r_putI (J := 9) F_20_2 o_20 fl_5_60 ty_0 (by decide) rfl kd_0_9 pf_5_9 ?_
                  refine r_iconst F_20_5 ?_
                  refine r_ireturn F_20_6 rt_20 ?_
                  show Rn _ _ _ _ _ [vI 1] _ _
                  refine r_ireturn F_65_36 rt_65 ?_
                  exact (l28 e2 e4 e6 e7 e21 e29 e31 e33)
        · intro e34
          replace e34 : 7 ≤ w := (Int.not_lt.mp e34)
          refine r_iconst F_65_21 ?_
          refine r_ireturn F_65_22 rt_65 ?_
          exact (l29 e2 e4 e6 e34)
theorem t_X5_mark {X : List Int32} {d : Nat} {s : m_St} {P : Option Value → m_St → Prop} {i k : Int}
    (l1 : inR i)
    (l2 : i < 0 → P (some (vI (-1))) s)
    (l3 : 0 ≤ i → inR (s 38 3))
    (l4 : 0 ≤ i → (s 38 3) ≤ i → P (some (vI (-1))) s)
    (l5 : 0 ≤ i → i < (s 38 3) → inR k)
    (l6 : 0 ≤ i → i < (s 38 3) → k ≤ 0 → P (some (vI (-1))) s)
    (l7 : 0 ≤ i → i < (s 38 3) → 0 < k → k < 6 → 6 ≤ i → inR (s 44 1))
    (l8 : 0 ≤ i → i < (s 38 3) → 0 < k → k < 6 → 6 ≤ i → (s 44 1) = k → k = 1 → 0 ≤ (s 44 1))
    (l9 : 0 ≤ i → i < (s 38 3) → 0 < k → k < 6 → 6 ≤ i → (s 44 1) = k → k = 1 → (s 44 1) < 6)
    (l10 : 0 ≤ i → i < (s 38 3) → 0 < k → k < 6 → 6 ≤ i → (s 44 1) = k → k = 1 → P (some (vI (unm s 44 (s 38 5)))) s)
    (l11 : 0 ≤ i → i < (s 38 3) → 0 < k → k < 6 → 6 ≤ i → (s 44 1) = k → k = 2 → 0 ≤ (s 44 1))
    (l12 : 0 ≤ i → i < (s 38 3) → 0 < k → k < 6 → 6 ≤ i → (s 44 1) = k → k = 2 → (s 44 1) < 6)
    (l13 : 0 ≤ i → i < (s 38 3) → 0 < k → k < 6 → 6 ≤ i → (s 44 1) = k → k = 2 → P (some (vI (hsm s 44 (s 38 5)))) s)
    (l14 : 0 ≤ i → i < (s 38 3) → 0 < k → k < 6 → 6 ≤ i → (s 44 1) = k → k = 3 → 0 ≤ (s 44 2))
    (l15 : 0 ≤ i → i < (s 38 3) → 0 < k → k < 6 → 6 ≤ i → (s 44 1) = k → k = 3 → (s 44 2) < 65536)
    (l16 : 0 ≤ i → i < (s 38 3) → 0 < k → k < 6 → 6 ≤ i → (s 44 1) = k → k = 3 → P (some (vI (4 - (bc (s 44 2))))) s)
    (l17 : 0 ≤ i → i < (s 38 3) → 0 < k → k < 6 → 6 ≤ i → (s 44 1) = k → k = 4 → wr (s (44 + 1)))
    (l18 : 0 ≤ i → i < (s 38 3) → 0 < k → k < 6 → 6 ≤ i → (s 44 1) = k → k = 4 → 0 ≤ (iAnd (hset (s (44 + 1)) (hf 1)) (iXor (s 44 2) (-1))))
    (l19 : 0 ≤ i → i < (s 38 3) → 0 < k → k < 6 → 6 ≤ i → (s 44 1) = k → k = 4 → (iAnd (hset (s (44 + 1)) (hf 1)) (iXor (s 44 2) (-1))) < 65536)
    (l20 : 0 ≤ i → i < (s 38 3) → 0 < k → k < 6 → 6 ≤ i → (s 44 1) = k → k = 4 → P (some (vI (bc (iAnd (hset (s (44 + 1)) (hf 1)) (iXor (s 44 2) (-1)))))) s)
    (l21 : 0 ≤ i → i < (s 38 3) → 0 < k → k < 6 → 6 ≤ i → (s 44 1) = k → (k < 1 ∨ 4 < k) → wr (s (44 + 1)))
    (l22 : 0 ≤ i → i < (s 38 3) → 0 < k → k < 6 → 6 ≤ i → (s 44 1) = k → (k < 1 ∨ 4 < k) → 0 ≤ (iAnd (s 44 2) (iXor (hset (s (44 + 1)) (hf 2)) (-1))))
    (l23 : 0 ≤ i → i < (s 38 3) → 0 < k → k < 6 → 6 ≤ i → (s 44 1) = k → (k < 1 ∨ 4 < k) → (iAnd (s 44 2) (iXor (hset (s (44 + 1)) (hf 2)) (-1))) < 65536)
    (l24 : 0 ≤ i → i < (s 38 3) → 0 < k → k < 6 → 6 ≤ i → (s 44 1) = k → (k < 1 ∨ 4 < k) → P (some (vI (bc (iAnd (s 44 2) (iXor (hset (s (44 + 1)) (hf 2)) (-1)))))) s)
    (l25 : 0 ≤ i → i < (s 38 3) → 0 < k → k < 6 → 6 ≤ i → ¬ (s 44 1) = k → ¬ (ma (s 44 1)) = k → P (some (vI (-3))) (m_upd (m_upd s 0 8 3) 76 3 ((s 76 3) + 1)))
    (l26 : 0 ≤ i → i < (s 38 3) → 0 < k → k < 6 → 6 ≤ i → ¬ (s 44 1) = k → (ma (s 44 1)) = k → k = 1 → 0 ≤ (s 44 1))
    (l27 : 0 ≤ i → i < (s 38 3) → 0 < k → k < 6 → 6 ≤ i → ¬ (s 44 1) = k → (ma (s 44 1)) = k → k = 1 → (s 44 1) < 6)
    (l28 : 0 ≤ i → i < (s 38 3) → 0 < k → k < 6 → 6 ≤ i → ¬ (s 44 1) = k → (ma (s 44 1)) = k → k = 1 → P (some (vI (unm s 44 (s 38 5)))) s)
    (l29 : 0 ≤ i → i < (s 38 3) → 0 < k → k < 6 → 6 ≤ i → ¬ (s 44 1) = k → (ma (s 44 1)) = k → k = 2 → 0 ≤ (s 44 1))
    (l30 : 0 ≤ i → i < (s 38 3) → 0 < k → k < 6 → 6 ≤ i → ¬ (s 44 1) = k → (ma (s 44 1)) = k → k = 2 → (s 44 1) < 6)
    (l31 : 0 ≤ i → i < (s 38 3) → 0 < k → k < 6 → 6 ≤ i → ¬ (s 44 1) = k → (ma (s 44 1)) = k → k = 2 → P (some (vI (hsm s 44 (s 38 5)))) s)
    (l32 : 0 ≤ i → i < (s 38 3) → 0 < k → k < 6 → 6 ≤ i → ¬ (s 44 1) = k → (ma (s 44 1)) = k → k = 3 → 0 ≤ (s 44 2))
    (l33 : 0 ≤ i → i < (s 38 3) → 0 < k → k < 6 → 6 ≤ i → ¬ (s 44 1) = k → (ma (s 44 1)) = k → k = 3 → (s 44 2) < 65536)
    (l34 : 0 ≤ i → i < (s 38 3) → 0 < k → k < 6 → 6 ≤ i → ¬ (s 44 1) = k → (ma (s 44 1)) = k → k = 3 → P (some (vI (4 - (bc (s 44 2))))) s)
    (l35 : 0 ≤ i → i < (s 38 3) → 0 < k → k < 6 → 6 ≤ i → ¬ (s 44 1) = k → (ma (s 44 1)) = k → k = 4 → wr (s (44 + 1)))
    (l36 : 0 ≤ i → i < (s 38 3) → 0 < k → k < 6 → 6 ≤ i → ¬ (s 44 1) = k → (ma (s 44 1)) = k → k = 4 → 0 ≤ (iAnd (hset (s (44 + 1)) (hf 1)) (iXor (s 44 2) (-1))))
    (l37 : 0 ≤ i → i < (s 38 3) → 0 < k → k < 6 → 6 ≤ i → ¬ (s 44 1) = k → (ma (s 44 1)) = k → k = 4 → (iAnd (hset (s (44 + 1)) (hf 1)) (iXor (s 44 2) (-1))) < 65536)
    (l38 : 0 ≤ i → i < (s 38 3) → 0 < k → k < 6 → 6 ≤ i → ¬ (s 44 1) = k → (ma (s 44 1)) = k → k = 4 → P (some (vI (bc (iAnd (hset (s (44 + 1)) (hf 1)) (iXor (s 44 2) (-1)))))) s)
    (l39 : 0 ≤ i → i < (s 38 3) → 0 < k → k < 6 → 6 ≤ i → ¬ (s 44 1) = k → (ma (s 44 1)) = k → (k < 1 ∨ 4 < k) → wr (s (44 + 1)))
    (l40 : 0 ≤ i → i < (s 38 3) → 0 < k → k < 6 → 6 ≤ i → ¬ (s 44 1) = k → (ma (s 44 1)) = k → (k < 1 ∨ 4 < k) → 0 ≤ (iAnd (s 44 2) (iXor (hset (s (44 + 1)) (hf 2)) (-1))))
    (l41 : 0 ≤ i → i < (s 38 3) → 0 < k → k < 6 → 6 ≤ i → ¬ (s 44 1) = k → (ma (s 44 1)) = k → (k < 1 ∨ 4 < k) → (iAnd (s 44 2) (iXor (hset (s (44 + 1)) (hf 2)) (-1))) < 65536)
    (l42 : 0 ≤ i → i < (s 38 3) → 0 < k → k < 6 → 6 ≤ i → ¬ (s 44 1) = k → (ma (s 44 1)) = k → (k < 1 ∨ 4 < k) → P (some (vI (bc (iAnd (s 44 2) (iXor (hset (s (44 + 1)) (hf 2)) (-1)))))) s)
    (l43 : 0 ≤ i → i < (s 38 3) → 0 < k → k < 6 → i < 6 → inR (s (44 + 4 * i) 1))
    (l44 : 0 ≤ i → i < (s 38 3) → 0 < k → k < 6 → i < 6 → (s (44 + 4 * i) 1) = k → k = 1 → 0 ≤ (s (44 + 4 * i) 1))
    (l45 : 0 ≤ i → i < (s 38 3) → 0 < k → k < 6 → i < 6 → (s (44 + 4 * i) 1) = k → k = 1 → (s (44 + 4 * i) 1) < 6)
    (l46 : 0 ≤ i → i < (s 38 3) → 0 < k → k < 6 → i < 6 → (s (44 + 4 * i) 1) = k → k = 1 → P (some (vI (unm s (44 + 4 * i) (s 38 5)))) s)
    (l47 : 0 ≤ i → i < (s 38 3) → 0 < k → k < 6 → i < 6 → (s (44 + 4 * i) 1) = k → k = 2 → 0 ≤ (s (44 + 4 * i) 1))
    (l48 : 0 ≤ i → i < (s 38 3) → 0 < k → k < 6 → i < 6 → (s (44 + 4 * i) 1) = k → k = 2 → (s (44 + 4 * i) 1) < 6)
    (l49 : 0 ≤ i → i < (s 38 3) → 0 < k → k < 6 → i < 6 → (s (44 + 4 * i) 1) = k → k = 2 → P (some (vI (hsm s (44 + 4 * i) (s 38 5)))) s)
    (l50 : 0 ≤ i → i < (s 38 3) → 0 < k → k < 6 → i < 6 → (s (44 + 4 * i) 1) = k → k = 3 → 0 ≤ (s (44 + 4 * i) 2))
    (l51 : 0 ≤ i → i < (s 38 3) → 0 < k → k < 6 → i < 6 → (s (44 + 4 * i) 1) = k → k = 3 → (s (44 + 4 * i) 2) < 65536)
    (l52 : 0 ≤ i → i < (s 38 3) → 0 < k → k < 6 → i < 6 → (s (44 + 4 * i) 1) = k → k = 3 → P (some (vI (4 - (bc (s (44 + 4 * i) 2))))) s)
    (l53 : 0 ≤ i → i < (s 38 3) → 0 < k → k < 6 → i < 6 → (s (44 + 4 * i) 1) = k → k = 4 → wr (s ((44 + 4 * i) + 1)))
    (l54 : 0 ≤ i → i < (s 38 3) → 0 < k → k < 6 → i < 6 → (s (44 + 4 * i) 1) = k → k = 4 → 0 ≤ (iAnd (hset (s ((44 + 4 * i) + 1)) (hf 1)) (iXor (s (44 + 4 * i) 2) (-1))))
    (l55 : 0 ≤ i → i < (s 38 3) → 0 < k → k < 6 → i < 6 → (s (44 + 4 * i) 1) = k → k = 4 → (iAnd (hset (s ((44 + 4 * i) + 1)) (hf 1)) (iXor (s (44 + 4 * i) 2) (-1))) < 65536)
    (l56 : 0 ≤ i → i < (s 38 3) → 0 < k → k < 6 → i < 6 → (s (44 + 4 * i) 1) = k → k = 4 → P (some (vI (bc (iAnd (hset (s ((44 + 4 * i) + 1)) (hf 1)) (iXor (s (44 + 4 * i) 2) (-1)))))) s)
    (l57 : 0 ≤ i → i < (s 38 3) → 0 < k → k < 6 → i < 6 → (s (44 + 4 * i) 1) = k → (k < 1 ∨ 4 < k) → wr (s ((44 + 4 * i) + 1)))
    (l58 : 0 ≤ i → i < (s 38 3) → 0 < k → k < 6 → i < 6 → (s (44 + 4 * i) 1) = k → (k < 1 ∨ 4 < k) → 0 ≤ (iAnd (s (44 + 4 * i) 2) (iXor (hset (s ((44 + 4 * i) + 1)) (hf 2)) (-1))))
    (l59 : 0 ≤ i → i < (s 38 3) → 0 < k → k < 6 → i < 6 → (s (44 + 4 * i) 1) = k → (k < 1 ∨ 4 < k) → (iAnd (s (44 + 4 * i) 2) (iXor (hset (s ((44 + 4 * i) + 1)) (hf 2)) (-1))) < 65536)
    (l60 : 0 ≤ i → i < (s 38 3) → 0 < k → k < 6 → i < 6 → (s (44 + 4 * i) 1) = k → (k < 1 ∨ 4 < k) → P (some (vI (bc (iAnd (s (44 + 4 * i) 2) (iXor (hset (s ((44 + 4 * i) + 1)) (hf 2)) (-1)))))) s)
    (l61 : 0 ≤ i → i < (s 38 3) → 0 < k → k < 6 → i < 6 → ¬ (s (44 + 4 * i) 1) = k → ¬ (ma (s (44 + 4 * i) 1)) = k → P (some (vI (-3))) (m_upd (m_upd s 0 8 3) 76 3 ((s 76 3) + 1)))
    (l62 : 0 ≤ i → i < (s 38 3) → 0 < k → k < 6 → i < 6 → ¬ (s (44 + 4 * i) 1) = k → (ma (s (44 + 4 * i) 1)) = k → k = 1 → 0 ≤ (s (44 + 4 * i) 1))
    (l63 : 0 ≤ i → i < (s 38 3) → 0 < k → k < 6 → i < 6 → ¬ (s (44 + 4 * i) 1) = k → (ma (s (44 + 4 * i) 1)) = k → k = 1 → (s (44 + 4 * i) 1) < 6)
    (l64 : 0 ≤ i → i < (s 38 3) → 0 < k → k < 6 → i < 6 → ¬ (s (44 + 4 * i) 1) = k → (ma (s (44 + 4 * i) 1)) = k → k = 1 → P (some (vI (unm s (44 + 4 * i) (s 38 5)))) s)
    (l65 : 0 ≤ i → i < (s 38 3) → 0 < k → k < 6 → i < 6 → ¬ (s (44 + 4 * i) 1) = k → (ma (s (44 + 4 * i) 1)) = k → k = 2 → 0 ≤ (s (44 + 4 * i) 1))
    (l66 : 0 ≤ i → i < (s 38 3) → 0 < k → k < 6 → i < 6 → ¬ (s (44 + 4 * i) 1) = k → (ma (s (44 + 4 * i) 1)) = k → k = 2 → (s (44 + 4 * i) 1) < 6)
    (l67 : 0 ≤ i → i < (s 38 3) → 0 < k → k < 6 → i < 6 → ¬ (s (44 + 4 * i) 1) = k → (ma (s (44 + 4 * i) 1)) = k → k = 2 → P (some (vI (hsm s (44 + 4 * i) (s 38 5)))) s)
    (l68 : 0 ≤ i → i < (s 38 3) → 0 < k → k < 6 → i < 6 → ¬ (s (44 + 4 * i) 1) = k → (ma (s (44 + 4 * i) 1)) = k → k = 3 → 0 ≤ (s (44 + 4 * i) 2))
    (l69 : 0 ≤ i → i < (s 38 3) → 0 < k → k < 6 → i < 6 → ¬ (s (44 + 4 * i) 1) = k → (ma (s (44 + 4 * i) 1)) = k → k = 3 → (s (44 + 4 * i) 2) < 65536)
    (l70 : 0 ≤ i → i < (s 38 3) → 0 < k → k < 6 → i < 6 → ¬ (s (44 + 4 * i) 1) = k → (ma (s (44 + 4 * i) 1)) = k → k = 3 → P (some (vI (4 - (bc (s (44 + 4 * i) 2))))) s)
    (l71 : 0 ≤ i → i < (s 38 3) → 0 < k → k < 6 → i < 6 → ¬ (s (44 + 4 * i) 1) = k → (ma (s (44 + 4 * i) 1)) = k → k = 4 → wr (s ((44 + 4 * i) + 1)))
    (l72 : 0 ≤ i → i < (s 38 3) → 0 < k → k < 6 → i < 6 → ¬ (s (44 + 4 * i) 1) = k → (ma (s (44 + 4 * i) 1)) = k → k = 4 → 0 ≤ (iAnd (hset (s ((44 + 4 * i) + 1)) (hf 1)) (iXor (s (44 + 4 * i) 2) (-1))))
    (l73 : 0 ≤ i → i < (s 38 3) → 0 < k → k < 6 → i < 6 → ¬ (s (44 + 4 * i) 1) = k → (ma (s (44 + 4 * i) 1)) = k → k = 4 → (iAnd (hset (s ((44 + 4 * i) + 1)) (hf 1)) (iXor (s (44 + 4 * i) 2) (-1))) < 65536)
    (l74 : 0 ≤ i → i < (s 38 3) → 0 < k → k < 6 → i < 6 → ¬ (s (44 + 4 * i) 1) = k → (ma (s (44 + 4 * i) 1)) = k → k = 4 → P (some (vI (bc (iAnd (hset (s ((44 + 4 * i) + 1)) (hf 1)) (iXor (s (44 + 4 * i) 2) (-1)))))) s)
    (l75 : 0 ≤ i → i < (s 38 3) → 0 < k → k < 6 → i < 6 → ¬ (s (44 + 4 * i) 1) = k → (ma (s (44 + 4 * i) 1)) = k → (k < 1 ∨ 4 < k) → wr (s ((44 + 4 * i) + 1)))
    (l76 : 0 ≤ i → i < (s 38 3) → 0 < k → k < 6 → i < 6 → ¬ (s (44 + 4 * i) 1) = k → (ma (s (44 + 4 * i) 1)) = k → (k < 1 ∨ 4 < k) → 0 ≤ (iAnd (s (44 + 4 * i) 2) (iXor (hset (s ((44 + 4 * i) + 1)) (hf 2)) (-1))))
    (l77 : 0 ≤ i → i < (s 38 3) → 0 < k → k < 6 → i < 6 → ¬ (s (44 + 4 * i) 1) = k → (ma (s (44 + 4 * i) 1)) = k → (k < 1 ∨ 4 < k) → (iAnd (s (44 + 4 * i) 2) (iXor (hset (s ((44 + 4 * i) + 1)) (hf 2)) (-1))) < 65536)
    (l78 : 0 ≤ i → i < (s 38 3) → 0 < k → k < 6 → i < 6 → ¬ (s (44 + 4 * i) 1) = k → (ma (s (44 + 4 * i) 1)) = k → (k < 1 ∨ 4 < k) → P (some (vI (bc (iAnd (s (44 + 4 * i) 2) (iXor (hset (s ((44 + 4 * i) + 1)) (hf 2)) (-1)))))) s)
    (l79 : 0 ≤ i → i < (s 38 3) → 0 < k → 6 ≤ k → P (some (vI (-1))) s)
    : Cl X (d + 3) 69 [vR 0, vI i, vI k] s P := by
  refine Cl_of n_69 rfl ?_
  show Rn _ _ _ _ [some (vR 0), some (vI i), some (vI k), none] [] _ _
  refine r_ldR_n (m := 0) F_69_0 rfl ?_
  refine r_getR (J := 4) F_69_1 o_69 fl_5_34 ty_0 (by decide) rfl (kd2 kd_0_4 (by decide)) (kd9 kd_0_4 (by decide)) rf_0_4 ?_
  refine r_ldI_n (m := 1) F_69_4 rfl ?_
  refine r_virt2 (A := [vI i]) (r := []) (n := 1) F_69_5 o_69 il_5_136 rfl rfl rfl rfl ty_38 vy_66 (lay_le n_66 rfl) ?_
  refine Cl_of n_66 rfl ?_
  show Rn _ _ _ _ [some (vR 38), some (vI i)] [] _ _
  refine r_ldI_n (m := 1) F_66_0 rfl ?_
  refine r_if (t := 16) F_66_1 rfl l1 ?_ ?_
  · intro e1
    replace e1 : i < 0 := e1
    refine r_iconst F_66_16 ?_
    refine r_zreturn F_66_17 rt_66 (Or.inl rfl) ?_
    show Rn _ _ _ _ _ [vI 0] _ _
    refine r_ifT (t := 21) F_69_8 rfl (by decide) (by show (0 : Int) = 0; decide) ?_
    refine r_iconst F_69_21 ?_
    refine r_ireturn F_69_22 rt_69 ?_
    exact (l2 e1)
  · intro e2
    replace e2 : 0 ≤ i := (Int.not_lt.mp e2)
    refine r_ldI_n (m := 1) F_66_4 rfl ?_
    refine r_ldR_n (m := 0) F_66_5 rfl ?_
    refine r_getI (J := 3) (e := (s 38 3)) F_66_6 o_66 fl_1_24 ty_38 (by decide) rfl kd_38_3 rfl ?_
    refine r_icmp (t := 16) F_66_9 rfl l1 (l3 e2) ?_ ?_
    · intro e3
      replace e3 : (s 38 3) ≤ i := e3
      refine r_iconst F_66_16 ?_
      refine r_zreturn F_66_17 rt_66 (Or.inl rfl) ?_
      show Rn _ _ _ _ _ [vI 0] _ _
      refine r_ifT (t := 21) F_69_8 rfl (by decide) (by show (0 : Int) = 0; decide) ?_
      refine r_iconst F_69_21 ?_
      refine r_ireturn F_69_22 rt_69 ?_
      exact (l4 e2 e3)
    · intro e4
      replace e4 : i < (s 38 3) := (Int.not_le.mp e4)
      refine r_iconst F_66_12 ?_
      refine r_goto (t := 17) F_66_13 rfl ?_
      refine r_zreturn F_66_17 rt_66 (Or.inr rfl) ?_
      show Rn _ _ _ _ _ [vI 1] _ _
      refine r_ifF (t := 21) F_69_8 rfl (by decide) (by show ¬ ((1 : Int) = 0); decide) ?_
      refine r_ldI_n (m := 2) F_69_11 rfl ?_
      refine r_if (t := 21) F_69_12 rfl (l5 e2 e4) ?_ ?_
      · intro e5
        replace e5 : k ≤ 0 := e5
        refine r_iconst F_69_21 ?_
        refine r_ireturn F_69_22 rt_69 ?_
        exact (l6 e2 e4 e5)
      · intro e6
        replace e6 : 0 < k := (Int.not_le.mp e6)
        refine r_ldI_n (m := 2) F_69_15 rfl ?_
        refine r_bipush F_69_16 bi_6 ?_
        refine r_icmp (t := 23) F_69_18 rfl (l5 e2 e4) (by decide) ?_ ?_
        · intro e7
          replace e7 : k < 6 := e7
          refine r_ldR_n (m := 0) F_69_23 rfl ?_
          refine r_getR (J := 4) F_69_24 o_69 fl_5_34 ty_0 (by decide) rfl (kd2 kd_0_4 (by decide)) (kd9 kd_0_4 (by decide)) rf_0_4 ?_
          refine r_ldI_n (m := 1) F_69_27 rfl ?_
          refine r_virt2 (A := [vI i]) (r := []) (n := 1) F_69_28 o_69 il_5_142 rfl rfl rfl rfl ty_38 vy_58 (lay_le n_58 rfl) ?_
          refine Cl_of n_58 rfl ?_
          show Rn _ _ _ _ [some (vR 38), some (vI i)] [] _ _
          refine r_ldR_n (m := 0) F_58_0 rfl ?_
          refine r_getR (J := 1) F_58_1 o_58 fl_1_17 ty_38 (by decide) rfl (kd2 kd_38_1 (by decide)) (kd9 kd_38_1 (by decide)) rf_38_1 ?_
          refine r_ldI_n (m := 1) F_58_4 rfl ?_
          refine r_ifF (t := 18) F_58_5 rfl l1 (Int.not_lt.mpr e2) ?_
          refine r_ldI_n (m := 1) F_58_8 rfl ?_
          refine r_bipush F_58_9 bi_6 ?_
          refine r_icmp (t := 18) F_58_11 rfl l1 (by decide) ?_ ?_
          · intro e8
            replace e8 : 6 ≤ i := e8
            refine r_iconst F_58_18 ?_
            refine r_aald F_58_19 ty_40 (by decide) (by decide) (lt_ln ln_40 (by decide)) rf_40_0 ?_
            refine r_areturn F_58_20 rob_58 ?_
            show Rn _ _ _ _ _ [vR 44] _ _
            refine r_stR_n (m := 3) (L' := [some (vR 0), some (vI i), some (vI k), some (vR 44)]) F_69_31 rfl rfl ?_
            refine r_ldR_n (m := 3) F_69_32 rfl ?_
            refine r_ldI_n (m := 2) F_69_33 rfl ?_
            refine r_virt2 (A := [vI k]) (r := []) (n := 1) F_69_34 o_69 il_5_146 rfl rfl rfl rfl ty_44 vy_70 (lay_le n_70 rfl) ?_
            refine Cl_of n_70 rfl ?_
            show Rn _ _ _ _ [some (vR 44), some (vI k)] [] _ _
            refine r_ldR_n (m := 0) F_70_0 rfl ?_
            refine r_getI (J := 1) (e := (s 44 1)) F_70_1 o_70 fl_0_15 ty_44 (by decide) rfl kd_44_1 rfl ?_
            refine r_ldI_n (m := 1) F_70_4 rfl ?_
            refine r_icmp (t := 19) F_70_5 rfl (l7 e2 e4 e6 e7 e8) (l5 e2 e4) ?_ ?_
            · intro e9
              replace e9 : (s 44 1) = k := e9
              refine r_iconst F_70_19 ?_
              refine r_goto (t := 24) F_70_20 rfl ?_
              refine r_zreturn F_70_24 rt_70 (Or.inr rfl) ?_
              show Rn _ _ _ _ _ [vI 1] _ _
              refine r_ifT (t := 46) F_69_37 rfl (by decide) (by show ¬ (1 : Int) = 0; decide) ?_
              refine r_ldI_n (m := 2) F_69_46 rfl ?_
              rcases (show k = 1 ∨ k = 2 ∨ k = 3 ∨ k = 4 ∨ (k < 1 ∨ 4 < k) by omega) with hh | hh | hh | hh | hh
              · have e10 := hh
                refine r_tswI (t := 76) (z := 29) (i := 0) F_69_47 (l5 e2 e4) rfl rfl (by omega) (by decide) ?_
                refine r_ldR_n (m := 3) F_69_76 rfl ?_
                refine r_ldR_n (m := 0) F_69_77 rfl ?_
                refine r_getR (J := 4) F_69_78 o_69 fl_5_34 ty_0 (by decide) rfl (kd2 kd_0_4 (by decide)) (kd9 kd_0_4 (by decide)) rf_0_4 ?_
                refine r_virt2 (A := []) (r := [vR 44]) (n := 0) F_69_81 o_69 il_5_149 rfl rfl rfl rfl ty_38 vy_71 (lay_le n_71 rfl) ?_
                refine Cl_of n_71 rfl ?_
                show Rn _ _ _ _ [some (vR 38)] [] _ _
                refine r_ldR_n (m := 0) F_71_0 rfl ?_
                refine r_getI (J := 5) (e := (s 38 5)) F_71_1 o_71 fl_1_31 ty_38 (by decide) rfl kd_38_5 rfl ?_
                refine r_ireturn F_71_4 rt_71 ?_
                show Rn _ _ _ _ _ [vI (s 38 5), vR 44] _ _
                refine r_virt2 (A := [vI (s 38 5)]) (r := []) (n := 1) F_69_84 o_69 il_5_152 rfl rfl rfl rfl ty_44 vy_72 (lay_le n_72 rfl) ?_
                refine sp_unmoving ty_44 (l8 e2 e4 e6 e7 e8 e9 e10) (l9 e2 e4 e6 e7 e8 e9 e10) ?_
                show Rn _ _ _ _ _ [vI (unm s 44 (s 38 5))] _ _
                refine r_ireturn F_69_87 rt_69 ?_
                exact (l10 e2 e4 e6 e7 e8 e9 e10)
              · have e11 := hh
                refine r_tswI (t := 88) (z := 41) (i := 1) F_69_47 (l5 e2 e4) rfl rfl (by omega) (by decide) ?_
                refine r_ldR_n (m := 3) F_69_88 rfl ?_
                refine r_ldR_n (m := 0) F_69_89 rfl ?_
                refine r_getR (J := 4) F_69_90 o_69 fl_5_34 ty_0 (by decide) rfl (kd2 kd_0_4 (by decide)) (kd9 kd_0_4 (by decide)) rf_0_4 ?_
                refine r_virt2 (A := []) (r := [vR 44]) (n := 0) F_69_93 o_69 il_5_149 rfl rfl rfl rfl ty_38 vy_71 (lay_le n_71 rfl) ?_
                refine Cl_of n_71 rfl ?_
                show Rn _ _ _ _ [some (vR 38)] [] _ _
                refine r_ldR_n (m := 0) F_71_0 rfl ?_
                refine r_getI (J := 5) (e := (s 38 5)) F_71_1 o_71 fl_1_31 ty_38 (by decide) rfl kd_38_5 rfl ?_
                refine r_ireturn F_71_4 rt_71 ?_
                show Rn _ _ _ _ _ [vI (s 38 5), vR 44] _ _
                refine r_virt2 (A := [vI (s 38 5)]) (r := []) (n := 1) F_69_96 o_69 il_5_155 rfl rfl rfl rfl ty_44 vy_73 (lay_le n_73 rfl) ?_
                refine sp_movedByAll ty_44 (l11 e2 e4 e6 e7 e8 e9 e11) (l12 e2 e4 e6 e7 e8 e9 e11) ?_
                show Rn _ _ _ _ _ [vI (hsm s 44 (s 38 5))] _ _
                refine r_ireturn F_69_99 rt_69 ?_
                exact (l13 e2 e4 e6 e7 e8 e9 e11)
              · have e12 := hh
                refine r_tswI (t := 100) (z := 53) (i := 2) F_69_47 (l5 e2 e4) rfl rfl (by omega) (by decide) ?_
                refine r_iconst F_69_100 ?_
                refine r_ldR_n (m := 3) F_69_101 rfl ?_
                refine r_virt2 (A := []) (r := [vI 4]) (n := 0) F_69_102 o_69 il_5_158 rfl rfl rfl rfl ty_44 vy_68 (lay_le n_68 rfl) ?_
                refine Cl_of n_68 rfl ?_
                show Rn _ _ _ _ [some (vR 44)] [] _ _
                refine r_ldR_n (m := 0) F_68_0 rfl ?_
                refine r_getI (J := 2) (e := (s 44 2)) F_68_1 o_68 fl_0_19 ty_44 (by decide) rfl kd_44_2 rfl ?_
                refine r_ireturn F_68_4 rt_68 ?_
                show Rn _ _ _ _ _ [vI (s 44 2), vI 4] _ _
                refine r_stat2 (A := [vI (s 44 2)]) (r := [vI 4]) (n := 1) F_69_105 o_69 il_5_161 (by decide) rfl rfl rfl rfl (lay_le n_74 rfl) ?_
                refine sp_bitCount (l14 e2 e4 e6 e7 e8 e9 e12) (l15 e2 e4 e6 e7 e8 e9 e12) ?_
                show Rn _ _ _ _ _ [vI (bc (s 44 2)), vI 4] _ _
                refine r_isub F_69_108 rfl ?_
                refine r_ireturn F_69_109 rt_69 ?_
                exact (l16 e2 e4 e6 e7 e8 e9 e12)
              · have e13 := hh
                refine r_tswI (t := 110) (z := 63) (i := 3) F_69_47 (l5 e2 e4) rfl rfl (by omega) (by decide) ?_
                refine r_ldR_n (m := 3) F_69_110 rfl ?_
                refine r_iconst F_69_111 ?_
                refine r_virt2 (A := [vI 1]) (r := []) (n := 1) F_69_112 o_69 il_5_166 rfl rfl rfl rfl ty_44 vy_43 (lay_le n_43 rfl) ?_
                refine sp_heldAs ty_44 (l17 e2 e4 e6 e7 e8 e9 e13) (by decide) ?_
                show Rn _ _ _ _ _ [vI (hset (s (44 + 1)) (hf 1))] _ _
                refine r_ldR_n (m := 3) F_69_115 rfl ?_
                refine r_virt2 (A := []) (r := [vI (hset (s (44 + 1)) (hf 1))]) (n := 0) F_69_116 o_69 il_5_158 rfl rfl rfl rfl ty_44 vy_68 (lay_le n_68 rfl) ?_
                refine Cl_of n_68 rfl ?_
                show Rn _ _ _ _ [some (vR 44)] [] _ _
                refine r_ldR_n (m := 0) F_68_0 rfl ?_
                refine r_getI (J := 2) (e := (s 44 2)) F_68_1 o_68 fl_0_19 ty_44 (by decide) rfl kd_44_2 rfl ?_
                refine r_ireturn F_68_4 rt_68 ?_
                show Rn _ _ _ _ _ [vI (s 44 2), vI (hset (s (44 + 1)) (hf 1))] _ _
                refine r_iconst F_69_119 ?_
                refine r_ixor F_69_120 rfl ?_
                refine r_iand F_69_121 rfl ?_
                refine r_stat2 (A := [vI (iAnd (hset (s (44 + 1)) (hf 1)) (iXor (s 44 2) (-1)))]) (r := []) (n := 1) F_69_122 o_69 il_5_161 (by decide) rfl rfl rfl rfl (lay_le n_74 rfl) ?_
                refine sp_bitCount (l18 e2 e4 e6 e7 e8 e9 e13) (l19 e2 e4 e6 e7 e8 e9 e13) ?_
                show Rn _ _ _ _ _ [vI (bc (iAnd (hset (s (44 + 1)) (hf 1)) (iXor (s 44 2) (-1))))] _ _
                refine r_ireturn F_69_125 rt_69 ?_
                exact (l20 e2 e4 e6 e7 e8 e9 e13)
              · have e14 := hh
                refine r_tswD (t := 126) F_69_47 (l5 e2 e4) rfl e14 ?_
                refine r_ldR_n (m := 3) F_69_126 rfl ?_
                refine r_virt2 (A := []) (r := []) (n := 0) F_69_127 o_69 il_5_158 rfl rfl rfl rfl ty_44 vy_68 (lay_le n_68 rfl) ?_
                refine Cl_of n_68 rfl ?_
                show Rn _ _ _ _ [some (vR 44)] [] _ _
                refine r_ldR_n (m := 0) F_68_0 rfl ?_
                refine r_getI (J := 2) (e := (s 44 2)) F_68_1 o_68 fl_0_19 ty_44 (by decide) rfl kd_44_2 rfl ?_
                refine r_ireturn F_68_4 rt_68 ?_
                show Rn _ _ _ _ _ [vI (s 44 2)] _ _
                refine r_ldR_n (m := 3) F_69_130 rfl ?_
                refine r_iconst F_69_131 ?_
                refine r_virt2 (A := [vI 2]) (r := [vI (s 44 2)]) (n := 1) F_69_132 o_69 il_5_166 rfl rfl rfl rfl ty_44 vy_43 (lay_le n_43 rfl) ?_
                refine sp_heldAs ty_44 (l21 e2 e4 e6 e7 e8 e9 e14) (by decide) ?_
                show Rn _ _ _ _ _ [vI (hset (s (44 + 1)) (hf 2)), vI (s 44 2)] _ _
                refine r_iconst F_69_135 ?_
                refine r_ixor F_69_136 rfl ?_
                refine r_iand F_69_137 rfl ?_
                refine r_stat2 (A := [vI (iAnd (s 44 2) (iXor (hset (s (44 + 1)) (hf 2)) (-1)))]) (r := []) (n := 1) F_69_138 o_69 il_5_161 (by decide) rfl rfl rfl rfl (lay_le n_74 rfl) ?_
                refine sp_bitCount (l22 e2 e4 e6 e7 e8 e9 e14) (l23 e2 e4 e6 e7 e8 e9 e14) ?_
                show Rn _ _ _ _ _ [vI (bc (iAnd (s 44 2) (iXor (hset (s (44 + 1)) (hf 2)) (-1))))] _ _
                refine r_ireturn F_69_141 rt_69 ?_
                exact (l24 e2 e4 e6 e7 e8 e9 e14)
            · intro e15
              replace e15 : ¬ (s 44 1) = k := e15
              refine r_ldR_n (m := 0) F_70_8 rfl ?_
              refine r_getI (J := 1) (e := (s 44 1)) F_70_9 o_70 fl_0_15 ty_44 (by decide) rfl kd_44_1 rfl ?_
              refine r_stat2 (A := [vI (s 44 1)]) (r := []) (n := 1) F_70_12 o_70 il_0_49 (by decide) rfl rfl rfl rfl (lay_le n_61 rfl) ?_
              refine sp_movedAs (l7 e2 e4 e6 e7 e8) ?_
              show Rn _ _ _ _ _ [vI (ma (s 44 1))] _ _
              refine r_ldI_n (m := 1) F_70_15 rfl ?_
              refine r_icmp (t := 23) F_70_16 rfl (inR_ma _) (l5 e2 e4) ?_ ?_
              · intro e16
                replace e16 : ¬ (ma (s 44 1)) = k := e16
                refine r_iconst F_70_23 ?_
                refine r_zreturn F_70_24 rt_70 (Or.inl rfl) ?_
                show Rn _ _ _ _ _ [vI 0] _ _
                refine r_ifF (t := 46) F_69_37 rfl (by decide) (by show ¬ (¬ (0 : Int) = 0); decide) ?_
                refine r_ldR_n (m := 0) F_69_40 rfl ?_
                refine r_iconst F_69_41 ?_
                refine r_virt2 (A := [vI 3]) (r := []) (n := 1) F_69_42 o_69 il_5_74 rfl rfl rfl rfl ty_0 vy_10 (lay_le n_10 rfl) ?_
                refine Cl_of n_10 rfl ?_
                show Rn _ _ _ _ [some (vR 0), some (vI 3)] [] _ _
                refine r_ldI_n (m := 1) F_10_0 rfl ?_
                refine r_iconst F_10_1 ?_
                refine r_icmpF (t := 25) F_10_2 rfl (by decide) (by decide) (by show ¬ ((3 : Int) < 1); decide) ?_
                refine r_ldI_n (m := 1) F_10_5 rfl ?_
                refine r_iconst F_10_6 ?_
                refine r_icmpF (t := 25) F_10_7 rfl (by decide) (by decide) (by show ¬ ((5 : Int) < 3); decide) ?_
                refine r_ldR_n (m := 0) F_10_10 rfl ?_
                refine r_ldI_n (m := 1) F_10_11 rfl ?_
                refine r_putI (J := 8) F_10_12 o_10 fl_5_56 ty_0 (by decide) rfl kd_0_8 pf_5_8 ?_
                refine r_ldR_n (m := 0) F_10_15 rfl ?_
                refine r_getR (J := 7) F_10_16 o_10 fl_5_52 ty_0 (by decide) rfl (kd2 kd_0_7 (by decide)) (kd9 kd_0_7 (by decide)) rf_0_7 ?_
                refine r_ldI_n (m := 1) F_10_19 rfl ?_
                refine r_dup2 F_10_20 ?_
                refine r_iald (e := (s 76 3)) F_10_21 ty_76 (by decide) (lt_ln ln_76 (by decide)) (upd_nc (by decide)) ?_
                refine r_iconst F_10_22 ?_
                refine r_iadd F_10_23 rfl ?_
                refine r_iast F_10_24 ty_76 (by decide) (lt_ln ln_76 (by decide)) ?_
                refine r_bipush F_10_25 bi__3 ?_
                refine r_ireturn F_10_27 rt_10 ?_
                show Rn _ _ _ _ _ [vI (-3)] _ _
                refine r_ireturn F_69_45 rt_69 ?_
                exact (l25 e2 e4 e6 e7 e8 e15 e16)
              · intro e17
                replace e17 : (ma (s 44 1)) = k := (Classical.not_not.mp e17)
                refine r_iconst F_70_19 ?_
                refine r_goto (t := 24) F_70_20 rfl ?_
                refine r_zreturn F_70_24 rt_70 (Or.inr rfl) ?_
                show Rn _ _ _ _ _ [vI 1] _ _
                refine r_ifT (t := 46) F_69_37 rfl (by decide) (by show ¬ (1 : Int) = 0; decide) ?_
                refine r_ldI_n (m := 2) F_69_46 rfl ?_
                rcases (show k = 1 ∨ k = 2 ∨ k = 3 ∨ k = 4 ∨ (k < 1 ∨ 4 < k) by omega) with hh | hh | hh | hh | hh
                · have e18 := hh
                  refine r_tswI (t := 76) (z := 29) (i := 0) F_69_47 (l5 e2 e4) rfl rfl (by omega) (by decide) ?_
                  refine r_ldR_n (m := 3) F_69_76 rfl ?_
                  refine r_ldR_n (m := 0) F_69_77 rfl ?_
                  refine r_getR (J := 4) F_69_78 o_69 fl_5_34 ty_0 (by decide) rfl (kd2 kd_0_4 (by decide)) (kd9 kd_0_4 (by decide)) rf_0_4 ?_
                  refine r_virt2 (A := []) (r := [vR 44]) (n := 0) F_69_81 o_69 il_5_149 rfl rfl rfl rfl ty_38 vy_71 (lay_le n_71 rfl) ?_
                  refine Cl_of n_71 rfl ?_
                  show Rn _ _ _ _ [some (vR 38)] [] _ _
                  refine r_ldR_n (m := 0) F_71_0 rfl ?_
                  refine r_getI (J := 5) (e := (s 38 5)) F_71_1 o_71 fl_1_31 ty_38 (by decide) rfl kd_38_5 rfl ?_
                  refine r_ireturn F_71_4 rt_71 ?_
                  show Rn _ _ _ _ _ [vI (s 38 5), vR 44] _ _
                  refine r_virt2 (A := [vI (s 38 5)]) (r := []) (n := 1) F_69_84 o_69 il_5_152 rfl rfl rfl rfl ty_44 vy_72 (lay_le n_72 rfl) ?_
                  refine sp_unmoving ty_44 (l26 e2 e4 e6 e7 e8 e15 e17 e18) (l27 e2 e4 e6 e7 e8 e15 e17 e18) ?_
                  show Rn _ _ _ _ _ [vI (unm s 44 (s 38 5))] _ _
                  refine r_ireturn F_69_87 rt_69 ?_
                  exact (l28 e2 e4 e6 e7 e8 e15 e17 e18)
                · have e19 := hh
                  refine r_tswI (t := 88) (z := 41) (i := 1) F_69_47 (l5 e2 e4) rfl rfl (by omega) (by decide) ?_
                  refine r_ldR_n (m := 3) F_69_88 rfl ?_
                  refine r_ldR_n (m := 0) F_69_89 rfl ?_
                  refine r_getR (J := 4) F_69_90 o_69 fl_5_34 ty_0 (by decide) rfl (kd2 kd_0_4 (by decide)) (kd9 kd_0_4 (by decide)) rf_0_4 ?_
                  refine r_virt2 (A := []) (r := [vR 44]) (n := 0) F_69_93 o_69 il_5_149 rfl rfl rfl rfl ty_38 vy_71 (lay_le n_71 rfl) ?_
                  refine Cl_of n_71 rfl ?_
                  show Rn _ _ _ _ [some (vR 38)] [] _ _
                  refine r_ldR_n (m := 0) F_71_0 rfl ?_
                  refine r_getI (J := 5) (e := (s 38 5)) F_71_1 o_71 fl_1_31 ty_38 (by decide) rfl kd_38_5 rfl ?_
                  refine r_ireturn F_71_4 rt_71 ?_
                  show Rn _ _ _ _ _ [vI (s 38 5), vR 44] _ _
                  refine r_virt2 (A := [vI (s 38 5)]) (r := []) (n := 1) F_69_96 o_69 il_5_155 rfl rfl rfl rfl ty_44 vy_73 (lay_le n_73 rfl) ?_
                  refine sp_movedByAll ty_44 (l29 e2 e4 e6 e7 e8 e15 e17 e19) (l30 e2 e4 e6 e7 e8 e15 e17 e19) ?_
                  show Rn _ _ _ _ _ [vI (hsm s 44 (s 38 5))] _ _
                  refine r_ireturn F_69_99 rt_69 ?_
                  exact (l31 e2 e4 e6 e7 e8 e15 e17 e19)
                · have e20 := hh
                  refine r_tswI (t := 100) (z := 53) (i := 2) F_69_47 (l5 e2 e4) rfl rfl (by omega) (by decide) ?_
                  refine r_iconst F_69_100 ?_
                  refine r_ldR_n (m := 3) F_69_101 rfl ?_
                  refine r_virt2 (A := []) (r := [vI 4]) (n := 0) F_69_102 o_69 il_5_158 rfl rfl rfl rfl ty_44 vy_68 (lay_le n_68 rfl) ?_
                  refine Cl_of n_68 rfl ?_
                  show Rn _ _ _ _ [some (vR 44)] [] _ _
                  refine r_ldR_n (m := 0) F_68_0 rfl ?_
                  refine r_getI (J := 2) (e := (s 44 2)) F_68_1 o_68 fl_0_19 ty_44 (by decide) rfl kd_44_2 rfl ?_
                  refine r_ireturn F_68_4 rt_68 ?_
                  show Rn _ _ _ _ _ [vI (s 44 2), vI 4] _ _
                  refine r_stat2 (A := [vI (s 44 2)]) (r := [vI 4]) (n := 1) F_69_105 o_69 il_5_161 (by decide) rfl rfl rfl rfl (lay_le n_74 rfl) ?_
                  refine sp_bitCount (l32 e2 e4 e6 e7 e8 e15 e17 e20) (l33 e2 e4 e6 e7 e8 e15 e17 e20) ?_
                  show Rn _ _ _ _ _ [vI (bc (s 44 2)), vI 4] _ _
                  refine r_isub F_69_108 rfl ?_
                  refine r_ireturn F_69_109 rt_69 ?_
                  exact (l34 e2 e4 e6 e7 e8 e15 e17 e20)
                · have e21 := hh
                  refine r_tswI (t := 110) (z := 63) (i := 3) F_69_47 (l5 e2 e4) rfl rfl (by omega) (by decide) ?_
                  refine r_ldR_n (m := 3) F_69_110 rfl ?_
                  refine r_iconst F_69_111 ?_
                  refine r_virt2 (A := [vI 1]) (r := []) (n := 1) F_69_112 o_69 il_5_166 rfl rfl rfl rfl ty_44 vy_43 (lay_le n_43 rfl) ?_
                  refine sp_heldAs ty_44 (l35 e2 e4 e6 e7 e8 e15 e17 e21) (by decide) ?_
                  show Rn _ _ _ _ _ [vI (hset (s (44 + 1)) (hf 1))] _ _
                  refine r_ldR_n (m := 3) F_69_115 rfl ?_
                  refine r_virt2 (A := []) (r := [vI (hset (s (44 + 1)) (hf 1))]) (n := 0) F_69_116 o_69 il_5_158 rfl rfl rfl rfl ty_44 vy_68 (lay_le n_68 rfl) ?_
                  refine Cl_of n_68 rfl ?_
                  show Rn _ _ _ _ [some (vR 44)] [] _ _
                  refine r_ldR_n (m := 0) F_68_0 rfl ?_
                  refine r_getI (J := 2) (e := (s 44 2)) F_68_1 o_68 fl_0_19 ty_44 (by decide) rfl kd_44_2 rfl ?_
                  refine r_ireturn F_68_4 rt_68 ?_
                  show Rn _ _ _ _ _ [vI (s 44 2), vI (hset (s (44 + 1)) (hf 1))] _ _
                  refine r_iconst F_69_119 ?_
                  refine r_ixor F_69_120 rfl ?_
                  refine r_iand F_69_121 rfl ?_
                  refine r_stat2 (A := [vI (iAnd (hset (s (44 + 1)) (hf 1)) (iXor (s 44 2) (-1)))]) (r := []) (n := 1) F_69_122 o_69 il_5_161 (by decide) rfl rfl rfl rfl (lay_le n_74 rfl) ?_
                  refine sp_bitCount (l36 e2 e4 e6 e7 e8 e15 e17 e21) (l37 e2 e4 e6 e7 e8 e15 e17 e21) ?_
                  show Rn _ _ _ _ _ [vI (bc (iAnd (hset (s (44 + 1)) (hf 1)) (iXor (s 44 2) (-1))))] _ _
                  refine r_ireturn F_69_125 rt_69 ?_
                  exact (l38 e2 e4 e6 e7 e8 e15 e17 e21)
                · have e22 := hh
                  refine r_tswD (t := 126) F_69_47 (l5 e2 e4) rfl e22 ?_
                  refine r_ldR_n (m := 3) F_69_126 rfl ?_
                  refine r_virt2 (A := []) (r := []) (n := 0) F_69_127 o_69 il_5_158 rfl rfl rfl rfl ty_44 vy_68 (lay_le n_68 rfl) ?_
                  refine Cl_of n_68 rfl ?_
                  show Rn _ _ _ _ [some (vR 44)] [] _ _
                  refine r_ldR_n (m := 0) F_68_0 rfl ?_
                  refine r_getI (J := 2) (e := (s 44 2)) F_68_1 o_68 fl_0_19 ty_44 (by decide) rfl kd_44_2 rfl ?_
                  refine r_ireturn F_68_4 rt_68 ?_
                  show Rn _ _ _ _ _ [vI (s 44 2)] _ _
                  refine r_ldR_n (m := 3) F_69_130 rfl ?_
                  refine r_iconst F_69_131 ?_
                  refine r_virt2 (A := [vI 2]) (r := [vI (s 44 2)]) (n := 1) F_69_132 o_69 il_5_166 rfl rfl rfl rfl ty_44 vy_43 (lay_le n_43 rfl) ?_
                  refine sp_heldAs ty_44 (l39 e2 e4 e6 e7 e8 e15 e17 e22) (by decide) ?_
                  show Rn _ _ _ _ _ [vI (hset (s (44 + 1)) (hf 2)), vI (s 44 2)] _ _
                  refine r_iconst F_69_135 ?_
                  refine r_ixor F_69_136 rfl ?_
                  refine r_iand F_69_137 rfl ?_
                  refine r_stat2 (A := [vI (iAnd (s 44 2) (iXor (hset (s (44 + 1)) (hf 2)) (-1)))]) (r := []) (n := 1) F_69_138 o_69 il_5_161 (by decide) rfl rfl rfl rfl (lay_le n_74 rfl) ?_
                  refine sp_bitCount (l40 e2 e4 e6 e7 e8 e15 e17 e22) (l41 e2 e4 e6 e7 e8 e15 e17 e22) ?_
                  show Rn _ _ _ _ _ [vI (bc (iAnd (s 44 2) (iXor (hset (s (44 + 1)) (hf 2)) (-1))))] _ _
                  refine r_ireturn F_69_141 rt_69 ?_
                  exact (l42 e2 e4 e6 e7 e8 e15 e17 e22)
          · intro e23
            replace e23 : i < 6 := (Int.not_le.mp e23)
            refine r_ldI_n (m := 1) F_58_14 rfl ?_
            refine r_goto (t := 19) F_58_15 rfl ?_
            refine r_aald F_58_19 ty_40 (by decide) e2 (lt_ln ln_40 e23) (rw_40 ⟨e2, e23⟩).2 ?_
            refine r_areturn F_58_20 rob_58 ?_
            show Rn _ _ _ _ _ [vR (44 + 4 * i)] _ _
            refine r_stR_n (m := 3) (L' := [some (vR 0), some (vI i), some (vI k), some (vR (44 + 4 * i))]) F_69_31 rfl rfl ?_
            refine r_ldR_n (m := 3) F_69_32 rfl ?_
            refine r_ldI_n (m := 2) F_69_33 rfl ?_
            refine r_virt2 (A := [vI k]) (r := []) (n := 1) F_69_34 o_69 il_5_146 rfl rfl rfl rfl (rw_40 ⟨e2, e23⟩).1 vy_70 (lay_le n_70 rfl) ?_
            refine Cl_of n_70 rfl ?_
            show Rn _ _ _ _ [some (vR (44 + 4 * i)), some (vI k)] [] _ _
            refine r_ldR_n (m := 0) F_70_0 rfl ?_
            refine r_getI (J := 1) (e := (s (44 + 4 * i) 1)) F_70_1 o_70 fl_0_15 (rw_40 ⟨e2, e23⟩).1 (by decide) rfl (gw (rw_40 ⟨e2, e23⟩).1).2.2.1 rfl ?_
            refine r_ldI_n (m := 1) F_70_4 rfl ?_
            refine r_icmp (t := 19) F_70_5 rfl (l43 e2 e4 e6 e7 e23) (l5 e2 e4) ?_ ?_
            · intro e24
              replace e24 : (s (44 + 4 * i) 1) = k := e24
              refine r_iconst F_70_19 ?_
              refine r_goto (t := 24) F_70_20 rfl ?_
              refine r_zreturn F_70_24 rt_70 (Or.inr rfl) ?_
              show Rn _ _ _ _ _ [vI 1] _ _
              refine r_ifT (t := 46) F_69_37 rfl (by decide) (by show ¬ (1 : Int) = 0; decide) ?_
              refine r_ldI_n (m := 2) F_69_46 rfl ?_
              rcases (show k = 1 ∨ k = 2 ∨ k = 3 ∨ k = 4 ∨ (k < 1 ∨ 4 < k) by omega) with hh | hh | hh | hh | hh
              · have e25 := hh
                refine r_tswI (t := 76) (z := 29) (i := 0) F_69_47 (l5 e2 e4) rfl rfl (by omega) (by decide) ?_
                refine r_ldR_n (m := 3) F_69_76 rfl ?_
                refine r_ldR_n (m := 0) F_69_77 rfl ?_
                refine r_getR (J := 4) F_69_78 o_69 fl_5_34 ty_0 (by decide) rfl (kd2 kd_0_4 (by decide)) (kd9 kd_0_4 (by decide)) rf_0_4 ?_
                refine r_virt2 (A := []) (r := [vR (44 + 4 * i)]) (n := 0) F_69_81 o_69 il_5_149 rfl rfl rfl rfl ty_38 vy_71 (lay_le n_71 rfl) ?_
                refine Cl_of n_71 rfl ?_
                show Rn _ _ _ _ [some (vR 38)] [] _ _
                refine r_ldR_n (m := 0) F_71_0 rfl ?_
                refine r_getI (J := 5) (e := (s 38 5)) F_71_1 o_71 fl_1_31 ty_38 (by decide) rfl kd_38_5 rfl ?_
                refine r_ireturn F_71_4 rt_71 ?_
                show Rn _ _ _ _ _ [vI (s 38 5), vR (44 + 4 * i)] _ _
                refine r_virt2 (A := [vI (s 38 5)]) (r := []) (n := 1) F_69_84 o_69 il_5_152 rfl rfl rfl rfl (rw_40 ⟨e2, e23⟩).1 vy_72 (lay_le n_72 rfl) ?_
                refine sp_unmoving (rw_40 ⟨e2, e23⟩).1 (l44 e2 e4 e6 e7 e23 e24 e25) (l45 e2 e4 e6 e7 e23 e24 e25) ?_
                show Rn _ _ _ _ _ [vI (unm s (44 + 4 * i) (s 38 5))] _ _
                refine r_ireturn F_69_87 rt_69 ?_
                exact (l46 e2 e4 e6 e7 e23 e24 e25)
              · have e26 := hh
                refine r_tswI (t := 88) (z := 41) (i := 1) F_69_47 (l5 e2 e4) rfl rfl (by omega) (by decide) ?_
                refine r_ldR_n (m := 3) F_69_88 rfl ?_
                refine r_ldR_n (m := 0) F_69_89 rfl ?_
                refine r_getR (J := 4) F_69_90 o_69 fl_5_34 ty_0 (by decide) rfl (kd2 kd_0_4 (by decide)) (kd9 kd_0_4 (by decide)) rf_0_4 ?_
                refine r_virt2 (A := []) (r := [vR (44 + 4 * i)]) (n := 0) F_69_93 o_69 il_5_149 rfl rfl rfl rfl ty_38 vy_71 (lay_le n_71 rfl) ?_
                refine Cl_of n_71 rfl ?_
                show Rn _ _ _ _ [some (vR 38)] [] _ _
                refine r_ldR_n (m := 0) F_71_0 rfl ?_
                refine r_getI (J := 5) (e := (s 38 5)) F_71_1 o_71 fl_1_31 ty_38 (by decide) rfl kd_38_5 rfl ?_
                refine r_ireturn F_71_4 rt_71 ?_
                show Rn _ _ _ _ _ [vI (s 38 5), vR (44 + 4 * i)] _ _
                refine r_virt2 (A := [vI (s 38 5)]) (r := []) (n := 1) F_69_96 o_69 il_5_155 rfl rfl rfl rfl (rw_40 ⟨e2, e23⟩).1 vy_73 (lay_le n_73 rfl) ?_
                refine sp_movedByAll (rw_40 ⟨e2, e23⟩).1 (l47 e2 e4 e6 e7 e23 e24 e26) (l48 e2 e4 e6 e7 e23 e24 e26) ?_
                show Rn _ _ _ _ _ [vI (hsm s (44 + 4 * i) (s 38 5))] _ _
                refine r_ireturn F_69_99 rt_69 ?_
                exact (l49 e2 e4 e6 e7 e23 e24 e26)
              · have e27 := hh
                refine r_tswI (t := 100) (z := 53) (i := 2) F_69_47 (l5 e2 e4) rfl rfl (by omega) (by decide) ?_
                refine r_iconst F_69_100 ?_
                refine r_ldR_n (m := 3) F_69_101 rfl ?_
                refine r_virt2 (A := []) (r := [vI 4]) (n := 0) F_69_102 o_69 il_5_158 rfl rfl rfl rfl (rw_40 ⟨e2, e23⟩).1 vy_68 (lay_le n_68 rfl) ?_
                refine Cl_of n_68 rfl ?_
                show Rn _ _ _ _ [some (vR (44 + 4 * i))] [] _ _
                refine r_ldR_n (m := 0) F_68_0 rfl ?_
                refine r_getI (J := 2) (e := (s (44 + 4 * i) 2)) F_68_1 o_68 fl_0_19 (rw_40 ⟨e2, e23⟩).1 (by decide) rfl (gw (rw_40 ⟨e2, e23⟩).1).2.2.2.1 rfl ?_
                refine r_ireturn F_68_4 rt_68 ?_
                show Rn _ _ _ _ _ [vI (s (44 + 4 * i) 2), vI 4] _ _
                refine r_stat2 (A := [vI (s (44 + 4 * i) 2)]) (r := [vI 4]) (n := 1) F_69_105 o_69 il_5_161 (by decide) rfl rfl rfl rfl (lay_le n_74 rfl) ?_
                refine sp_bitCount (l50 e2 e4 e6 e7 e23 e24 e27) (l51 e2 e4 e6 e7 e23 e24 e27) ?_
                show Rn _ _ _ _ _ [vI (bc (s (44 + 4 * i) 2)), vI 4] _ _
                refine r_isub F_69_108 rfl ?_
                refine r_ireturn F_69_109 rt_69 ?_
                exact (l52 e2 e4 e6 e7 e23 e24 e27)
              · have e28 := hh
                refine r_tswI (t := 110) (z := 63) (i := 3) F_69_47 (l5 e2 e4) rfl rfl (by omega) (by decide) ?_
                refine r_ldR_n (m := 3) F_69_110 rfl ?_
                refine r_iconst F_69_111 ?_
                refine r_virt2 (A := [vI 1]) (r := []) (n := 1) F_69_112 o_69 il_5_166 rfl rfl rfl rfl (rw_40 ⟨e2, e23⟩).1 vy_43 (lay_le n_43 rfl) ?_
                refine sp_heldAs (rw_40 ⟨e2, e23⟩).1 (l53 e2 e4 e6 e7 e23 e24 e28) (by decide) ?_
                show Rn _ _ _ _ _ [vI (hset (s ((44 + 4 * i) + 1)) (hf 1))] _ _
                refine r_ldR_n (m := 3) F_69_115 rfl ?_
                refine r_virt2 (A := []) (r := [vI (hset (s ((44 + 4 * i) + 1)) (hf 1))]) (n := 0) F_69_116 o_69 il_5_158 rfl rfl rfl rfl (rw_40 ⟨e2, e23⟩).1 vy_68 (lay_le n_68 rfl) ?_
                refine Cl_of n_68 rfl ?_
                show Rn _ _ _ _ [some (vR (44 + 4 * i))] [] _ _
                refine r_ldR_n (m := 0) F_68_0 rfl ?_
                refine r_getI (J := 2) (e := (s (44 + 4 * i) 2)) F_68_1 o_68 fl_0_19 (rw_40 ⟨e2, e23⟩).1 (by decide) rfl (gw (rw_40 ⟨e2, e23⟩).1).2.2.2.1 rfl ?_
                refine r_ireturn F_68_4 rt_68 ?_
                show Rn _ _ _ _ _ [vI (s (44 + 4 * i) 2), vI (hset (s ((44 + 4 * i) + 1)) (hf 1))] _ _
                refine r_iconst F_69_119 ?_
                refine r_ixor F_69_120 rfl ?_
                refine r_iand F_69_121 rfl ?_
                refine r_stat2 (A := [vI (iAnd (hset (s ((44 + 4 * i) + 1)) (hf 1)) (iXor (s (44 + 4 * i) 2) (-1)))]) (r := []) (n := 1) F_69_122 o_69 il_5_161 (by decide) rfl rfl rfl rfl (lay_le n_74 rfl) ?_
                refine sp_bitCount (l54 e2 e4 e6 e7 e23 e24 e28) (l55 e2 e4 e6 e7 e23 e24 e28) ?_
                show Rn _ _ _ _ _ [vI (bc (iAnd (hset (s ((44 + 4 * i) + 1)) (hf 1)) (iXor (s (44 + 4 * i) 2) (-1))))] _ _
                refine r_ireturn F_69_125 rt_69 ?_
                exact (l56 e2 e4 e6 e7 e23 e24 e28)
              · have e29 := hh
                refine r_tswD (t := 126) F_69_47 (l5 e2 e4) rfl e29 ?_
                refine r_ldR_n (m := 3) F_69_126 rfl ?_
                refine r_virt2 (A := []) (r := []) (n := 0) F_69_127 o_69 il_5_158 rfl rfl rfl rfl (rw_40 ⟨e2, e23⟩).1 vy_68 (lay_le n_68 rfl) ?_
                refine Cl_of n_68 rfl ?_
                show Rn _ _ _ _ [some (vR (44 + 4 * i))] [] _ _
                refine r_ldR_n (m := 0) F_68_0 rfl ?_
                refine r_getI (J := 2) (e := (s (44 + 4 * i) 2)) F_68_1 o_68 fl_0_19 (rw_40 ⟨e2, e23⟩).1 (by decide) rfl (gw (rw_40 ⟨e2, e23⟩).1).2.2.2.1 rfl ?_
                refine r_ireturn F_68_4 rt_68 ?_
                show Rn _ _ _ _ _ [vI (s (44 + 4 * i) 2)] _ _
                refine r_ldR_n (m := 3) F_69_130 rfl ?_
                refine r_iconst F_69_131 ?_
                refine r_virt2 (A := [vI 2]) (r := [vI (s (44 + 4 * i) 2)]) (n := 1) F_69_132 o_69 il_5_166 rfl rfl rfl rfl (rw_40 ⟨e2, e23⟩).1 vy_43 (lay_le n_43 rfl) ?_
                refine sp_heldAs (rw_40 ⟨e2, e23⟩).1 (l57 e2 e4 e6 e7 e23 e24 e29) (by decide) ?_
                show Rn _ _ _ _ _ [vI (hset (s ((44 + 4 * i) + 1)) (hf 2)), vI (s (44 + 4 * i) 2)] _ _
                refine r_iconst F_69_135 ?_
                refine r_ixor F_69_136 rfl ?_
                refine r_iand F_69_137 rfl ?_
                refine r_stat2 (A := [vI (iAnd (s (44 + 4 * i) 2) (iXor (hset (s ((44 + 4 * i) + 1)) (hf 2)) (-1)))]) (r := []) (n := 1) F_69_138 o_69 il_5_161 (by decide) rfl rfl rfl rfl (lay_le n_74 rfl) ?_
                refine sp_bitCount (l58 e2 e4 e6 e7 e23 e24 e29) (l59 e2 e4 e6 e7 e23 e24 e29) ?_
                show Rn _ _ _ _ _ [vI (bc (iAnd (s (44 + 4 * i) 2) (iXor (hset (s ((44 + 4 * i) + 1)) (hf 2)) (-1))))] _ _
                refine r_ireturn F_69_141 rt_69 ?_
                exact (l60 e2 e4 e6 e7 e23 e24 e29)
            · intro e30
              replace e30 : ¬ (s (44 + 4 * i) 1) = k := e30
              refine r_ldR_n (m := 0) F_70_8 rfl ?_
              refine r_getI (J := 1) (e := (s (44 + 4 * i) 1)) F_70_9 o_70 fl_0_15 (rw_40 ⟨e2, e23⟩).1 (by decide) rfl (gw (rw_40 ⟨e2, e23⟩).1).2.2.1 rfl ?_
              refine r_stat2 (A := [vI (s (44 + 4 * i) 1)]) (r := []) (n := 1) F_70_12 o_70 il_0_49 (by decide) rfl rfl rfl rfl (lay_le n_61 rfl) ?_
              refine sp_movedAs (l43 e2 e4 e6 e7 e23) ?_
              show Rn _ _ _ _ _ [vI (ma (s (44 + 4 * i) 1))] _ _
              refine r_ldI_n (m := 1) F_70_15 rfl ?_
              refine r_icmp (t := 23) F_70_16 rfl (inR_ma _) (l5 e2 e4) ?_ ?_
              · intro e31
                replace e31 : ¬ (ma (s (44 + 4 * i) 1)) = k := e31
                refine r_iconst F_70_23 ?_
                refine r_zreturn F_70_24 rt_70 (Or.inl rfl) ?_
                show Rn _ _ _ _ _ [vI 0] _ _
                refine r_ifF (t := 46) F_69_37 rfl (by decide) (by show ¬ (¬ (0 : Int) = 0); decide) ?_
                refine r_ldR_n (m := 0) F_69_40 rfl ?_
                refine r_iconst F_69_41 ?_
                refine r_virt2 (A := [vI 3]) (r := []) (n := 1) F_69_42 o_69 il_5_74 rfl rfl rfl rfl ty_0 vy_10 (lay_le n_10 rfl) ?_
                refine Cl_of n_10 rfl ?_
                show Rn _ _ _ _ [some (vR 0), some (vI 3)] [] _ _
                refine r_ldI_n (m := 1) F_10_0 rfl ?_
                refine r_iconst F_10_1 ?_
                refine r_icmpF (t := 25) F_10_2 rfl (by decide) (by decide) (by show ¬ ((3 : Int) < 1); decide) ?_
                refine r_ldI_n (m := 1) F_10_5 rfl ?_
                refine r_iconst F_10_6 ?_
                refine r_icmpF (t := 25) F_10_7 rfl (by decide) (by decide) (by show ¬ ((5 : Int) < 3); decide) ?_
                refine r_ldR_n (m := 0) F_10_10 rfl ?_
                refine r_ldI_n (m := 1) F_10_11 rfl ?_
                refine r_putI (J := 8) F_10_12 o_10 fl_5_56 ty_0 (by decide) rfl kd_0_8 pf_5_8 ?_
                refine r_ldR_n (m := 0) F_10_15 rfl ?_
                refine r_getR (J := 7) F_10_16 o_10 fl_5_52 ty_0 (by decide) rfl (kd2 kd_0_7 (by decide)) (kd9 kd_0_7 (by decide)) rf_0_7 ?_
                refine r_ldI_n (m := 1) F_10_19 rfl ?_
                refine r_dup2 F_10_20 ?_
                refine r_iald (e := (s 76 3)) F_10_21 ty_76 (by decide) (lt_ln ln_76 (by decide)) (upd_nc (by decide)) ?_
                refine r_iconst F_10_22 ?_
                refine r_iadd F_10_23 rfl ?_
                refine r_iast F_10_24 ty_76 (by decide) (lt_ln ln_76 (by decide)) ?_
                refine r_bipush F_10_25 bi__3 ?_
                refine r_ireturn F_10_27 rt_10 ?_
                show Rn _ _ _ _ _ [vI (-3)] _ _
                refine r_ireturn F_69_45 rt_69 ?_
                exact (l61 e2 e4 e6 e7 e23 e30 e31)
              · intro e32
                replace e32 : (ma (s (44 + 4 * i) 1)) = k := (Classical.not_not.mp e32)
                refine r_iconst F_70_19 ?_
                refine r_goto (t := 24) F_70_20 rfl ?_
                refine r_zreturn F_70_24 rt_70 (Or.inr rfl) ?_
                show Rn _ _ _ _ _ [vI 1] _ _
                refine r_ifT (t := 46) F_69_37 rfl (by decide) (by show ¬ (1 : Int) = 0; decide) ?_
                refine r_ldI_n (m := 2) F_69_46 rfl ?_
                rcases (show k = 1 ∨ k = 2 ∨ k = 3 ∨ k = 4 ∨ (k < 1 ∨ 4 < k) by omega) with hh | hh | hh | hh | hh
                · have e33 := hh
                  refine r_tswI (t := 76) (z := 29) (i := 0) F_69_47 (l5 e2 e4) rfl rfl (by omega) (by decide) ?_
                  refine r_ldR_n (m := 3) F_69_76 rfl ?_
                  refine r_ldR_n (m := 0) F_69_77 rfl ?_
                  refine r_getR (J := 4) F_69_78 o_69 fl_5_34 ty_0 (by decide) rfl (kd2 kd_0_4 (by decide)) (kd9 kd_0_4 (by decide)) rf_0_4 ?_
                  refine r_virt2 (A := []) (r := [vR (44 + 4 * i)]) (n := 0) F_69_81 o_69 il_5_149 rfl rfl rfl rfl ty_38 vy_71 (lay_le n_71 rfl) ?_
                  refine Cl_of n_71 rfl ?_
                  show Rn _ _ _ _ [some (vR 38)] [] _ _
                  refine r_ldR_n (m := 0) F_71_0 rfl ?_
                  refine r_getI (J := 5) (e := (s 38 5)) F_71_1 o_71 fl_1_31 ty_38 (by decide) rfl kd_38_5 rfl ?_
                  refine r_ireturn F_71_4 rt_71 ?_
                  show Rn _ _ _ _ _ [vI (s 38 5), vR (44 + 4 * i)] _ _
                  refine r_virt2 (A := [vI (s 38 5)]) (r := []) (n := 1) F_69_84 o_69 il_5_152 rfl rfl rfl rfl (rw_40 ⟨e2, e23⟩).1 vy_72 (lay_le n_72 rfl) ?_
                  refine sp_unmoving (rw_40 ⟨e2, e23⟩).1 (l62 e2 e4 e6 e7 e23 e30 e32 e33) (l63 e2 e4 e6 e7 e23 e30 e32 e33) ?_
                  show Rn _ _ _ _ _ [vI (unm s (44 + 4 * i) (s 38 5))] _ _
                  refine r_ireturn F_69_87 rt_69 ?_
                  exact (l64 e2 e4 e6 e7 e23 e30 e32 e33)
                · have e34 := hh
                  refine r_tswI (t := 88) (z := 41) (i := 1) F_69_47 (l5 e2 e4) rfl rfl (by omega) (by decide) ?_
                  refine r_ldR_n (m := 3) F_69_88 rfl ?_
                  refine r_ldR_n (m := 0) F_69_89 rfl ?_
                  refine r_getR (J := 4) F_69_90 o_69 fl_5_34 ty_0 (by decide) rfl (kd2 kd_0_4 (by decide)) (kd9 kd_0_4 (by decide)) rf_0_4 ?_
                  refine r_virt2 (A := []) (r := [vR (44 + 4 * i)]) (n := 0) F_69_93 o_69 il_5_149 rfl rfl rfl rfl ty_38 vy_71 (lay_le n_71 rfl) ?_
                  refine Cl_of n_71 rfl ?_
                  show Rn _ _ _ _ [some (vR 38)] [] _ _
                  refine r_ldR_n (m := 0) F_71_0 rfl ?_
                  refine r_getI (J := 5) (e := (s 38 5)) F_71_1 o_71 fl_1_31 ty_38 (by decide) rfl kd_38_5 rfl ?_
                  refine r_ireturn F_71_4 rt_71 ?_
                  show Rn _ _ _ _ _ [vI (s 38 5), vR (44 + 4 * i)] _ _
                  refine r_virt2 (A := [vI (s 38 5)]) (r := []) (n := 1) F_69_96 o_69 il_5_155 rfl rfl rfl rfl (rw_40 ⟨e2, e23⟩).1 vy_73 (lay_le n_73 rfl) ?_
                  refine sp_movedByAll (rw_40 ⟨e2, e23⟩).1 (l65 e2 e4 e6 e7 e23 e30 e32 e34) (l66 e2 e4 e6 e7 e23 e30 e32 e34) ?_
                  show Rn _ _ _ _ _ [vI (hsm s (44 + 4 * i) (s 38 5))] _ _
                  refine r_ireturn F_69_99 rt_69 ?_
                  exact (l67 e2 e4 e6 e7 e23 e30 e32 e34)
                · have e35 := hh
                  refine r_tswI (t := 100) (z := 53) (i := 2) F_69_47 (l5 e2 e4) rfl rfl (by omega) (by decide) ?_
                  refine r_iconst F_69_100 ?_
                  refine r_ldR_n (m := 3) F_69_101 rfl ?_
                  refine r_virt2 (A := []) (r := [vI 4]) (n := 0) F_69_102 o_69 il_5_158 rfl rfl rfl rfl (rw_40 ⟨e2, e23⟩).1 vy_68 (lay_le n_68 rfl) ?_
                  refine Cl_of n_68 rfl ?_
                  show Rn _ _ _ _ [some (vR (44 + 4 * i))] [] _ _
                  refine r_ldR_n (m := 0) F_68_0 rfl ?_
                  refine r_getI (J := 2) (e := (s (44 + 4 * i) 2)) F_68_1 o_68 fl_0_19 (rw_40 ⟨e2, e23⟩).1 (by decide) rfl (gw (rw_40 ⟨e2, e23⟩).1).2.2.2.1 rfl ?_
                  refine r_ireturn F_68_4 rt_68 ?_
                  show Rn _ _ _ _ _ [vI (s (44 + 4 * i) 2), vI 4] _ _
                  refine r_stat2 (A := [vI (s (44 + 4 * i) 2)]) (r := [vI 4]) (n := 1) F_69_105 o_69 il_5_161 (by decide) rfl rfl rfl rfl (lay_le n_74 rfl) ?_
                  refine sp_bitCount (l68 e2 e4 e6 e7 e23 e30 e32 e35) (l69 e2 e4 e6 e7 e23 e30 e32 e35) ?_
                  show Rn _ _ _ _ _ [vI (bc (s (44 + 4 * i) 2)), vI 4] _ _
                  refine r_isub F_69_108 rfl ?_
                  refine r_ireturn F_69_109 rt_69 ?_
                  exact (l70 e2 e4 e6 e7 e23 e30 e32 e35)
                · have e36 := hh
                  refine r_tswI (t := 110) (z := 63) (i := 3) F_69_47 (l5 e2 e4) rfl rfl (by omega) (by decide) ?_
                  refine r_ldR_n (m := 3) F_69_110 rfl ?_
                  refine r_iconst F_69_111 ?_
                  refine r_virt2 (A := [vI 1]) (r := []) (n := 1) F_69_112 o_69 il_5_166 rfl rfl rfl rfl (rw_40 ⟨e2, e23⟩).1 vy_43 (lay_le n_43 rfl) ?_
                  refine sp_heldAs (rw_40 ⟨e2, e23⟩).1 (l71 e2 e4 e6 e7 e23 e30 e32 e36) (by decide) ?_
                  show Rn _ _ _ _ _ [vI (hset (s ((44 + 4 * i) + 1)) (hf 1))] _ _
                  refine r_ldR_n (m := 3) F_69_115 rfl ?_
                  refine r_virt2 (A := []) (r := [vI (hset (s ((44 + 4 * i) + 1)) (hf 1))]) (n := 0) F_69_116 o_69 il_5_158 rfl rfl rfl rfl (rw_40 ⟨e2, e23⟩).1 vy_68 (lay_le n_68 rfl) ?_
                  refine Cl_of n_68 rfl ?_
                  show Rn _ _ _ _ [some (vR (44 + 4 * i))] [] _ _
                  refine r_ldR_n (m := 0) F_68_0 rfl ?_
                  refine r_getI (J := 2) (e := (s (44 + 4 * i) 2)) F_68_1 o_68 fl_0_19 (rw_40 ⟨e2, e23⟩).1 (by decide) rfl (gw (rw_40 ⟨e2, e23⟩).1).2.2.2.1 rfl ?_
                  refine r_ireturn F_68_4 rt_68 ?_
                  show Rn _ _ _ _ _ [vI (s (44 + 4 * i) 2), vI (hset (s ((44 + 4 * i) + 1)) (hf 1))] _ _
                  refine r_iconst F_69_119 ?_
                  refine r_ixor F_69_120 rfl ?_
                  refine r_iand F_69_121 rfl ?_
                  refine r_stat2 (A := [vI (iAnd (hset (s ((44 + 4 * i) + 1)) (hf 1)) (iXor (s (44 + 4 * i) 2) (-1)))]) (r := []) (n := 1) F_69_122 o_69 il_5_161 (by decide) rfl rfl rfl rfl (lay_le n_74 rfl) ?_
                  refine sp_bitCount (l72 e2 e4 e6 e7 e23 e30 e32 e36) (l73 e2 e4 e6 e7 e23 e30 e32 e36) ?_
                  show Rn _ _ _ _ _ [vI (bc (iAnd (hset (s ((44 + 4 * i) + 1)) (hf 1)) (iXor (s (44 + 4 * i) 2) (-1))))] _ _
                  refine r_ireturn F_69_125 rt_69 ?_
                  exact (l74 e2 e4 e6 e7 e23 e30 e32 e36)
                · have e37 := hh
                  refine r_tswD (t := 126) F_69_47 (l5 e2 e4) rfl e37 ?_
                  refine r_ldR_n (m := 3) F_69_126 rfl ?_
                  refine r_virt2 (A := []) (r := []) (n := 0) F_69_127 o_69 il_5_158 rfl rfl rfl rfl (rw_40 ⟨e2, e23⟩).1 vy_68 (lay_le n_68 rfl) ?_
                  refine Cl_of n_68 rfl ?_
                  show Rn _ _ _ _ [some (vR (44 + 4 * i))] [] _ _
                  refine r_ldR_n (m := 0) F_68_0 rfl ?_
                  refine r_getI (J := 2) (e := (s (44 + 4 * i) 2)) F_68_1 o_68 fl_0_19 (rw_40 ⟨e2, e23⟩).1 (by decide) rfl (gw (rw_40 ⟨e2, e23⟩).1).2.2.2.1 rfl ?_
                  refine r_ireturn F_68_4 rt_68 ?_
                  show Rn _ _ _ _ _ [vI (s (44 + 4 * i) 2)] _ _
                  refine r_ldR_n (m := 3) F_69_130 rfl ?_
                  refine r_iconst F_69_131 ?_
                  refine r_virt2 (A := [vI 2]) (r := [vI (s (44 + 4 * i) 2)]) (n := 1) F_69_132 o_69 il_5_166 rfl rfl rfl rfl (rw_40 ⟨e2, e23⟩).1 vy_43 (lay_le n_43 rfl) ?_
                  refine sp_heldAs (rw_40 ⟨e2, e23⟩).1 (l75 e2 e4 e6 e7 e23 e30 e32 e37) (by decide) ?_
                  show Rn _ _ _ _ _ [vI (hset (s ((44 + 4 * i) + 1)) (hf 2)), vI (s (44 + 4 * i) 2)] _ _
                  refine r_iconst F_69_135 ?_
                  refine r_ixor F_69_136 rfl ?_
                  refine r_iand F_69_137 rfl ?_
                  refine r_stat2 (A := [vI (iAnd (s (44 + 4 * i) 2) (iXor (hset (s ((44 + 4 * i) + 1)) (hf 2)) (-1)))]) (r := []) (n := 1) F_69_138 o_69 il_5_161 (by decide) rfl rfl rfl rfl (lay_le n_74 rfl) ?_
                  refine sp_bitCount (l76 e2 e4 e6 e7 e23 e30 e32 e37) (l77 e2 e4 e6 e7 e23 e30 e32 e37) ?_
                  show Rn _ _ _ _ _ [vI (bc (iAnd (s (44 + 4 * i) 2) (iXor (hset (s ((44 + 4 * i) + 1)) (hf 2)) (-1))))] _ _
                  refine r_ireturn F_69_141 rt_69 ?_
                  exact (l78 e2 e4 e6 e7 e23 e30 e32 e37)
        · intro e38
          replace e38 : 6 ≤ k := (Int.not_lt.mp e38)
          refine r_iconst F_69_21 ?_
          refine r_ireturn F_69_22 rt_69 ?_
          exact (l79 e2 e4 e6 e38)
theorem t_X5_follows {X : List Int32} {d : Nat} {s : m_St} {P : Option Value → m_St → Prop} {z : Int}
    (l1 : inR z)
    (l2 : z < 0 → P (some (vI (-1))) s)
    (l3 : 0 ≤ z → 15 < z → P (some (vI (-1))) s)
    (l4 : 0 ≤ z → z ≤ 15 → P (some (vI (clo (s 38 5) z))) s)
    : Cl X (d + 1) 75 [vR 0, vI z] s P := by
  refine Cl_of n_75 rfl ?_
  show Rn _ _ _ _ [some (vR 0), some (vI z)] [] _ _
  refine r_ldI_n (m := 1) F_75_0 rfl ?_
  refine r_stat2 (A := [vI z]) (r := []) (n := 1) F_75_1 o_75 il_5_169 (by decide) rfl rfl rfl rfl (lay_le n_76 rfl) ?_
  refine Cl_of n_76 rfl ?_
  show Rn _ _ _ _ [some (vI z)] [] _ _
  refine r_ldI_n (m := 0) F_76_0 rfl ?_
  refine r_if (t := 14) F_76_1 rfl l1 ?_ ?_
  · intro e1
    replace e1 : z < 0 := e1
    refine r_iconst F_76_14 ?_
    refine r_zreturn F_76_15 rt_76 (Or.inl rfl) ?_
    show Rn _ _ _ _ _ [vI 0] _ _
    refine r_ifT (t := 18) F_75_4 rfl (by decide) (by show (0 : Int) = 0; decide) ?_
    refine r_iconst F_75_18 ?_
    refine r_ireturn F_75_19 rt_75 ?_
    exact (l2 e1)
  · intro e2
    replace e2 : 0 ≤ z := (Int.not_lt.mp e2)
    refine r_ldI_n (m := 0) F_76_4 rfl ?_
    refine r_bipush F_76_5 bi_15 ?_
    refine r_icmp (t := 14) F_76_7 rfl l1 (by decide) ?_ ?_
    · intro e3
      replace e3 : 15 < z := e3
      refine r_iconst F_76_14 ?_
      refine r_zreturn F_76_15 rt_76 (Or.inl rfl) ?_
      show Rn _ _ _ _ _ [vI 0] _ _
      refine r_ifT (t := 18) F_75_4 rfl (by decide) (by show (0 : Int) = 0; decide) ?_
      refine r_iconst F_75_18 ?_
      refine r_ireturn F_75_19 rt_75 ?_
      exact (l3 e2 e3)
    · intro e4
      replace e4 : z ≤ 15 := (Int.not_lt.mp e4)
      refine r_iconst F_76_10 ?_
      refine r_goto (t := 15) F_76_11 rfl ?_
      refine r_zreturn F_76_15 rt_76 (Or.inr rfl) ?_
      show Rn _ _ _ _ _ [vI 1] _ _
      refine r_ifF (t := 18) F_75_4 rfl (by decide) (by show ¬ ((1 : Int) = 0); decide) ?_
      refine r_ldR_n (m := 0) F_75_7 rfl ?_
      refine r_getR (J := 4) F_75_8 o_75 fl_5_34 ty_0 (by decide) rfl (kd2 kd_0_4 (by decide)) (kd9 kd_0_4 (by decide)) rf_0_4 ?_
      refine r_ldI_n (m := 1) F_75_11 rfl ?_
      refine r_virt2 (A := [vI z]) (r := []) (n := 1) F_75_12 o_75 il_5_172 rfl rfl rfl rfl ty_38 vy_77 (lay_le n_77 rfl) ?_
      refine sp_closed  ?_
      show Rn _ _ _ _ _ [vI (clo (s 38 5) z)] _ _
      refine r_goto (t := 19) F_75_15 rfl ?_
      refine r_ireturn F_75_19 rt_75 ?_
      exact (l4 e2 e4)
theorem t_X5_moved {X : List Int32} {d : Nat} {s : m_St} {P : Option Value → m_St → Prop} {i c : Int}
    (l1 : inR i)
    (l2 : i < 0 → P (some (vI (-1))) s)
    (l3 : 0 ≤ i → inR (s 38 3))
    (l4 : 0 ≤ i → (s 38 3) ≤ i → P (some (vI (-1))) s)
    (l5 : 0 ≤ i → i < (s 38 3) → inR c)
    (l6 : 0 ≤ i → i < (s 38 3) → c < 0 → P (some (vI (-1))) s)
    (l7 : 0 ≤ i → i < (s 38 3) → 0 ≤ c → 4 ≤ c → P (some (vI (-1))) s)
    (l8 : 0 ≤ i → i < (s 38 3) → 0 ≤ c → c < 4 → 6 ≤ i → 0 ≤ (s 44 1))
    (l9 : 0 ≤ i → i < (s 38 3) → 0 ≤ c → c < 4 → 6 ≤ i → (s 44 1) < 6)
    (l10 : 0 ≤ i → i < (s 38 3) → 0 ≤ c → c < 4 → 6 ≤ i → P (some (vI ((mv (s 44 1) (s 44 2) (s 38 5) c) + 10))) s)
    (l11 : 0 ≤ i → i < (s 38 3) → 0 ≤ c → c < 4 → i < 6 → 0 ≤ (s (44 + 4 * i) 1))
    (l12 : 0 ≤ i → i < (s 38 3) → 0 ≤ c → c < 4 → i < 6 → (s (44 + 4 * i) 1) < 6)
    (l13 : 0 ≤ i → i < (s 38 3) → 0 ≤ c → c < 4 → i < 6 → P (some (vI ((mv (s (44 + 4 * i) 1) (s (44 + 4 * i) 2) (s 38 5) c) + 10))) s)
    : Cl X (d + 2) 78 [vR 0, vI i, vI c] s P := by
  refine Cl_of n_78 rfl ?_
  show Rn _ _ _ _ [some (vR 0), some (vI i), some (vI c)] [] _ _
  refine r_ldR_n (m := 0) F_78_0 rfl ?_
  refine r_getR (J := 4) F_78_1 o_78 fl_5_34 ty_0 (by decide) rfl (kd2 kd_0_4 (by decide)) (kd9 kd_0_4 (by decide)) rf_0_4 ?_
  refine r_ldI_n (m := 1) F_78_4 rfl ?_
  refine r_virt2 (A := [vI i]) (r := []) (n := 1) F_78_5 o_78 il_5_136 rfl rfl rfl rfl ty_38 vy_66 (lay_le n_66 rfl) ?_
  refine Cl_of n_66 rfl ?_
  show Rn _ _ _ _ [some (vR 38), some (vI i)] [] _ _
  refine r_ldI_n (m := 1) F_66_0 rfl ?_
  refine r_if (t := 16) F_66_1 rfl l1 ?_ ?_
  · intro e1
    replace e1 : i < 0 := e1
    refine r_iconst F_66_16 ?_
    refine r_zreturn F_66_17 rt_66 (Or.inl rfl) ?_
    show Rn _ _ _ _ _ [vI 0] _ _
    refine r_ifT (t := 18) F_78_8 rfl (by decide) (by show (0 : Int) = 0; decide) ?_
    refine r_iconst F_78_18 ?_
    refine r_ireturn F_78_19 rt_78 ?_
    exact (l2 e1)
  · intro e2
    replace e2 : 0 ≤ i := (Int.not_lt.mp e2)
    refine r_ldI_n (m := 1) F_66_4 rfl ?_
    refine r_ldR_n (m := 0) F_66_5 rfl ?_
    refine r_getI (J := 3) (e := (s 38 3)) F_66_6 o_66 fl_1_24 ty_38 (by decide) rfl kd_38_3 rfl ?_
    refine r_icmp (t := 16) F_66_9 rfl l1 (l3 e2) ?_ ?_
    · intro e3
      replace e3 : (s 38 3) ≤ i := e3
      refine r_iconst F_66_16 ?_
      refine r_zreturn F_66_17 rt_66 (Or.inl rfl) ?_
      show Rn _ _ _ _ _ [vI 0] _ _
      refine r_ifT (t := 18) F_78_8 rfl (by decide) (by show (0 : Int) = 0; decide) ?_
      refine r_iconst F_78_18 ?_
      refine r_ireturn F_78_19 rt_78 ?_
      exact (l4 e2 e3)
    · intro e4
      replace e4 : i < (s 38 3) := (Int.not_le.mp e4)
      refine r_iconst F_66_12 ?_
      refine r_goto (t := 17) F_66_13 rfl ?_
      refine r_zreturn F_66_17 rt_66 (Or.inr rfl) ?_
      show Rn _ _ _ _ _ [vI 1] _ _
      refine r_ifF (t := 18) F_78_8 rfl (by decide) (by show ¬ ((1 : Int) = 0); decide) ?_
      refine r_ldI_n (m := 2) F_78_11 rfl ?_
      refine r_stat2 (A := [vI c]) (r := []) (n := 1) F_78_12 o_78 il_5_175 (by decide) rfl rfl rfl rfl (lay_le n_46 rfl) ?_
      refine Cl_of n_46 rfl ?_
      show Rn _ _ _ _ [some (vI c)] [] _ _
      refine r_ldI_n (m := 0) F_46_0 rfl ?_
      refine r_if (t := 13) F_46_1 rfl (l5 e2 e4) ?_ ?_
      · intro e5
        replace e5 : c < 0 := e5
        refine r_iconst F_46_13 ?_
        refine r_zreturn F_46_14 rt_46 (Or.inl rfl) ?_
        show Rn _ _ _ _ _ [vI 0] _ _
        refine r_ifF (t := 20) F_78_15 rfl (by decide) (by show ¬ (¬ (0 : Int) = 0); decide) ?_
        refine r_iconst F_78_18 ?_
        refine r_ireturn F_78_19 rt_78 ?_
        exact (l6 e2 e4 e5)
      · intro e6
        replace e6 : 0 ≤ c := (Int.not_lt.mp e6)
        refine r_ldI_n (m := 0) F_46_4 rfl ?_
        refine r_iconst F_46_5 ?_
        refine r_icmp (t := 13) F_46_6 rfl (l5 e2 e4) (by decide) ?_ ?_
        · intro e7
          replace e7 : 4 ≤ c := e7
          refine r_iconst F_46_13 ?_
          refine r_zreturn F_46_14 rt_46 (Or.inl rfl) ?_
          show Rn _ _ _ _ _ [vI 0] _ _
          refine r_ifF (t := 20) F_78_15 rfl (by decide) (by show ¬ (¬ (0 : Int) = 0); decide) ?_
          refine r_iconst F_78_18 ?_
          refine r_ireturn F_78_19 rt_78 ?_
          exact (l7 e2 e4 e6 e7)
        · intro e8
          replace e8 : c < 4 := (Int.not_le.mp e8)
          refine r_iconst F_46_9 ?_
          refine r_goto (t := 14) F_46_10 rfl ?_
          refine r_zreturn F_46_14 rt_46 (Or.inr rfl) ?_
          show Rn _ _ _ _ _ [vI 1] _ _
          refine r_ifT (t := 20) F_78_15 rfl (by decide) (by show ¬ (1 : Int) = 0; decide) ?_
          refine r_ldR_n (m := 0) F_78_20 rfl ?_
          refine r_getR (J := 4) F_78_21 o_78 fl_5_34 ty_0 (by decide) rfl (kd2 kd_0_4 (by decide)) (kd9 kd_0_4 (by decide)) rf_0_4 ?_
          refine r_ldI_n (m := 1) F_78_24 rfl ?_
          refine r_virt2 (A := [vI i]) (r := []) (n := 1) F_78_25 o_78 il_5_142 rfl rfl rfl rfl ty_38 vy_58 (lay_le n_58 rfl) ?_
          refine Cl_of n_58 rfl ?_
          show Rn _ _ _ _ [some (vR 38), some (vI i)] [] _ _
          refine r_ldR_n (m := 0) F_58_0 rfl ?_
          refine r_getR (J := 1) F_58_1 o_58 fl_1_17 ty_38 (by decide) rfl (kd2 kd_38_1 (by decide)) (kd9 kd_38_1 (by decide)) rf_38_1 ?_
          refine r_ldI_n (m := 1) F_58_4 rfl ?_
          refine r_ifF (t := 18) F_58_5 rfl l1 (Int.not_lt.mpr e2) ?_
          refine r_ldI_n (m := 1) F_58_8 rfl ?_
          refine r_bipush F_58_9 bi_6 ?_
          refine r_icmp (t := 18) F_58_11 rfl l1 (by decide) ?_ ?_
          · intro e9
            replace e9 : 6 ≤ i := e9
            refine r_iconst F_58_18 ?_
            refine r_aald F_58_19 ty_40 (by decide) (by decide) (lt_ln ln_40 (by decide)) rf_40_0 ?_
            refine r_areturn F_58_20 rob_58 ?_
            show Rn _ _ _ _ _ [vR 44] _ _
            refine r_ldI_n (m := 2) F_78_28 rfl ?_
            refine r_ldR_n (m := 0) F_78_29 rfl ?_
            refine r_getR (J := 4) F_78_30 o_78 fl_5_34 ty_0 (by decide) rfl (kd2 kd_0_4 (by decide)) (kd9 kd_0_4 (by decide)) rf_0_4 ?_
            refine r_virt2 (A := []) (r := [vI c, vR 44]) (n := 0) F_78_33 o_78 il_5_149 rfl rfl rfl rfl ty_38 vy_71 (lay_le n_71 rfl) ?_
            refine Cl_of n_71 rfl ?_
            show Rn _ _ _ _ [some (vR 38)] [] _ _
            refine r_ldR_n (m := 0) F_71_0 rfl ?_
            refine r_getI (J := 5) (e := (s 38 5)) F_71_1 o_71 fl_1_31 ty_38 (by decide) rfl kd_38_5 rfl ?_
            refine r_ireturn F_71_4 rt_71 ?_
            show Rn _ _ _ _ _ [vI (s 38 5), vI c, vR 44] _ _
            refine r_virt2 (A := [vI c, vI (s 38 5)]) (r := []) (n := 2) F_78_36 o_78 il_5_178 rfl rfl rfl rfl ty_44 vy_60 (lay_le n_60 rfl) ?_
            refine sp_moves ty_44 (l8 e2 e4 e6 e8 e9) (l9 e2 e4 e6 e8 e9) ?_
            show Rn _ _ _ _ _ [vI (mv (s 44 1) (s 44 2) (s 38 5) c)] _ _
            refine r_bipush F_78_39 bi_10 ?_
            refine r_iadd F_78_41 rfl ?_
            refine r_ireturn F_78_42 rt_78 ?_
            exact (l10 e2 e4 e6 e8 e9)
          · intro e10
            replace e10 : i < 6 := (Int.not_le.mp e10)
            refine r_ldI_n (m := 1) F_58_14 rfl ?_
            refine r_goto (t := 19) F_58_15 rfl ?_
            refine r_aald F_58_19 ty_40 (by decide) e2 (lt_ln ln_40 e10) (rw_40 ⟨e2, e10⟩).2 ?_
            refine r_areturn F_58_20 rob_58 ?_
            show Rn _ _ _ _ _ [vR (44 + 4 * i)] _ _
            refine r_ldI_n (m := 2) F_78_28 rfl ?_
            refine r_ldR_n (m := 0) F_78_29 rfl ?_
            refine r_getR (J := 4) F_78_30 o_78 fl_5_34 ty_0 (by decide) rfl (kd2 kd_0_4 (by decide)) (kd9 kd_0_4 (by decide)) rf_0_4 ?_
            refine r_virt2 (A := []) (r := [vI c, vR (44 + 4 * i)]) (n := 0) F_78_33 o_78 il_5_149 rfl rfl rfl rfl ty_38 vy_71 (lay_le n_71 rfl) ?_
            refine Cl_of n_71 rfl ?_
            show Rn _ _ _ _ [some (vR 38)] [] _ _
            refine r_ldR_n (m := 0) F_71_0 rfl ?_
            refine r_getI (J := 5) (e := (s 38 5)) F_71_1 o_71 fl_1_31 ty_38 (by decide) rfl kd_38_5 rfl ?_
            refine r_ireturn F_71_4 rt_71 ?_
            show Rn _ _ _ _ _ [vI (s 38 5), vI c, vR (44 + 4 * i)] _ _
            refine r_virt2 (A := [vI c, vI (s 38 5)]) (r := []) (n := 2) F_78_36 o_78 il_5_178 rfl rfl rfl rfl (rw_40 ⟨e2, e10⟩).1 vy_60 (lay_le n_60 rfl) ?_
            refine sp_moves (rw_40 ⟨e2, e10⟩).1 (l11 e2 e4 e6 e8 e10) (l12 e2 e4 e6 e8 e10) ?_
            show Rn _ _ _ _ _ [vI (mv (s (44 + 4 * i) 1) (s (44 + 4 * i) 2) (s 38 5) c)] _ _
            refine r_bipush F_78_39 bi_10 ?_
            refine r_iadd F_78_41 rfl ?_
            refine r_ireturn F_78_42 rt_78 ?_
            exact (l13 e2 e4 e6 e8 e10)
