/-! walks: the hut -/
theorem n_56 : m_n 56 = 2 := by decide +kernel
theorem F_56_0 : F 56 0 (.iload_n 1) 1 := ⟨1, by decide +kernel, rfl, rfl⟩
theorem F_56_1 : F 56 1 (.bipush 8) 3 := ⟨2, by decide +kernel, rfl, rfl⟩
theorem bi_8 : (Int8.ofInt 8).toInt32 = Int32.ofInt 8 := by decide +kernel
theorem F_56_3 : F 56 3 (.if_icmp .ge 32) 6 := ⟨3, by decide +kernel, rfl, rfl⟩
theorem F_56_6 : F 56 6 (.aload_n 0) 7 := ⟨1, by decide +kernel, rfl, rfl⟩
theorem F_56_7 : F 56 7 (.iload_n 1) 8 := ⟨1, by decide +kernel, rfl, rfl⟩
theorem F_56_8 : F 56 8 (.invokevirtual 101) 11 := ⟨3, by decide +kernel, rfl, rfl⟩
theorem ty_38 : ty 38 = 1 := by decide +kernel
theorem o_56 : m_o 56 = 1 := by decide +kernel
theorem il_1_101 : ilq 1 101 0 57 1 = true := by decide +kernel
theorem vy_57 : (m_cls 1).1 = (m_y 57).cls ∧ 1 < m_cl.length := by decide +kernel
theorem n_57 : m_n 57 = 2 := by decide +kernel
theorem F_57_0 : F 57 0 (.aload_n 0) 1 := ⟨1, by decide +kernel, rfl, rfl⟩
theorem F_57_1 : F 57 1 (.iload_n 1) 2 := ⟨1, by decide +kernel, rfl, rfl⟩
theorem F_57_2 : F 57 2 (.iconst 4) 3 := ⟨1, by decide +kernel, rfl, rfl⟩
theorem F_57_3 : F 57 3 (.if_icmp .ge 10) 6 := ⟨3, by decide +kernel, rfl, rfl⟩
theorem F_57_13 : F 57 13 (.aload_n 0) 14 := ⟨1, by decide +kernel, rfl, rfl⟩
theorem F_57_14 : F 57 14 (.getfield 37) 17 := ⟨3, by decide +kernel, rfl, rfl⟩
theorem fl_1_37 : m_fl.lookup (1, 37) = some (1, 7, 1099) := by decide +kernel
theorem kd_38_7 : kd 38 7 = 0 := by decide +kernel
theorem o_57 : m_o 57 = 1 := by decide +kernel
theorem F_57_17 : F 57 17 (.invokevirtual 107) 20 := ⟨3, by decide +kernel, rfl, rfl⟩
theorem il_1_107 : ilq 1 107 0 58 1 = true := by decide +kernel
theorem vy_58 : (m_cls 1).1 = (m_y 58).cls ∧ 1 < m_cl.length := by decide +kernel
theorem n_58 : m_n 58 = 2 := by decide +kernel
theorem F_58_0 : F 58 0 (.aload_n 0) 1 := ⟨1, by decide +kernel, rfl, rfl⟩
theorem F_58_1 : F 58 1 (.getfield 17) 4 := ⟨3, by decide +kernel, rfl, rfl⟩
theorem fl_1_17 : m_fl.lookup (1, 17) = some (1, 1, 1093) := by decide +kernel
theorem kd_38_1 : kd 38 1 = 42 := by decide +kernel
theorem o_58 : m_o 58 = 1 := by decide +kernel
theorem rf_38_1 : rf 38 1 = 40 := by decide +kernel
theorem F_58_4 : F 58 4 (.iload_n 1) 5 := ⟨1, by decide +kernel, rfl, rfl⟩
theorem F_58_5 : F 58 5 (.ifCond .lt 13) 8 := ⟨3, by decide +kernel, rfl, rfl⟩
theorem F_58_8 : F 58 8 (.iload_n 1) 9 := ⟨1, by decide +kernel, rfl, rfl⟩
theorem F_58_9 : F 58 9 (.bipush 6) 11 := ⟨2, by decide +kernel, rfl, rfl⟩
theorem F_58_11 : F 58 11 (.if_icmp .ge 7) 14 := ⟨3, by decide +kernel, rfl, rfl⟩
theorem F_58_14 : F 58 14 (.iload_n 1) 15 := ⟨1, by decide +kernel, rfl, rfl⟩
theorem F_58_15 : F 58 15 (.goto 4) 18 := ⟨3, by decide +kernel, rfl, rfl⟩
theorem F_58_19 : F 58 19 (.aaload) 20 := ⟨1, by decide +kernel, rfl, rfl⟩
theorem ln_40 : ln 40 = 6 := by decide +kernel
theorem ty_40 : ty 40 = 23 := by decide +kernel
theorem rw_40 : ∀ {i : Int}, 0 ≤ i ∧ i < 6 → ty (44 + 4 * i) = 0 ∧ rf 40 i = (44 + 4 * i) := fun {i} h => by rcases (show i = (0 : Int) ∨ i = (1 : Int) ∨ i = (2 : Int) ∨ i = (3 : Int) ∨ i = (4 : Int) ∨ i = (5 : Int) by omega) with rfl | rfl | rfl | rfl | rfl | rfl <;> decide +kernel
theorem F_58_20 : F 58 20 (.areturn) 21 := ⟨1, by decide +kernel, rfl, rfl⟩
theorem rob_58 : m_rob 58 = true := by decide +kernel
theorem F_57_20 : F 57 20 (.areturn) 21 := ⟨1, by decide +kernel, rfl, rfl⟩
theorem rob_57 : m_rob 57 = true := by decide +kernel
theorem F_56_11 : F 56 11 (.iload_n 1) 12 := ⟨1, by decide +kernel, rfl, rfl⟩
theorem F_56_12 : F 56 12 (.iconst 4) 13 := ⟨1, by decide +kernel, rfl, rfl⟩
theorem F_56_13 : F 56 13 (.irem) 14 := ⟨1, by decide +kernel, rfl, rfl⟩
theorem F_56_14 : F 56 14 (.aload_n 0) 15 := ⟨1, by decide +kernel, rfl, rfl⟩
theorem F_56_15 : F 56 15 (.getfield 31) 18 := ⟨3, by decide +kernel, rfl, rfl⟩
theorem fl_1_31 : m_fl.lookup (1, 31) = some (1, 5, 1097) := by decide +kernel
theorem kd_38_5 : kd 38 5 = 0 := by decide +kernel
theorem F_56_18 : F 56 18 (.invokevirtual 104) 21 := ⟨3, by decide +kernel, rfl, rfl⟩
theorem il_1_104 : ilq 1 104 0 59 2 = true := by decide +kernel
theorem vy_59 : (m_cls 0).1 = (m_y 59).cls ∧ 0 < m_cl.length := by decide +kernel
theorem F_56_21 : F 56 21 (.pop) 22 := ⟨1, by decide +kernel, rfl, rfl⟩
theorem F_56_22 : F 56 22 (.aload_n 0) 23 := ⟨1, by decide +kernel, rfl, rfl⟩
theorem F_56_23 : F 56 23 (.dup) 24 := ⟨1, by decide +kernel, rfl, rfl⟩
theorem F_56_24 : F 56 24 (.getfield 34) 27 := ⟨3, by decide +kernel, rfl, rfl⟩
theorem fl_1_34 : m_fl.lookup (1, 34) = some (1, 6, 1098) := by decide +kernel
theorem kd_38_6 : kd 38 6 = 0 := by decide +kernel
theorem F_56_27 : F 56 27 (.iconst 1) 28 := ⟨1, by decide +kernel, rfl, rfl⟩
theorem F_56_28 : F 56 28 (.isub) 29 := ⟨1, by decide +kernel, rfl, rfl⟩
theorem F_56_29 : F 56 29 (.putfield 34) 32 := ⟨3, by decide +kernel, rfl, rfl⟩
theorem pf_1_6 : pfT 1 6 .int = true := by decide +kernel
theorem F_56_32 : F 56 32 (.goto 42) 35 := ⟨3, by decide +kernel, rfl, rfl⟩
theorem F_56_74 : F 56 74 (.return_) 75 := ⟨1, by decide +kernel, rfl, rfl⟩
theorem rt_56 : m_r 56 = none := by decide +kernel
theorem F_57_6 : F 57 6 (.aload_n 0) 7 := ⟨1, by decide +kernel, rfl, rfl⟩
theorem F_57_7 : F 57 7 (.getfield 40) 10 := ⟨3, by decide +kernel, rfl, rfl⟩
theorem fl_1_40 : m_fl.lookup (1, 40) = some (1, 8, 1100) := by decide +kernel
theorem kd_38_8 : kd 38 8 = 0 := by decide +kernel
theorem F_57_10 : F 57 10 (.goto 7) 13 := ⟨3, by decide +kernel, rfl, rfl⟩
theorem F_56_35 : F 56 35 (.iload_n 1) 36 := ⟨1, by decide +kernel, rfl, rfl⟩
theorem F_56_36 : F 56 36 (.bipush 8) 38 := ⟨2, by decide +kernel, rfl, rfl⟩
theorem F_56_38 : F 56 38 (.if_icmp .ne 14) 41 := ⟨3, by decide +kernel, rfl, rfl⟩
theorem F_56_52 : F 56 52 (.aload_n 0) 53 := ⟨1, by decide +kernel, rfl, rfl⟩
theorem F_56_53 : F 56 53 (.iload_n 1) 54 := ⟨1, by decide +kernel, rfl, rfl⟩
theorem F_56_54 : F 56 54 (.bipush 9) 56 := ⟨2, by decide +kernel, rfl, rfl⟩
theorem bi_9 : (Int8.ofInt 9).toInt32 = Int32.ofInt 9 := by decide +kernel
theorem F_56_56 : F 56 56 (.isub) 57 := ⟨1, by decide +kernel, rfl, rfl⟩
theorem F_56_57 : F 56 57 (.bipush 6) 59 := ⟨2, by decide +kernel, rfl, rfl⟩
theorem F_56_59 : F 56 59 (.idiv) 60 := ⟨1, by decide +kernel, rfl, rfl⟩
theorem F_56_60 : F 56 60 (.putfield 37) 63 := ⟨3, by decide +kernel, rfl, rfl⟩
theorem pf_1_7 : pfT 1 7 .int = true := by decide +kernel
theorem F_56_63 : F 56 63 (.aload_n 0) 64 := ⟨1, by decide +kernel, rfl, rfl⟩
theorem F_56_64 : F 56 64 (.iload_n 1) 65 := ⟨1, by decide +kernel, rfl, rfl⟩
theorem F_56_65 : F 56 65 (.bipush 9) 67 := ⟨2, by decide +kernel, rfl, rfl⟩
theorem F_56_67 : F 56 67 (.isub) 68 := ⟨1, by decide +kernel, rfl, rfl⟩
theorem F_56_68 : F 56 68 (.bipush 6) 70 := ⟨2, by decide +kernel, rfl, rfl⟩
theorem F_56_70 : F 56 70 (.irem) 71 := ⟨1, by decide +kernel, rfl, rfl⟩
theorem F_56_71 : F 56 71 (.putfield 40) 74 := ⟨3, by decide +kernel, rfl, rfl⟩
theorem pf_1_8 : pfT 1 8 .int = true := by decide +kernel
theorem F_56_41 : F 56 41 (.aload_n 0) 42 := ⟨1, by decide +kernel, rfl, rfl⟩
theorem F_56_42 : F 56 42 (.aload_n 0) 43 := ⟨1, by decide +kernel, rfl, rfl⟩
theorem F_56_43 : F 56 43 (.getfield 28) 46 := ⟨3, by decide +kernel, rfl, rfl⟩
theorem fl_1_28 : m_fl.lookup (1, 28) = some (1, 4, 1096) := by decide +kernel
theorem kd_38_4 : kd 38 4 = 0 := by decide +kernel
theorem F_56_46 : F 56 46 (.putfield 34) 49 := ⟨3, by decide +kernel, rfl, rfl⟩
theorem F_56_49 : F 56 49 (.goto 25) 52 := ⟨3, by decide +kernel, rfl, rfl⟩
theorem n_148 : m_n 148 = 3 := by decide +kernel
theorem F_148_0 : F 148 0 (.iconst 0) 1 := ⟨1, by decide +kernel, rfl, rfl⟩
theorem F_148_1 : F 148 1 (.istore_n 1) 2 := ⟨1, by decide +kernel, rfl, rfl⟩
theorem F_148_2 : F 148 2 (.iconst 0) 3 := ⟨1, by decide +kernel, rfl, rfl⟩
theorem F_148_3 : F 148 3 (.istore_n 2) 4 := ⟨1, by decide +kernel, rfl, rfl⟩
theorem F_148_4 : F 148 4 (.iload_n 2) 5 := ⟨1, by decide +kernel, rfl, rfl⟩
theorem F_148_5 : F 148 5 (.aload_n 0) 6 := ⟨1, by decide +kernel, rfl, rfl⟩
theorem F_148_6 : F 148 6 (.getfield 43) 9 := ⟨3, by decide +kernel, rfl, rfl⟩
theorem fl_1_43 : m_fl.lookup (1, 43) = some (1, 9, 1101) := by decide +kernel
theorem kd_38_9 : kd 38 9 = 0 := by decide +kernel
theorem o_148 : m_o 148 = 1 := by decide +kernel
theorem F_148_9 : F 148 9 (.if_icmp .ge 28) 12 := ⟨3, by decide +kernel, rfl, rfl⟩
theorem F_148_37 : F 148 37 (.iload_n 1) 38 := ⟨1, by decide +kernel, rfl, rfl⟩
theorem F_148_38 : F 148 38 (.ireturn) 39 := ⟨1, by decide +kernel, rfl, rfl⟩
theorem rt_148 : m_r 148 = (some .int) := by decide +kernel
theorem F_148_12 : F 148 12 (.iload_n 1) 13 := ⟨1, by decide +kernel, rfl, rfl⟩
theorem F_148_13 : F 148 13 (.aload_n 0) 14 := ⟨1, by decide +kernel, rfl, rfl⟩
theorem F_148_14 : F 148 14 (.getfield 20) 17 := ⟨3, by decide +kernel, rfl, rfl⟩
theorem fl_1_20 : m_fl.lookup (1, 20) = some (1, 2, 1094) := by decide +kernel
theorem kd_38_2 : kd 38 2 = 43 := by decide +kernel
theorem rf_38_2 : rf 38 2 = 41 := by decide +kernel
theorem F_148_17 : F 148 17 (.iload_n 2) 18 := ⟨1, by decide +kernel, rfl, rfl⟩
theorem F_148_18 : F 148 18 (.iaload) 19 := ⟨1, by decide +kernel, rfl, rfl⟩
theorem ln_41 : ln 41 = 40 := by decide +kernel
theorem ty_41 : ty 41 = 20 := by decide +kernel
theorem F_148_19 : F 148 19 (.bipush 8) 21 := ⟨2, by decide +kernel, rfl, rfl⟩
theorem F_148_21 : F 148 21 (.if_icmp .ge 7) 24 := ⟨3, by decide +kernel, rfl, rfl⟩
theorem F_148_28 : F 148 28 (.iconst 0) 29 := ⟨1, by decide +kernel, rfl, rfl⟩
theorem F_148_29 : F 148 29 (.iadd) 30 := ⟨1, by decide +kernel, rfl, rfl⟩
theorem F_148_30 : F 148 30 (.istore_n 1) 31 := ⟨1, by decide +kernel, rfl, rfl⟩
theorem F_148_31 : F 148 31 (.iinc 2 1) 34 := ⟨3, by decide +kernel, rfl, rfl⟩
theorem F_148_34 : F 148 34 (.goto (-30)) 37 := ⟨3, by decide +kernel, rfl, rfl⟩
theorem F_148_24 : F 148 24 (.iconst 1) 25 := ⟨1, by decide +kernel, rfl, rfl⟩
theorem F_148_25 : F 148 25 (.goto 4) 28 := ⟨3, by decide +kernel, rfl, rfl⟩
theorem n_150 : m_n 150 = 3 := by decide +kernel
theorem F_150_0 : F 150 0 (.aload_n 0) 1 := ⟨1, by decide +kernel, rfl, rfl⟩
theorem F_150_1 : F 150 1 (.getfield 24) 4 := ⟨3, by decide +kernel, rfl, rfl⟩
theorem fl_1_24 : m_fl.lookup (1, 24) = some (1, 3, 1095) := by decide +kernel
theorem kd_38_3 : kd 38 3 = 0 := by decide +kernel
theorem o_150 : m_o 150 = 1 := by decide +kernel
theorem F_150_4 : F 150 4 (.ifCond .ne 7) 7 := ⟨3, by decide +kernel, rfl, rfl⟩
theorem F_150_11 : F 150 11 (.bipush 15) 13 := ⟨2, by decide +kernel, rfl, rfl⟩
theorem bi_15 : (Int8.ofInt 15).toInt32 = Int32.ofInt 15 := by decide +kernel
theorem F_150_13 : F 150 13 (.istore_n 1) 14 := ⟨1, by decide +kernel, rfl, rfl⟩
theorem F_150_14 : F 150 14 (.iconst 0) 15 := ⟨1, by decide +kernel, rfl, rfl⟩
theorem F_150_15 : F 150 15 (.istore_n 2) 16 := ⟨1, by decide +kernel, rfl, rfl⟩
theorem F_150_7 : F 150 7 (.iconst 0) 8 := ⟨1, by decide +kernel, rfl, rfl⟩
theorem F_150_8 : F 150 8 (.goto 5) 11 := ⟨3, by decide +kernel, rfl, rfl⟩
theorem F_150_16 : F 150 16 (.iload_n 2) 17 := ⟨1, by decide +kernel, rfl, rfl⟩
theorem F_150_17 : F 150 17 (.aload_n 0) 18 := ⟨1, by decide +kernel, rfl, rfl⟩
theorem F_150_18 : F 150 18 (.getfield 24) 21 := ⟨3, by decide +kernel, rfl, rfl⟩
theorem F_150_21 : F 150 21 (.if_icmp .ge 21) 24 := ⟨3, by decide +kernel, rfl, rfl⟩
theorem F_150_42 : F 150 42 (.iload_n 1) 43 := ⟨1, by decide +kernel, rfl, rfl⟩
theorem F_150_43 : F 150 43 (.ireturn) 44 := ⟨1, by decide +kernel, rfl, rfl⟩
theorem rt_150 : m_r 150 = (some .int) := by decide +kernel
theorem F_150_24 : F 150 24 (.iload_n 1) 25 := ⟨1, by decide +kernel, rfl, rfl⟩
theorem F_150_25 : F 150 25 (.aload_n 0) 26 := ⟨1, by decide +kernel, rfl, rfl⟩
theorem F_150_26 : F 150 26 (.getfield 17) 29 := ⟨3, by decide +kernel, rfl, rfl⟩
theorem F_150_29 : F 150 29 (.iload_n 2) 30 := ⟨1, by decide +kernel, rfl, rfl⟩
theorem F_150_30 : F 150 30 (.aaload) 31 := ⟨1, by decide +kernel, rfl, rfl⟩
theorem F_150_31 : F 150 31 (.invokevirtual 108) 34 := ⟨3, by decide +kernel, rfl, rfl⟩
theorem il_1_108 : ilq 1 108 0 68 0 = true := by decide +kernel
theorem vy_68 : (m_cls 0).1 = (m_y 68).cls ∧ 0 < m_cl.length := by decide +kernel
theorem n_68 : m_n 68 = 1 := by decide +kernel
theorem F_68_0 : F 68 0 (.aload_n 0) 1 := ⟨1, by decide +kernel, rfl, rfl⟩
theorem F_68_1 : F 68 1 (.getfield 19) 4 := ⟨3, by decide +kernel, rfl, rfl⟩
theorem o_68 : m_o 68 = 0 := by decide +kernel
theorem F_68_4 : F 68 4 (.ireturn) 5 := ⟨1, by decide +kernel, rfl, rfl⟩
theorem rt_68 : m_r 68 = (some .int) := by decide +kernel
theorem F_150_34 : F 150 34 (.iand) 35 := ⟨1, by decide +kernel, rfl, rfl⟩
theorem F_150_35 : F 150 35 (.istore_n 1) 36 := ⟨1, by decide +kernel, rfl, rfl⟩
theorem F_150_36 : F 150 36 (.iinc 2 1) 39 := ⟨3, by decide +kernel, rfl, rfl⟩
theorem F_150_39 : F 150 39 (.goto (-23)) 42 := ⟨3, by decide +kernel, rfl, rfl⟩
theorem n_151 : m_n 151 = 3 := by decide +kernel
theorem F_151_0 : F 151 0 (.iconst 0) 1 := ⟨1, by decide +kernel, rfl, rfl⟩
theorem F_151_1 : F 151 1 (.istore_n 1) 2 := ⟨1, by decide +kernel, rfl, rfl⟩
theorem F_151_2 : F 151 2 (.iconst 0) 3 := ⟨1, by decide +kernel, rfl, rfl⟩
theorem F_151_3 : F 151 3 (.istore_n 2) 4 := ⟨1, by decide +kernel, rfl, rfl⟩
theorem F_151_4 : F 151 4 (.iload_n 2) 5 := ⟨1, by decide +kernel, rfl, rfl⟩
theorem F_151_5 : F 151 5 (.aload_n 0) 6 := ⟨1, by decide +kernel, rfl, rfl⟩
theorem F_151_6 : F 151 6 (.getfield 24) 9 := ⟨3, by decide +kernel, rfl, rfl⟩
theorem o_151 : m_o 151 = 1 := by decide +kernel
theorem F_151_9 : F 151 9 (.if_icmp .ge 30) 12 := ⟨3, by decide +kernel, rfl, rfl⟩
theorem F_151_39 : F 151 39 (.iload_n 1) 40 := ⟨1, by decide +kernel, rfl, rfl⟩
theorem F_151_40 : F 151 40 (.ireturn) 41 := ⟨1, by decide +kernel, rfl, rfl⟩
theorem rt_151 : m_r 151 = (some .int) := by decide +kernel
theorem F_151_12 : F 151 12 (.iload_n 1) 13 := ⟨1, by decide +kernel, rfl, rfl⟩
theorem F_151_13 : F 151 13 (.aload_n 0) 14 := ⟨1, by decide +kernel, rfl, rfl⟩
theorem F_151_14 : F 151 14 (.getfield 17) 17 := ⟨3, by decide +kernel, rfl, rfl⟩
theorem F_151_17 : F 151 17 (.iload_n 2) 18 := ⟨1, by decide +kernel, rfl, rfl⟩
theorem F_151_18 : F 151 18 (.aaload) 19 := ⟨1, by decide +kernel, rfl, rfl⟩
theorem F_151_19 : F 151 19 (.iconst 1) 20 := ⟨1, by decide +kernel, rfl, rfl⟩
theorem F_151_20 : F 151 20 (.invokevirtual 122) 23 := ⟨3, by decide +kernel, rfl, rfl⟩
theorem il_1_122 : ilq 1 122 0 70 1 = true := by decide +kernel
theorem vy_70 : (m_cls 0).1 = (m_y 70).cls ∧ 0 < m_cl.length := by decide +kernel
theorem F_151_23 : F 151 23 (.ifCond .eq 7) 26 := ⟨3, by decide +kernel, rfl, rfl⟩
theorem F_151_26 : F 151 26 (.iconst 1) 27 := ⟨1, by decide +kernel, rfl, rfl⟩
theorem F_151_27 : F 151 27 (.goto 4) 30 := ⟨3, by decide +kernel, rfl, rfl⟩
theorem F_151_31 : F 151 31 (.iadd) 32 := ⟨1, by decide +kernel, rfl, rfl⟩
theorem F_151_32 : F 151 32 (.istore_n 1) 33 := ⟨1, by decide +kernel, rfl, rfl⟩
theorem F_151_33 : F 151 33 (.iinc 2 1) 36 := ⟨3, by decide +kernel, rfl, rfl⟩
theorem F_151_36 : F 151 36 (.goto (-32)) 39 := ⟨3, by decide +kernel, rfl, rfl⟩
theorem F_151_30 : F 151 30 (.iconst 0) 31 := ⟨1, by decide +kernel, rfl, rfl⟩
theorem t_perfS {X : m_X} {d : Nat} {s : m_St} {P : Option Value → m_St → Prop} {a : Int} (h0 : 0 ≤ a) (h8 : a < 8) (f0 : 0 ≤ (s 38 7)) (f6 : (s 38 7) < 6) (g0 : 0 ≤ (s 38 8)) (g6 : (s 38 8) < 6)
    (l1 : inR a)
    (l2 : 4 ≤ a → inR (s 38 7))
    (l3 : 4 ≤ a → gok s (44 + 4 * (s 38 7)))
    (l4 : 4 ≤ a → 0 ≤ (a % 4))
    (l5 : 4 ≤ a → (a % 4) < 4)
    (l6 : 4 ≤ a → P none (m_upd (wg s (44 + 4 * (s 38 7)) (a % 4) ((s ((44 + 4 * (s 38 7)) + 1) (a % 4)) + mv (s (44 + 4 * (s 38 7)) 1) (s (44 + 4 * (s 38 7)) 2) (s 38 5) (a % 4))) 38 6 (((wg s (44 + 4 * (s 38 7)) (a % 4) ((s ((44 + 4 * (s 38 7)) + 1) (a % 4)) + mv (s (44 + 4 * (s 38 7)) 1) (s (44 + 4 * (s 38 7)) 2) (s 38 5) (a % 4))) 38 6) - 1)))
    (l7 : a < 4 → inR (s 38 8))
    (l8 : a < 4 → gok s (44 + 4 * (s 38 8)))
    (l9 : a < 4 → 0 ≤ (a % 4))
    (l10 : a < 4 → (a % 4) < 4)
    (l11 : a < 4 → P none (m_upd (wg s (44 + 4 * (s 38 8)) (a % 4) ((s ((44 + 4 * (s 38 8)) + 1) (a % 4)) + mv (s (44 + 4 * (s 38 8)) 1) (s (44 + 4 * (s 38 8)) 2) (s 38 5) (a % 4))) 38 6 (((wg s (44 + 4 * (s 38 8)) (a % 4) ((s ((44 + 4 * (s 38 8)) + 1) (a % 4)) + mv (s (44 + 4 * (s 38 8)) 1) (s (44 + 4 * (s 38 8)) 2) (s 38 5) (a % 4))) 38 6) - 1)))
    : Cl X (d + 3) 56 [vR 38, vI a] s P := by
  refine Cl_of n_56 rfl ?_
  show Rn _ _ _ _ [some (vR 38), some (vI a)] [] _ _
  refine r_ldI_n (m := 1) F_56_0 rfl ?_
  refine r_bipush F_56_1 bi_8 ?_
  refine r_icmpF (t := 35) F_56_3 rfl l1 (by decide) (Int.not_le.mpr h8) ?_
  refine r_ldR_n (m := 0) F_56_6 rfl ?_
  refine r_ldI_n (m := 1) F_56_7 rfl ?_
  refine r_virt2 (A := [vI a]) (r := []) (n := 1) F_56_8 o_56 il_1_101 rfl rfl rfl rfl ty_38 vy_57 (lay_le n_57 rfl) ?_
  refine Cl_of n_57 rfl ?_
  show Rn _ _ _ _ [some (vR 38), some (vI a)] [] _ _
  refine r_ldR_n (m := 0) F_57_0 rfl ?_
  refine r_ldI_n (m := 1) F_57_1 rfl ?_
  refine r_iconst F_57_2 ?_
  refine r_icmp (t := 13) F_57_3 rfl l1 (by decide) ?_ ?_
  · intro e1
    replace e1 : 4 ≤ a := e1
    refine r_ldR_n (m := 0) F_57_13 rfl ?_
    refine r_getI (J := 7) (e := (s 38 7)) F_57_14 o_57 fl_1_37 ty_38 (by decide) rfl kd_38_7 rfl ?_
    refine r_virt2 (A := [vI (s 38 7)]) (r := []) (n := 1) F_57_17 o_57 il_1_107 rfl rfl rfl rfl ty_38 vy_58 (lay_le n_58 rfl) ?_
    refine Cl_of n_58 rfl ?_
    show Rn _ _ _ _ [some (vR 38), some (vI (s 38 7))] [] _ _
    refine r_ldR_n (m := 0) F_58_0 rfl ?_
    refine r_getR (J := 1) F_58_1 o_58 fl_1_17 ty_38 (by decide) rfl (kd2 kd_38_1 (by decide)) (kd9 kd_38_1 (by decide)) rf_38_1 ?_
    refine r_ldI_n (m := 1) F_58_4 rfl ?_
    refine r_ifF (t := 18) F_58_5 rfl (l2 e1) (Int.not_lt.mpr f0) ?_
    refine r_ldI_n (m := 1) F_58_8 rfl ?_
    refine r_bipush F_58_9 bi_6 ?_
    refine r_icmpF (t := 18) F_58_11 rfl (l2 e1) (by decide) (Int.not_le.mpr f6) ?_
    refine r_ldI_n (m := 1) F_58_14 rfl ?_
    refine r_goto (t := 19) F_58_15 rfl ?_
    refine r_aald F_58_19 ty_40 (by decide) f0 (lt_ln ln_40 f6) (rw_40 ⟨f0, f6⟩).2 ?_
    refine r_areturn F_58_20 rob_58 ?_
    show Rn _ _ _ _ _ [vR (44 + 4 * (s 38 7))] _ _
    refine r_areturn F_57_20 rob_57 ?_
    show Rn _ _ _ _ _ [vR (44 + 4 * (s 38 7))] _ _
    refine r_ldI_n (m := 1) F_56_11 rfl ?_
    refine r_iconst F_56_12 ?_
    refine r_irem F_56_13 l1 h0 (by decide) (by decide) ?_
    refine r_ldR_n (m := 0) F_56_14 rfl ?_
    refine r_getI (J := 5) (e := (s 38 5)) F_56_15 o_56 fl_1_31 ty_38 (by decide) rfl kd_38_5 rfl ?_
    refine r_virt2 (A := [vI (a % 4), vI (s 38 5)]) (r := []) (n := 2) F_56_18 o_56 il_1_104 rfl rfl rfl rfl (rw_40 ⟨f0, f6⟩).1 vy_59 (lay_le n_59 rfl) ?_
    refine sp_hears (rw_40 ⟨f0, f6⟩).1 (l3 e1) (l4 e1) (l5 e1) ?_
    show Rn _ _ _ _ _ [vI (s ((44 + 4 * (s 38 7)) + 1) (a % 4))] _ _
    refine r_popI F_56_21 ?_
    refine r_ldR_n (m := 0) F_56_22 rfl ?_
    refine r_dupR F_56_23 ?_
    refine r_getI (J := 6) (e := ((wg s (44 + 4 * (s 38 7)) (a % 4) ((s ((44 + 4 * (s 38 7)) + 1) (a % 4)) + mv (s (44 + 4 * (s 38 7)) 1) (s (44 + 4 * (s 38 7)) 2) (s 38 5) (a % 4))) 38 6)) F_56_24 o_56 fl_1_34 ty_38 (by decide) rfl kd_38_6 rfl ?_
    refine r_iconst F_56_27 ?_
    refine r_isub F_56_28 rfl ?_
    refine r_putI (J := 6) F_56_29 o_56 fl_1_34 ty_38 (by decide) rfl kd_38_6 pf_1_6 ?_
    refine r_goto (t := 74) F_56_32 rfl ?_
    refine r_return F_56_74 rt_56 ?_
    exact (l6 e1)
  · intro e2
    replace e2 : a < 4 := (Int.not_le.mp e2)
    refine r_ldR_n (m := 0) F_57_6 rfl ?_
    refine r_getI (J := 8) (e := (s 38 8)) F_57_7 o_57 fl_1_40 ty_38 (by decide) rfl kd_38_8 rfl ?_
    refine r_goto (t := 17) F_57_10 rfl ?_
    refine r_virt2 (A := [vI (s 38 8)]) (r := []) (n := 1) F_57_17 o_57 il_1_107 rfl rfl rfl rfl ty_38 vy_58 (lay_le n_58 rfl) ?_
    refine Cl_of n_58 rfl ?_
    show Rn _ _ _ _ [some (vR 38), some (vI (s 38 8))] [] _ _
    refine r_ldR_n (m := 0) F_58_0 rfl ?_
    refine r_getR (J := 1) F_58_1 o_58 fl_1_17 ty_38 (by decide) rfl (kd2 kd_38_1 (by decide)) (kd9 kd_38_1 (by decide)) rf_38_1 ?_
    refine r_ldI_n (m := 1) F_58_4 rfl ?_
    refine r_ifF (t := 18) F_58_5 rfl (l7 e2) (Int.not_lt.mpr g0) ?_
    refine r_ldI_n (m := 1) F_58_8 rfl ?_
    refine r_bipush F_58_9 bi_6 ?_
    refine r_icmpF (t := 18) F_58_11 rfl (l7 e2) (by decide) (Int.not_le.mpr g6) ?_
    refine r_ldI_n (m := 1) F_58_14 rfl ?_
    refine r_goto (t := 19) F_58_15 rfl ?_
    refine r_aald F_58_19 ty_40 (by decide) g0 (lt_ln ln_40 g6) (rw_40 ⟨g0, g6⟩).2 ?_
    refine r_areturn F_58_20 rob_58 ?_
    show Rn _ _ _ _ _ [vR (44 + 4 * (s 38 8))] _ _
    refine r_areturn F_57_20 rob_57 ?_
    show Rn _ _ _ _ _ [vR (44 + 4 * (s 38 8))] _ _
    refine r_ldI_n (m := 1) F_56_11 rfl ?_
    refine r_iconst F_56_12 ?_
    refine r_irem F_56_13 l1 h0 (by decide) (by decide) ?_
    refine r_ldR_n (m := 0) F_56_14 rfl ?_
    refine r_getI (J := 5) (e := (s 38 5)) F_56_15 o_56 fl_1_31 ty_38 (by decide) rfl kd_38_5 rfl ?_
    refine r_virt2 (A := [vI (a % 4), vI (s 38 5)]) (r := []) (n := 2) F_56_18 o_56 il_1_104 rfl rfl rfl rfl (rw_40 ⟨g0, g6⟩).1 vy_59 (lay_le n_59 rfl) ?_
    refine sp_hears (rw_40 ⟨g0, g6⟩).1 (l8 e2) (l9 e2) (l10 e2) ?_
    show Rn _ _ _ _ _ [vI (s ((44 + 4 * (s 38 8)) + 1) (a % 4))] _ _
    refine r_popI F_56_21 ?_
    refine r_ldR_n (m := 0) F_56_22 rfl ?_
    refine r_dupR F_56_23 ?_
    refine r_getI (J := 6) (e := ((wg s (44 + 4 * (s 38 8)) (a % 4) ((s ((44 + 4 * (s 38 8)) + 1) (a % 4)) + mv (s (44 + 4 * (s 38 8)) 1) (s (44 + 4 * (s 38 8)) 2) (s 38 5) (a % 4))) 38 6)) F_56_24 o_56 fl_1_34 ty_38 (by decide) rfl kd_38_6 rfl ?_
    refine r_iconst F_56_27 ?_
    refine r_isub F_56_28 rfl ?_
    refine r_putI (J := 6) F_56_29 o_56 fl_1_34 ty_38 (by decide) rfl kd_38_6 pf_1_6 ?_
    refine r_goto (t := 74) F_56_32 rfl ?_
    refine r_return F_56_74 rt_56 ?_
    exact (l11 e2)
theorem t_perfE {X : m_X} {d : Nat} {s : m_St} {P : Option Value → m_St → Prop} {a : Int} (h8 : 8 ≤ a)
    (l1 : inR a)
    (l2 : ¬ a = 8 → 0 ≤ (a - 9))
    (l3 : ¬ a = 8 → inR (a - 9))
    (l4 : ¬ a = 8 → P none (m_upd (m_upd s 38 7 ((a - 9) / 6)) 38 8 ((a - 9) % 6)))
    (l5 : a = 8 → P none (m_upd s 38 6 (s 38 4)))
    : Cl X (d + 3) 56 [vR 38, vI a] s P := by
  refine Cl_of n_56 rfl ?_
  show Rn _ _ _ _ [some (vR 38), some (vI a)] [] _ _
  refine r_ldI_n (m := 1) F_56_0 rfl ?_
  refine r_bipush F_56_1 bi_8 ?_
  refine r_icmpT (t := 35) F_56_3 rfl l1 (by decide) h8 ?_
  refine r_ldI_n (m := 1) F_56_35 rfl ?_
  refine r_bipush F_56_36 bi_8 ?_
  refine r_icmp (t := 52) F_56_38 rfl l1 (by decide) ?_ ?_
  · intro e1
    replace e1 : ¬ a = 8 := e1
    refine r_ldR_n (m := 0) F_56_52 rfl ?_
    refine r_ldI_n (m := 1) F_56_53 rfl ?_
    refine r_bipush F_56_54 bi_9 ?_
    refine r_isub F_56_56 rfl ?_
    refine r_bipush F_56_57 bi_6 ?_
    refine r_idiv F_56_59 (l3 e1) (l2 e1) (by decide) (by decide) ?_
    refine r_putI (J := 7) F_56_60 o_56 fl_1_37 ty_38 (by decide) rfl kd_38_7 pf_1_7 ?_
    refine r_ldR_n (m := 0) F_56_63 rfl ?_
    refine r_ldI_n (m := 1) F_56_64 rfl ?_
    refine r_bipush F_56_65 bi_9 ?_
    refine r_isub F_56_67 rfl ?_
    refine r_bipush F_56_68 bi_6 ?_
    refine r_irem F_56_70 (l3 e1) (l2 e1) (by decide) (by decide) ?_
    refine r_putI (J := 8) F_56_71 o_56 fl_1_40 ty_38 (by decide) rfl kd_38_8 pf_1_8 ?_
    refine r_return F_56_74 rt_56 ?_
    exact (l4 e1)
  · intro e2
    replace e2 : a = 8 := (Classical.not_not.mp e2)
    refine r_ldR_n (m := 0) F_56_41 rfl ?_
    refine r_ldR_n (m := 0) F_56_42 rfl ?_
    refine r_getI (J := 4) (e := (s 38 4)) F_56_43 o_56 fl_1_28 ty_38 (by decide) rfl kd_38_4 rfl ?_
    refine r_putI (J := 6) F_56_46 o_56 fl_1_34 ty_38 (by decide) rfl kd_38_6 pf_1_6 ?_
    refine r_goto (t := 74) F_56_49 rfl ?_
    refine r_return F_56_74 rt_56 ?_
    exact (l5 e2)
theorem t_X1_sayingsDone {X : m_X} {d : Nat} {s : m_St} {P : Option Value → m_St → Prop}
    (l1 : Rn X d 148 4 [some (vR 38), some (vI 0), some (vI 0)] [] s P)
    : Cl X d 148 [vR 38] s P := by
  refine Cl_of n_148 rfl ?_
  show Rn _ _ _ _ [some (vR 38), none, none] [] _ _
  refine r_iconst F_148_0 ?_
  refine r_stI_n (m := 1) (L' := [some (vR 38), some (vI 0), none]) F_148_1 rfl rfl ?_
  refine r_iconst F_148_2 ?_
  refine r_stI_n (m := 2) (L' := [some (vR 38), some (vI 0), some (vI 0)]) F_148_3 rfl rfl ?_
  exact l1
theorem t_X1_sayingsDone_4 {X : m_X} {d : Nat} {s : m_St} {P : Option Value → m_St → Prop} {n i : Int} (hi : 0 ≤ i)
    (l1 : inR i)
    (l2 : inR (s 38 9))
    (l3 : (s 38 9) ≤ i → P (some (vI n)) s)
    (l4 : i < (s 38 9) → i < 40)
    (l5 : i < (s 38 9) → inR (s 41 i))
    (l6 : i < (s 38 9) → 8 ≤ (s 41 i) → Rn X d 148 4 [some (vR 38), some (vI n), some (vI (i + 1))] [] s P)
    (l7 : i < (s 38 9) → (s 41 i) < 8 → Rn X d 148 4 [some (vR 38), some (vI (n + 1)), some (vI (i + 1))] [] s P)
    : Rn X d 148 4 [some (vR 38), some (vI n), some (vI i)] [] s P := by
  refine r_ldI_n (m := 2) F_148_4 rfl ?_
  refine r_ldR_n (m := 0) F_148_5 rfl ?_
  refine r_getI (J := 9) (e := (s 38 9)) F_148_6 o_148 fl_1_43 ty_38 (by decide) rfl kd_38_9 rfl ?_
  refine r_icmp (t := 37) F_148_9 rfl l1 l2 ?_ ?_
  · intro e1
    replace e1 : (s 38 9) ≤ i := e1
    refine r_ldI_n (m := 1) F_148_37 rfl ?_
    refine r_ireturn F_148_38 rt_148 ?_
    exact (l3 e1)
  · intro e2
    replace e2 : i < (s 38 9) := (Int.not_le.mp e2)
    refine r_ldI_n (m := 1) F_148_12 rfl ?_
    refine r_ldR_n (m := 0) F_148_13 rfl ?_
    refine r_getR (J := 2) F_148_14 o_148 fl_1_20 ty_38 (by decide) rfl (kd2 kd_38_2 (by decide)) (kd9 kd_38_2 (by decide)) rf_38_2 ?_
    refine r_ldI_n (m := 2) F_148_17 rfl ?_
    refine r_iald (e := (s 41 i)) F_148_18 ty_41 hi (lt_ln ln_41 (l4 e2)) rfl ?_
    refine r_bipush F_148_19 bi_8 ?_
    refine r_icmp (t := 28) F_148_21 rfl (l5 e2) (by decide) ?_ ?_
    · intro e3
      replace e3 : 8 ≤ (s 41 i) := e3
      refine r_iconst F_148_28 ?_
      refine r_iadd (e := n) F_148_29 (Int.add_zero _) ?_
      refine r_stI_n (m := 1) (L' := [some (vR 38), some (vI n), some (vI i)]) F_148_30 rfl rfl ?_
      refine r_iinc (m := 2) (e := (i + 1)) (L' := [some (vR 38), some (vI n), some (vI (i + 1))]) F_148_31 rfl rfl rfl rfl ?_
      refine r_goto (t := 4) F_148_34 rfl ?_
      exact (l6 e2 e3)
    · intro e4
      replace e4 : (s 41 i) < 8 := (Int.not_le.mp e4)
      refine r_iconst F_148_24 ?_
      refine r_goto (t := 29) F_148_25 rfl ?_
      refine r_iadd F_148_29 rfl ?_
      refine r_stI_n (m := 1) (L' := [some (vR 38), some (vI (n + 1)), some (vI i)]) F_148_30 rfl rfl ?_
      refine r_iinc (m := 2) (e := (i + 1)) (L' := [some (vR 38), some (vI (n + 1)), some (vI (i + 1))]) F_148_31 rfl rfl rfl rfl ?_
      refine r_goto (t := 4) F_148_34 rfl ?_
      exact (l7 e2 e4)
theorem t_X1_heldByAll {X : m_X} {d : Nat} {s : m_St} {P : Option Value → m_St → Prop}
    (l1 : inR (s 38 3))
    (l2 : ¬ (s 38 3) = 0 → Rn X (d + 1) 150 16 [some (vR 38), some (vI 15), some (vI 0)] [] s P)
    (l3 : (s 38 3) = 0 → Rn X (d + 1) 150 16 [some (vR 38), some (vI 0), some (vI 0)] [] s P)
    : Cl X (d + 1) 150 [vR 38] s P := by
  refine Cl_of n_150 rfl ?_
  show Rn _ _ _ _ [some (vR 38), none, none] [] _ _
  refine r_ldR_n (m := 0) F_150_0 rfl ?_
  refine r_getI (J := 3) (e := (s 38 3)) F_150_1 o_150 fl_1_24 ty_38 (by decide) rfl kd_38_3 rfl ?_
  refine r_if (t := 11) F_150_4 rfl l1 ?_ ?_
  · intro e1
    replace e1 : ¬ (s 38 3) = 0 := e1
    refine r_bipush F_150_11 bi_15 ?_
    refine r_stI_n (m := 1) (L' := [some (vR 38), some (vI 15), none]) F_150_13 rfl rfl ?_
    refine r_iconst F_150_14 ?_
    refine r_stI_n (m := 2) (L' := [some (vR 38), some (vI 15), some (vI 0)]) F_150_15 rfl rfl ?_
    exact (l2 e1)
  · intro e2
    replace e2 : (s 38 3) = 0 := (Classical.not_not.mp e2)
    refine r_iconst F_150_7 ?_
    refine r_goto (t := 13) F_150_8 rfl ?_
    refine r_stI_n (m := 1) (L' := [some (vR 38), some (vI 0), none]) F_150_13 rfl rfl ?_
    refine r_iconst F_150_14 ?_
    refine r_stI_n (m := 2) (L' := [some (vR 38), some (vI 0), some (vI 0)]) F_150_15 rfl rfl ?_
    exact (l3 e2)
theorem t_X1_heldByAll_16 {X : m_X} {d : Nat} {s : m_St} {P : Option Value → m_St → Prop} {u i : Int} (hi : 0 ≤ i)
    (l1 : inR i)
    (l2 : inR (s 38 3))
    (l3 : (s 38 3) ≤ i → P (some (vI u)) s)
    (l4 : i < (s 38 3) → i < 6)
    (l5 : i < (s 38 3) → Rn X (d + 1) 150 16 [some (vR 38), some (vI (iAnd u (s (44 + 4 * i) 2))), some (vI (i + 1))] [] s P)
    : Rn X (d + 1) 150 16 [some (vR 38), some (vI u), some (vI i)] [] s P := by
  refine r_ldI_n (m := 2) F_150_16 rfl ?_
  refine r_ldR_n (m := 0) F_150_17 rfl ?_
  refine r_getI (J := 3) (e := (s 38 3)) F_150_18 o_150 fl_1_24 ty_38 (by decide) rfl kd_38_3 rfl ?_
  refine r_icmp (t := 42) F_150_21 rfl l1 l2 ?_ ?_
  · intro e1
    replace e1 : (s 38 3) ≤ i := e1
    refine r_ldI_n (m := 1) F_150_42 rfl ?_
    refine r_ireturn F_150_43 rt_150 ?_
    exact (l3 e1)
  · intro e2
    replace e2 : i < (s 38 3) := (Int.not_le.mp e2)
    refine r_ldI_n (m := 1) F_150_24 rfl ?_
    refine r_ldR_n (m := 0) F_150_25 rfl ?_
    refine r_getR (J := 1) F_150_26 o_150 fl_1_17 ty_38 (by decide) rfl (kd2 kd_38_1 (by decide)) (kd9 kd_38_1 (by decide)) rf_38_1 ?_
    refine r_ldI_n (m := 2) F_150_29 rfl ?_
    refine r_aald F_150_30 ty_40 (by decide) hi (lt_ln ln_40 (l4 e2)) (rw_40 ⟨hi, (l4 e2)⟩).2 ?_
    refine r_virt2 (A := []) (r := [vI u]) (n := 0) F_150_31 o_150 il_1_108 rfl rfl rfl rfl (rw_40 ⟨hi, (l4 e2)⟩).1 vy_68 (lay_le n_68 rfl) ?_
    refine Cl_of n_68 rfl ?_
    show Rn _ _ _ _ [some (vR (44 + 4 * i))] [] _ _
    refine r_ldR_n (m := 0) F_68_0 rfl ?_
    refine r_getI (J := 2) (e := (s (44 + 4 * i) 2)) F_68_1 o_68 fl_0_19 (rw_40 ⟨hi, (l4 e2)⟩).1 (by decide) rfl (gw (rw_40 ⟨hi, (l4 e2)⟩).1).2.2.2.1 rfl ?_
    refine r_ireturn F_68_4 rt_68 ?_
    show Rn _ _ _ _ _ [vI (s (44 + 4 * i) 2), vI u] _ _
    refine r_iand F_150_34 rfl ?_
    refine r_stI_n (m := 1) (L' := [some (vR 38), some (vI (iAnd u (s (44 + 4 * i) 2))), some (vI i)]) F_150_35 rfl rfl ?_
    refine r_iinc (m := 2) (e := (i + 1)) (L' := [some (vR 38), some (vI (iAnd u (s (44 + 4 * i) 2))), some (vI (i + 1))]) F_150_36 rfl rfl rfl rfl ?_
    refine r_goto (t := 16) F_150_39 rfl ?_
    exact (l5 e2)
theorem t_X1_bishops {X : m_X} {d : Nat} {s : m_St} {P : Option Value → m_St → Prop}
    (l1 : Rn X (d + 2) 151 4 [some (vR 38), some (vI 0), some (vI 0)] [] s P)
    : Cl X (d + 2) 151 [vR 38] s P := by
  refine Cl_of n_151 rfl ?_
  show Rn _ _ _ _ [some (vR 38), none, none] [] _ _
  refine r_iconst F_151_0 ?_
  refine r_stI_n (m := 1) (L' := [some (vR 38), some (vI 0), none]) F_151_1 rfl rfl ?_
  refine r_iconst F_151_2 ?_
  refine r_stI_n (m := 2) (L' := [some (vR 38), some (vI 0), some (vI 0)]) F_151_3 rfl rfl ?_
  exact l1
theorem t_X1_bishops_4 {X : m_X} {d : Nat} {s : m_St} {P : Option Value → m_St → Prop} {n i : Int} (hi : 0 ≤ i)
    (l1 : inR i)
    (l2 : inR (s 38 3))
    (l3 : (s 38 3) ≤ i → P (some (vI n)) s)
    (l4 : i < (s 38 3) → i < 6)
    (l5 : i < (s 38 3) → inR (s (44 + 4 * i) 1))
    (l6 : i < (s 38 3) → (s (44 + 4 * i) 1) = 1 → Rn X (d + 2) 151 4 [some (vR 38), some (vI (n + 1)), some (vI (i + 1))] [] s P)
    (l7 : i < (s 38 3) → ¬ (s (44 + 4 * i) 1) = 1 → ¬ (ma (s (44 + 4 * i) 1)) = 1 → Rn X (d + 2) 151 4 [some (vR 38), some (vI n), some (vI (i + 1))] [] s P)
    (l8 : i < (s 38 3) → ¬ (s (44 + 4 * i) 1) = 1 → (ma (s (44 + 4 * i) 1)) = 1 → Rn X (d + 2) 151 4 [some (vR 38), some (vI (n + 1)), some (vI (i + 1))] [] s P)
    : Rn X (d + 2) 151 4 [some (vR 38), some (vI n), some (vI i)] [] s P := by
  refine r_ldI_n (m := 2) F_151_4 rfl ?_
  refine r_ldR_n (m := 0) F_151_5 rfl ?_
  refine r_getI (J := 3) (e := (s 38 3)) F_151_6 o_151 fl_1_24 ty_38 (by decide) rfl kd_38_3 rfl ?_
  refine r_icmp (t := 39) F_151_9 rfl l1 l2 ?_ ?_
  · intro e1
    replace e1 : (s 38 3) ≤ i := e1
    refine r_ldI_n (m := 1) F_151_39 rfl ?_
    refine r_ireturn F_151_40 rt_151 ?_
    exact (l3 e1)
  · intro e2
    replace e2 : i < (s 38 3) := (Int.not_le.mp e2)
    refine r_ldI_n (m := 1) F_151_12 rfl ?_
    refine r_ldR_n (m := 0) F_151_13 rfl ?_
    refine r_getR (J := 1) F_151_14 o_151 fl_1_17 ty_38 (by decide) rfl (kd2 kd_38_1 (by decide)) (kd9 kd_38_1 (by decide)) rf_38_1 ?_
    refine r_ldI_n (m := 2) F_151_17 rfl ?_
    refine r_aald F_151_18 ty_40 (by decide) hi (lt_ln ln_40 (l4 e2)) (rw_40 ⟨hi, (l4 e2)⟩).2 ?_
    refine r_iconst F_151_19 ?_
    refine r_virt2 (A := [vI 1]) (r := [vI n]) (n := 1) F_151_20 o_151 il_1_122 rfl rfl rfl rfl (rw_40 ⟨hi, (l4 e2)⟩).1 vy_70 (lay_le n_70 rfl) ?_
    refine Cl_of n_70 rfl ?_
    show Rn _ _ _ _ [some (vR (44 + 4 * i)), some (vI 1)] [] _ _
    refine r_ldR_n (m := 0) F_70_0 rfl ?_
    refine r_getI (J := 1) (e := (s (44 + 4 * i) 1)) F_70_1 o_70 fl_0_15 (rw_40 ⟨hi, (l4 e2)⟩).1 (by decide) rfl (gw (rw_40 ⟨hi, (l4 e2)⟩).1).2.2.1 rfl ?_
    refine r_ldI_n (m := 1) F_70_4 rfl ?_
    refine r_icmp (t := 19) F_70_5 rfl (l5 e2) (by decide) ?_ ?_
    · intro e3
      replace e3 : (s (44 + 4 * i) 1) = 1 := e3
      refine r_iconst F_70_19 ?_
      refine r_goto (t := 24) F_70_20 rfl ?_
      refine r_zreturn F_70_24 rt_70 (Or.inr rfl) ?_
      show Rn _ _ _ _ _ [vI 1, vI n] _ _
      refine r_ifF (t := 30) F_151_23 rfl (by decide) (by show ¬ ((1 : Int) = 0); decide) ?_
      refine r_iconst F_151_26 ?_
      refine r_goto (t := 31) F_151_27 rfl ?_
      refine r_iadd F_151_31 rfl ?_
      refine r_stI_n (m := 1) (L' := [some (vR 38), some (vI (n + 1)), some (vI i)]) F_151_32 rfl rfl ?_
      refine r_iinc (m := 2) (e := (i + 1)) (L' := [some (vR 38), some (vI (n + 1)), some (vI (i + 1))]) F_151_33 rfl rfl rfl rfl ?_
      refine r_goto (t := 4) F_151_36 rfl ?_
      exact (l6 e2 e3)
    · intro e4
      replace e4 : ¬ (s (44 + 4 * i) 1) = 1 := e4
      refine r_ldR_n (m := 0) F_70_8 rfl ?_
      refine r_getI (J := 1) (e := (s (44 + 4 * i) 1)) F_70_9 o_70 fl_0_15 (rw_40 ⟨hi, (l4 e2)⟩).1 (by decide) rfl (gw (rw_40 ⟨hi, (l4 e2)⟩).1).2.2.1 rfl ?_
      refine r_stat2 (A := [vI (s (44 + 4 * i) 1)]) (r := []) (n := 1) F_70_12 o_70 il_0_49 (by decide) rfl rfl rfl rfl (lay_le n_61 rfl) ?_
      refine sp_movedAs (l5 e2) ?_
      show Rn _ _ _ _ _ [vI (ma (s (44 + 4 * i) 1))] _ _
      refine r_ldI_n (m := 1) F_70_15 rfl ?_
      refine r_icmp (t := 23) F_70_16 rfl (inR_ma _) (by decide) ?_ ?_
      · intro e5
        replace e5 : ¬ (ma (s (44 + 4 * i) 1)) = 1 := e5
        refine r_iconst F_70_23 ?_
        refine r_zreturn F_70_24 rt_70 (Or.inl rfl) ?_
        show Rn _ _ _ _ _ [vI 0, vI n] _ _
        refine r_ifT (t := 30) F_151_23 rfl (by decide) (by show (0 : Int) = 0; decide) ?_
        refine r_iconst F_151_30 ?_
        refine r_iadd (e := n) F_151_31 (Int.add_zero _) ?_
        refine r_stI_n (m := 1) (L' := [some (vR 38), some (vI n), some (vI i)]) F_151_32 rfl rfl ?_
        refine r_iinc (m := 2) (e := (i + 1)) (L' := [some (vR 38), some (vI n), some (vI (i + 1))]) F_151_33 rfl rfl rfl rfl ?_
        refine r_goto (t := 4) F_151_36 rfl ?_
        exact (l7 e2 e4 e5)
      · intro e6
        replace e6 : (ma (s (44 + 4 * i) 1)) = 1 := (Classical.not_not.mp e6)
        refine r_iconst F_70_19 ?_
        refine r_goto (t := 24) F_70_20 rfl ?_
        refine r_zreturn F_70_24 rt_70 (Or.inr rfl) ?_
        show Rn _ _ _ _ _ [vI 1, vI n] _ _
        refine r_ifF (t := 30) F_151_23 rfl (by decide) (by show ¬ ((1 : Int) = 0); decide) ?_
        refine r_iconst F_151_26 ?_
        refine r_goto (t := 31) F_151_27 rfl ?_
        refine r_iadd F_151_31 rfl ?_
        refine r_stI_n (m := 1) (L' := [some (vR 38), some (vI (n + 1)), some (vI i)]) F_151_32 rfl rfl ?_
        refine r_iinc (m := 2) (e := (i + 1)) (L' := [some (vR 38), some (vI (n + 1)), some (vI (i + 1))]) F_151_33 rfl rfl rfl rfl ?_
        refine r_goto (t := 4) F_151_36 rfl ?_
        exact (l8 e2 e4 e6)
