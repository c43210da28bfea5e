/-! walks: reading -/
theorem n_34 : m_n 34 = 2 := by decide +kernel
theorem F_34_0 : F 34 0 (.iconst 0) 1 := ⟨1, by decide +kernel, rfl, rfl⟩
theorem F_34_1 : F 34 1 (.istore_n 1) 2 := ⟨1, by decide +kernel, rfl, rfl⟩
theorem F_34_2 : F 34 2 (.iload_n 1) 3 := ⟨1, by decide +kernel, rfl, rfl⟩
theorem F_34_3 : F 34 3 (.bipush 60) 5 := ⟨2, by decide +kernel, rfl, rfl⟩
theorem bi_60 : (Int8.ofInt 60).toInt32 = Int32.ofInt 60 := by decide +kernel
theorem F_34_5 : F 34 5 (.if_icmp .ge 28) 8 := ⟨3, by decide +kernel, rfl, rfl⟩
theorem F_34_33 : F 34 33 (.return_) 34 := ⟨1, by decide +kernel, rfl, rfl⟩
theorem rt_34 : m_r 34 = none := by decide +kernel
theorem F_34_8 : F 34 8 (.aload_n 0) 9 := ⟨1, by decide +kernel, rfl, rfl⟩
theorem F_34_9 : F 34 9 (.invokevirtual 49) 12 := ⟨3, by decide +kernel, rfl, rfl⟩
theorem o_34 : m_o 34 = 2 := by decide +kernel
theorem il_2_49 : ilq 2 49 0 35 0 = true := by decide +kernel
theorem vy_35 : (m_cls 2).1 = (m_y 35).cls ∧ 2 < m_cl.length := by decide +kernel
theorem F_34_12 : F 34 12 (.bipush 32) 14 := ⟨2, by decide +kernel, rfl, rfl⟩
theorem bi_32 : (Int8.ofInt 32).toInt32 = Int32.ofInt 32 := by decide +kernel
theorem F_34_14 : F 34 14 (.if_icmp .ne 19) 17 := ⟨3, by decide +kernel, rfl, rfl⟩
theorem F_34_17 : F 34 17 (.aload_n 0) 18 := ⟨1, by decide +kernel, rfl, rfl⟩
theorem F_34_18 : F 34 18 (.dup) 19 := ⟨1, by decide +kernel, rfl, rfl⟩
theorem F_34_19 : F 34 19 (.getfield 25) 22 := ⟨3, by decide +kernel, rfl, rfl⟩
theorem F_34_22 : F 34 22 (.iconst 1) 23 := ⟨1, by decide +kernel, rfl, rfl⟩
theorem F_34_23 : F 34 23 (.iadd) 24 := ⟨1, by decide +kernel, rfl, rfl⟩
theorem F_34_24 : F 34 24 (.putfield 25) 27 := ⟨3, by decide +kernel, rfl, rfl⟩
theorem pf_2_3 : pfT 2 3 .int = true := by decide +kernel
theorem F_34_27 : F 34 27 (.iinc 1 1) 30 := ⟨3, by decide +kernel, rfl, rfl⟩
theorem F_34_30 : F 34 30 (.goto (-28)) 33 := ⟨3, by decide +kernel, rfl, rfl⟩
theorem n_36 : m_n 36 = 4 := by decide +kernel
theorem F_36_0 : F 36 0 (.aload_n 0) 1 := ⟨1, by decide +kernel, rfl, rfl⟩
theorem F_36_1 : F 36 1 (.invokevirtual 49) 4 := ⟨3, by decide +kernel, rfl, rfl⟩
theorem o_36 : m_o 36 = 2 := by decide +kernel
theorem F_36_4 : F 36 4 (.bipush 119) 6 := ⟨2, by decide +kernel, rfl, rfl⟩
theorem bi_119 : (Int8.ofInt 119).toInt32 = Int32.ofInt 119 := by decide +kernel
theorem F_36_6 : F 36 6 (.if_icmp .eq 8) 9 := ⟨3, by decide +kernel, rfl, rfl⟩
theorem F_36_14 : F 36 14 (.aload_n 0) 15 := ⟨1, by decide +kernel, rfl, rfl⟩
theorem F_36_15 : F 36 15 (.dup) 16 := ⟨1, by decide +kernel, rfl, rfl⟩
theorem F_36_16 : F 36 16 (.getfield 25) 19 := ⟨3, by decide +kernel, rfl, rfl⟩
theorem F_36_19 : F 36 19 (.iconst 1) 20 := ⟨1, by decide +kernel, rfl, rfl⟩
theorem F_36_20 : F 36 20 (.iadd) 21 := ⟨1, by decide +kernel, rfl, rfl⟩
theorem F_36_21 : F 36 21 (.putfield 25) 24 := ⟨3, by decide +kernel, rfl, rfl⟩
theorem F_36_24 : F 36 24 (.aload_n 0) 25 := ⟨1, by decide +kernel, rfl, rfl⟩
theorem F_36_25 : F 36 25 (.getfield 25) 28 := ⟨3, by decide +kernel, rfl, rfl⟩
theorem F_36_28 : F 36 28 (.istore_n 1) 29 := ⟨1, by decide +kernel, rfl, rfl⟩
theorem F_36_29 : F 36 29 (.aload_n 0) 30 := ⟨1, by decide +kernel, rfl, rfl⟩
theorem F_36_30 : F 36 30 (.bipush 10) 32 := ⟨2, by decide +kernel, rfl, rfl⟩
theorem bi_10 : (Int8.ofInt 10).toInt32 = Int32.ofInt 10 := by decide +kernel
theorem F_36_32 : F 36 32 (.invokevirtual 72) 35 := ⟨3, by decide +kernel, rfl, rfl⟩
theorem il_2_72 : ilq 2 72 0 37 1 = true := by decide +kernel
theorem vy_37 : (m_cls 2).1 = (m_y 37).cls ∧ 2 < m_cl.length := by decide +kernel
theorem n_37 : m_n 37 = 3 := by decide +kernel
theorem F_37_0 : F 37 0 (.aload_n 0) 1 := ⟨1, by decide +kernel, rfl, rfl⟩
theorem F_37_1 : F 37 1 (.invokevirtual 49) 4 := ⟨3, by decide +kernel, rfl, rfl⟩
theorem o_37 : m_o 37 = 2 := by decide +kernel
theorem F_37_4 : F 37 4 (.bipush 48) 6 := ⟨2, by decide +kernel, rfl, rfl⟩
theorem bi_48 : (Int8.ofInt 48).toInt32 = Int32.ofInt 48 := by decide +kernel
theorem F_37_6 : F 37 6 (.isub) 7 := ⟨1, by decide +kernel, rfl, rfl⟩
theorem F_37_7 : F 37 7 (.istore_n 2) 8 := ⟨1, by decide +kernel, rfl, rfl⟩
theorem F_37_8 : F 37 8 (.iload_n 2) 9 := ⟨1, by decide +kernel, rfl, rfl⟩
theorem F_37_9 : F 37 9 (.ifCond .lt 8) 12 := ⟨3, by decide +kernel, rfl, rfl⟩
theorem F_37_17 : F 37 17 (.bipush (-9)) 19 := ⟨2, by decide +kernel, rfl, rfl⟩
theorem F_37_19 : F 37 19 (.ireturn) 20 := ⟨1, by decide +kernel, rfl, rfl⟩
theorem rt_37 : m_r 37 = (some .int) := by decide +kernel
theorem F_36_35 : F 36 35 (.istore_n 2) 36 := ⟨1, by decide +kernel, rfl, rfl⟩
theorem F_36_36 : F 36 36 (.iload_n 2) 37 := ⟨1, by decide +kernel, rfl, rfl⟩
theorem F_36_37 : F 36 37 (.ifCond .ge 8) 40 := ⟨3, by decide +kernel, rfl, rfl⟩
theorem F_36_40 : F 36 40 (.bipush (-9)) 42 := ⟨2, by decide +kernel, rfl, rfl⟩
theorem F_36_42 : F 36 42 (.goto 9) 45 := ⟨3, by decide +kernel, rfl, rfl⟩
theorem F_36_51 : F 36 51 (.istore_n 3) 52 := ⟨1, by decide +kernel, rfl, rfl⟩
theorem F_36_52 : F 36 52 (.iload_n 3) 53 := ⟨1, by decide +kernel, rfl, rfl⟩
theorem F_36_53 : F 36 53 (.ifCond .ge 8) 56 := ⟨3, by decide +kernel, rfl, rfl⟩
theorem F_36_56 : F 36 56 (.aload_n 0) 57 := ⟨1, by decide +kernel, rfl, rfl⟩
theorem F_36_57 : F 36 57 (.getfield 25) 60 := ⟨3, by decide +kernel, rfl, rfl⟩
theorem F_36_60 : F 36 60 (.ireturn) 61 := ⟨1, by decide +kernel, rfl, rfl⟩
theorem rt_36 : m_r 36 = (some .int) := by decide +kernel
theorem F_37_12 : F 37 12 (.iload_n 2) 13 := ⟨1, by decide +kernel, rfl, rfl⟩
theorem F_37_13 : F 37 13 (.iload_n 1) 14 := ⟨1, by decide +kernel, rfl, rfl⟩
theorem F_37_14 : F 37 14 (.if_icmp .lt 6) 17 := ⟨3, by decide +kernel, rfl, rfl⟩
theorem F_37_20 : F 37 20 (.aload_n 0) 21 := ⟨1, by decide +kernel, rfl, rfl⟩
theorem F_37_21 : F 37 21 (.dup) 22 := ⟨1, by decide +kernel, rfl, rfl⟩
theorem F_37_22 : F 37 22 (.getfield 25) 25 := ⟨3, by decide +kernel, rfl, rfl⟩
theorem F_37_25 : F 37 25 (.iconst 1) 26 := ⟨1, by decide +kernel, rfl, rfl⟩
theorem F_37_26 : F 37 26 (.iadd) 27 := ⟨1, by decide +kernel, rfl, rfl⟩
theorem F_37_27 : F 37 27 (.putfield 25) 30 := ⟨3, by decide +kernel, rfl, rfl⟩
theorem F_37_30 : F 37 30 (.iload_n 2) 31 := ⟨1, by decide +kernel, rfl, rfl⟩
theorem F_37_31 : F 37 31 (.ireturn) 32 := ⟨1, by decide +kernel, rfl, rfl⟩
theorem F_36_45 : F 36 45 (.aload_n 0) 46 := ⟨1, by decide +kernel, rfl, rfl⟩
theorem F_36_46 : F 36 46 (.bipush 10) 48 := ⟨2, by decide +kernel, rfl, rfl⟩
theorem F_36_48 : F 36 48 (.invokevirtual 72) 51 := ⟨3, by decide +kernel, rfl, rfl⟩
theorem F_36_61 : F 36 61 (.aload_n 0) 62 := ⟨1, by decide +kernel, rfl, rfl⟩
theorem F_36_62 : F 36 62 (.bipush 10) 64 := ⟨2, by decide +kernel, rfl, rfl⟩
theorem F_36_64 : F 36 64 (.iload_n 2) 65 := ⟨1, by decide +kernel, rfl, rfl⟩
theorem F_36_65 : F 36 65 (.imul) 66 := ⟨1, by decide +kernel, rfl, rfl⟩
theorem F_36_66 : F 36 66 (.iload_n 3) 67 := ⟨1, by decide +kernel, rfl, rfl⟩
theorem F_36_67 : F 36 67 (.iadd) 68 := ⟨1, by decide +kernel, rfl, rfl⟩
theorem F_36_68 : F 36 68 (.putfield 31) 71 := ⟨3, by decide +kernel, rfl, rfl⟩
theorem pf_2_5 : pfT 2 5 .int = true := by decide +kernel
theorem F_36_71 : F 36 71 (.aload_n 0) 72 := ⟨1, by decide +kernel, rfl, rfl⟩
theorem F_36_72 : F 36 72 (.getfield 31) 75 := ⟨3, by decide +kernel, rfl, rfl⟩
theorem F_36_75 : F 36 75 (.bipush 40) 77 := ⟨2, by decide +kernel, rfl, rfl⟩
theorem F_36_77 : F 36 77 (.if_icmp .le 7) 80 := ⟨3, by decide +kernel, rfl, rfl⟩
theorem F_36_84 : F 36 84 (.bipush (-9)) 86 := ⟨2, by decide +kernel, rfl, rfl⟩
theorem F_36_86 : F 36 86 (.ireturn) 87 := ⟨1, by decide +kernel, rfl, rfl⟩
theorem F_36_80 : F 36 80 (.iload_n 1) 81 := ⟨1, by decide +kernel, rfl, rfl⟩
theorem F_36_81 : F 36 81 (.goto 5) 84 := ⟨3, by decide +kernel, rfl, rfl⟩
theorem F_36_9 : F 36 9 (.aload_n 0) 10 := ⟨1, by decide +kernel, rfl, rfl⟩
theorem F_36_10 : F 36 10 (.getfield 25) 13 := ⟨3, by decide +kernel, rfl, rfl⟩
theorem F_36_13 : F 36 13 (.ireturn) 14 := ⟨1, by decide +kernel, rfl, rfl⟩
theorem n_38 : m_n 38 = 3 := by decide +kernel
theorem F_38_0 : F 38 0 (.aload_n 0) 1 := ⟨1, by decide +kernel, rfl, rfl⟩
theorem F_38_1 : F 38 1 (.dup) 2 := ⟨1, by decide +kernel, rfl, rfl⟩
theorem F_38_2 : F 38 2 (.getfield 25) 5 := ⟨3, by decide +kernel, rfl, rfl⟩
theorem o_38 : m_o 38 = 2 := by decide +kernel
theorem F_38_5 : F 38 5 (.iconst 1) 6 := ⟨1, by decide +kernel, rfl, rfl⟩
theorem F_38_6 : F 38 6 (.iadd) 7 := ⟨1, by decide +kernel, rfl, rfl⟩
theorem F_38_7 : F 38 7 (.putfield 25) 10 := ⟨3, by decide +kernel, rfl, rfl⟩
theorem F_38_10 : F 38 10 (.aload_n 0) 11 := ⟨1, by decide +kernel, rfl, rfl⟩
theorem F_38_11 : F 38 11 (.iconst 4) 12 := ⟨1, by decide +kernel, rfl, rfl⟩
theorem F_38_12 : F 38 12 (.invokevirtual 72) 15 := ⟨3, by decide +kernel, rfl, rfl⟩
theorem F_38_15 : F 38 15 (.istore_n 1) 16 := ⟨1, by decide +kernel, rfl, rfl⟩
theorem F_38_16 : F 38 16 (.iload_n 1) 17 := ⟨1, by decide +kernel, rfl, rfl⟩
theorem F_38_17 : F 38 17 (.ifCond .ge 8) 20 := ⟨3, by decide +kernel, rfl, rfl⟩
theorem F_38_20 : F 38 20 (.bipush (-9)) 22 := ⟨2, by decide +kernel, rfl, rfl⟩
theorem F_38_22 : F 38 22 (.goto 8) 25 := ⟨3, by decide +kernel, rfl, rfl⟩
theorem F_38_30 : F 38 30 (.istore_n 2) 31 := ⟨1, by decide +kernel, rfl, rfl⟩
theorem F_38_31 : F 38 31 (.iload_n 2) 32 := ⟨1, by decide +kernel, rfl, rfl⟩
theorem F_38_32 : F 38 32 (.ifCond .ge 8) 35 := ⟨3, by decide +kernel, rfl, rfl⟩
theorem F_38_35 : F 38 35 (.aload_n 0) 36 := ⟨1, by decide +kernel, rfl, rfl⟩
theorem F_38_36 : F 38 36 (.getfield 25) 39 := ⟨3, by decide +kernel, rfl, rfl⟩
theorem F_38_39 : F 38 39 (.ireturn) 40 := ⟨1, by decide +kernel, rfl, rfl⟩
theorem rt_38 : m_r 38 = (some .int) := by decide +kernel
theorem F_38_25 : F 38 25 (.aload_n 0) 26 := ⟨1, by decide +kernel, rfl, rfl⟩
theorem F_38_26 : F 38 26 (.iconst 4) 27 := ⟨1, by decide +kernel, rfl, rfl⟩
theorem F_38_27 : F 38 27 (.invokevirtual 72) 30 := ⟨3, by decide +kernel, rfl, rfl⟩
theorem F_38_40 : F 38 40 (.iload_n 1) 41 := ⟨1, by decide +kernel, rfl, rfl⟩
theorem F_38_41 : F 38 41 (.iload_n 2) 42 := ⟨1, by decide +kernel, rfl, rfl⟩
theorem F_38_42 : F 38 42 (.if_icmp .ne 10) 45 := ⟨3, by decide +kernel, rfl, rfl⟩
theorem F_38_52 : F 38 52 (.aload_n 0) 53 := ⟨1, by decide +kernel, rfl, rfl⟩
theorem F_38_53 : F 38 53 (.dup) 54 := ⟨1, by decide +kernel, rfl, rfl⟩
theorem F_38_54 : F 38 54 (.getfield 34) 57 := ⟨3, by decide +kernel, rfl, rfl⟩
theorem F_38_57 : F 38 57 (.iconst 1) 58 := ⟨1, by decide +kernel, rfl, rfl⟩
theorem F_38_58 : F 38 58 (.iconst 4) 59 := ⟨1, by decide +kernel, rfl, rfl⟩
theorem F_38_59 : F 38 59 (.iload_n 2) 60 := ⟨1, by decide +kernel, rfl, rfl⟩
theorem F_38_60 : F 38 60 (.imul) 61 := ⟨1, by decide +kernel, rfl, rfl⟩
theorem F_38_61 : F 38 61 (.iload_n 1) 62 := ⟨1, by decide +kernel, rfl, rfl⟩
theorem F_38_62 : F 38 62 (.iadd) 63 := ⟨1, by decide +kernel, rfl, rfl⟩
theorem F_38_63 : F 38 63 (.ishl) 64 := ⟨1, by decide +kernel, rfl, rfl⟩
theorem F_38_64 : F 38 64 (.ior) 65 := ⟨1, by decide +kernel, rfl, rfl⟩
theorem F_38_65 : F 38 65 (.putfield 34) 68 := ⟨3, by decide +kernel, rfl, rfl⟩
theorem pf_2_6 : pfT 2 6 .int = true := by decide +kernel
theorem F_38_68 : F 38 68 (.bipush (-9)) 70 := ⟨2, by decide +kernel, rfl, rfl⟩
theorem F_38_70 : F 38 70 (.ireturn) 71 := ⟨1, by decide +kernel, rfl, rfl⟩
theorem F_38_45 : F 38 45 (.aload_n 0) 46 := ⟨1, by decide +kernel, rfl, rfl⟩
theorem F_38_46 : F 38 46 (.getfield 25) 49 := ⟨3, by decide +kernel, rfl, rfl⟩
theorem F_38_49 : F 38 49 (.iconst 1) 50 := ⟨1, by decide +kernel, rfl, rfl⟩
theorem F_38_50 : F 38 50 (.isub) 51 := ⟨1, by decide +kernel, rfl, rfl⟩
theorem F_38_51 : F 38 51 (.ireturn) 52 := ⟨1, by decide +kernel, rfl, rfl⟩
theorem n_39 : m_n 39 = 5 := by decide +kernel
theorem F_39_0 : F 39 0 (.aload_n 0) 1 := ⟨1, by decide +kernel, rfl, rfl⟩
theorem F_39_1 : F 39 1 (.invokevirtual 49) 4 := ⟨3, by decide +kernel, rfl, rfl⟩
theorem o_39 : m_o 39 = 2 := by decide +kernel
theorem F_39_4 : F 39 4 (.invokestatic 75) 7 := ⟨3, by decide +kernel, rfl, rfl⟩
theorem il_2_75 : ilq 2 75 1 40 1 = true := by decide +kernel
theorem F_39_7 : F 39 7 (.istore_n 1) 8 := ⟨1, by decide +kernel, rfl, rfl⟩
theorem F_39_8 : F 39 8 (.iload_n 1) 9 := ⟨1, by decide +kernel, rfl, rfl⟩
theorem F_39_9 : F 39 9 (.ifCond .lt 12) 12 := ⟨3, by decide +kernel, rfl, rfl⟩
theorem F_39_21 : F 39 21 (.aload_n 0) 22 := ⟨1, by decide +kernel, rfl, rfl⟩
theorem F_39_22 : F 39 22 (.getfield 25) 25 := ⟨3, by decide +kernel, rfl, rfl⟩
theorem F_39_25 : F 39 25 (.ireturn) 26 := ⟨1, by decide +kernel, rfl, rfl⟩
theorem rt_39 : m_r 39 = (some .int) := by decide +kernel
theorem F_39_12 : F 39 12 (.aload_n 0) 13 := ⟨1, by decide +kernel, rfl, rfl⟩
theorem F_39_13 : F 39 13 (.getfield 28) 16 := ⟨3, by decide +kernel, rfl, rfl⟩
theorem F_39_16 : F 39 16 (.bipush 6) 18 := ⟨2, by decide +kernel, rfl, rfl⟩
theorem F_39_18 : F 39 18 (.if_icmp .lt 8) 21 := ⟨3, by decide +kernel, rfl, rfl⟩
theorem F_39_26 : F 39 26 (.aload_n 0) 27 := ⟨1, by decide +kernel, rfl, rfl⟩
theorem F_39_27 : F 39 27 (.dup) 28 := ⟨1, by decide +kernel, rfl, rfl⟩
theorem F_39_28 : F 39 28 (.getfield 25) 31 := ⟨3, by decide +kernel, rfl, rfl⟩
theorem F_39_31 : F 39 31 (.iconst 1) 32 := ⟨1, by decide +kernel, rfl, rfl⟩
theorem F_39_32 : F 39 32 (.iadd) 33 := ⟨1, by decide +kernel, rfl, rfl⟩
theorem F_39_33 : F 39 33 (.putfield 25) 36 := ⟨3, by decide +kernel, rfl, rfl⟩
theorem F_39_36 : F 39 36 (.aload_n 0) 37 := ⟨1, by decide +kernel, rfl, rfl⟩
theorem F_39_37 : F 39 37 (.aload_n 0) 38 := ⟨1, by decide +kernel, rfl, rfl⟩
theorem F_39_38 : F 39 38 (.getfield 28) 41 := ⟨3, by decide +kernel, rfl, rfl⟩
theorem F_39_41 : F 39 41 (.invokevirtual 78) 44 := ⟨3, by decide +kernel, rfl, rfl⟩
theorem il_2_78 : ilq 2 78 0 41 1 = true := by decide +kernel
theorem F_39_44 : F 39 44 (.astore_n 2) 45 := ⟨1, by decide +kernel, rfl, rfl⟩
theorem F_39_45 : F 39 45 (.aload_n 2) 46 := ⟨1, by decide +kernel, rfl, rfl⟩
theorem F_39_46 : F 39 46 (.iload_n 1) 47 := ⟨1, by decide +kernel, rfl, rfl⟩
theorem F_39_47 : F 39 47 (.invokevirtual 82) 50 := ⟨3, by decide +kernel, rfl, rfl⟩
theorem il_2_82 : ilq 2 82 0 42 1 = true := by decide +kernel
theorem F_39_50 : F 39 50 (.iconst 0) 51 := ⟨1, by decide +kernel, rfl, rfl⟩
theorem F_39_51 : F 39 51 (.istore_n 3) 52 := ⟨1, by decide +kernel, rfl, rfl⟩
theorem F_39_52 : F 39 52 (.iload_n 3) 53 := ⟨1, by decide +kernel, rfl, rfl⟩
theorem F_39_53 : F 39 53 (.iconst 4) 54 := ⟨1, by decide +kernel, rfl, rfl⟩
theorem F_39_54 : F 39 54 (.if_icmp .ge 34) 57 := ⟨3, by decide +kernel, rfl, rfl⟩
theorem F_39_88 : F 39 88 (.aload_n 0) 89 := ⟨1, by decide +kernel, rfl, rfl⟩
theorem F_39_89 : F 39 89 (.dup) 90 := ⟨1, by decide +kernel, rfl, rfl⟩
theorem F_39_90 : F 39 90 (.getfield 28) 93 := ⟨3, by decide +kernel, rfl, rfl⟩
theorem F_39_93 : F 39 93 (.iconst 1) 94 := ⟨1, by decide +kernel, rfl, rfl⟩
theorem F_39_94 : F 39 94 (.iadd) 95 := ⟨1, by decide +kernel, rfl, rfl⟩
theorem F_39_95 : F 39 95 (.putfield 28) 98 := ⟨3, by decide +kernel, rfl, rfl⟩
theorem pf_2_4 : pfT 2 4 .int = true := by decide +kernel
theorem F_39_98 : F 39 98 (.bipush (-9)) 100 := ⟨2, by decide +kernel, rfl, rfl⟩
theorem F_39_100 : F 39 100 (.ireturn) 101 := ⟨1, by decide +kernel, rfl, rfl⟩
theorem F_39_57 : F 39 57 (.aload_n 0) 58 := ⟨1, by decide +kernel, rfl, rfl⟩
theorem F_39_58 : F 39 58 (.bipush 10) 60 := ⟨2, by decide +kernel, rfl, rfl⟩
theorem F_39_60 : F 39 60 (.invokevirtual 72) 63 := ⟨3, by decide +kernel, rfl, rfl⟩
theorem F_39_63 : F 39 63 (.istore 4) 65 := ⟨2, by decide +kernel, rfl, rfl⟩
theorem F_39_65 : F 39 65 (.iload 4) 67 := ⟨2, by decide +kernel, rfl, rfl⟩
theorem F_39_67 : F 39 67 (.ifCond .ge 8) 70 := ⟨3, by decide +kernel, rfl, rfl⟩
theorem F_39_70 : F 39 70 (.aload_n 0) 71 := ⟨1, by decide +kernel, rfl, rfl⟩
theorem F_39_71 : F 39 71 (.getfield 25) 74 := ⟨3, by decide +kernel, rfl, rfl⟩
theorem F_39_74 : F 39 74 (.ireturn) 75 := ⟨1, by decide +kernel, rfl, rfl⟩
theorem F_39_75 : F 39 75 (.aload_n 2) 76 := ⟨1, by decide +kernel, rfl, rfl⟩
theorem F_39_76 : F 39 76 (.iload_n 3) 77 := ⟨1, by decide +kernel, rfl, rfl⟩
theorem F_39_77 : F 39 77 (.iload 4) 79 := ⟨2, by decide +kernel, rfl, rfl⟩
theorem F_39_79 : F 39 79 (.invokevirtual 86) 82 := ⟨3, by decide +kernel, rfl, rfl⟩
theorem il_2_86 : ilq 2 86 0 45 2 = true := by decide +kernel
theorem F_39_82 : F 39 82 (.iinc 3 1) 85 := ⟨3, by decide +kernel, rfl, rfl⟩
theorem F_39_85 : F 39 85 (.goto (-33)) 88 := ⟨3, by decide +kernel, rfl, rfl⟩
theorem n_32 : m_n 32 = 4 := by decide +kernel
theorem F_32_0 : F 32 0 (.aload_n 0) 1 := ⟨1, by decide +kernel, rfl, rfl⟩
theorem F_32_1 : F 32 1 (.aload_n 1) 2 := ⟨1, by decide +kernel, rfl, rfl⟩
theorem F_32_2 : F 32 2 (.iload_n 2) 3 := ⟨1, by decide +kernel, rfl, rfl⟩
theorem F_32_3 : F 32 3 (.invokevirtual 58) 6 := ⟨3, by decide +kernel, rfl, rfl⟩
theorem o_32 : m_o 32 = 2 := by decide +kernel
theorem il_2_58 : ilq 2 58 0 16 1 = true := by decide +kernel
theorem F_32_6 : F 32 6 (.bipush 60) 8 := ⟨2, by decide +kernel, rfl, rfl⟩
theorem F_32_8 : F 32 8 (.invokestatic 63) 11 := ⟨3, by decide +kernel, rfl, rfl⟩
theorem mm_2_63 : m_mm.lookup (2, 63) = some (1, 3027) := by decide +kernel
theorem iln_2_63 : m_il.lookup (2, 63) = none := by decide +kernel
theorem F_32_11 : F 32 11 (.putfield 21) 14 := ⟨3, by decide +kernel, rfl, rfl⟩
theorem pf_2_2 : pfT 2 2 .int = true := by decide +kernel
theorem F_32_14 : F 32 14 (.iconst 0) 15 := ⟨1, by decide +kernel, rfl, rfl⟩
theorem F_32_15 : F 32 15 (.istore_n 3) 16 := ⟨1, by decide +kernel, rfl, rfl⟩
theorem F_32_16 : F 32 16 (.iload_n 3) 17 := ⟨1, by decide +kernel, rfl, rfl⟩
theorem F_32_17 : F 32 17 (.aload_n 0) 18 := ⟨1, by decide +kernel, rfl, rfl⟩
theorem F_32_18 : F 32 18 (.getfield 21) 21 := ⟨3, by decide +kernel, rfl, rfl⟩
theorem F_32_21 : F 32 21 (.if_icmp .ge 21) 24 := ⟨3, by decide +kernel, rfl, rfl⟩
theorem F_32_42 : F 32 42 (.aload_n 0) 43 := ⟨1, by decide +kernel, rfl, rfl⟩
theorem F_32_43 : F 32 43 (.iconst 0) 44 := ⟨1, by decide +kernel, rfl, rfl⟩
theorem F_32_44 : F 32 44 (.putfield 25) 47 := ⟨3, by decide +kernel, rfl, rfl⟩
theorem F_32_47 : F 32 47 (.aload_n 0) 48 := ⟨1, by decide +kernel, rfl, rfl⟩
theorem F_32_48 : F 32 48 (.iconst 0) 49 := ⟨1, by decide +kernel, rfl, rfl⟩
theorem F_32_49 : F 32 49 (.putfield 28) 52 := ⟨3, by decide +kernel, rfl, rfl⟩
theorem F_32_52 : F 32 52 (.aload_n 0) 53 := ⟨1, by decide +kernel, rfl, rfl⟩
theorem F_32_53 : F 32 53 (.iconst 0) 54 := ⟨1, by decide +kernel, rfl, rfl⟩
theorem F_32_54 : F 32 54 (.putfield 31) 57 := ⟨3, by decide +kernel, rfl, rfl⟩
theorem F_32_57 : F 32 57 (.aload_n 0) 58 := ⟨1, by decide +kernel, rfl, rfl⟩
theorem F_32_58 : F 32 58 (.iconst 0) 59 := ⟨1, by decide +kernel, rfl, rfl⟩
theorem F_32_59 : F 32 59 (.putfield 34) 62 := ⟨3, by decide +kernel, rfl, rfl⟩
theorem F_32_62 : F 32 62 (.return_) 63 := ⟨1, by decide +kernel, rfl, rfl⟩
theorem rt_32 : m_r 32 = none := by decide +kernel
theorem F_32_24 : F 32 24 (.aload_n 0) 25 := ⟨1, by decide +kernel, rfl, rfl⟩
theorem F_32_25 : F 32 25 (.getfield 17) 28 := ⟨3, by decide +kernel, rfl, rfl⟩
theorem F_32_28 : F 32 28 (.iload_n 3) 29 := ⟨1, by decide +kernel, rfl, rfl⟩
theorem F_32_29 : F 32 29 (.aload_n 1) 30 := ⟨1, by decide +kernel, rfl, rfl⟩
theorem F_32_30 : F 32 30 (.iload_n 2) 31 := ⟨1, by decide +kernel, rfl, rfl⟩
theorem F_32_31 : F 32 31 (.iload_n 3) 32 := ⟨1, by decide +kernel, rfl, rfl⟩
theorem F_32_32 : F 32 32 (.invokevirtual 69) 35 := ⟨3, by decide +kernel, rfl, rfl⟩
theorem il_2_69 : ilq 2 69 0 18 2 = true := by decide +kernel
theorem vy_18 : (m_cls 3).1 = (m_y 18).cls ∧ 3 < m_cl.length := by decide +kernel
theorem n_18 : m_n 18 = 3 := by decide +kernel
theorem F_18_0 : F 18 0 (.aload_n 0) 1 := ⟨1, by decide +kernel, rfl, rfl⟩
theorem F_18_1 : F 18 1 (.iload_n 1) 2 := ⟨1, by decide +kernel, rfl, rfl⟩
theorem F_18_2 : F 18 2 (.iload_n 2) 3 := ⟨1, by decide +kernel, rfl, rfl⟩
theorem F_18_3 : F 18 3 (.iconst 1) 4 := ⟨1, by decide +kernel, rfl, rfl⟩
theorem F_18_4 : F 18 4 (.invokevirtual 39) 7 := ⟨3, by decide +kernel, rfl, rfl⟩
theorem o_18 : m_o 18 = 3 := by decide +kernel
theorem il_3_39 : ilq 3 39 0 17 3 = true := by decide +kernel
theorem vy_17 : (m_cls 3).1 = (m_y 17).cls ∧ 3 < m_cl.length := by decide +kernel
theorem n_17 : m_n 17 = 4 := by decide +kernel
theorem F_17_0 : F 17 0 (.aload_n 0) 1 := ⟨1, by decide +kernel, rfl, rfl⟩
theorem F_17_1 : F 17 1 (.iload_n 1) 2 := ⟨1, by decide +kernel, rfl, rfl⟩
theorem F_17_2 : F 17 2 (.invokevirtual 36) 5 := ⟨3, by decide +kernel, rfl, rfl⟩
theorem o_17 : m_o 17 = 3 := by decide +kernel
theorem F_17_5 : F 17 5 (.ifCond .eq 26) 8 := ⟨3, by decide +kernel, rfl, rfl⟩
theorem F_17_8 : F 17 8 (.iload_n 2) 9 := ⟨1, by decide +kernel, rfl, rfl⟩
theorem F_17_9 : F 17 9 (.ifCond .lt 22) 12 := ⟨3, by decide +kernel, rfl, rfl⟩
theorem F_17_12 : F 17 12 (.iload_n 3) 13 := ⟨1, by decide +kernel, rfl, rfl⟩
theorem F_17_13 : F 17 13 (.ifCond .lt 18) 16 := ⟨3, by decide +kernel, rfl, rfl⟩
theorem F_17_16 : F 17 16 (.iload_n 2) 17 := ⟨1, by decide +kernel, rfl, rfl⟩
theorem F_17_17 : F 17 17 (.aload_n 0) 18 := ⟨1, by decide +kernel, rfl, rfl⟩
theorem F_17_18 : F 17 18 (.iload_n 1) 19 := ⟨1, by decide +kernel, rfl, rfl⟩
theorem F_17_19 : F 17 19 (.invokevirtual 28) 22 := ⟨3, by decide +kernel, rfl, rfl⟩
theorem F_17_22 : F 17 22 (.iload_n 3) 23 := ⟨1, by decide +kernel, rfl, rfl⟩
theorem F_17_23 : F 17 23 (.isub) 24 := ⟨1, by decide +kernel, rfl, rfl⟩
theorem F_17_24 : F 17 24 (.if_icmp .gt 7) 27 := ⟨3, by decide +kernel, rfl, rfl⟩
theorem F_17_31 : F 17 31 (.iconst 0) 32 := ⟨1, by decide +kernel, rfl, rfl⟩
theorem F_17_32 : F 17 32 (.ireturn) 33 := ⟨1, by decide +kernel, rfl, rfl⟩
theorem rt_17 : m_r 17 = (some .boolean) := by decide +kernel
theorem F_18_7 : F 18 7 (.ifCond .eq 14) 10 := ⟨3, by decide +kernel, rfl, rfl⟩
theorem F_18_21 : F 18 21 (.iconst 0) 22 := ⟨1, by decide +kernel, rfl, rfl⟩
theorem F_18_22 : F 18 22 (.ireturn) 23 := ⟨1, by decide +kernel, rfl, rfl⟩
theorem rt_18 : m_r 18 = (some .int) := by decide +kernel
theorem F_32_35 : F 32 35 (.iastore) 36 := ⟨1, by decide +kernel, rfl, rfl⟩
theorem F_32_36 : F 32 36 (.iinc 3 1) 39 := ⟨3, by decide +kernel, rfl, rfl⟩
theorem F_32_39 : F 32 39 (.goto (-23)) 42 := ⟨3, by decide +kernel, rfl, rfl⟩
theorem F_17_27 : F 17 27 (.iconst 1) 28 := ⟨1, by decide +kernel, rfl, rfl⟩
theorem F_17_28 : F 17 28 (.goto 4) 31 := ⟨3, by decide +kernel, rfl, rfl⟩
theorem F_18_10 : F 18 10 (.aload_n 0) 11 := ⟨1, by decide +kernel, rfl, rfl⟩
theorem F_18_11 : F 18 11 (.getfield 25) 14 := ⟨3, by decide +kernel, rfl, rfl⟩
theorem F_18_14 : F 18 14 (.iload_n 1) 15 := ⟨1, by decide +kernel, rfl, rfl⟩
theorem F_18_15 : F 18 15 (.aaload) 16 := ⟨1, by decide +kernel, rfl, rfl⟩
theorem F_18_16 : F 18 16 (.iload_n 2) 17 := ⟨1, by decide +kernel, rfl, rfl⟩
theorem F_18_17 : F 18 17 (.iaload) 18 := ⟨1, by decide +kernel, rfl, rfl⟩
theorem F_18_18 : F 18 18 (.goto 4) 21 := ⟨3, by decide +kernel, rfl, rfl⟩
theorem t_X2_skipBlanks {X : m_X} {d : Nat} {s : m_St} {P : Option Value → m_St → Prop}
    (l1 : Rn X (d + 1) 34 2 [some (vR 23), some (vI 0)] [] s P)
    : Cl X (d + 1) 34 [vR 23] s P := by
  refine Cl_of n_34 rfl ?_
  show Rn _ _ _ _ [some (vR 23), none] [] _ _
  refine r_iconst F_34_0 ?_
  refine r_stI_n (m := 1) (L' := [some (vR 23), some (vI 0)]) F_34_1 rfl rfl ?_
  exact l1
theorem t_X2_skipBlanks_2 {X : m_X} {d : Nat} {s : m_St} {P : Option Value → m_St → Prop} {i : Int}
    (l1 : inR i)
    (l2 : 60 ≤ i → P none s)
    (l3 : i < 60 → sok s)
    (l4 : i < 60 → inR (sgn s))
    (l5 : i < 60 → ¬ (sgn s) = 32 → P none s)
    (l6 : i < 60 → (sgn s) = 32 → Rn X (d + 1) 34 2 [some (vR 23), some (vI (i + 1))] [] (m_upd s 23 3 ((s 23 3) + 1)) P)
    : Rn X (d + 1) 34 2 [some (vR 23), some (vI i)] [] s P := by
  refine r_ldI_n (m := 1) F_34_2 rfl ?_
  refine r_bipush F_34_3 bi_60 ?_
  refine r_icmp (t := 33) F_34_5 rfl l1 (by decide) ?_ ?_
  · intro e1
    replace e1 : 60 ≤ i := e1
    refine r_return F_34_33 rt_34 ?_
    exact (l2 e1)
  · intro e2
    replace e2 : i < 60 := (Int.not_le.mp e2)
    refine r_ldR_n (m := 0) F_34_8 rfl ?_
    refine r_virt2 (A := []) (r := []) (n := 0) F_34_9 o_34 il_2_49 rfl rfl rfl rfl ty_23 vy_35 (lay_le n_35 rfl) ?_
    refine sp_sign (l3 e2) ?_
    show Rn _ _ _ _ _ [vI (sgn s)] _ _
    refine r_bipush F_34_12 bi_32 ?_
    refine r_icmp (t := 33) F_34_14 rfl (l4 e2) (by decide) ?_ ?_
    · intro e3
      replace e3 : ¬ (sgn s) = 32 := e3
      refine r_return F_34_33 rt_34 ?_
      exact (l5 e2 e3)
    · intro e4
      replace e4 : (sgn s) = 32 := (Classical.not_not.mp e4)
      refine r_ldR_n (m := 0) F_34_17 rfl ?_
      refine r_dupR F_34_18 ?_
      refine r_getI (J := 3) (e := (s 23 3)) F_34_19 o_34 fl_2_25 ty_23 (by decide) rfl kd_23_3 rfl ?_
      refine r_iconst F_34_22 ?_
      refine r_iadd F_34_23 rfl ?_
      refine r_putI (J := 3) F_34_24 o_34 fl_2_25 ty_23 (by decide) rfl kd_23_3 pf_2_3 ?_
      refine r_iinc (m := 1) (e := (i + 1)) (L' := [some (vR 23), some (vI (i + 1))]) F_34_27 rfl rfl rfl rfl ?_
      refine r_goto (t := 2) F_34_30 rfl ?_
      exact (l6 e2 e4)
theorem t_X2_readWood {X : m_X} {d : Nat} {s : m_St} {P : Option Value → m_St → Prop}
    (l1 : sok s)
    (l2 : inR (sgn s))
    (l3 : (sgn s) = 119 → sok (m_upd s 23 3 ((s 23 3) + 1)))
    (l4 : (sgn s) = 119 → inR ((sgn (m_upd s 23 3 ((s 23 3) + 1))) - 48))
    (l5 : (sgn s) = 119 → ((sgn (m_upd s 23 3 ((s 23 3) + 1))) - 48) < 0 → P (some (vI ((s 23 3) + 1))) (m_upd s 23 3 ((s 23 3) + 1)))
    (l6 : (sgn s) = 119 → 0 ≤ ((sgn (m_upd s 23 3 ((s 23 3) + 1))) - 48) → ((sgn (m_upd s 23 3 ((s 23 3) + 1))) - 48) < 10 → sok (m_upd (m_upd s 23 3 ((s 23 3) + 1)) 23 3 (((s 23 3) + 1) + 1)))
    (l7 : (sgn s) = 119 → 0 ≤ ((sgn (m_upd s 23 3 ((s 23 3) + 1))) - 48) → ((sgn (m_upd s 23 3 ((s 23 3) + 1))) - 48) < 10 → inR ((sgn (m_upd (m_upd s 23 3 ((s 23 3) + 1)) 23 3 (((s 23 3) + 1) + 1))) - 48))
    (l8 : (sgn s) = 119 → 0 ≤ ((sgn (m_upd s 23 3 ((s 23 3) + 1))) - 48) → ((sgn (m_upd s 23 3 ((s 23 3) + 1))) - 48) < 10 → ((sgn (m_upd (m_upd s 23 3 ((s 23 3) + 1)) 23 3 (((s 23 3) + 1) + 1))) - 48) < 0 → P (some (vI (((s 23 3) + 1) + 1))) (m_upd (m_upd s 23 3 ((s 23 3) + 1)) 23 3 (((s 23 3) + 1) + 1)))
    (l9 : (sgn s) = 119 → 0 ≤ ((sgn (m_upd s 23 3 ((s 23 3) + 1))) - 48) → ((sgn (m_upd s 23 3 ((s 23 3) + 1))) - 48) < 10 → 0 ≤ ((sgn (m_upd (m_upd s 23 3 ((s 23 3) + 1)) 23 3 (((s 23 3) + 1) + 1))) - 48) → ((sgn (m_upd (m_upd s 23 3 ((s 23 3) + 1)) 23 3 (((s 23 3) + 1) + 1))) - 48) < 10 → inR ((10 * ((sgn (m_upd s 23 3 ((s 23 3) + 1))) - 48)) + ((sgn (m_upd (m_upd s 23 3 ((s 23 3) + 1)) 23 3 (((s 23 3) + 1) + 1))) - 48)))
    (l10 : (sgn s) = 119 → 0 ≤ ((sgn (m_upd s 23 3 ((s 23 3) + 1))) - 48) → ((sgn (m_upd s 23 3 ((s 23 3) + 1))) - 48) < 10 → 0 ≤ ((sgn (m_upd (m_upd s 23 3 ((s 23 3) + 1)) 23 3 (((s 23 3) + 1) + 1))) - 48) → ((sgn (m_upd (m_upd s 23 3 ((s 23 3) + 1)) 23 3 (((s 23 3) + 1) + 1))) - 48) < 10 → ((10 * ((sgn (m_upd s 23 3 ((s 23 3) + 1))) - 48)) + ((sgn (m_upd (m_upd s 23 3 ((s 23 3) + 1)) 23 3 (((s 23 3) + 1) + 1))) - 48)) ≤ 40 → P (some (vI (-9))) (m_upd (m_upd (m_upd (m_upd s 23 3 ((s 23 3) + 1)) 23 3 (((s 23 3) + 1) + 1)) 23 3 ((((s 23 3) + 1) + 1) + 1)) 23 5 ((10 * ((sgn (m_upd s 23 3 ((s 23 3) + 1))) - 48)) + ((sgn (m_upd (m_upd s 23 3 ((s 23 3) + 1)) 23 3 (((s 23 3) + 1) + 1))) - 48))))
    (l11 : (sgn s) = 119 → 0 ≤ ((sgn (m_upd s 23 3 ((s 23 3) + 1))) - 48) → ((sgn (m_upd s 23 3 ((s 23 3) + 1))) - 48) < 10 → 0 ≤ ((sgn (m_upd (m_upd s 23 3 ((s 23 3) + 1)) 23 3 (((s 23 3) + 1) + 1))) - 48) → ((sgn (m_upd (m_upd s 23 3 ((s 23 3) + 1)) 23 3 (((s 23 3) + 1) + 1))) - 48) < 10 → 40 < ((10 * ((sgn (m_upd s 23 3 ((s 23 3) + 1))) - 48)) + ((sgn (m_upd (m_upd s 23 3 ((s 23 3) + 1)) 23 3 (((s 23 3) + 1) + 1))) - 48)) → P (some (vI ((s 23 3) + 1))) (m_upd (m_upd (m_upd (m_upd s 23 3 ((s 23 3) + 1)) 23 3 (((s 23 3) + 1) + 1)) 23 3 ((((s 23 3) + 1) + 1) + 1)) 23 5 ((10 * ((sgn (m_upd s 23 3 ((s 23 3) + 1))) - 48)) + ((sgn (m_upd (m_upd s 23 3 ((s 23 3) + 1)) 23 3 (((s 23 3) + 1) + 1))) - 48))))
    (l12 : (sgn s) = 119 → 0 ≤ ((sgn (m_upd s 23 3 ((s 23 3) + 1))) - 48) → ((sgn (m_upd s 23 3 ((s 23 3) + 1))) - 48) < 10 → 0 ≤ ((sgn (m_upd (m_upd s 23 3 ((s 23 3) + 1)) 23 3 (((s 23 3) + 1) + 1))) - 48) → 10 ≤ ((sgn (m_upd (m_upd s 23 3 ((s 23 3) + 1)) 23 3 (((s 23 3) + 1) + 1))) - 48) → P (some (vI (((s 23 3) + 1) + 1))) (m_upd (m_upd s 23 3 ((s 23 3) + 1)) 23 3 (((s 23 3) + 1) + 1)))
    (l13 : (sgn s) = 119 → 0 ≤ ((sgn (m_upd s 23 3 ((s 23 3) + 1))) - 48) → 10 ≤ ((sgn (m_upd s 23 3 ((s 23 3) + 1))) - 48) → P (some (vI ((s 23 3) + 1))) (m_upd s 23 3 ((s 23 3) + 1)))
    (l14 : ¬ (sgn s) = 119 → P (some (vI (s 23 3))) s)
    : Cl X (d + 2) 36 [vR 23] s P := by
  refine Cl_of n_36 rfl ?_
  show Rn _ _ _ _ [some (vR 23), none, none, none] [] _ _
  refine r_ldR_n (m := 0) F_36_0 rfl ?_
  refine r_virt2 (A := []) (r := []) (n := 0) F_36_1 o_36 il_2_49 rfl rfl rfl rfl ty_23 vy_35 (lay_le n_35 rfl) ?_
  refine sp_sign l1 ?_
  show Rn _ _ _ _ _ [vI (sgn s)] _ _
  refine r_bipush F_36_4 bi_119 ?_
  refine r_icmp (t := 14) F_36_6 rfl l2 (by decide) ?_ ?_
  · intro e1
    replace e1 : (sgn s) = 119 := e1
    refine r_ldR_n (m := 0) F_36_14 rfl ?_
    refine r_dupR F_36_15 ?_
    refine r_getI (J := 3) (e := (s 23 3)) F_36_16 o_36 fl_2_25 ty_23 (by decide) rfl kd_23_3 rfl ?_
    refine r_iconst F_36_19 ?_
    refine r_iadd F_36_20 rfl ?_
    refine r_putI (J := 3) F_36_21 o_36 fl_2_25 ty_23 (by decide) rfl kd_23_3 pf_2_3 ?_
    refine r_ldR_n (m := 0) F_36_24 rfl ?_
    refine r_getI (J := 3) (e := ((s 23 3) + 1)) F_36_25 o_36 fl_2_25 ty_23 (by decide) rfl kd_23_3 upd_eq ?_
    refine r_stI_n (m := 1) (L' := [some (vR 23), some (vI ((s 23 3) + 1)), none, none]) F_36_28 rfl rfl ?_
    refine r_ldR_n (m := 0) F_36_29 rfl ?_
    refine r_bipush F_36_30 bi_10 ?_
    refine r_virt2 (A := [vI 10]) (r := []) (n := 1) F_36_32 o_36 il_2_72 rfl rfl rfl rfl ty_23 vy_37 (lay_le n_37 rfl) ?_
    refine Cl_of n_37 rfl ?_
    show Rn _ _ _ _ [some (vR 23), some (vI 10), none] [] _ _
    refine r_ldR_n (m := 0) F_37_0 rfl ?_
    refine r_virt2 (A := []) (r := []) (n := 0) F_37_1 o_37 il_2_49 rfl rfl rfl rfl ty_23 vy_35 (lay_le n_35 rfl) ?_
    refine sp_sign (l3 e1) ?_
    show Rn _ _ _ _ _ [vI (sgn (m_upd s 23 3 ((s 23 3) + 1)))] _ _
    refine r_bipush F_37_4 bi_48 ?_
    refine r_isub F_37_6 rfl ?_
    refine r_stI_n (m := 2) (L' := [some (vR 23), some (vI 10), some (vI ((sgn (m_upd s 23 3 ((s 23 3) + 1))) - 48))]) F_37_7 rfl rfl ?_
    refine r_ldI_n (m := 2) F_37_8 rfl ?_
    refine r_if (t := 17) F_37_9 rfl (l4 e1) ?_ ?_
    · intro e2
      replace e2 : ((sgn (m_upd s 23 3 ((s 23 3) + 1))) - 48) < 0 := e2
      refine r_bipush F_37_17 bi__9 ?_
      refine r_ireturn F_37_19 rt_37 ?_
      show Rn _ _ _ _ _ [vI (-9)] _ _
      refine r_stI_n (m := 2) (L' := [some (vR 23), some (vI ((s 23 3) + 1)), some (vI (-9)), none]) F_36_35 rfl rfl ?_
      refine r_ldI_n (m := 2) F_36_36 rfl ?_
      refine r_ifF (t := 45) F_36_37 rfl (by decide) (by show ¬ ((0 : Int) ≤ (-9)); decide) ?_
      refine r_bipush F_36_40 bi__9 ?_
      refine r_goto (t := 51) F_36_42 rfl ?_
      refine r_stI_n (m := 3) (L' := [some (vR 23), some (vI ((s 23 3) + 1)), some (vI (-9)), some (vI (-9))]) F_36_51 rfl rfl ?_
      refine r_ldI_n (m := 3) F_36_52 rfl ?_
      refine r_ifF (t := 61) F_36_53 rfl (by decide) (by show ¬ ((0 : Int) ≤ (-9)); decide) ?_
      refine r_ldR_n (m := 0) F_36_56 rfl ?_
      refine r_getI (J := 3) (e := ((s 23 3) + 1)) F_36_57 o_36 fl_2_25 ty_23 (by decide) rfl kd_23_3 upd_eq ?_
      refine r_ireturn F_36_60 rt_36 ?_
      exact (l5 e1 e2)
    · intro e3
      replace e3 : 0 ≤ ((sgn (m_upd s 23 3 ((s 23 3) + 1))) - 48) := (Int.not_lt.mp e3)
      refine r_ldI_n (m := 2) F_37_12 rfl ?_
      refine r_ldI_n (m := 1) F_37_13 rfl ?_
      refine r_icmp (t := 20) F_37_14 rfl (l4 e1) (by decide) ?_ ?_
      · intro e4
        replace e4 : ((sgn (m_upd s 23 3 ((s 23 3) + 1))) - 48) < 10 := e4
        refine r_ldR_n (m := 0) F_37_20 rfl ?_
        refine r_dupR F_37_21 ?_
        refine r_getI (J := 3) (e := ((s 23 3) + 1)) F_37_22 o_37 fl_2_25 ty_23 (by decide) rfl kd_23_3 upd_eq ?_
        refine r_iconst F_37_25 ?_
        refine r_iadd F_37_26 rfl ?_
        refine r_putI (J := 3) F_37_27 o_37 fl_2_25 ty_23 (by decide) rfl kd_23_3 pf_2_3 ?_
        refine r_ldI_n (m := 2) F_37_30 rfl ?_
        refine r_ireturn F_37_31 rt_37 ?_
        show Rn _ _ _ _ _ [vI ((sgn (m_upd s 23 3 ((s 23 3) + 1))) - 48)] _ _
        refine r_stI_n (m := 2) (L' := [some (vR 23), some (vI ((s 23 3) + 1)), some (vI ((sgn (m_upd s 23 3 ((s 23 3) + 1))) - 48)), none]) F_36_35 rfl rfl ?_
        refine r_ldI_n (m := 2) F_36_36 rfl ?_
        refine r_ifT (t := 45) F_36_37 rfl (l4 e1) e3 ?_
        refine r_ldR_n (m := 0) F_36_45 rfl ?_
        refine r_bipush F_36_46 bi_10 ?_
        refine r_virt2 (A := [vI 10]) (r := []) (n := 1) F_36_48 o_36 il_2_72 rfl rfl rfl rfl ty_23 vy_37 (lay_le n_37 rfl) ?_
        refine Cl_of n_37 rfl ?_
        show Rn _ _ _ _ [some (vR 23), some (vI 10), none] [] _ _
        refine r_ldR_n (m := 0) F_37_0 rfl ?_
        refine r_virt2 (A := []) (r := []) (n := 0) F_37_1 o_37 il_2_49 rfl rfl rfl rfl ty_23 vy_35 (lay_le n_35 rfl) ?_
        refine sp_sign (l6 e1 e3 e4) ?_
        show Rn _ _ _ _ _ [vI (sgn (m_upd (m_upd s 23 3 ((s 23 3) + 1)) 23 3 (((s 23 3) + 1) + 1)))] _ _
        refine r_bipush F_37_4 bi_48 ?_
        refine r_isub F_37_6 rfl ?_
        refine r_stI_n (m := 2) (L' := [some (vR 23), some (vI 10), some (vI ((sgn (m_upd (m_upd s 23 3 ((s 23 3) + 1)) 23 3 (((s 23 3) + 1) + 1))) - 48))]) F_37_7 rfl rfl ?_
        refine r_ldI_n (m := 2) F_37_8 rfl ?_
        refine r_if (t := 17) F_37_9 rfl (l7 e1 e3 e4) ?_ ?_
        · intro e5
          replace e5 : ((sgn (m_upd (m_upd s 23 3 ((s 23 3) + 1)) 23 3 (((s 23 3) + 1) + 1))) - 48) < 0 := e5
          refine r_bipush F_37_17 bi__9 ?_
          refine r_ireturn F_37_19 rt_37 ?_
          show Rn _ _ _ _ _ [vI (-9)] _ _
          refine r_stI_n (m := 3) (L' := [some (vR 23), some (vI ((s 23 3) + 1)), some (vI ((sgn (m_upd s 23 3 ((s 23 3) + 1))) - 48)), some (vI (-9))]) F_36_51 rfl rfl ?_
          refine r_ldI_n (m := 3) F_36_52 rfl ?_
          refine r_ifF (t := 61) F_36_53 rfl (by decide) (by show ¬ ((0 : Int) ≤ (-9)); decide) ?_
          refine r_ldR_n (m := 0) F_36_56 rfl ?_
          refine r_getI (J := 3) (e := (((s 23 3) + 1) + 1)) F_36_57 o_36 fl_2_25 ty_23 (by decide) rfl kd_23_3 upd_eq ?_
          refine r_ireturn F_36_60 rt_36 ?_
          exact (l8 e1 e3 e4 e5)
        · intro e6
          replace e6 : 0 ≤ ((sgn (m_upd (m_upd s 23 3 ((s 23 3) + 1)) 23 3 (((s 23 3) + 1) + 1))) - 48) := (Int.not_lt.mp e6)
          refine r_ldI_n (m := 2) F_37_12 rfl ?_
          refine r_ldI_n (m := 1) F_37_13 rfl ?_
          refine r_icmp (t := 20) F_37_14 rfl (l7 e1 e3 e4) (by decide) ?_ ?_
          · intro e7
            replace e7 : ((sgn (m_upd (m_upd s 23 3 ((s 23 3) + 1)) 23 3 (((s 23 3) + 1) + 1))) - 48) < 10 := e7
            refine r_ldR_n (m := 0) F_37_20 rfl ?_
            refine r_dupR F_37_21 ?_
            refine r_getI (J := 3) (e := (((s 23 3) + 1) + 1)) F_37_22 o_37 fl_2_25 ty_23 (by decide) rfl kd_23_3 upd_eq ?_
            refine r_iconst F_37_25 ?_
            refine r_iadd F_37_26 rfl ?_
            refine r_putI (J := 3) F_37_27 o_37 fl_2_25 ty_23 (by decide) rfl kd_23_3 pf_2_3 ?_
            refine r_ldI_n (m := 2) F_37_30 rfl ?_
            refine r_ireturn F_37_31 rt_37 ?_
            show Rn _ _ _ _ _ [vI ((sgn (m_upd (m_upd s 23 3 ((s 23 3) + 1)) 23 3 (((s 23 3) + 1) + 1))) - 48)] _ _
            refine r_stI_n (m := 3) (L' := [some (vR 23), some (vI ((s 23 3) + 1)), some (vI ((sgn (m_upd s 23 3 ((s 23 3) + 1))) - 48)), some (vI ((sgn (m_upd (m_upd s 23 3 ((s 23 3) + 1)) 23 3 (((s 23 3) + 1) + 1))) - 48))]) F_36_51 rfl rfl ?_
            refine r_ldI_n (m := 3) F_36_52 rfl ?_
            refine r_ifT (t := 61) F_36_53 rfl (l7 e1 e3 e4) e6 ?_
            refine r_ldR_n (m := 0) F_36_61 rfl ?_
            refine r_bipush F_36_62 bi_10 ?_
            refine r_ldI_n (m := 2) F_36_64 rfl ?_
            refine r_imul F_36_65 rfl ?_
            refine r_ldI_n (m := 3) F_36_66 rfl ?_
            refine r_iadd F_36_67 rfl ?_
            refine r_putI (J := 5) F_36_68 o_36 fl_2_31 ty_23 (by decide) rfl kd_23_5 pf_2_5 ?_
            refine r_ldR_n (m := 0) F_36_71 rfl ?_
            refine r_getI (J := 5) (e := ((10 * ((sgn (m_upd s 23 3 ((s 23 3) + 1))) - 48)) + ((sgn (m_upd (m_upd s 23 3 ((s 23 3) + 1)) 23 3 (((s 23 3) + 1) + 1))) - 48))) F_36_72 o_36 fl_2_31 ty_23 (by decide) rfl kd_23_5 upd_eq ?_
            refine r_bipush F_36_75 bi_40 ?_
            refine r_icmp (t := 84) F_36_77 rfl (l9 e1 e3 e4 e6 e7) (by decide) ?_ ?_
            · intro e8
              replace e8 : ((10 * ((sgn (m_upd s 23 3 ((s 23 3) + 1))) - 48)) + ((sgn (m_upd (m_upd s 23 3 ((s 23 3) + 1)) 23 3 (((s 23 3) + 1) + 1))) - 48)) ≤ 40 := e8
              refine r_bipush F_36_84 bi__9 ?_
              refine r_ireturn F_36_86 rt_36 ?_
              exact (l10 e1 e3 e4 e6 e7 e8)
            · intro e9
              replace e9 : 40 < ((10 * ((sgn (m_upd s 23 3 ((s 23 3) + 1))) - 48)) + ((sgn (m_upd (m_upd s 23 3 ((s 23 3) + 1)) 23 3 (((s 23 3) + 1) + 1))) - 48)) := (Int.not_le.mp e9)
              refine r_ldI_n (m := 1) F_36_80 rfl ?_
              refine r_goto (t := 86) F_36_81 rfl ?_
              refine r_ireturn F_36_86 rt_36 ?_
              exact (l11 e1 e3 e4 e6 e7 e9)
          · intro e10
            replace e10 : 10 ≤ ((sgn (m_upd (m_upd s 23 3 ((s 23 3) + 1)) 23 3 (((s 23 3) + 1) + 1))) - 48) := (Int.not_lt.mp e10)
            refine r_bipush F_37_17 bi__9 ?_
            refine r_ireturn F_37_19 rt_37 ?_
            show Rn _ _ _ _ _ [vI (-9)] _ _
            refine r_stI_n (m := 3) (L' := [some (vR 23), some (vI ((s 23 3) + 1)), some (vI ((sgn (m_upd s 23 3 ((s 23 3) + 1))) - 48)), some (vI (-9))]) F_36_51 rfl rfl ?_
            refine r_ldI_n (m := 3) F_36_52 rfl ?_
            refine r_ifF (t := 61) F_36_53 rfl (by decide) (by show ¬ ((0 : Int) ≤ (-9)); decide) ?_
            refine r_ldR_n (m := 0) F_36_56 rfl ?_
            refine r_getI (J := 3) (e := (((s 23 3) + 1) + 1)) F_36_57 o_36 fl_2_25 ty_23 (by decide) rfl kd_23_3 upd_eq ?_
            refine r_ireturn F_36_60 rt_36 ?_
            exact (l12 e1 e3 e4 e6 e10)
      · intro e11
        replace e11 : 10 ≤ ((sgn (m_upd s 23 3 ((s 23 3) + 1))) - 48) := (Int.not_lt.mp e11)
        refine r_bipush F_37_17 bi__9 ?_
        refine r_ireturn F_37_19 rt_37 ?_
        show Rn _ _ _ _ _ [vI (-9)] _ _
        refine r_stI_n (m := 2) (L' := [some (vR 23), some (vI ((s 23 3) + 1)), some (vI (-9)), none]) F_36_35 rfl rfl ?_
        refine r_ldI_n (m := 2) F_36_36 rfl ?_
        refine r_ifF (t := 45) F_36_37 rfl (by decide) (by show ¬ ((0 : Int) ≤ (-9)); decide) ?_
        refine r_bipush F_36_40 bi__9 ?_
        refine r_goto (t := 51) F_36_42 rfl ?_
        refine r_stI_n (m := 3) (L' := [some (vR 23), some (vI ((s 23 3) + 1)), some (vI (-9)), some (vI (-9))]) F_36_51 rfl rfl ?_
        refine r_ldI_n (m := 3) F_36_52 rfl ?_
        refine r_ifF (t := 61) F_36_53 rfl (by decide) (by show ¬ ((0 : Int) ≤ (-9)); decide) ?_
        refine r_ldR_n (m := 0) F_36_56 rfl ?_
        refine r_getI (J := 3) (e := ((s 23 3) + 1)) F_36_57 o_36 fl_2_25 ty_23 (by decide) rfl kd_23_3 upd_eq ?_
        refine r_ireturn F_36_60 rt_36 ?_
        exact (l13 e1 e3 e11)
  · intro e12
    replace e12 : ¬ (sgn s) = 119 := e12
    refine r_ldR_n (m := 0) F_36_9 rfl ?_
    refine r_getI (J := 3) (e := (s 23 3)) F_36_10 o_36 fl_2_25 ty_23 (by decide) rfl kd_23_3 rfl ?_
    refine r_ireturn F_36_13 rt_36 ?_
    exact (l14 e12)
theorem t_X2_readReason {X : m_X} {d : Nat} {s : m_St} {P : Option Value → m_St → Prop}
    (l1 : sok (m_upd s 23 3 ((s 23 3) + 1)))
    (l2 : inR ((sgn (m_upd s 23 3 ((s 23 3) + 1))) - 48))
    (l3 : ((sgn (m_upd s 23 3 ((s 23 3) + 1))) - 48) < 0 → P (some (vI ((s 23 3) + 1))) (m_upd s 23 3 ((s 23 3) + 1)))
    (l4 : 0 ≤ ((sgn (m_upd s 23 3 ((s 23 3) + 1))) - 48) → ((sgn (m_upd s 23 3 ((s 23 3) + 1))) - 48) < 4 → sok (m_upd (m_upd s 23 3 ((s 23 3) + 1)) 23 3 (((s 23 3) + 1) + 1)))
    (l5 : 0 ≤ ((sgn (m_upd s 23 3 ((s 23 3) + 1))) - 48) → ((sgn (m_upd s 23 3 ((s 23 3) + 1))) - 48) < 4 → inR ((sgn (m_upd (m_upd s 23 3 ((s 23 3) + 1)) 23 3 (((s 23 3) + 1) + 1))) - 48))
    (l6 : 0 ≤ ((sgn (m_upd s 23 3 ((s 23 3) + 1))) - 48) → ((sgn (m_upd s 23 3 ((s 23 3) + 1))) - 48) < 4 → ((sgn (m_upd (m_upd s 23 3 ((s 23 3) + 1)) 23 3 (((s 23 3) + 1) + 1))) - 48) < 0 → P (some (vI (((s 23 3) + 1) + 1))) (m_upd (m_upd s 23 3 ((s 23 3) + 1)) 23 3 (((s 23 3) + 1) + 1)))
    (l7 : 0 ≤ ((sgn (m_upd s 23 3 ((s 23 3) + 1))) - 48) → ((sgn (m_upd s 23 3 ((s 23 3) + 1))) - 48) < 4 → 0 ≤ ((sgn (m_upd (m_upd s 23 3 ((s 23 3) + 1)) 23 3 (((s 23 3) + 1) + 1))) - 48) → ((sgn (m_upd (m_upd s 23 3 ((s 23 3) + 1)) 23 3 (((s 23 3) + 1) + 1))) - 48) < 4 → ¬ ((sgn (m_upd s 23 3 ((s 23 3) + 1))) - 48) = ((sgn (m_upd (m_upd s 23 3 ((s 23 3) + 1)) 23 3 (((s 23 3) + 1) + 1))) - 48) → P (some (vI (-9))) (m_upd (m_upd (m_upd (m_upd s 23 3 ((s 23 3) + 1)) 23 3 (((s 23 3) + 1) + 1)) 23 3 ((((s 23 3) + 1) + 1) + 1)) 23 6 (iOr (s 23 6) (iShl 1 ((4 * ((sgn (m_upd (m_upd s 23 3 ((s 23 3) + 1)) 23 3 (((s 23 3) + 1) + 1))) - 48)) + ((sgn (m_upd s 23 3 ((s 23 3) + 1))) - 48))))))
    (l8 : 0 ≤ ((sgn (m_upd s 23 3 ((s 23 3) + 1))) - 48) → ((sgn (m_upd s 23 3 ((s 23 3) + 1))) - 48) < 4 → 0 ≤ ((sgn (m_upd (m_upd s 23 3 ((s 23 3) + 1)) 23 3 (((s 23 3) + 1) + 1))) - 48) → ((sgn (m_upd (m_upd s 23 3 ((s 23 3) + 1)) 23 3 (((s 23 3) + 1) + 1))) - 48) < 4 → ((sgn (m_upd s 23 3 ((s 23 3) + 1))) - 48) = ((sgn (m_upd (m_upd s 23 3 ((s 23 3) + 1)) 23 3 (((s 23 3) + 1) + 1))) - 48) → P (some (vI (((((s 23 3) + 1) + 1) + 1) - 1))) (m_upd (m_upd (m_upd s 23 3 ((s 23 3) + 1)) 23 3 (((s 23 3) + 1) + 1)) 23 3 ((((s 23 3) + 1) + 1) + 1)))
    (l9 : 0 ≤ ((sgn (m_upd s 23 3 ((s 23 3) + 1))) - 48) → ((sgn (m_upd s 23 3 ((s 23 3) + 1))) - 48) < 4 → 0 ≤ ((sgn (m_upd (m_upd s 23 3 ((s 23 3) + 1)) 23 3 (((s 23 3) + 1) + 1))) - 48) → 4 ≤ ((sgn (m_upd (m_upd s 23 3 ((s 23 3) + 1)) 23 3 (((s 23 3) + 1) + 1))) - 48) → P (some (vI (((s 23 3) + 1) + 1))) (m_upd (m_upd s 23 3 ((s 23 3) + 1)) 23 3 (((s 23 3) + 1) + 1)))
    (l10 : 0 ≤ ((sgn (m_upd s 23 3 ((s 23 3) + 1))) - 48) → 4 ≤ ((sgn (m_upd s 23 3 ((s 23 3) + 1))) - 48) → P (some (vI ((s 23 3) + 1))) (m_upd s 23 3 ((s 23 3) + 1)))
    : Cl X (d + 2) 38 [vR 23] s P := by
  refine Cl_of n_38 rfl ?_
  show Rn _ _ _ _ [some (vR 23), none, none] [] _ _
  refine r_ldR_n (m := 0) F_38_0 rfl ?_
  refine r_dupR F_38_1 ?_
  refine r_getI (J := 3) (e := (s 23 3)) F_38_2 o_38 fl_2_25 ty_23 (by decide) rfl kd_23_3 rfl ?_
  refine r_iconst F_38_5 ?_
  refine r_iadd F_38_6 rfl ?_
  refine r_putI (J := 3) F_38_7 o_38 fl_2_25 ty_23 (by decide) rfl kd_23_3 pf_2_3 ?_
  refine r_ldR_n (m := 0) F_38_10 rfl ?_
  refine r_iconst F_38_11 ?_
  refine r_virt2 (A := [vI 4]) (r := []) (n := 1) F_38_12 o_38 il_2_72 rfl rfl rfl rfl ty_23 vy_37 (lay_le n_37 rfl) ?_
  refine Cl_of n_37 rfl ?_
  show Rn _ _ _ _ [some (vR 23), some (vI 4), none] [] _ _
  refine r_ldR_n (m := 0) F_37_0 rfl ?_
  refine r_virt2 (A := []) (r := []) (n := 0) F_37_1 o_37 il_2_49 rfl rfl rfl rfl ty_23 vy_35 (lay_le n_35 rfl) ?_
  refine sp_sign l1 ?_
  show Rn _ _ _ _ _ [vI (sgn (m_upd s 23 3 ((s 23 3) + 1)))] _ _
  refine r_bipush F_37_4 bi_48 ?_
  refine r_isub F_37_6 rfl ?_
  refine r_stI_n (m := 2) (L' := [some (vR 23), some (vI 4), some (vI ((sgn (m_upd s 23 3 ((s 23 3) + 1))) - 48))]) F_37_7 rfl rfl ?_
  refine r_ldI_n (m := 2) F_37_8 rfl ?_
  refine r_if (t := 17) F_37_9 rfl l2 ?_ ?_
  · intro e1
    replace e1 : ((sgn (m_upd s 23 3 ((s 23 3) + 1))) - 48) < 0 := e1
    refine r_bipush F_37_17 bi__9 ?_
    refine r_ireturn F_37_19 rt_37 ?_
    show Rn _ _ _ _ _ [vI (-9)] _ _
    refine r_stI_n (m := 1) (L' := [some (vR 23), some (vI (-9)), none]) F_38_15 rfl rfl ?_
    refine r_ldI_n (m := 1) F_38_16 rfl ?_
    refine r_ifF (t := 25) F_38_17 rfl (by decide) (by show ¬ ((0 : Int) ≤ (-9)); decide) ?_
    refine r_bipush F_38_20 bi__9 ?_
    refine r_goto (t := 30) F_38_22 rfl ?_
    refine r_stI_n (m := 2) (L' := [some (vR 23), some (vI (-9)), some (vI (-9))]) F_38_30 rfl rfl ?_
    refine r_ldI_n (m := 2) F_38_31 rfl ?_
    refine r_ifF (t := 40) F_38_32 rfl (by decide) (by show ¬ ((0 : Int) ≤ (-9)); decide) ?_
    refine r_ldR_n (m := 0) F_38_35 rfl ?_
    refine r_getI (J := 3) (e := ((s 23 3) + 1)) F_38_36 o_38 fl_2_25 ty_23 (by decide) rfl kd_23_3 upd_eq ?_
    refine r_ireturn F_38_39 rt_38 ?_
    exact (l3 e1)
  · intro e2
    replace e2 : 0 ≤ ((sgn (m_upd s 23 3 ((s 23 3) + 1))) - 48) := (Int.not_lt.mp e2)
    refine r_ldI_n (m := 2) F_37_12 rfl ?_
    refine r_ldI_n (m := 1) F_37_13 rfl ?_
    refine r_icmp (t := 20) F_37_14 rfl l2 (by decide) ?_ ?_
    · intro e3
      replace e3 : ((sgn (m_upd s 23 3 ((s 23 3) + 1))) - 48) < 4 := e3
      refine r_ldR_n (m := 0) F_37_20 rfl ?_
      refine r_dupR F_37_21 ?_
      refine r_getI (J := 3) (e := ((s 23 3) + 1)) F_37_22 o_37 fl_2_25 ty_23 (by decide) rfl kd_23_3 upd_eq ?_
      refine r_iconst F_37_25 ?_
      refine r_iadd F_37_26 rfl ?_
      refine r_putI (J := 3) F_37_27 o_37 fl_2_25 ty_23 (by decide) rfl kd_23_3 pf_2_3 ?_
      refine r_ldI_n (m := 2) F_37_30 rfl ?_
      refine r_ireturn F_37_31 rt_37 ?_
      show Rn _ _ _ _ _ [vI ((sgn (m_upd s 23 3 ((s 23 3) + 1))) - 48)] _ _
      refine r_stI_n (m := 1) (L' := [some (vR 23), some (vI ((sgn (m_upd s 23 3 ((s 23 3) + 1))) - 48)), none]) F_38_15 rfl rfl ?_
      refine r_ldI_n (m := 1) F_38_16 rfl ?_
      refine r_ifT (t := 25) F_38_17 rfl l2 e2 ?_
      refine r_ldR_n (m := 0) F_38_25 rfl ?_
      refine r_iconst F_38_26 ?_
      refine r_virt2 (A := [vI 4]) (r := []) (n := 1) F_38_27 o_38 il_2_72 rfl rfl rfl rfl ty_23 vy_37 (lay_le n_37 rfl) ?_
      refine Cl_of n_37 rfl ?_
      show Rn _ _ _ _ [some (vR 23), some (vI 4), none] [] _ _
      refine r_ldR_n (m := 0) F_37_0 rfl ?_
      refine r_virt2 (A := []) (r := []) (n := 0) F_37_1 o_37 il_2_49 rfl rfl rfl rfl ty_23 vy_35 (lay_le n_35 rfl) ?_
      refine sp_sign (l4 e2 e3) ?_
      show Rn _ _ _ _ _ [vI (sgn (m_upd (m_upd s 23 3 ((s 23 3) + 1)) 23 3 (((s 23 3) + 1) + 1)))] _ _
      refine r_bipush F_37_4 bi_48 ?_
      refine r_isub F_37_6 rfl ?_
      refine r_stI_n (m := 2) (L' := [some (vR 23), some (vI 4), some (vI ((sgn (m_upd (m_upd s 23 3 ((s 23 3) + 1)) 23 3 (((s 23 3) + 1) + 1))) - 48))]) F_37_7 rfl rfl ?_
      refine r_ldI_n (m := 2) F_37_8 rfl ?_
      refine r_if (t := 17) F_37_9 rfl (l5 e2 e3) ?_ ?_
      · intro e4
        replace e4 : ((sgn (m_upd (m_upd s 23 3 ((s 23 3) + 1)) 23 3 (((s 23 3) + 1) + 1))) - 48) < 0 := e4
        refine r_bipush F_37_17 bi__9 ?_
        refine r_ireturn F_37_19 rt_37 ?_
        show Rn _ _ _ _ _ [vI (-9)] _ _
        refine r_stI_n (m := 2) (L' := [some (vR 23), some (vI ((sgn (m_upd s 23 3 ((s 23 3) + 1))) - 48)), some (vI (-9))]) F_38_30 rfl rfl ?_
        refine r_ldI_n (m := 2) F_38_31 rfl ?_
        refine r_ifF (t := 40) F_38_32 rfl (by decide) (by show ¬ ((0 : Int) ≤ (-9)); decide) ?_
        refine r_ldR_n (m := 0) F_38_35 rfl ?_
        refine r_getI (J := 3) (e := (((s 23 3) + 1) + 1)) F_38_36 o_38 fl_2_25 ty_23 (by decide) rfl kd_23_3 upd_eq ?_
        refine r_ireturn F_38_39 rt_38 ?_
        exact (l6 e2 e3 e4)
      · intro e5
        replace e5 : 0 ≤ ((sgn (m_upd (m_upd s 23 3 ((s 23 3) + 1)) 23 3 (((s 23 3) + 1) + 1))) - 48) := (Int.not_lt.mp e5)
        refine r_ldI_n (m := 2) F_37_12 rfl ?_
        refine r_ldI_n (m := 1) F_37_13 rfl ?_
        refine r_icmp (t := 20) F_37_14 rfl (l5 e2 e3) (by decide) ?_ ?_
        · intro e6
          replace e6 : ((sgn (m_upd (m_upd s 23 3 ((s 23 3) + 1)) 23 3 (((s 23 3) + 1) + 1))) - 48) < 4 := e6
          refine r_ldR_n (m := 0) F_37_20 rfl ?_
          refine r_dupR F_37_21 ?_
          refine r_getI (J := 3) (e := (((s 23 3) + 1) + 1)) F_37_22 o_37 fl_2_25 ty_23 (by decide) rfl kd_23_3 upd_eq ?_
          refine r_iconst F_37_25 ?_
          refine r_iadd F_37_26 rfl ?_
          refine r_putI (J := 3) F_37_27 o_37 fl_2_25 ty_23 (by decide) rfl kd_23_3 pf_2_3 ?_
          refine r_ldI_n (m := 2) F_37_30 rfl ?_
          refine r_ireturn F_37_31 rt_37 ?_
          show Rn _ _ _ _ _ [vI ((sgn (m_upd (m_upd s 23 3 ((s 23 3) + 1)) 23 3 (((s 23 3) + 1) + 1))) - 48)] _ _
          refine r_stI_n (m := 2) (L' := [some (vR 23), some (vI ((sgn (m_upd s 23 3 ((s 23 3) + 1))) - 48)), some (vI ((sgn (m_upd (m_upd s 23 3 ((s 23 3) + 1)) 23 3 (((s 23 3) + 1) + 1))) - 48))]) F_38_30 rfl rfl ?_
          refine r_ldI_n (m := 2) F_38_31 rfl ?_
          refine r_ifT (t := 40) F_38_32 rfl (l5 e2 e3) e5 ?_
          refine r_ldI_n (m := 1) F_38_40 rfl ?_
          refine r_ldI_n (m := 2) F_38_41 rfl ?_
          refine r_icmp (t := 52) F_38_42 rfl l2 (l5 e2 e3) ?_ ?_
          · intro e7
            replace e7 : ¬ ((sgn (m_upd s 23 3 ((s 23 3) + 1))) - 48) = ((sgn (m_upd (m_upd s 23 3 ((s 23 3) + 1)) 23 3 (((s 23 3) + 1) + 1))) - 48) := e7
            refine r_ldR_n (m := 0) F_38_52 rfl ?_
            refine r_dupR F_38_53 ?_
            refine r_getI (J := 6) (e := (s 23 6)) F_38_54 o_38 fl_2_34 ty_23 (by decide) rfl kd_23_6 ((upd_nj (by decide)).trans ((upd_nj (by decide)).trans (upd_nj (by decide)))) ?_
            refine r_iconst F_38_57 ?_
            refine r_iconst F_38_58 ?_
            refine r_ldI_n (m := 2) F_38_59 rfl ?_
            refine r_imul F_38_60 rfl ?_
            refine r_ldI_n (m := 1) F_38_61 rfl ?_
            refine r_iadd F_38_62 rfl ?_
            refine r_ishl F_38_63 rfl ?_
            refine r_ior F_38_64 rfl ?_
            refine r_putI (J := 6) F_38_65 o_38 fl_2_34 ty_23 (by decide) rfl kd_23_6 pf_2_6 ?_
            refine r_bipush F_38_68 bi__9 ?_
            refine r_ireturn F_38_70 rt_38 ?_
            exact (l7 e2 e3 e5 e6 e7)
          · intro e8
            replace e8 : ((sgn (m_upd s 23 3 ((s 23 3) + 1))) - 48) = ((sgn (m_upd (m_upd s 23 3 ((s 23 3) + 1)) 23 3 (((s 23 3) + 1) + 1))) - 48) := (Classical.not_not.mp e8)
            refine r_ldR_n (m := 0) F_38_45 rfl ?_
            refine r_getI (J := 3) (e := ((((s 23 3) + 1) + 1) + 1)) F_38_46 o_38 fl_2_25 ty_23 (by decide) rfl kd_23_3 upd_eq ?_
            refine r_iconst F_38_49 ?_
            refine r_isub F_38_50 rfl ?_
            refine r_ireturn F_38_51 rt_38 ?_
            exact (l8 e2 e3 e5 e6 e8)
        · intro e9
          replace e9 : 4 ≤ ((sgn (m_upd (m_upd s 23 3 ((s 23 3) + 1)) 23 3 (((s 23 3) + 1) + 1))) - 48) := (Int.not_lt.mp e9)
          refine r_bipush F_37_17 bi__9 ?_
          refine r_ireturn F_37_19 rt_37 ?_
          show Rn _ _ _ _ _ [vI (-9)] _ _
          refine r_stI_n (m := 2) (L' := [some (vR 23), some (vI ((sgn (m_upd s 23 3 ((s 23 3) + 1))) - 48)), some (vI (-9))]) F_38_30 rfl rfl ?_
          refine r_ldI_n (m := 2) F_38_31 rfl ?_
          refine r_ifF (t := 40) F_38_32 rfl (by decide) (by show ¬ ((0 : Int) ≤ (-9)); decide) ?_
          refine r_ldR_n (m := 0) F_38_35 rfl ?_
          refine r_getI (J := 3) (e := (((s 23 3) + 1) + 1)) F_38_36 o_38 fl_2_25 ty_23 (by decide) rfl kd_23_3 upd_eq ?_
          refine r_ireturn F_38_39 rt_38 ?_
          exact (l9 e2 e3 e5 e9)
    · intro e10
      replace e10 : 4 ≤ ((sgn (m_upd s 23 3 ((s 23 3) + 1))) - 48) := (Int.not_lt.mp e10)
      refine r_bipush F_37_17 bi__9 ?_
      refine r_ireturn F_37_19 rt_37 ?_
      show Rn _ _ _ _ _ [vI (-9)] _ _
      refine r_stI_n (m := 1) (L' := [some (vR 23), some (vI (-9)), none]) F_38_15 rfl rfl ?_
      refine r_ldI_n (m := 1) F_38_16 rfl ?_
      refine r_ifF (t := 25) F_38_17 rfl (by decide) (by show ¬ ((0 : Int) ≤ (-9)); decide) ?_
      refine r_bipush F_38_20 bi__9 ?_
      refine r_goto (t := 30) F_38_22 rfl ?_
      refine r_stI_n (m := 2) (L' := [some (vR 23), some (vI (-9)), some (vI (-9))]) F_38_30 rfl rfl ?_
      refine r_ldI_n (m := 2) F_38_31 rfl ?_
      refine r_ifF (t := 40) F_38_32 rfl (by decide) (by show ¬ ((0 : Int) ≤ (-9)); decide) ?_
      refine r_ldR_n (m := 0) F_38_35 rfl ?_
      refine r_getI (J := 3) (e := ((s 23 3) + 1)) F_38_36 o_38 fl_2_25 ty_23 (by decide) rfl kd_23_3 upd_eq ?_
      refine r_ireturn F_38_39 rt_38 ?_
      exact (l10 e2 e10)
theorem t_X2_readGuest {X : m_X} {d : Nat} {s : m_St} {P : Option Value → m_St → Prop} (c0 : 0 ≤ (s 23 4))
    (l1 : sok s)
    (l2 : inR (sgn s))
    (l3 : (kOf (sgn s)) < 0 → P (some (vI (s 23 3))) s)
    (l4 : 0 ≤ (kOf (sgn s)) → inR (s 23 4))
    (l5 : 0 ≤ (kOf (sgn s)) → (s 23 4) < 6 → (kOf (sgn s)) < 6)
    (l6 : 0 ≤ (kOf (sgn s)) → (s 23 4) < 6 → wr ((m_upd s 23 3 ((s 23 3) + 1)) ((26 + 2 * (s 23 4)) + 1)))
    (l7 : 0 ≤ (kOf (sgn s)) → (s 23 4) < 6 → Rn X (d + 3) 39 52 [some (vR 23), some (vI (kOf (sgn s))), some (vR (26 + 2 * (s 23 4))), some (vI 0), none] [] (m_upd (m_upd (m_upd s 23 3 ((s 23 3) + 1)) (26 + 2 * (s 23 4)) 1 (kOf (sgn s))) (26 + 2 * (s 23 4)) 2 (hset ((m_upd s 23 3 ((s 23 3) + 1)) ((26 + 2 * (s 23 4)) + 1)) (hf (kOf (sgn s))))) P)
    (l8 : 0 ≤ (kOf (sgn s)) → 6 ≤ (s 23 4) → P (some (vI (s 23 3))) s)
    : Cl X (d + 3) 39 [vR 23] s P := by
  refine Cl_of n_39 rfl ?_
  show Rn _ _ _ _ [some (vR 23), none, none, none, none] [] _ _
  refine r_ldR_n (m := 0) F_39_0 rfl ?_
  refine r_virt2 (A := []) (r := []) (n := 0) F_39_1 o_39 il_2_49 rfl rfl rfl rfl ty_23 vy_35 (lay_le n_35 rfl) ?_
  refine sp_sign l1 ?_
  show Rn _ _ _ _ _ [vI (sgn s)] _ _
  refine r_stat2 (A := [vI (sgn s)]) (r := []) (n := 1) F_39_4 o_39 il_2_75 (by decide) rfl rfl rfl rfl (lay_le n_40 rfl) ?_
  refine sp_kindOfR l2 ?_
  show Rn _ _ _ _ _ [vI (kOf (sgn s))] _ _
  refine r_stI_n (m := 1) (L' := [some (vR 23), some (vI (kOf (sgn s))), none, none, none]) F_39_7 rfl rfl ?_
  refine r_ldI_n (m := 1) F_39_8 rfl ?_
  refine r_if (t := 21) F_39_9 rfl (inR_kOf _) ?_ ?_
  · intro e1
    replace e1 : (kOf (sgn s)) < 0 := e1
    refine r_ldR_n (m := 0) F_39_21 rfl ?_
    refine r_getI (J := 3) (e := (s 23 3)) F_39_22 o_39 fl_2_25 ty_23 (by decide) rfl kd_23_3 rfl ?_
    refine r_ireturn F_39_25 rt_39 ?_
    exact (l3 e1)
  · intro e2
    replace e2 : 0 ≤ (kOf (sgn s)) := (Int.not_lt.mp e2)
    refine r_ldR_n (m := 0) F_39_12 rfl ?_
    refine r_getI (J := 4) (e := (s 23 4)) F_39_13 o_39 fl_2_28 ty_23 (by decide) rfl kd_23_4 rfl ?_
    refine r_bipush F_39_16 bi_6 ?_
    refine r_icmp (t := 26) F_39_18 rfl (l4 e2) (by decide) ?_ ?_
    · intro e3
      replace e3 : (s 23 4) < 6 := e3
      refine r_ldR_n (m := 0) F_39_26 rfl ?_
      refine r_dupR F_39_27 ?_
      refine r_getI (J := 3) (e := (s 23 3)) F_39_28 o_39 fl_2_25 ty_23 (by decide) rfl kd_23_3 rfl ?_
      refine r_iconst F_39_31 ?_
      refine r_iadd F_39_32 rfl ?_
      refine r_putI (J := 3) F_39_33 o_39 fl_2_25 ty_23 (by decide) rfl kd_23_3 pf_2_3 ?_
      refine r_ldR_n (m := 0) F_39_36 rfl ?_
      refine r_ldR_n (m := 0) F_39_37 rfl ?_
      refine r_getI (J := 4) (e := (s 23 4)) F_39_38 o_39 fl_2_28 ty_23 (by decide) rfl kd_23_4 (upd_nj (by decide)) ?_
      refine r_virt2 (A := [vI (s 23 4)]) (r := []) (n := 1) F_39_41 o_39 il_2_78 rfl rfl rfl rfl ty_23 vy_41 (lay_le n_41 rfl) ?_
      refine Cl_of n_41 rfl ?_
      show Rn _ _ _ _ [some (vR 23), some (vI (s 23 4))] [] _ _
      refine r_ldR_n (m := 0) F_41_0 rfl ?_
      refine r_getR (J := 0) F_41_1 o_41 fl_2_11 ty_23 (by decide) rfl (kd2 kd_23_0 (by decide)) (kd9 kd_23_0 (by decide)) rf_23_0 ?_
      refine r_ldI_n (m := 1) F_41_4 rfl ?_
      refine r_ifF (t := 18) F_41_5 rfl (l4 e2) (Int.not_lt.mpr c0) ?_
      refine r_ldI_n (m := 1) F_41_8 rfl ?_
      refine r_bipush F_41_9 bi_6 ?_
      refine r_icmpF (t := 18) F_41_11 rfl (l4 e2) (by decide) (Int.not_le.mpr e3) ?_
      refine r_ldI_n (m := 1) F_41_14 rfl ?_
      refine r_goto (t := 19) F_41_15 rfl ?_
      refine r_aald F_41_19 ty_24 (by decide) c0 (lt_ln ln_24 e3) (rw_24 ⟨c0, e3⟩).2 ?_
      refine r_areturn F_41_20 rob_41 ?_
      show Rn _ _ _ _ _ [vR (26 + 2 * (s 23 4))] _ _
      refine r_stR_n (m := 2) (L' := [some (vR 23), some (vI (kOf (sgn s))), some (vR (26 + 2 * (s 23 4))), none, none]) F_39_44 rfl rfl ?_
      refine r_ldR_n (m := 2) F_39_45 rfl ?_
      refine r_ldI_n (m := 1) F_39_46 rfl ?_
      refine r_virt2 (A := [vI (kOf (sgn s))]) (r := []) (n := 1) F_39_47 o_39 il_2_82 rfl rfl rfl rfl (rw_24 ⟨c0, e3⟩).1 vy_42 (lay_le n_42 rfl) ?_
      refine sp_be (rw_24 ⟨c0, e3⟩).1 e2 (l5 e2 e3) (l6 e2 e3) ?_
      show Rn _ _ _ _ _ [] _ _
      refine r_iconst F_39_50 ?_
      refine r_stI_n (m := 3) (L' := [some (vR 23), some (vI (kOf (sgn s))), some (vR (26 + 2 * (s 23 4))), some (vI 0), none]) F_39_51 rfl rfl ?_
      exact (l7 e2 e3)
    · intro e4
      replace e4 : 6 ≤ (s 23 4) := (Int.not_lt.mp e4)
      refine r_ldR_n (m := 0) F_39_21 rfl ?_
      refine r_getI (J := 3) (e := (s 23 3)) F_39_22 o_39 fl_2_25 ty_23 (by decide) rfl kd_23_3 rfl ?_
      refine r_ireturn F_39_25 rt_39 ?_
      exact (l8 e2 e4)
theorem t_X2_readGuest_52 {X : m_X} {d : Nat} {s : m_St} {P : Option Value → m_St → Prop} {b g2 i : Int} {z4 : Option Value} (hg2 : ty g2 = 0) (hi : 0 ≤ i)
    (l1 : inR i)
    (l2 : 4 ≤ i → P (some (vI (-9))) (m_upd s 23 4 ((s 23 4) + 1)))
    (l3 : i < 4 → sok s)
    (l4 : i < 4 → inR ((sgn s) - 48))
    (l5 : i < 4 → ((sgn s) - 48) < 0 → P (some (vI (s 23 3))) s)
    (l6 : i < 4 → 0 ≤ ((sgn s) - 48) → ((sgn s) - 48) < 10 → gok (m_upd s 23 3 ((s 23 3) + 1)) g2)
    (l7 : i < 4 → 0 ≤ ((sgn s) - 48) → ((sgn s) - 48) < 10 → Rn X (d + 3) 39 52 [some (vR 23), some (vI b), some (vR g2), some (vI (i + 1)), some (vI ((sgn s) - 48))] [] (wg (m_upd s 23 3 ((s 23 3) + 1)) g2 i ((sgn s) - 48)) P)
    (l8 : i < 4 → 0 ≤ ((sgn s) - 48) → 10 ≤ ((sgn s) - 48) → P (some (vI (s 23 3))) s)
    : Rn X (d + 3) 39 52 [some (vR 23), some (vI b), some (vR g2), some (vI i), z4] [] s P := by
  refine r_ldI_n (m := 3) F_39_52 rfl ?_
  refine r_iconst F_39_53 ?_
  refine r_icmp (t := 88) F_39_54 rfl l1 (by decide) ?_ ?_
  · intro e1
    replace e1 : 4 ≤ i := e1
    refine r_ldR_n (m := 0) F_39_88 rfl ?_
    refine r_dupR F_39_89 ?_
    refine r_getI (J := 4) (e := (s 23 4)) F_39_90 o_39 fl_2_28 ty_23 (by decide) rfl kd_23_4 rfl ?_
    refine r_iconst F_39_93 ?_
    refine r_iadd F_39_94 rfl ?_
    refine r_putI (J := 4) F_39_95 o_39 fl_2_28 ty_23 (by decide) rfl kd_23_4 pf_2_4 ?_
    refine r_bipush F_39_98 bi__9 ?_
    refine r_ireturn F_39_100 rt_39 ?_
    exact (l2 e1)
  · intro e2
    replace e2 : i < 4 := (Int.not_le.mp e2)
    refine r_ldR_n (m := 0) F_39_57 rfl ?_
    refine r_bipush F_39_58 bi_10 ?_
    refine r_virt2 (A := [vI 10]) (r := []) (n := 1) F_39_60 o_39 il_2_72 rfl rfl rfl rfl ty_23 vy_37 (lay_le n_37 rfl) ?_
    refine Cl_of n_37 rfl ?_
    show Rn _ _ _ _ [some (vR 23), some (vI 10), none] [] _ _
    refine r_ldR_n (m := 0) F_37_0 rfl ?_
    refine r_virt2 (A := []) (r := []) (n := 0) F_37_1 o_37 il_2_49 rfl rfl rfl rfl ty_23 vy_35 (lay_le n_35 rfl) ?_
    refine sp_sign (l3 e2) ?_
    show Rn _ _ _ _ _ [vI (sgn s)] _ _
    refine r_bipush F_37_4 bi_48 ?_
    refine r_isub F_37_6 rfl ?_
    refine r_stI_n (m := 2) (L' := [some (vR 23), some (vI 10), some (vI ((sgn s) - 48))]) F_37_7 rfl rfl ?_
    refine r_ldI_n (m := 2) F_37_8 rfl ?_
    refine r_if (t := 17) F_37_9 rfl (l4 e2) ?_ ?_
    · intro e3
      replace e3 : ((sgn s) - 48) < 0 := e3
      refine r_bipush F_37_17 bi__9 ?_
      refine r_ireturn F_37_19 rt_37 ?_
      show Rn _ _ _ _ _ [vI (-9)] _ _
      refine r_stI (m := 4) (L' := [some (vR 23), some (vI b), some (vR g2), some (vI i), some (vI (-9))]) F_39_63 rfl rfl ?_
      refine r_ldI (m := 4) F_39_65 rfl ?_
      refine r_ifF (t := 75) F_39_67 rfl (by decide) (by show ¬ ((0 : Int) ≤ (-9)); decide) ?_
      refine r_ldR_n (m := 0) F_39_70 rfl ?_
      refine r_getI (J := 3) (e := (s 23 3)) F_39_71 o_39 fl_2_25 ty_23 (by decide) rfl kd_23_3 rfl ?_
      refine r_ireturn F_39_74 rt_39 ?_
      exact (l5 e2 e3)
    · intro e4
      replace e4 : 0 ≤ ((sgn s) - 48) := (Int.not_lt.mp e4)
      refine r_ldI_n (m := 2) F_37_12 rfl ?_
      refine r_ldI_n (m := 1) F_37_13 rfl ?_
      refine r_icmp (t := 20) F_37_14 rfl (l4 e2) (by decide) ?_ ?_
      · intro e5
        replace e5 : ((sgn s) - 48) < 10 := e5
        refine r_ldR_n (m := 0) F_37_20 rfl ?_
        refine r_dupR F_37_21 ?_
        refine r_getI (J := 3) (e := (s 23 3)) F_37_22 o_37 fl_2_25 ty_23 (by decide) rfl kd_23_3 rfl ?_
        refine r_iconst F_37_25 ?_
        refine r_iadd F_37_26 rfl ?_
        refine r_putI (J := 3) F_37_27 o_37 fl_2_25 ty_23 (by decide) rfl kd_23_3 pf_2_3 ?_
        refine r_ldI_n (m := 2) F_37_30 rfl ?_
        refine r_ireturn F_37_31 rt_37 ?_
        show Rn _ _ _ _ _ [vI ((sgn s) - 48)] _ _
        refine r_stI (m := 4) (L' := [some (vR 23), some (vI b), some (vR g2), some (vI i), some (vI ((sgn s) - 48))]) F_39_63 rfl rfl ?_
        refine r_ldI (m := 4) F_39_65 rfl ?_
        refine r_ifT (t := 75) F_39_67 rfl (l4 e2) e4 ?_
        refine r_ldR_n (m := 2) F_39_75 rfl ?_
        refine r_ldI_n (m := 3) F_39_76 rfl ?_
        refine r_ldI (m := 4) F_39_77 rfl ?_
        refine r_virt2 (A := [vI i, vI ((sgn s) - 48)]) (r := []) (n := 2) F_39_79 o_39 il_2_86 rfl rfl rfl rfl hg2 vy_45 (lay_le n_45 rfl) ?_
        refine sp_weigh hg2 (l6 e2 e4 e5) hi e2 (l4 e2) ?_
        show Rn _ _ _ _ _ [] _ _
        refine r_iinc (m := 3) (e := (i + 1)) (L' := [some (vR 23), some (vI b), some (vR g2), some (vI (i + 1)), some (vI ((sgn s) - 48))]) F_39_82 rfl rfl rfl rfl ?_
        refine r_goto (t := 52) F_39_85 rfl ?_
        exact (l7 e2 e4 e5)
      · intro e6
        replace e6 : 10 ≤ ((sgn s) - 48) := (Int.not_lt.mp e6)
        refine r_bipush F_37_17 bi__9 ?_
        refine r_ireturn F_37_19 rt_37 ?_
        show Rn _ _ _ _ _ [vI (-9)] _ _
        refine r_stI (m := 4) (L' := [some (vR 23), some (vI b), some (vR g2), some (vI i), some (vI (-9))]) F_39_63 rfl rfl ?_
        refine r_ldI (m := 4) F_39_65 rfl ?_
        refine r_ifF (t := 75) F_39_67 rfl (by decide) (by show ¬ ((0 : Int) ≤ (-9)); decide) ?_
        refine r_ldR_n (m := 0) F_39_70 rfl ?_
        refine r_getI (J := 3) (e := (s 23 3)) F_39_71 o_39 fl_2_25 ty_23 (by decide) rfl kd_23_3 rfl ?_
        refine r_ireturn F_39_74 rt_39 ?_
        exact (l8 e2 e4 e6)
theorem t_X2_open {X : m_X} {d : Nat} {s : m_St} {P : Option Value → m_St → Prop} {t : Int} (h0 : 0 ≤ t) (h4 : t < 4) (hz : ¬ (s 11 t) = (-1))
    (l1 : inR t)
    (l2 : inR (s 11 t))
    (l3 : Rn X (d + 5) 32 16 [some (vR 23), some (vR 10), some (vI t), some (vI 0)] [] (m_upd s 23 2 (min (s 11 t) 60)) P)
    : Cl X (d + 5) 32 [vR 23, vR 10, vI t] s P := by
  refine Cl_of n_32 rfl ?_
  show Rn _ _ _ _ [some (vR 23), some (vR 10), some (vI t), none] [] _ _
  refine r_ldR_n (m := 0) F_32_0 rfl ?_
  refine r_ldR_n (m := 1) F_32_1 rfl ?_
  refine r_ldI_n (m := 2) F_32_2 rfl ?_
  refine r_virt2 (A := [vI t]) (r := [vR 23]) (n := 1) F_32_3 o_32 il_2_58 rfl rfl rfl rfl ty_10 vy_16 (lay_le n_16 rfl) ?_
  refine Cl_of n_16 rfl ?_
  show Rn _ _ _ _ [some (vR 10), some (vI t)] [] _ _
  refine r_ldR_n (m := 0) F_16_0 rfl ?_
  refine r_ldI_n (m := 1) F_16_1 rfl ?_
  refine r_virt2 (A := [vI t]) (r := []) (n := 1) F_16_2 o_16 il_3_32 rfl rfl rfl rfl ty_10 vy_9 (lay_le n_9 rfl) ?_
  refine Cl_of n_9 rfl ?_
  show Rn _ _ _ _ [some (vR 10), some (vI t)] [] _ _
  refine r_ldI_n (m := 1) F_9_0 rfl ?_
  refine r_ifF (t := 17) F_9_1 rfl l1 (Int.not_lt.mpr h0) ?_
  refine r_ldI_n (m := 1) F_9_4 rfl ?_
  refine r_ldR_n (m := 0) F_9_5 rfl ?_
  refine r_getR (J := 0) F_9_6 o_9 fl_3_19 ty_10 (by decide) rfl (kd2 kd_10_0 (by decide)) (kd9 kd_10_0 (by decide)) rf_10_0 ?_
  refine r_alen F_9_9 ty_11 (by decide) ln_11 ?_
  refine r_icmpF (t := 17) F_9_10 rfl l1 (by decide) (Int.not_le.mpr h4) ?_
  refine r_iconst F_9_13 ?_
  refine r_goto (t := 18) F_9_14 rfl ?_
  refine r_zreturn F_9_18 rt_9 (Or.inr rfl) ?_
  show Rn _ _ _ _ _ [vI 1] _ _
  refine r_ifF (t := 17) F_16_5 rfl (by decide) (by show ¬ ((1 : Int) = 0); decide) ?_
  refine r_ldR_n (m := 0) F_16_8 rfl ?_
  refine r_getR (J := 0) F_16_9 o_16 fl_3_19 ty_10 (by decide) rfl (kd2 kd_10_0 (by decide)) (kd9 kd_10_0 (by decide)) rf_10_0 ?_
  refine r_ldI_n (m := 1) F_16_12 rfl ?_
  refine r_iald (e := (s 11 t)) F_16_13 ty_11 h0 (lt_ln ln_11 h4) rfl ?_
  refine r_goto (t := 18) F_16_14 rfl ?_
  refine r_ireturn F_16_18 rt_16 ?_
  show Rn _ _ _ _ _ [vI (s 11 t), vR 23] _ _
  refine r_bipush F_32_6 bi_60 ?_
  refine r_mmin F_32_8 o_32 iln_2_63 mm_2_63 rfl l2 (by decide) ?_
  refine r_putI (J := 2) F_32_11 o_32 fl_2_21 ty_23 (by decide) rfl kd_23_2 pf_2_2 ?_
  refine r_iconst F_32_14 ?_
  refine r_stI_n (m := 3) (L' := [some (vR 23), some (vR 10), some (vI t), some (vI 0)]) F_32_15 rfl rfl ?_
  exact l3
theorem t_X2_open_16 {X : m_X} {d : Nat} {s : m_St} {P : Option Value → m_St → Prop} {t i : Int} (h0 : 0 ≤ t) (h4 : t < 4) (hz : ¬ (s 11 t) = (-1)) (hi : 0 ≤ i)
    (l1 : inR i)
    (l2 : inR (s 23 2))
    (l3 : (s 23 2) ≤ i → P none (m_upd (m_upd (m_upd (m_upd s 23 3 0) 23 4 0) 23 5 0) 23 6 0))
    (l4 : i < (s 23 2) → inR t)
    (l5 : i < (s 23 2) → inR (s 11 t))
    (l6 : i < (s 23 2) → inR ((s 11 t) - 1))
    (l7 : i < (s 23 2) → ((s 11 t) - 1) < i → i < 60)
    (l8 : i < (s 23 2) → ((s 11 t) - 1) < i → Rn X (d + 5) 32 16 [some (vR 23), some (vR 10), some (vI t), some (vI (i + 1))] [] (m_upd s 25 i 0) P)
    (l9 : i < (s 23 2) → i ≤ ((s 11 t) - 1) → i < 60)
    (l10 : i < (s 23 2) → i ≤ ((s 11 t) - 1) → Rn X (d + 5) 32 16 [some (vR 23), some (vR 10), some (vI t), some (vI (i + 1))] [] (m_upd s 25 i (s (13 + t) i)) P)
    : Rn X (d + 5) 32 16 [some (vR 23), some (vR 10), some (vI t), some (vI i)] [] s P := by
  refine r_ldI_n (m := 3) F_32_16 rfl ?_
  refine r_ldR_n (m := 0) F_32_17 rfl ?_
  refine r_getI (J := 2) (e := (s 23 2)) F_32_18 o_32 fl_2_21 ty_23 (by decide) rfl kd_23_2 rfl ?_
  refine r_icmp (t := 42) F_32_21 rfl l1 l2 ?_ ?_
  · intro e1
    replace e1 : (s 23 2) ≤ i := e1
    refine r_ldR_n (m := 0) F_32_42 rfl ?_
    refine r_iconst F_32_43 ?_
    refine r_putI (J := 3) F_32_44 o_32 fl_2_25 ty_23 (by decide) rfl kd_23_3 pf_2_3 ?_
    refine r_ldR_n (m := 0) F_32_47 rfl ?_
    refine r_iconst F_32_48 ?_
    refine r_putI (J := 4) F_32_49 o_32 fl_2_28 ty_23 (by decide) rfl kd_23_4 pf_2_4 ?_
    refine r_ldR_n (m := 0) F_32_52 rfl ?_
    refine r_iconst F_32_53 ?_
    refine r_putI (J := 5) F_32_54 o_32 fl_2_31 ty_23 (by decide) rfl kd_23_5 pf_2_5 ?_
    refine r_ldR_n (m := 0) F_32_57 rfl ?_
    refine r_iconst F_32_58 ?_
    refine r_putI (J := 6) F_32_59 o_32 fl_2_34 ty_23 (by decide) rfl kd_23_6 pf_2_6 ?_
    refine r_return F_32_62 rt_32 ?_
    exact (l3 e1)
  · intro e2
    replace e2 : i < (s 23 2) := (Int.not_le.mp e2)
    refine r_ldR_n (m := 0) F_32_24 rfl ?_
    refine r_getR (J := 1) F_32_25 o_32 fl_2_17 ty_23 (by decide) rfl (kd2 kd_23_1 (by decide)) (kd9 kd_23_1 (by decide)) rf_23_1 ?_
    refine r_ldI_n (m := 3) F_32_28 rfl ?_
    refine r_ldR_n (m := 1) F_32_29 rfl ?_
    refine r_ldI_n (m := 2) F_32_30 rfl ?_
    refine r_ldI_n (m := 3) F_32_31 rfl ?_
    refine r_virt2 (A := [vI t, vI i]) (r := [vI i, vR 25]) (n := 2) F_32_32 o_32 il_2_69 rfl rfl rfl rfl ty_10 vy_18 (lay_le n_18 rfl) ?_
    refine Cl_of n_18 rfl ?_
    show Rn _ _ _ _ [some (vR 10), some (vI t), some (vI i)] [] _ _
    refine r_ldR_n (m := 0) F_18_0 rfl ?_
    refine r_ldI_n (m := 1) F_18_1 rfl ?_
    refine r_ldI_n (m := 2) F_18_2 rfl ?_
    refine r_iconst F_18_3 ?_
    refine r_virt2 (A := [vI t, vI i, vI 1]) (r := []) (n := 3) F_18_4 o_18 il_3_39 rfl rfl rfl rfl ty_10 vy_17 (lay_le n_17 rfl) ?_
    refine Cl_of n_17 rfl ?_
    show Rn _ _ _ _ [some (vR 10), some (vI t), some (vI i), some (vI 1)] [] _ _
    refine r_ldR_n (m := 0) F_17_0 rfl ?_
    refine r_ldI_n (m := 1) F_17_1 rfl ?_
    refine r_virt2 (A := [vI t]) (r := []) (n := 1) F_17_2 o_17 il_3_36 rfl rfl rfl rfl ty_10 vy_15 (lay_le n_15 rfl) ?_
    refine Cl_of n_15 rfl ?_
    show Rn _ _ _ _ [some (vR 10), some (vI t)] [] _ _
    refine r_ldR_n (m := 0) F_15_0 rfl ?_
    refine r_ldI_n (m := 1) F_15_1 rfl ?_
    refine r_virt2 (A := [vI t]) (r := []) (n := 1) F_15_2 o_15 il_3_28 rfl rfl rfl rfl ty_10 vy_16 (lay_le n_16 rfl) ?_
    refine Cl_of n_16 rfl ?_
    show Rn _ _ _ _ [some (vR 10), some (vI t)] [] _ _
    refine r_ldR_n (m := 0) F_16_0 rfl ?_
    refine r_ldI_n (m := 1) F_16_1 rfl ?_
    refine r_virt2 (A := [vI t]) (r := []) (n := 1) F_16_2 o_16 il_3_32 rfl rfl rfl rfl ty_10 vy_9 (lay_le n_9 rfl) ?_
    refine Cl_of n_9 rfl ?_
    show Rn _ _ _ _ [some (vR 10), some (vI t)] [] _ _
    refine r_ldI_n (m := 1) F_9_0 rfl ?_
    refine r_ifF (t := 17) F_9_1 rfl (l4 e2) (Int.not_lt.mpr h0) ?_
    refine r_ldI_n (m := 1) F_9_4 rfl ?_
    refine r_ldR_n (m := 0) F_9_5 rfl ?_
    refine r_getR (J := 0) F_9_6 o_9 fl_3_19 ty_10 (by decide) rfl (kd2 kd_10_0 (by decide)) (kd9 kd_10_0 (by decide)) rf_10_0 ?_
    refine r_alen F_9_9 ty_11 (by decide) ln_11 ?_
    refine r_icmpF (t := 17) F_9_10 rfl (l4 e2) (by decide) (Int.not_le.mpr h4) ?_
    refine r_iconst F_9_13 ?_
    refine r_goto (t := 18) F_9_14 rfl ?_
    refine r_zreturn F_9_18 rt_9 (Or.inr rfl) ?_
    show Rn _ _ _ _ _ [vI 1] _ _
    refine r_ifF (t := 17) F_16_5 rfl (by decide) (by show ¬ ((1 : Int) = 0); decide) ?_
    refine r_ldR_n (m := 0) F_16_8 rfl ?_
    refine r_getR (J := 0) F_16_9 o_16 fl_3_19 ty_10 (by decide) rfl (kd2 kd_10_0 (by decide)) (kd9 kd_10_0 (by decide)) rf_10_0 ?_
    refine r_ldI_n (m := 1) F_16_12 rfl ?_
    refine r_iald (e := (s 11 t)) F_16_13 ty_11 h0 (lt_ln ln_11 h4) rfl ?_
    refine r_goto (t := 18) F_16_14 rfl ?_
    refine r_ireturn F_16_18 rt_16 ?_
    show Rn _ _ _ _ _ [vI (s 11 t)] _ _
    refine r_iconst F_15_5 ?_
    refine r_icmpF (t := 13) F_15_6 rfl (l5 e2) (by decide) hz ?_
    refine r_iconst F_15_9 ?_
    refine r_goto (t := 14) F_15_10 rfl ?_
    refine r_zreturn F_15_14 rt_15 (Or.inr rfl) ?_
    show Rn _ _ _ _ _ [vI 1] _ _
    refine r_ifF (t := 31) F_17_5 rfl (by decide) (by show ¬ ((1 : Int) = 0); decide) ?_
    refine r_ldI_n (m := 2) F_17_8 rfl ?_
    refine r_ifF (t := 31) F_17_9 rfl l1 (Int.not_lt.mpr hi) ?_
    refine r_ldI_n (m := 3) F_17_12 rfl ?_
    refine r_ifF (t := 31) F_17_13 rfl (by decide) (by show ¬ ((1 : Int) < 0); decide) ?_
    refine r_ldI_n (m := 2) F_17_16 rfl ?_
    refine r_ldR_n (m := 0) F_17_17 rfl ?_
    refine r_ldI_n (m := 1) F_17_18 rfl ?_
    refine r_virt2 (A := [vI t]) (r := [vI i]) (n := 1) F_17_19 o_17 il_3_28 rfl rfl rfl rfl ty_10 vy_16 (lay_le n_16 rfl) ?_
    refine Cl_of n_16 rfl ?_
    show Rn _ _ _ _ [some (vR 10), some (vI t)] [] _ _
    refine r_ldR_n (m := 0) F_16_0 rfl ?_
    refine r_ldI_n (m := 1) F_16_1 rfl ?_
    refine r_virt2 (A := [vI t]) (r := []) (n := 1) F_16_2 o_16 il_3_32 rfl rfl rfl rfl ty_10 vy_9 (lay_le n_9 rfl) ?_
    refine Cl_of n_9 rfl ?_
    show Rn _ _ _ _ [some (vR 10), some (vI t)] [] _ _
    refine r_ldI_n (m := 1) F_9_0 rfl ?_
    refine r_ifF (t := 17) F_9_1 rfl (l4 e2) (Int.not_lt.mpr h0) ?_
    refine r_ldI_n (m := 1) F_9_4 rfl ?_
    refine r_ldR_n (m := 0) F_9_5 rfl ?_
    refine r_getR (J := 0) F_9_6 o_9 fl_3_19 ty_10 (by decide) rfl (kd2 kd_10_0 (by decide)) (kd9 kd_10_0 (by decide)) rf_10_0 ?_
    refine r_alen F_9_9 ty_11 (by decide) ln_11 ?_
    refine r_icmpF (t := 17) F_9_10 rfl (l4 e2) (by decide) (Int.not_le.mpr h4) ?_
    refine r_iconst F_9_13 ?_
    refine r_goto (t := 18) F_9_14 rfl ?_
    refine r_zreturn F_9_18 rt_9 (Or.inr rfl) ?_
    show Rn _ _ _ _ _ [vI 1] _ _
    refine r_ifF (t := 17) F_16_5 rfl (by decide) (by show ¬ ((1 : Int) = 0); decide) ?_
    refine r_ldR_n (m := 0) F_16_8 rfl ?_
    refine r_getR (J := 0) F_16_9 o_16 fl_3_19 ty_10 (by decide) rfl (kd2 kd_10_0 (by decide)) (kd9 kd_10_0 (by decide)) rf_10_0 ?_
    refine r_ldI_n (m := 1) F_16_12 rfl ?_
    refine r_iald (e := (s 11 t)) F_16_13 ty_11 h0 (lt_ln ln_11 h4) rfl ?_
    refine r_goto (t := 18) F_16_14 rfl ?_
    refine r_ireturn F_16_18 rt_16 ?_
    show Rn _ _ _ _ _ [vI (s 11 t), vI i] _ _
    refine r_ldI_n (m := 3) F_17_22 rfl ?_
    refine r_isub F_17_23 rfl ?_
    refine r_icmp (t := 31) F_17_24 rfl l1 (l6 e2) ?_ ?_
    · intro e3
      replace e3 : ((s 11 t) - 1) < i := e3
      refine r_iconst F_17_31 ?_
      refine r_zreturn F_17_32 rt_17 (Or.inl rfl) ?_
      show Rn _ _ _ _ _ [vI 0] _ _
      refine r_ifT (t := 21) F_18_7 rfl (by decide) (by show (0 : Int) = 0; decide) ?_
      refine r_iconst F_18_21 ?_
      refine r_ireturn F_18_22 rt_18 ?_
      show Rn _ _ _ _ _ [vI 0, vI i, vR 25] _ _
      refine r_iast F_32_35 ty_25 hi (lt_ln ln_25 (l7 e2 e3)) ?_
      refine r_iinc (m := 3) (e := (i + 1)) (L' := [some (vR 23), some (vR 10), some (vI t), some (vI (i + 1))]) F_32_36 rfl rfl rfl rfl ?_
      refine r_goto (t := 16) F_32_39 rfl ?_
      exact (l8 e2 e3)
    · intro e4
      replace e4 : i ≤ ((s 11 t) - 1) := (Int.not_lt.mp e4)
      refine r_iconst F_17_27 ?_
      refine r_goto (t := 32) F_17_28 rfl ?_
      refine r_zreturn F_17_32 rt_17 (Or.inr rfl) ?_
      show Rn _ _ _ _ _ [vI 1] _ _
      refine r_ifF (t := 21) F_18_7 rfl (by decide) (by show ¬ ((1 : Int) = 0); decide) ?_
      refine r_ldR_n (m := 0) F_18_10 rfl ?_
      refine r_getR (J := 1) F_18_11 o_18 fl_3_25 ty_10 (by decide) rfl (kd2 kd_10_1 (by decide)) (kd9 kd_10_1 (by decide)) rf_10_1 ?_
      refine r_ldI_n (m := 1) F_18_14 rfl ?_
      refine r_aald F_18_15 ty_12 (by decide) h0 (lt_ln ln_12 h4) (rw_12 ⟨h0, h4⟩).2.2 ?_
      refine r_ldI_n (m := 2) F_18_16 rfl ?_
      refine r_iald (e := (s (13 + t) i)) F_18_17 (rw_12 ⟨h0, h4⟩).1 hi (lt_ln (rw_12 ⟨h0, h4⟩).2.1 (l9 e2 e4)) rfl ?_
      refine r_goto (t := 22) F_18_18 rfl ?_
      refine r_ireturn F_18_22 rt_18 ?_
      show Rn _ _ _ _ _ [vI (s (13 + t) i), vI i, vR 25] _ _
      refine r_iast F_32_35 ty_25 hi (lt_ln ln_25 (l9 e2 e4)) ?_
      refine r_iinc (m := 3) (e := (i + 1)) (L' := [some (vR 23), some (vR 10), some (vI t), some (vI (i + 1))]) F_32_36 rfl rfl rfl rfl ?_
      refine r_goto (t := 16) F_32_39 rfl ?_
      exact (l10 e2 e4)
