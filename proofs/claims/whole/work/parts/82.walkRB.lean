/-! walks: the reference reads items -/
theorem n_174 : m_n 174 = 4 := by decide +kernel
theorem F_174_0 : F 174 0 (.aload_n 0) 1 := ⟨1, by decide +kernel, rfl, rfl⟩
theorem F_174_1 : F 174 1 (.iload_n 1) 2 := ⟨1, by decide +kernel, rfl, rfl⟩
theorem F_174_2 : F 174 2 (.invokevirtual 103) 5 := ⟨3, by decide +kernel, rfl, rfl⟩
theorem o_174 : m_o 174 = 6 := by decide +kernel
theorem il_6_103 : ilq 6 103 0 175 1 = true := by decide +kernel
theorem vy_175 : (m_cls 6).1 = (m_y 175).cls ∧ 6 < m_cl.length := by decide +kernel
theorem F_174_5 : F 174 5 (.aload_n 0) 6 := ⟨1, by decide +kernel, rfl, rfl⟩
theorem F_174_6 : F 174 6 (.aload_n 0) 7 := ⟨1, by decide +kernel, rfl, rfl⟩
theorem F_174_7 : F 174 7 (.iload_n 1) 8 := ⟨1, by decide +kernel, rfl, rfl⟩
theorem F_174_8 : F 174 8 (.invokevirtual 100) 11 := ⟨3, by decide +kernel, rfl, rfl⟩
theorem F_174_11 : F 174 11 (.bipush 119) 13 := ⟨2, by decide +kernel, rfl, rfl⟩
theorem F_174_13 : F 174 13 (.if_icmp .ne 7) 16 := ⟨3, by decide +kernel, rfl, rfl⟩
theorem F_174_20 : F 174 20 (.iconst 0) 21 := ⟨1, by decide +kernel, rfl, rfl⟩
theorem F_174_21 : F 174 21 (.putfield 96) 24 := ⟨3, by decide +kernel, rfl, rfl⟩
theorem F_174_24 : F 174 24 (.aload_n 0) 25 := ⟨1, by decide +kernel, rfl, rfl⟩
theorem F_174_25 : F 174 25 (.dup) 26 := ⟨1, by decide +kernel, rfl, rfl⟩
theorem F_174_26 : F 174 26 (.getfield 93) 29 := ⟨3, by decide +kernel, rfl, rfl⟩
theorem F_174_29 : F 174 29 (.aload_n 0) 30 := ⟨1, by decide +kernel, rfl, rfl⟩
theorem F_174_30 : F 174 30 (.getfield 96) 33 := ⟨3, by decide +kernel, rfl, rfl⟩
theorem F_174_33 : F 174 33 (.ifCond .eq 7) 36 := ⟨3, by decide +kernel, rfl, rfl⟩
theorem F_174_40 : F 174 40 (.iconst 0) 41 := ⟨1, by decide +kernel, rfl, rfl⟩
theorem F_174_41 : F 174 41 (.iadd) 42 := ⟨1, by decide +kernel, rfl, rfl⟩
theorem F_174_42 : F 174 42 (.putfield 93) 45 := ⟨3, by decide +kernel, rfl, rfl⟩
theorem F_174_45 : F 174 45 (.aload_n 0) 46 := ⟨1, by decide +kernel, rfl, rfl⟩
theorem F_174_46 : F 174 46 (.iload_n 1) 47 := ⟨1, by decide +kernel, rfl, rfl⟩
theorem F_174_47 : F 174 47 (.bipush 9) 49 := ⟨2, by decide +kernel, rfl, rfl⟩
theorem F_174_49 : F 174 49 (.invokevirtual 107) 52 := ⟨3, by decide +kernel, rfl, rfl⟩
theorem il_6_107 : ilq 6 107 0 177 2 = true := by decide +kernel
theorem vy_177 : (m_cls 6).1 = (m_y 177).cls ∧ 6 < m_cl.length := by decide +kernel
theorem F_174_52 : F 174 52 (.istore_n 2) 53 := ⟨1, by decide +kernel, rfl, rfl⟩
theorem F_174_53 : F 174 53 (.aload_n 0) 54 := ⟨1, by decide +kernel, rfl, rfl⟩
theorem F_174_54 : F 174 54 (.iload_n 1) 55 := ⟨1, by decide +kernel, rfl, rfl⟩
theorem F_174_55 : F 174 55 (.bipush 9) 57 := ⟨2, by decide +kernel, rfl, rfl⟩
theorem F_174_57 : F 174 57 (.invokevirtual 107) 60 := ⟨3, by decide +kernel, rfl, rfl⟩
theorem F_174_60 : F 174 60 (.istore_n 3) 61 := ⟨1, by decide +kernel, rfl, rfl⟩
theorem F_174_61 : F 174 61 (.aload_n 0) 62 := ⟨1, by decide +kernel, rfl, rfl⟩
theorem F_174_62 : F 174 62 (.getfield 96) 65 := ⟨3, by decide +kernel, rfl, rfl⟩
theorem F_174_65 : F 174 65 (.ifCond .eq 29) 68 := ⟨3, by decide +kernel, rfl, rfl⟩
theorem F_174_94 : F 174 94 (.aload_n 0) 95 := ⟨1, by decide +kernel, rfl, rfl⟩
theorem F_174_95 : F 174 95 (.getfield 28) 98 := ⟨3, by decide +kernel, rfl, rfl⟩
theorem fl_6_28 : m_fl.lookup (6, 28) = some (6, 6, 4151) := by decide +kernel
theorem kd_77_6 : kd 77 6 = 86 := by decide +kernel
theorem rf_77_6 : rf 77 6 = 84 := by decide +kernel
theorem F_174_98 : F 174 98 (.iconst 1) 99 := ⟨1, by decide +kernel, rfl, rfl⟩
theorem F_174_99 : F 174 99 (.bipush 10) 101 := ⟨2, by decide +kernel, rfl, rfl⟩
theorem F_174_101 : F 174 101 (.iload_n 2) 102 := ⟨1, by decide +kernel, rfl, rfl⟩
theorem F_174_102 : F 174 102 (.imul) 103 := ⟨1, by decide +kernel, rfl, rfl⟩
theorem F_174_103 : F 174 103 (.iload_n 3) 104 := ⟨1, by decide +kernel, rfl, rfl⟩
theorem F_174_104 : F 174 104 (.iadd) 105 := ⟨1, by decide +kernel, rfl, rfl⟩
theorem F_174_105 : F 174 105 (.iastore) 106 := ⟨1, by decide +kernel, rfl, rfl⟩
theorem F_174_106 : F 174 106 (.aload_n 0) 107 := ⟨1, by decide +kernel, rfl, rfl⟩
theorem F_174_107 : F 174 107 (.getfield 28) 110 := ⟨3, by decide +kernel, rfl, rfl⟩
theorem F_174_110 : F 174 110 (.iconst 2) 111 := ⟨1, by decide +kernel, rfl, rfl⟩
theorem F_174_111 : F 174 111 (.aload_n 0) 112 := ⟨1, by decide +kernel, rfl, rfl⟩
theorem F_174_112 : F 174 112 (.getfield 28) 115 := ⟨3, by decide +kernel, rfl, rfl⟩
theorem F_174_115 : F 174 115 (.iconst 1) 116 := ⟨1, by decide +kernel, rfl, rfl⟩
theorem F_174_116 : F 174 116 (.iaload) 117 := ⟨1, by decide +kernel, rfl, rfl⟩
theorem F_174_117 : F 174 117 (.iastore) 118 := ⟨1, by decide +kernel, rfl, rfl⟩
theorem F_174_118 : F 174 118 (.aload_n 0) 119 := ⟨1, by decide +kernel, rfl, rfl⟩
theorem F_174_119 : F 174 119 (.iload_n 1) 120 := ⟨1, by decide +kernel, rfl, rfl⟩
theorem F_174_120 : F 174 120 (.invokevirtual 103) 123 := ⟨3, by decide +kernel, rfl, rfl⟩
theorem F_174_123 : F 174 123 (.return_) 124 := ⟨1, by decide +kernel, rfl, rfl⟩
theorem rt_174 : m_r 174 = none := by decide +kernel
theorem F_174_68 : F 174 68 (.bipush 10) 70 := ⟨2, by decide +kernel, rfl, rfl⟩
theorem F_174_70 : F 174 70 (.iload_n 2) 71 := ⟨1, by decide +kernel, rfl, rfl⟩
theorem F_174_71 : F 174 71 (.imul) 72 := ⟨1, by decide +kernel, rfl, rfl⟩
theorem F_174_72 : F 174 72 (.iload_n 3) 73 := ⟨1, by decide +kernel, rfl, rfl⟩
theorem F_174_73 : F 174 73 (.iadd) 74 := ⟨1, by decide +kernel, rfl, rfl⟩
theorem F_174_74 : F 174 74 (.bipush 40) 76 := ⟨2, by decide +kernel, rfl, rfl⟩
theorem F_174_76 : F 174 76 (.if_icmp .le 18) 79 := ⟨3, by decide +kernel, rfl, rfl⟩
theorem F_174_79 : F 174 79 (.aload_n 0) 80 := ⟨1, by decide +kernel, rfl, rfl⟩
theorem F_174_80 : F 174 80 (.iconst 0) 81 := ⟨1, by decide +kernel, rfl, rfl⟩
theorem F_174_81 : F 174 81 (.putfield 96) 84 := ⟨3, by decide +kernel, rfl, rfl⟩
theorem F_174_84 : F 174 84 (.aload_n 0) 85 := ⟨1, by decide +kernel, rfl, rfl⟩
theorem F_174_85 : F 174 85 (.dup) 86 := ⟨1, by decide +kernel, rfl, rfl⟩
theorem F_174_86 : F 174 86 (.getfield 93) 89 := ⟨3, by decide +kernel, rfl, rfl⟩
theorem F_174_89 : F 174 89 (.iconst 2) 90 := ⟨1, by decide +kernel, rfl, rfl⟩
theorem F_174_90 : F 174 90 (.isub) 91 := ⟨1, by decide +kernel, rfl, rfl⟩
theorem F_174_91 : F 174 91 (.putfield 93) 94 := ⟨3, by decide +kernel, rfl, rfl⟩
theorem F_174_16 : F 174 16 (.iconst 1) 17 := ⟨1, by decide +kernel, rfl, rfl⟩
theorem F_174_17 : F 174 17 (.goto 4) 20 := ⟨3, by decide +kernel, rfl, rfl⟩
theorem F_174_36 : F 174 36 (.iconst 1) 37 := ⟨1, by decide +kernel, rfl, rfl⟩
theorem F_174_37 : F 174 37 (.goto 4) 40 := ⟨3, by decide +kernel, rfl, rfl⟩
theorem n_178 : m_n 178 = 5 := by decide +kernel
theorem F_178_0 : F 178 0 (.aload_n 0) 1 := ⟨1, by decide +kernel, rfl, rfl⟩
theorem F_178_1 : F 178 1 (.dup) 2 := ⟨1, by decide +kernel, rfl, rfl⟩
theorem F_178_2 : F 178 2 (.getfield 93) 5 := ⟨3, by decide +kernel, rfl, rfl⟩
theorem o_178 : m_o 178 = 6 := by decide +kernel
theorem F_178_5 : F 178 5 (.iconst 1) 6 := ⟨1, by decide +kernel, rfl, rfl⟩
theorem F_178_6 : F 178 6 (.iadd) 7 := ⟨1, by decide +kernel, rfl, rfl⟩
theorem F_178_7 : F 178 7 (.putfield 93) 10 := ⟨3, by decide +kernel, rfl, rfl⟩
theorem F_178_10 : F 178 10 (.aload_n 0) 11 := ⟨1, by decide +kernel, rfl, rfl⟩
theorem F_178_11 : F 178 11 (.iload_n 1) 12 := ⟨1, by decide +kernel, rfl, rfl⟩
theorem F_178_12 : F 178 12 (.iconst 3) 13 := ⟨1, by decide +kernel, rfl, rfl⟩
theorem F_178_13 : F 178 13 (.invokevirtual 107) 16 := ⟨3, by decide +kernel, rfl, rfl⟩
theorem F_178_16 : F 178 16 (.istore_n 2) 17 := ⟨1, by decide +kernel, rfl, rfl⟩
theorem F_178_17 : F 178 17 (.aload_n 0) 18 := ⟨1, by decide +kernel, rfl, rfl⟩
theorem F_178_18 : F 178 18 (.iload_n 1) 19 := ⟨1, by decide +kernel, rfl, rfl⟩
theorem F_178_19 : F 178 19 (.invokevirtual 100) 22 := ⟨3, by decide +kernel, rfl, rfl⟩
theorem F_178_22 : F 178 22 (.bipush 48) 24 := ⟨2, by decide +kernel, rfl, rfl⟩
theorem F_178_24 : F 178 24 (.isub) 25 := ⟨1, by decide +kernel, rfl, rfl⟩
theorem F_178_25 : F 178 25 (.iload_n 2) 26 := ⟨1, by decide +kernel, rfl, rfl⟩
theorem F_178_26 : F 178 26 (.if_icmp .eq 7) 29 := ⟨3, by decide +kernel, rfl, rfl⟩
theorem F_178_33 : F 178 33 (.iconst 0) 34 := ⟨1, by decide +kernel, rfl, rfl⟩
theorem F_178_34 : F 178 34 (.istore_n 3) 35 := ⟨1, by decide +kernel, rfl, rfl⟩
theorem F_178_35 : F 178 35 (.aload_n 0) 36 := ⟨1, by decide +kernel, rfl, rfl⟩
theorem F_178_36 : F 178 36 (.aload_n 0) 37 := ⟨1, by decide +kernel, rfl, rfl⟩
theorem F_178_37 : F 178 37 (.getfield 96) 40 := ⟨3, by decide +kernel, rfl, rfl⟩
theorem F_178_40 : F 178 40 (.ifCond .eq 11) 43 := ⟨3, by decide +kernel, rfl, rfl⟩
theorem F_178_51 : F 178 51 (.iconst 0) 52 := ⟨1, by decide +kernel, rfl, rfl⟩
theorem F_178_52 : F 178 52 (.putfield 96) 55 := ⟨3, by decide +kernel, rfl, rfl⟩
theorem F_178_55 : F 178 55 (.aload_n 0) 56 := ⟨1, by decide +kernel, rfl, rfl⟩
theorem F_178_56 : F 178 56 (.iload_n 1) 57 := ⟨1, by decide +kernel, rfl, rfl⟩
theorem F_178_57 : F 178 57 (.iconst 3) 58 := ⟨1, by decide +kernel, rfl, rfl⟩
theorem F_178_58 : F 178 58 (.invokevirtual 107) 61 := ⟨3, by decide +kernel, rfl, rfl⟩
theorem F_178_61 : F 178 61 (.istore 4) 63 := ⟨2, by decide +kernel, rfl, rfl⟩
theorem F_178_63 : F 178 63 (.aload_n 0) 64 := ⟨1, by decide +kernel, rfl, rfl⟩
theorem F_178_64 : F 178 64 (.getfield 28) 67 := ⟨3, by decide +kernel, rfl, rfl⟩
theorem F_178_67 : F 178 67 (.bipush 7) 69 := ⟨2, by decide +kernel, rfl, rfl⟩
theorem F_178_69 : F 178 69 (.dup2) 70 := ⟨1, by decide +kernel, rfl, rfl⟩
theorem F_178_70 : F 178 70 (.iaload) 71 := ⟨1, by decide +kernel, rfl, rfl⟩
theorem F_178_71 : F 178 71 (.aload_n 0) 72 := ⟨1, by decide +kernel, rfl, rfl⟩
theorem F_178_72 : F 178 72 (.getfield 96) 75 := ⟨3, by decide +kernel, rfl, rfl⟩
theorem F_178_75 : F 178 75 (.ifCond .eq 14) 78 := ⟨3, by decide +kernel, rfl, rfl⟩
theorem F_178_89 : F 178 89 (.iconst 0) 90 := ⟨1, by decide +kernel, rfl, rfl⟩
theorem F_178_90 : F 178 90 (.ior) 91 := ⟨1, by decide +kernel, rfl, rfl⟩
theorem F_178_91 : F 178 91 (.iastore) 92 := ⟨1, by decide +kernel, rfl, rfl⟩
theorem F_178_92 : F 178 92 (.aload_n 0) 93 := ⟨1, by decide +kernel, rfl, rfl⟩
theorem F_178_93 : F 178 93 (.iload_n 1) 94 := ⟨1, by decide +kernel, rfl, rfl⟩
theorem F_178_94 : F 178 94 (.invokevirtual 103) 97 := ⟨3, by decide +kernel, rfl, rfl⟩
theorem F_178_97 : F 178 97 (.return_) 98 := ⟨1, by decide +kernel, rfl, rfl⟩
theorem rt_178 : m_r 178 = none := by decide +kernel
theorem F_178_78 : F 178 78 (.iconst 1) 79 := ⟨1, by decide +kernel, rfl, rfl⟩
theorem F_178_79 : F 178 79 (.iconst 4) 80 := ⟨1, by decide +kernel, rfl, rfl⟩
theorem F_178_80 : F 178 80 (.iload_n 2) 81 := ⟨1, by decide +kernel, rfl, rfl⟩
theorem F_178_81 : F 178 81 (.imul) 82 := ⟨1, by decide +kernel, rfl, rfl⟩
theorem F_178_82 : F 178 82 (.iload 4) 84 := ⟨2, by decide +kernel, rfl, rfl⟩
theorem F_178_84 : F 178 84 (.iadd) 85 := ⟨1, by decide +kernel, rfl, rfl⟩
theorem F_178_85 : F 178 85 (.ishl) 86 := ⟨1, by decide +kernel, rfl, rfl⟩
theorem F_178_86 : F 178 86 (.goto 4) 89 := ⟨3, by decide +kernel, rfl, rfl⟩
theorem F_178_43 : F 178 43 (.iload_n 3) 44 := ⟨1, by decide +kernel, rfl, rfl⟩
theorem F_178_44 : F 178 44 (.ifCond .eq 7) 47 := ⟨3, by decide +kernel, rfl, rfl⟩
theorem F_178_29 : F 178 29 (.iconst 1) 30 := ⟨1, by decide +kernel, rfl, rfl⟩
theorem F_178_30 : F 178 30 (.goto 4) 33 := ⟨3, by decide +kernel, rfl, rfl⟩
theorem F_178_47 : F 178 47 (.iconst 1) 48 := ⟨1, by decide +kernel, rfl, rfl⟩
theorem F_178_48 : F 178 48 (.goto 4) 51 := ⟨3, by decide +kernel, rfl, rfl⟩
theorem n_179 : m_n 179 = 5 := by decide +kernel
theorem F_179_0 : F 179 0 (.aload_n 0) 1 := ⟨1, by decide +kernel, rfl, rfl⟩
theorem F_179_1 : F 179 1 (.iload_n 1) 2 := ⟨1, by decide +kernel, rfl, rfl⟩
theorem F_179_2 : F 179 2 (.invokevirtual 100) 5 := ⟨3, by decide +kernel, rfl, rfl⟩
theorem o_179 : m_o 179 = 6 := by decide +kernel
theorem F_179_5 : F 179 5 (.invokestatic 110) 8 := ⟨3, by decide +kernel, rfl, rfl⟩
theorem il_6_110 : ilq 6 110 1 180 1 = true := by decide +kernel
theorem F_179_8 : F 179 8 (.istore_n 2) 9 := ⟨1, by decide +kernel, rfl, rfl⟩
theorem F_179_9 : F 179 9 (.aload_n 0) 10 := ⟨1, by decide +kernel, rfl, rfl⟩
theorem F_179_10 : F 179 10 (.iload_n 2) 11 := ⟨1, by decide +kernel, rfl, rfl⟩
theorem F_179_11 : F 179 11 (.bipush (-9)) 13 := ⟨2, by decide +kernel, rfl, rfl⟩
theorem F_179_13 : F 179 13 (.if_icmp .eq 18) 16 := ⟨3, by decide +kernel, rfl, rfl⟩
theorem F_179_31 : F 179 31 (.iconst 0) 32 := ⟨1, by decide +kernel, rfl, rfl⟩
theorem F_179_32 : F 179 32 (.putfield 96) 35 := ⟨3, by decide +kernel, rfl, rfl⟩
theorem F_179_35 : F 179 35 (.aload_n 0) 36 := ⟨1, by decide +kernel, rfl, rfl⟩
theorem F_179_36 : F 179 36 (.dup) 37 := ⟨1, by decide +kernel, rfl, rfl⟩
theorem F_179_37 : F 179 37 (.getfield 93) 40 := ⟨3, by decide +kernel, rfl, rfl⟩
theorem F_179_40 : F 179 40 (.aload_n 0) 41 := ⟨1, by decide +kernel, rfl, rfl⟩
theorem F_179_41 : F 179 41 (.getfield 96) 44 := ⟨3, by decide +kernel, rfl, rfl⟩
theorem F_179_44 : F 179 44 (.ifCond .eq 7) 47 := ⟨3, by decide +kernel, rfl, rfl⟩
theorem F_179_51 : F 179 51 (.iconst 0) 52 := ⟨1, by decide +kernel, rfl, rfl⟩
theorem F_179_52 : F 179 52 (.iadd) 53 := ⟨1, by decide +kernel, rfl, rfl⟩
theorem F_179_53 : F 179 53 (.putfield 93) 56 := ⟨3, by decide +kernel, rfl, rfl⟩
theorem F_179_56 : F 179 56 (.bipush 8) 58 := ⟨2, by decide +kernel, rfl, rfl⟩
theorem F_179_58 : F 179 58 (.iconst 5) 59 := ⟨1, by decide +kernel, rfl, rfl⟩
theorem F_179_59 : F 179 59 (.aload_n 0) 60 := ⟨1, by decide +kernel, rfl, rfl⟩
theorem F_179_60 : F 179 60 (.getfield 28) 63 := ⟨3, by decide +kernel, rfl, rfl⟩
theorem F_179_63 : F 179 63 (.iconst 0) 64 := ⟨1, by decide +kernel, rfl, rfl⟩
theorem F_179_64 : F 179 64 (.iaload) 65 := ⟨1, by decide +kernel, rfl, rfl⟩
theorem F_179_65 : F 179 65 (.bipush 6) 67 := ⟨2, by decide +kernel, rfl, rfl⟩
theorem F_179_67 : F 179 67 (.if_icmp .ge 12) 70 := ⟨3, by decide +kernel, rfl, rfl⟩
theorem F_179_79 : F 179 79 (.iconst 0) 80 := ⟨1, by decide +kernel, rfl, rfl⟩
theorem F_179_80 : F 179 80 (.imul) 81 := ⟨1, by decide +kernel, rfl, rfl⟩
theorem F_179_81 : F 179 81 (.iadd) 82 := ⟨1, by decide +kernel, rfl, rfl⟩
theorem F_179_82 : F 179 82 (.istore_n 3) 83 := ⟨1, by decide +kernel, rfl, rfl⟩
theorem F_179_83 : F 179 83 (.iconst 0) 84 := ⟨1, by decide +kernel, rfl, rfl⟩
theorem F_179_84 : F 179 84 (.istore 4) 86 := ⟨2, by decide +kernel, rfl, rfl⟩
theorem F_179_70 : F 179 70 (.aload_n 0) 71 := ⟨1, by decide +kernel, rfl, rfl⟩
theorem F_179_71 : F 179 71 (.getfield 28) 74 := ⟨3, by decide +kernel, rfl, rfl⟩
theorem F_179_74 : F 179 74 (.iconst 0) 75 := ⟨1, by decide +kernel, rfl, rfl⟩
theorem F_179_75 : F 179 75 (.iaload) 76 := ⟨1, by decide +kernel, rfl, rfl⟩
theorem F_179_76 : F 179 76 (.goto 4) 79 := ⟨3, by decide +kernel, rfl, rfl⟩
theorem F_179_16 : F 179 16 (.aload_n 0) 17 := ⟨1, by decide +kernel, rfl, rfl⟩
theorem F_179_17 : F 179 17 (.getfield 28) 20 := ⟨3, by decide +kernel, rfl, rfl⟩
theorem F_179_20 : F 179 20 (.iconst 0) 21 := ⟨1, by decide +kernel, rfl, rfl⟩
theorem F_179_21 : F 179 21 (.iaload) 22 := ⟨1, by decide +kernel, rfl, rfl⟩
theorem F_179_22 : F 179 22 (.bipush 6) 24 := ⟨2, by decide +kernel, rfl, rfl⟩
theorem F_179_24 : F 179 24 (.if_icmp .ge 7) 27 := ⟨3, by decide +kernel, rfl, rfl⟩
theorem F_179_27 : F 179 27 (.iconst 1) 28 := ⟨1, by decide +kernel, rfl, rfl⟩
theorem F_179_28 : F 179 28 (.goto 4) 31 := ⟨3, by decide +kernel, rfl, rfl⟩
theorem F_179_47 : F 179 47 (.iconst 1) 48 := ⟨1, by decide +kernel, rfl, rfl⟩
theorem F_179_48 : F 179 48 (.goto 4) 51 := ⟨3, by decide +kernel, rfl, rfl⟩
theorem F_179_86 : F 179 86 (.iload 4) 88 := ⟨2, by decide +kernel, rfl, rfl⟩
theorem F_179_88 : F 179 88 (.iconst 4) 89 := ⟨1, by decide +kernel, rfl, rfl⟩
theorem F_179_89 : F 179 89 (.if_icmp .ge 34) 92 := ⟨3, by decide +kernel, rfl, rfl⟩
theorem F_179_123 : F 179 123 (.aload_n 0) 124 := ⟨1, by decide +kernel, rfl, rfl⟩
theorem F_179_124 : F 179 124 (.getfield 96) 127 := ⟨3, by decide +kernel, rfl, rfl⟩
theorem F_179_127 : F 179 127 (.ifCond .eq 20) 130 := ⟨3, by decide +kernel, rfl, rfl⟩
theorem F_179_147 : F 179 147 (.aload_n 0) 148 := ⟨1, by decide +kernel, rfl, rfl⟩
theorem F_179_148 : F 179 148 (.iload_n 1) 149 := ⟨1, by decide +kernel, rfl, rfl⟩
theorem F_179_149 : F 179 149 (.invokevirtual 103) 152 := ⟨3, by decide +kernel, rfl, rfl⟩
theorem F_179_152 : F 179 152 (.return_) 153 := ⟨1, by decide +kernel, rfl, rfl⟩
theorem rt_179 : m_r 179 = none := by decide +kernel
theorem F_179_130 : F 179 130 (.aload_n 0) 131 := ⟨1, by decide +kernel, rfl, rfl⟩
theorem F_179_131 : F 179 131 (.getfield 28) 134 := ⟨3, by decide +kernel, rfl, rfl⟩
theorem F_179_134 : F 179 134 (.iload_n 3) 135 := ⟨1, by decide +kernel, rfl, rfl⟩
theorem F_179_135 : F 179 135 (.iload_n 2) 136 := ⟨1, by decide +kernel, rfl, rfl⟩
theorem F_179_136 : F 179 136 (.iastore) 137 := ⟨1, by decide +kernel, rfl, rfl⟩
theorem F_179_137 : F 179 137 (.aload_n 0) 138 := ⟨1, by decide +kernel, rfl, rfl⟩
theorem F_179_138 : F 179 138 (.getfield 28) 141 := ⟨3, by decide +kernel, rfl, rfl⟩
theorem F_179_141 : F 179 141 (.iconst 0) 142 := ⟨1, by decide +kernel, rfl, rfl⟩
theorem F_179_142 : F 179 142 (.dup2) 143 := ⟨1, by decide +kernel, rfl, rfl⟩
theorem F_179_143 : F 179 143 (.iaload) 144 := ⟨1, by decide +kernel, rfl, rfl⟩
theorem F_179_144 : F 179 144 (.iconst 1) 145 := ⟨1, by decide +kernel, rfl, rfl⟩
theorem F_179_145 : F 179 145 (.iadd) 146 := ⟨1, by decide +kernel, rfl, rfl⟩
theorem F_179_146 : F 179 146 (.iastore) 147 := ⟨1, by decide +kernel, rfl, rfl⟩
theorem F_179_92 : F 179 92 (.aload_n 0) 93 := ⟨1, by decide +kernel, rfl, rfl⟩
theorem F_179_93 : F 179 93 (.getfield 96) 96 := ⟨3, by decide +kernel, rfl, rfl⟩
theorem F_179_96 : F 179 96 (.ifCond .eq 27) 99 := ⟨3, by decide +kernel, rfl, rfl⟩
theorem F_179_99 : F 179 99 (.aload_n 0) 100 := ⟨1, by decide +kernel, rfl, rfl⟩
theorem F_179_100 : F 179 100 (.getfield 28) 103 := ⟨3, by decide +kernel, rfl, rfl⟩
theorem F_179_103 : F 179 103 (.iload_n 3) 104 := ⟨1, by decide +kernel, rfl, rfl⟩
theorem F_179_104 : F 179 104 (.iconst 1) 105 := ⟨1, by decide +kernel, rfl, rfl⟩
theorem F_179_105 : F 179 105 (.iadd) 106 := ⟨1, by decide +kernel, rfl, rfl⟩
theorem F_179_106 : F 179 106 (.iload 4) 108 := ⟨2, by decide +kernel, rfl, rfl⟩
theorem F_179_108 : F 179 108 (.iadd) 109 := ⟨1, by decide +kernel, rfl, rfl⟩
theorem F_179_109 : F 179 109 (.aload_n 0) 110 := ⟨1, by decide +kernel, rfl, rfl⟩
theorem F_179_110 : F 179 110 (.iload_n 1) 111 := ⟨1, by decide +kernel, rfl, rfl⟩
theorem F_179_111 : F 179 111 (.bipush 9) 113 := ⟨2, by decide +kernel, rfl, rfl⟩
theorem F_179_113 : F 179 113 (.invokevirtual 107) 116 := ⟨3, by decide +kernel, rfl, rfl⟩
theorem F_179_116 : F 179 116 (.iastore) 117 := ⟨1, by decide +kernel, rfl, rfl⟩
theorem F_179_117 : F 179 117 (.iinc 4 1) 120 := ⟨3, by decide +kernel, rfl, rfl⟩
theorem F_179_120 : F 179 120 (.goto (-34)) 123 := ⟨3, by decide +kernel, rfl, rfl⟩
theorem t_X6_readsWood {X : List Int32} {d : Nat} {s : m_St} {P : Option Value → m_St → Prop} {t : Int} (t0 : 0 ≤ t) (t4 : t < 4)
    (l1 : rdk s t)
    (l2 : rdk (skS s t) t)
    (l3 : inR (lkM (skS s t) t))
    (l4 : ¬ (lkM (skS s t) t) = 119 → rdk (m_upd (m_upd (skS s t) 77 19 0) 77 18 ((skS s t) 77 18)) t)
    (l5 : ¬ (lkM (skS s t) t) = 119 → rdk (fgS (m_upd (m_upd (skS s t) 77 19 0) 77 18 ((skS s t) 77 18)) t 9) t)
    (l6 : ¬ (lkM (skS s t) t) = 119 → inR ((fgS (fgS (m_upd (m_upd (skS s t) 77 19 0) 77 18 ((skS s t) 77 18)) t 9) t 9) 77 19))
    (l7 : ¬ (lkM (skS s t) t) = 119 → ((fgS (fgS (m_upd (m_upd (skS s t) 77 19 0) 77 18 ((skS s t) 77 18)) t 9) t 9) 77 19) = 0 → rdk (m_upd (m_upd (fgS (fgS (m_upd (m_upd (skS s t) 77 19 0) 77 18 ((skS s t) 77 18)) t 9) t 9) 84 1 ((10 * (lkM (m_upd (m_upd (skS s t) 77 19 0) 77 18 ((skS s t) 77 18)) t - 48)) + (lkM (fgS (m_upd (m_upd (skS s t) 77 19 0) 77 18 ((skS s t) 77 18)) t 9) t - 48))) 84 2 ((10 * (lkM (m_upd (m_upd (skS s t) 77 19 0) 77 18 ((skS s t) 77 18)) t - 48)) + (lkM (fgS (m_upd (m_upd (skS s t) 77 19 0) 77 18 ((skS s t) 77 18)) t 9) t - 48))) t)
    (l8 : ¬ (lkM (skS s t) t) = 119 → ((fgS (fgS (m_upd (m_upd (skS s t) 77 19 0) 77 18 ((skS s t) 77 18)) t 9) t 9) 77 19) = 0 → P none (skS (m_upd (m_upd (fgS (fgS (m_upd (m_upd (skS s t) 77 19 0) 77 18 ((skS s t) 77 18)) t 9) t 9) 84 1 ((10 * (lkM (m_upd (m_upd (skS s t) 77 19 0) 77 18 ((skS s t) 77 18)) t - 48)) + (lkM (fgS (m_upd (m_upd (skS s t) 77 19 0) 77 18 ((skS s t) 77 18)) t 9) t - 48))) 84 2 ((10 * (lkM (m_upd (m_upd (skS s t) 77 19 0) 77 18 ((skS s t) 77 18)) t - 48)) + (lkM (fgS (m_upd (m_upd (skS s t) 77 19 0) 77 18 ((skS s t) 77 18)) t 9) t - 48))) t))
    (l9 : ¬ (lkM (skS s t) t) = 119 → ¬ ((fgS (fgS (m_upd (m_upd (skS s t) 77 19 0) 77 18 ((skS s t) 77 18)) t 9) t 9) 77 19) = 0 → inR ((10 * (lkM (m_upd (m_upd (skS s t) 77 19 0) 77 18 ((skS s t) 77 18)) t - 48)) + (lkM (fgS (m_upd (m_upd (skS s t) 77 19 0) 77 18 ((skS s t) 77 18)) t 9) t - 48)))
    (l10 : ¬ (lkM (skS s t) t) = 119 → ¬ ((fgS (fgS (m_upd (m_upd (skS s t) 77 19 0) 77 18 ((skS s t) 77 18)) t 9) t 9) 77 19) = 0 → ((10 * (lkM (m_upd (m_upd (skS s t) 77 19 0) 77 18 ((skS s t) 77 18)) t - 48)) + (lkM (fgS (m_upd (m_upd (skS s t) 77 19 0) 77 18 ((skS s t) 77 18)) t 9) t - 48)) ≤ 40 → rdk (m_upd (m_upd (fgS (fgS (m_upd (m_upd (skS s t) 77 19 0) 77 18 ((skS s t) 77 18)) t 9) t 9) 84 1 ((10 * (lkM (m_upd (m_upd (skS s t) 77 19 0) 77 18 ((skS s t) 77 18)) t - 48)) + (lkM (fgS (m_upd (m_upd (skS s t) 77 19 0) 77 18 ((skS s t) 77 18)) t 9) t - 48))) 84 2 ((10 * (lkM (m_upd (m_upd (skS s t) 77 19 0) 77 18 ((skS s t) 77 18)) t - 48)) + (lkM (fgS (m_upd (m_upd (skS s t) 77 19 0) 77 18 ((skS s t) 77 18)) t 9) t - 48))) t)
    (l11 : ¬ (lkM (skS s t) t) = 119 → ¬ ((fgS (fgS (m_upd (m_upd (skS s t) 77 19 0) 77 18 ((skS s t) 77 18)) t 9) t 9) 77 19) = 0 → ((10 * (lkM (m_upd (m_upd (skS s t) 77 19 0) 77 18 ((skS s t) 77 18)) t - 48)) + (lkM (fgS (m_upd (m_upd (skS s t) 77 19 0) 77 18 ((skS s t) 77 18)) t 9) t - 48)) ≤ 40 → P none (skS (m_upd (m_upd (fgS (fgS (m_upd (m_upd (skS s t) 77 19 0) 77 18 ((skS s t) 77 18)) t 9) t 9) 84 1 ((10 * (lkM (m_upd (m_upd (skS s t) 77 19 0) 77 18 ((skS s t) 77 18)) t - 48)) + (lkM (fgS (m_upd (m_upd (skS s t) 77 19 0) 77 18 ((skS s t) 77 18)) t 9) t - 48))) 84 2 ((10 * (lkM (m_upd (m_upd (skS s t) 77 19 0) 77 18 ((skS s t) 77 18)) t - 48)) + (lkM (fgS (m_upd (m_upd (skS s t) 77 19 0) 77 18 ((skS s t) 77 18)) t 9) t - 48))) t))
    (l12 : ¬ (lkM (skS s t) t) = 119 → ¬ ((fgS (fgS (m_upd (m_upd (skS s t) 77 19 0) 77 18 ((skS s t) 77 18)) t 9) t 9) 77 19) = 0 → 40 < ((10 * (lkM (m_upd (m_upd (skS s t) 77 19 0) 77 18 ((skS s t) 77 18)) t - 48)) + (lkM (fgS (m_upd (m_upd (skS s t) 77 19 0) 77 18 ((skS s t) 77 18)) t 9) t - 48)) → rdk (m_upd (m_upd (m_upd (m_upd (fgS (fgS (m_upd (m_upd (skS s t) 77 19 0) 77 18 ((skS s t) 77 18)) t 9) t 9) 77 19 0) 77 18 (((fgS (fgS (m_upd (m_upd (skS s t) 77 19 0) 77 18 ((skS s t) 77 18)) t 9) t 9) 77 18) - 2)) 84 1 ((10 * (lkM (m_upd (m_upd (skS s t) 77 19 0) 77 18 ((skS s t) 77 18)) t - 48)) + (lkM (fgS (m_upd (m_upd (skS s t) 77 19 0) 77 18 ((skS s t) 77 18)) t 9) t - 48))) 84 2 ((10 * (lkM (m_upd (m_upd (skS s t) 77 19 0) 77 18 ((skS s t) 77 18)) t - 48)) + (lkM (fgS (m_upd (m_upd (skS s t) 77 19 0) 77 18 ((skS s t) 77 18)) t 9) t - 48))) t)
    (l13 : ¬ (lkM (skS s t) t) = 119 → ¬ ((fgS (fgS (m_upd (m_upd (skS s t) 77 19 0) 77 18 ((skS s t) 77 18)) t 9) t 9) 77 19) = 0 → 40 < ((10 * (lkM (m_upd (m_upd (skS s t) 77 19 0) 77 18 ((skS s t) 77 18)) t - 48)) + (lkM (fgS (m_upd (m_upd (skS s t) 77 19 0) 77 18 ((skS s t) 77 18)) t 9) t - 48)) → P none (skS (m_upd (m_upd (m_upd (m_upd (fgS (fgS (m_upd (m_upd (skS s t) 77 19 0) 77 18 ((skS s t) 77 18)) t 9) t 9) 77 19 0) 77 18 (((fgS (fgS (m_upd (m_upd (skS s t) 77 19 0) 77 18 ((skS s t) 77 18)) t 9) t 9) 77 18) - 2)) 84 1 ((10 * (lkM (m_upd (m_upd (skS s t) 77 19 0) 77 18 ((skS s t) 77 18)) t - 48)) + (lkM (fgS (m_upd (m_upd (skS s t) 77 19 0) 77 18 ((skS s t) 77 18)) t 9) t - 48))) 84 2 ((10 * (lkM (m_upd (m_upd (skS s t) 77 19 0) 77 18 ((skS s t) 77 18)) t - 48)) + (lkM (fgS (m_upd (m_upd (skS s t) 77 19 0) 77 18 ((skS s t) 77 18)) t 9) t - 48))) t))
    (l14 : (lkM (skS s t) t) = 119 → rdk (m_upd (m_upd (skS s t) 77 19 1) 77 18 (((skS s t) 77 18) + 1)) t)
    (l15 : (lkM (skS s t) t) = 119 → rdk (fgS (m_upd (m_upd (skS s t) 77 19 1) 77 18 (((skS s t) 77 18) + 1)) t 9) t)
    (l16 : (lkM (skS s t) t) = 119 → inR ((fgS (fgS (m_upd (m_upd (skS s t) 77 19 1) 77 18 (((skS s t) 77 18) + 1)) t 9) t 9) 77 19))
    (l17 : (lkM (skS s t) t) = 119 → ((fgS (fgS (m_upd (m_upd (skS s t) 77 19 1) 77 18 (((skS s t) 77 18) + 1)) t 9) t 9) 77 19) = 0 → rdk (m_upd (m_upd (fgS (fgS (m_upd (m_upd (skS s t) 77 19 1) 77 18 (((skS s t) 77 18) + 1)) t 9) t 9) 84 1 ((10 * (lkM (m_upd (m_upd (skS s t) 77 19 1) 77 18 (((skS s t) 77 18) + 1)) t - 48)) + (lkM (fgS (m_upd (m_upd (skS s t) 77 19 1) 77 18 (((skS s t) 77 18) + 1)) t 9) t - 48))) 84 2 ((10 * (lkM (m_upd (m_upd (skS s t) 77 19 1) 77 18 (((skS s t) 77 18) + 1)) t - 48)) + (lkM (fgS (m_upd (m_upd (skS s t) 77 19 1) 77 18 (((skS s t) 77 18) + 1)) t 9) t - 48))) t)
    (l18 : (lkM (skS s t) t) = 119 → ((fgS (fgS (m_upd (m_upd (skS s t) 77 19 1) 77 18 (((skS s t) 77 18) + 1)) t 9) t 9) 77 19) = 0 → P none (skS (m_upd (m_upd (fgS (fgS (m_upd (m_upd (skS s t) 77 19 1) 77 18 (((skS s t) 77 18) + 1)) t 9) t 9) 84 1 ((10 * (lkM (m_upd (m_upd (skS s t) 77 19 1) 77 18 (((skS s t) 77 18) + 1)) t - 48)) + (lkM (fgS (m_upd (m_upd (skS s t) 77 19 1) 77 18 (((skS s t) 77 18) + 1)) t 9) t - 48))) 84 2 ((10 * (lkM (m_upd (m_upd (skS s t) 77 19 1) 77 18 (((skS s t) 77 18) + 1)) t - 48)) + (lkM (fgS (m_upd (m_upd (skS s t) 77 19 1) 77 18 (((skS s t) 77 18) + 1)) t 9) t - 48))) t))
    (l19 : (lkM (skS s t) t) = 119 → ¬ ((fgS (fgS (m_upd (m_upd (skS s t) 77 19 1) 77 18 (((skS s t) 77 18) + 1)) t 9) t 9) 77 19) = 0 → inR ((10 * (lkM (m_upd (m_upd (skS s t) 77 19 1) 77 18 (((skS s t) 77 18) + 1)) t - 48)) + (lkM (fgS (m_upd (m_upd (skS s t) 77 19 1) 77 18 (((skS s t) 77 18) + 1)) t 9) t - 48)))
    (l20 : (lkM (skS s t) t) = 119 → ¬ ((fgS (fgS (m_upd (m_upd (skS s t) 77 19 1) 77 18 (((skS s t) 77 18) + 1)) t 9) t 9) 77 19) = 0 → ((10 * (lkM (m_upd (m_upd (skS s t) 77 19 1) 77 18 (((skS s t) 77 18) + 1)) t - 48)) + (lkM (fgS (m_upd (m_upd (skS s t) 77 19 1) 77 18 (((skS s t) 77 18) + 1)) t 9) t - 48)) ≤ 40 → rdk (m_upd (m_upd (fgS (fgS (m_upd (m_upd (skS s t) 77 19 1) 77 18 (((skS s t) 77 18) + 1)) t 9) t 9) 84 1 ((10 * (lkM (m_upd (m_upd (skS s t) 77 19 1) 77 18 (((skS s t) 77 18) + 1)) t - 48)) + (lkM (fgS (m_upd (m_upd (skS s t) 77 19 1) 77 18 (((skS s t) 77 18) + 1)) t 9) t - 48))) 84 2 ((10 * (lkM (m_upd (m_upd (skS s t) 77 19 1) 77 18 (((skS s t) 77 18) + 1)) t - 48)) + (lkM (fgS (m_upd (m_upd (skS s t) 77 19 1) 77 18 (((skS s t) 77 18) + 1)) t 9) t - 48))) t)
    (l21 : (lkM (skS s t) t) = 119 → ¬ ((fgS (fgS (m_upd (m_upd (skS s t) 77 19 1) 77 18 (((skS s t) 77 18) + 1)) t 9) t 9) 77 19) = 0 → ((10 * (lkM (m_upd (m_upd (skS s t) 77 19 1) 77 18 (((skS s t) 77 18) + 1)) t - 48)) + (lkM (fgS (m_upd (m_upd (skS s t) 77 19 1) 77 18 (((skS s t) 77 18) + 1)) t 9) t - 48)) ≤ 40 → P none (skS (m_upd (m_upd (fgS (fgS (m_upd (m_upd (skS s t) 77 19 1) 77 18 (((skS s t) 77 18) + 1)) t 9) t 9) 84 1 ((10 * (lkM (m_upd (m_upd (skS s t) 77 19 1) 77 18 (((skS s t) 77 18) + 1)) t - 48)) + (lkM (fgS (m_upd (m_upd (skS s t) 77 19 1) 77 18 (((skS s t) 77 18) + 1)) t 9) t - 48))) 84 2 ((10 * (lkM (m_upd (m_upd (skS s t) 77 19 1) 77 18 (((skS s t) 77 18) + 1)) t - 48)) + (lkM (fgS (m_upd (m_upd (skS s t) 77 19 1) 77 18 (((skS s t) 77 18) + 1)) t 9) t - 48))) t))
    (l22 : (lkM (skS s t) t) = 119 → ¬ ((fgS (fgS (m_upd (m_upd (skS s t) 77 19 1) 77 18 (((skS s t) 77 18) + 1)) t 9) t 9) 77 19) = 0 → 40 < ((10 * (lkM (m_upd (m_upd (skS s t) 77 19 1) 77 18 (((skS s t) 77 18) + 1)) t - 48)) + (lkM (fgS (m_upd (m_upd (skS s t) 77 19 1) 77 18 (((skS s t) 77 18) + 1)) t 9) t - 48)) → rdk (m_upd (m_upd (m_upd (m_upd (fgS (fgS (m_upd (m_upd (skS s t) 77 19 1) 77 18 (((skS s t) 77 18) + 1)) t 9) t 9) 77 19 0) 77 18 (((fgS (fgS (m_upd (m_upd (skS s t) 77 19 1) 77 18 (((skS s t) 77 18) + 1)) t 9) t 9) 77 18) - 2)) 84 1 ((10 * (lkM (m_upd (m_upd (skS s t) 77 19 1) 77 18 (((skS s t) 77 18) + 1)) t - 48)) + (lkM (fgS (m_upd (m_upd (skS s t) 77 19 1) 77 18 (((skS s t) 77 18) + 1)) t 9) t - 48))) 84 2 ((10 * (lkM (m_upd (m_upd (skS s t) 77 19 1) 77 18 (((skS s t) 77 18) + 1)) t - 48)) + (lkM (fgS (m_upd (m_upd (skS s t) 77 19 1) 77 18 (((skS s t) 77 18) + 1)) t 9) t - 48))) t)
    (l23 : (lkM (skS s t) t) = 119 → ¬ ((fgS (fgS (m_upd (m_upd (skS s t) 77 19 1) 77 18 (((skS s t) 77 18) + 1)) t 9) t 9) 77 19) = 0 → 40 < ((10 * (lkM (m_upd (m_upd (skS s t) 77 19 1) 77 18 (((skS s t) 77 18) + 1)) t - 48)) + (lkM (fgS (m_upd (m_upd (skS s t) 77 19 1) 77 18 (((skS s t) 77 18) + 1)) t 9) t - 48)) → P none (skS (m_upd (m_upd (m_upd (m_upd (fgS (fgS (m_upd (m_upd (skS s t) 77 19 1) 77 18 (((skS s t) 77 18) + 1)) t 9) t 9) 77 19 0) 77 18 (((fgS (fgS (m_upd (m_upd (skS s t) 77 19 1) 77 18 (((skS s t) 77 18) + 1)) t 9) t 9) 77 18) - 2)) 84 1 ((10 * (lkM (m_upd (m_upd (skS s t) 77 19 1) 77 18 (((skS s t) 77 18) + 1)) t - 48)) + (lkM (fgS (m_upd (m_upd (skS s t) 77 19 1) 77 18 (((skS s t) 77 18) + 1)) t 9) t - 48))) 84 2 ((10 * (lkM (m_upd (m_upd (skS s t) 77 19 1) 77 18 (((skS s t) 77 18) + 1)) t - 48)) + (lkM (fgS (m_upd (m_upd (skS s t) 77 19 1) 77 18 (((skS s t) 77 18) + 1)) t 9) t - 48))) t))
    : Cl X (d + 2) 174 [vR 77, vI t] s P := by
  refine Cl_of n_174 rfl ?_
  show Rn _ _ _ _ [some (vR 77), some (vI t), none, none] [] _ _
  refine r_ldR_n (m := 0) F_174_0 rfl ?_
  refine r_ldI_n (m := 1) F_174_1 rfl ?_
  refine r_virt2 (A := [vI t]) (r := []) (n := 1) F_174_2 o_174 il_6_103 rfl rfl rfl rfl ty_77 vy_175 (lay_le n_175 rfl) ?_
  refine sp_skipsM t0 t4 l1 ?_
  show Rn _ _ _ _ _ [] _ _
  refine r_ldR_n (m := 0) F_174_5 rfl ?_
  refine r_ldR_n (m := 0) F_174_6 rfl ?_
  refine r_ldI_n (m := 1) F_174_7 rfl ?_
  refine r_virt2 (A := [vI t]) (r := [vR 77]) (n := 1) F_174_8 o_174 il_6_100 rfl rfl rfl rfl ty_77 vy_176 (lay_le n_176 rfl) ?_
  refine sp_look t0 t4 l2 ?_
  show Rn _ _ _ _ _ [vI (lkM (skS s t) t), vR 77] _ _
  refine r_bipush F_174_11 bi_119 ?_
  refine r_icmp (t := 20) F_174_13 rfl l3 (by decide) ?_ ?_
  · intro e1
    replace e1 : ¬ (lkM (skS s t) t) = 119 := e1
    refine r_iconst F_174_20 ?_
    refine r_putZ (J := 19) F_174_21 o_174 fl_6_96 ty_77 (by decide) rfl kd_77_19 pf_6_19 (Or.inl rfl) ?_
    refine r_ldR_n (m := 0) F_174_24 rfl ?_
    refine r_dupR F_174_25 ?_
    refine r_getI (J := 18) (e := ((skS s t) 77 18)) F_174_26 o_174 fl_6_93 ty_77 (by decide) rfl kd_77_18 (upd_nj (by decide)) ?_
    refine r_ldR_n (m := 0) F_174_29 rfl ?_
    refine r_getI (J := 19) (e := 0) F_174_30 o_174 fl_6_96 ty_77 (by decide) rfl kd_77_19 upd_eq ?_
    refine r_ifT (t := 40) F_174_33 rfl (by decide) (by show (0 : Int) = 0; decide) ?_
    refine r_iconst F_174_40 ?_
    refine r_iadd (e := ((skS s t) 77 18)) F_174_41 (Int.add_zero _) ?_
    refine r_putI (J := 18) F_174_42 o_174 fl_6_93 ty_77 (by decide) rfl kd_77_18 pf_6_18 ?_
    refine r_ldR_n (m := 0) F_174_45 rfl ?_
    refine r_ldI_n (m := 1) F_174_46 rfl ?_
    refine r_bipush F_174_47 bi_9 ?_
    refine r_virt2 (A := [vI t, vI 9]) (r := []) (n := 2) F_174_49 o_174 il_6_107 rfl rfl rfl rfl ty_77 vy_177 (lay_le n_177 rfl) ?_
    refine sp_figureM t0 t4 (l4 e1) (by decide) (by decide) ?_
    show Rn _ _ _ _ _ [vI (lkM (m_upd (m_upd (skS s t) 77 19 0) 77 18 ((skS s t) 77 18)) t - 48)] _ _
    refine r_stI_n (m := 2) (L' := [some (vR 77), some (vI t), some (vI (lkM (m_upd (m_upd (skS s t) 77 19 0) 77 18 ((skS s t) 77 18)) t - 48)), none]) F_174_52 rfl rfl ?_
    refine r_ldR_n (m := 0) F_174_53 rfl ?_
    refine r_ldI_n (m := 1) F_174_54 rfl ?_
    refine r_bipush F_174_55 bi_9 ?_
    refine r_virt2 (A := [vI t, vI 9]) (r := []) (n := 2) F_174_57 o_174 il_6_107 rfl rfl rfl rfl ty_77 vy_177 (lay_le n_177 rfl) ?_
    refine sp_figureM t0 t4 (l5 e1) (by decide) (by decide) ?_
    show Rn _ _ _ _ _ [vI (lkM (fgS (m_upd (m_upd (skS s t) 77 19 0) 77 18 ((skS s t) 77 18)) t 9) t - 48)] _ _
    refine r_stI_n (m := 3) (L' := [some (vR 77), some (vI t), some (vI (lkM (m_upd (m_upd (skS s t) 77 19 0) 77 18 ((skS s t) 77 18)) t - 48)), some (vI (lkM (fgS (m_upd (m_upd (skS s t) 77 19 0) 77 18 ((skS s t) 77 18)) t 9) t - 48))]) F_174_60 rfl rfl ?_
    refine r_ldR_n (m := 0) F_174_61 rfl ?_
    refine r_getI (J := 19) (e := ((fgS (fgS (m_upd (m_upd (skS s t) 77 19 0) 77 18 ((skS s t) 77 18)) t 9) t 9) 77 19)) F_174_62 o_174 fl_6_96 ty_77 (by decide) rfl kd_77_19 rfl ?_
    refine r_if (t := 94) F_174_65 rfl (l6 e1) ?_ ?_
    · intro e2
      replace e2 : ((fgS (fgS (m_upd (m_upd (skS s t) 77 19 0) 77 18 ((skS s t) 77 18)) t 9) t 9) 77 19) = 0 := e2
      refine r_ldR_n (m := 0) F_174_94 rfl ?_
      refine r_getR (J := 6) F_174_95 o_174 fl_6_28 ty_77 (by decide) rfl (kd2 kd_77_6 (by decide)) (kd9 kd_77_6 (by decide)) rf_77_6 ?_
      refine r_iconst F_174_98 ?_
      refine r_bipush F_174_99 bi_10 ?_
      refine r_ldI_n (m := 2) F_174_101 rfl ?_
      refine r_imul F_174_102 rfl ?_
      refine r_ldI_n (m := 3) F_174_103 rfl ?_
      refine r_iadd F_174_104 rfl ?_
      refine r_iast F_174_105 ty_84 (by decide) (lt_ln ln_84 (by decide)) ?_
      refine r_ldR_n (m := 0) F_174_106 rfl ?_
      refine r_getR (J := 6) F_174_107 o_174 fl_6_28 ty_77 (by decide) rfl (kd2 kd_77_6 (by decide)) (kd9 kd_77_6 (by decide)) rf_77_6 ?_
      refine r_iconst F_174_110 ?_
      refine r_ldR_n (m := 0) F_174_111 rfl ?_
      refine r_getR (J := 6) F_174_112 o_174 fl_6_28 ty_77 (by decide) rfl (kd2 kd_77_6 (by decide)) (kd9 kd_77_6 (by decide)) rf_77_6 ?_
      refine r_iconst F_174_115 ?_
      refine r_iald (e := ((10 * (lkM (m_upd (m_upd (skS s t) 77 19 0) 77 18 ((skS s t) 77 18)) t - 48)) + (lkM (fgS (m_upd (m_upd (skS s t) 77 19 0) 77 18 ((skS s t) 77 18)) t 9) t - 48))) F_174_116 ty_84 (by decide) (lt_ln ln_84 (by decide)) upd_eq ?_
      refine r_iast F_174_117 ty_84 (by decide) (lt_ln ln_84 (by decide)) ?_
      refine r_ldR_n (m := 0) F_174_118 rfl ?_
      refine r_ldI_n (m := 1) F_174_119 rfl ?_
      refine r_virt2 (A := [vI t]) (r := []) (n := 1) F_174_120 o_174 il_6_103 rfl rfl rfl rfl ty_77 vy_175 (lay_le n_175 rfl) ?_
      refine sp_skipsM t0 t4 (l7 e1 e2) ?_
      show Rn _ _ _ _ _ [] _ _
      refine r_return F_174_123 rt_174 ?_
      exact (l8 e1 e2)
    · intro e3
      replace e3 : ¬ ((fgS (fgS (m_upd (m_upd (skS s t) 77 19 0) 77 18 ((skS s t) 77 18)) t 9) t 9) 77 19) = 0 := e3
      refine r_bipush F_174_68 bi_10 ?_
      refine r_ldI_n (m := 2) F_174_70 rfl ?_
      refine r_imul F_174_71 rfl ?_
      refine r_ldI_n (m := 3) F_174_72 rfl ?_
      refine r_iadd F_174_73 rfl ?_
      refine r_bipush F_174_74 bi_40 ?_
      refine r_icmp (t := 94) F_174_76 rfl (l9 e1 e3) (by decide) ?_ ?_
      · intro e4
        replace e4 : ((10 * (lkM (m_upd (m_upd (skS s t) 77 19 0) 77 18 ((skS s t) 77 18)) t - 48)) + (lkM (fgS (m_upd (m_upd (skS s t) 77 19 0) 77 18 ((skS s t) 77 18)) t 9) t - 48)) ≤ 40 := e4
        refine r_ldR_n (m := 0) F_174_94 rfl ?_
        refine r_getR (J := 6) F_174_95 o_174 fl_6_28 ty_77 (by decide) rfl (kd2 kd_77_6 (by decide)) (kd9 kd_77_6 (by decide)) rf_77_6 ?_
        refine r_iconst F_174_98 ?_
        refine r_bipush F_174_99 bi_10 ?_
        refine r_ldI_n (m := 2) F_174_101 rfl ?_
        refine r_imul F_174_102 rfl ?_
        refine r_ldI_n (m := 3) F_174_103 rfl ?_
        refine r_iadd F_174_104 rfl ?_
        refine r_iast F_174_105 ty_84 (by decide) (lt_ln ln_84 (by decide)) ?_
        refine r_ldR_n (m := 0) F_174_106 rfl ?_
        refine r_getR (J := 6) F_174_107 o_174 fl_6_28 ty_77 (by decide) rfl (kd2 kd_77_6 (by decide)) (kd9 kd_77_6 (by decide)) rf_77_6 ?_
        refine r_iconst F_174_110 ?_
        refine r_ldR_n (m := 0) F_174_111 rfl ?_
        refine r_getR (J := 6) F_174_112 o_174 fl_6_28 ty_77 (by decide) rfl (kd2 kd_77_6 (by decide)) (kd9 kd_77_6 (by decide)) rf_77_6 ?_
        refine r_iconst F_174_115 ?_
        refine r_iald (e := ((10 * (lkM (m_upd (m_upd (skS s t) 77 19 0) 77 18 ((skS s t) 77 18)) t - 48)) + (lkM (fgS (m_upd (m_upd (skS s t) 77 19 0) 77 18 ((skS s t) 77 18)) t 9) t - 48))) F_174_116 ty_84 (by decide) (lt_ln ln_84 (by decide)) upd_eq ?_
        refine r_iast F_174_117 ty_84 (by decide) (lt_ln ln_84 (by decide)) ?_
        refine r_ldR_n (m := 0) F_174_118 rfl ?_
        refine r_ldI_n (m := 1) F_174_119 rfl ?_
        refine r_virt2 (A := [vI t]) (r := []) (n := 1) F_174_120 o_174 il_6_103 rfl rfl rfl rfl ty_77 vy_175 (lay_le n_175 rfl) ?_
        refine sp_skipsM t0 t4 (l10 e1 e3 e4) ?_
        show Rn _ _ _ _ _ [] _ _
        refine r_return F_174_123 rt_174 ?_
        exact (l11 e1 e3 e4)
      · intro e5
        replace e5 : 40 < ((10 * (lkM (m_upd (m_upd (skS s t) 77 19 0) 77 18 ((skS s t) 77 18)) t - 48)) + (lkM (fgS (m_upd (m_upd (skS s t) 77 19 0) 77 18 ((skS s t) 77 18)) t 9) t - 48)) := (Int.not_le.mp e5)
        refine r_ldR_n (m := 0) F_174_79 rfl ?_
        refine r_iconst F_174_80 ?_
        refine r_putZ (J := 19) F_174_81 o_174 fl_6_96 ty_77 (by decide) rfl kd_77_19 pf_6_19 (Or.inl rfl) ?_
        refine r_ldR_n (m := 0) F_174_84 rfl ?_
        refine r_dupR F_174_85 ?_
        refine r_getI (J := 18) (e := ((fgS (fgS (m_upd (m_upd (skS s t) 77 19 0) 77 18 ((skS s t) 77 18)) t 9) t 9) 77 18)) F_174_86 o_174 fl_6_93 ty_77 (by decide) rfl kd_77_18 (upd_nj (by decide)) ?_
        refine r_iconst F_174_89 ?_
        refine r_isub F_174_90 rfl ?_
        refine r_putI (J := 18) F_174_91 o_174 fl_6_93 ty_77 (by decide) rfl kd_77_18 pf_6_18 ?_
        refine r_ldR_n (m := 0) F_174_94 rfl ?_
        refine r_getR (J := 6) F_174_95 o_174 fl_6_28 ty_77 (by decide) rfl (kd2 kd_77_6 (by decide)) (kd9 kd_77_6 (by decide)) rf_77_6 ?_
        refine r_iconst F_174_98 ?_
        refine r_bipush F_174_99 bi_10 ?_
        refine r_ldI_n (m := 2) F_174_101 rfl ?_
        refine r_imul F_174_102 rfl ?_
        refine r_ldI_n (m := 3) F_174_103 rfl ?_
        refine r_iadd F_174_104 rfl ?_
        refine r_iast F_174_105 ty_84 (by decide) (lt_ln ln_84 (by decide)) ?_
        refine r_ldR_n (m := 0) F_174_106 rfl ?_
        refine r_getR (J := 6) F_174_107 o_174 fl_6_28 ty_77 (by decide) rfl (kd2 kd_77_6 (by decide)) (kd9 kd_77_6 (by decide)) rf_77_6 ?_
        refine r_iconst F_174_110 ?_
        refine r_ldR_n (m := 0) F_174_111 rfl ?_
        refine r_getR (J := 6) F_174_112 o_174 fl_6_28 ty_77 (by decide) rfl (kd2 kd_77_6 (by decide)) (kd9 kd_77_6 (by decide)) rf_77_6 ?_
        refine r_iconst F_174_115 ?_
        refine r_iald (e := ((10 * (lkM (m_upd (m_upd (skS s t) 77 19 0) 77 18 ((skS s t) 77 18)) t - 48)) + (lkM (fgS (m_upd (m_upd (skS s t) 77 19 0) 77 18 ((skS s t) 77 18)) t 9) t - 48))) F_174_116 ty_84 (by decide) (lt_ln ln_84 (by decide)) upd_eq ?_
        refine r_iast F_174_117 ty_84 (by decide) (lt_ln ln_84 (by decide)) ?_
        refine r_ldR_n (m := 0) F_174_118 rfl ?_
        refine r_ldI_n (m := 1) F_174_119 rfl ?_
        refine r_virt2 (A := [vI t]) (r := []) (n := 1) F_174_120 o_174 il_6_103 rfl rfl rfl rfl ty_77 vy_175 (lay_le n_175 rfl) ?_
        refine sp_skipsM t0 t4 (l12 e1 e3 e5) ?_
        show Rn _ _ _ _ _ [] _ _
        refine r_return F_174_123 rt_174 ?_
        exact (l13 e1 e3 e5)
  · intro e6
    replace e6 : (lkM (skS s t) t) = 119 := (Classical.not_not.mp e6)
    refine r_iconst F_174_16 ?_
    refine r_goto (t := 21) F_174_17 rfl ?_
    refine r_putZ (J := 19) F_174_21 o_174 fl_6_96 ty_77 (by decide) rfl kd_77_19 pf_6_19 (Or.inr rfl) ?_
    refine r_ldR_n (m := 0) F_174_24 rfl ?_
    refine r_dupR F_174_25 ?_
    refine r_getI (J := 18) (e := ((skS s t) 77 18)) F_174_26 o_174 fl_6_93 ty_77 (by decide) rfl kd_77_18 (upd_nj (by decide)) ?_
    refine r_ldR_n (m := 0) F_174_29 rfl ?_
    refine r_getI (J := 19) (e := 1) F_174_30 o_174 fl_6_96 ty_77 (by decide) rfl kd_77_19 upd_eq ?_
    refine r_ifF (t := 40) F_174_33 rfl (by decide) (by show ¬ ((1 : Int) = 0); decide) ?_
    refine r_iconst F_174_36 ?_
    refine r_goto (t := 41) F_174_37 rfl ?_
    refine r_iadd F_174_41 rfl ?_
    refine r_putI (J := 18) F_174_42 o_174 fl_6_93 ty_77 (by decide) rfl kd_77_18 pf_6_18 ?_
    refine r_ldR_n (m := 0) F_174_45 rfl ?_
    refine r_ldI_n (m := 1) F_174_46 rfl ?_
    refine r_bipush F_174_47 bi_9 ?_
    refine r_virt2 (A := [vI t, vI 9]) (r := []) (n := 2) F_174_49 o_174 il_6_107 rfl rfl rfl rfl ty_77 vy_177 (lay_le n_177 rfl) ?_
    refine sp_figureM t0 t4 (l14 e6) (by decide) (by decide) ?_
    show Rn _ _ _ _ _ [vI (lkM (m_upd (m_upd (skS s t) 77 19 1) 77 18 (((skS s t) 77 18) + 1)) t - 48)] _ _
    refine r_stI_n (m := 2) (L' := [some (vR 77), some (vI t), some (vI (lkM (m_upd (m_upd (skS s t) 77 19 1) 77 18 (((skS s t) 77 18) + 1)) t - 48)), none]) F_174_52 rfl rfl ?_
    refine r_ldR_n (m := 0) F_174_53 rfl ?_
    refine r_ldI_n (m := 1) F_174_54 rfl ?_
    refine r_bipush F_174_55 bi_9 ?_
    refine r_virt2 (A := [vI t, vI 9]) (r := []) (n := 2) F_174_57 o_174 il_6_107 rfl rfl rfl rfl ty_77 vy_177 (lay_le n_177 rfl) ?_
    refine sp_figureM t0 t4 (l15 e6) (by decide) (by decide) ?_
    show Rn _ _ _ _ _ [vI (lkM (fgS (m_upd (m_upd (skS s t) 77 19 1) 77 18 (((skS s t) 77 18) + 1)) t 9) t - 48)] _ _
    refine r_stI_n (m := 3) (L' := [some (vR 77), some (vI t), some (vI (lkM (m_upd (m_upd (skS s t) 77 19 1) 77 18 (((skS s t) 77 18) + 1)) t - 48)), some (vI (lkM (fgS (m_upd (m_upd (skS s t) 77 19 1) 77 18 (((skS s t) 77 18) + 1)) t 9) t - 48))]) F_174_60 rfl rfl ?_
    refine r_ldR_n (m := 0) F_174_61 rfl ?_
    refine r_getI (J := 19) (e := ((fgS (fgS (m_upd (m_upd (skS s t) 77 19 1) 77 18 (((skS s t) 77 18) + 1)) t 9) t 9) 77 19)) F_174_62 o_174 fl_6_96 ty_77 (by decide) rfl kd_77_19 rfl ?_
    refine r_if (t := 94) F_174_65 rfl (l16 e6) ?_ ?_
    · intro e7
      replace e7 : ((fgS (fgS (m_upd (m_upd (skS s t) 77 19 1) 77 18 (((skS s t) 77 18) + 1)) t 9) t 9) 77 19) = 0 := e7
      refine r_ldR_n (m := 0) F_174_94 rfl ?_
      refine r_getR (J := 6) F_174_95 o_174 fl_6_28 ty_77 (by decide) rfl (kd2 kd_77_6 (by decide)) (kd9 kd_77_6 (by decide)) rf_77_6 ?_
      refine r_iconst F_174_98 ?_
      refine r_bipush F_174_99 bi_10 ?_
      refine r_ldI_n (m := 2) F_174_101 rfl ?_
      refine r_imul F_174_102 rfl ?_
      refine r_ldI_n (m := 3) F_174_103 rfl ?_
      refine r_iadd F_174_104 rfl ?_
      refine r_iast F_174_105 ty_84 (by decide) (lt_ln ln_84 (by decide)) ?_
      refine r_ldR_n (m := 0) F_174_106 rfl ?_
      refine r_getR (J := 6) F_174_107 o_174 fl_6_28 ty_77 (by decide) rfl (kd2 kd_77_6 (by decide)) (kd9 kd_77_6 (by decide)) rf_77_6 ?_
      refine r_iconst F_174_110 ?_
      refine r_ldR_n (m := 0) F_174_111 rfl ?_
      refine r_getR (J := 6) F_174_112 o_174 fl_6_28 ty_77 (by decide) rfl (kd2 kd_77_6 (by decide)) (kd9 kd_77_6 (by decide)) rf_77_6 ?_
      refine r_iconst F_174_115 ?_
      refine r_iald (e := ((10 * (lkM (m_upd (m_upd (skS s t) 77 19 1) 77 18 (((skS s t) 77 18) + 1)) t - 48)) + (lkM (fgS (m_upd (m_upd (skS s t) 77 19 1) 77 18 (((skS s t) 77 18) + 1)) t 9) t - 48))) F_174_116 ty_84 (by decide) (lt_ln ln_84 (by decide)) upd_eq ?_
      refine r_iast F_174_117 ty_84 (by decide) (lt_ln ln_84 (by decide)) ?_
      refine r_ldR_n (m := 0) F_174_118 rfl ?_
      refine r_ldI_n (m := 1) F_174_119 rfl ?_
      refine r_virt2 (A := [vI t]) (r := []) (n := 1) F_174_120 o_174 il_6_103 rfl rfl rfl rfl ty_77 vy_175 (lay_le n_175 rfl) ?_
      refine sp_skipsM t0 t4 (l17 e6 e7) ?_
      show Rn _ _ _ _ _ [] _ _
      refine r_return F_174_123 rt_174 ?_
      exact (l18 e6 e7)
    · intro e8
      replace e8 : ¬ ((fgS (fgS (m_upd (m_upd (skS s t) 77 19 1) 77 18 (((skS s t) 77 18) + 1)) t 9) t 9) 77 19) = 0 := e8
      refine r_bipush F_174_68 bi_10 ?_
      refine r_ldI_n (m := 2) F_174_70 rfl ?_
      refine r_imul F_174_71 rfl ?_
      refine r_ldI_n (m := 3) F_174_72 rfl ?_
      refine r_iadd F_174_73 rfl ?_
      refine r_bipush F_174_74 bi_40 ?_
      refine r_icmp (t := 94) F_174_76 rfl (l19 e6 e8) (by decide) ?_ ?_
      · intro e9
        replace e9 : ((10 * (lkM (m_upd (m_upd (skS s t) 77 19 1) 77 18 (((skS s t) 77 18) + 1)) t - 48)) + (lkM (fgS (m_upd (m_upd (skS s t) 77 19 1) 77 18 (((skS s t) 77 18) + 1)) t 9) t - 48)) ≤ 40 := e9
        refine r_ldR_n (m := 0) F_174_94 rfl ?_
        refine r_getR (J := 6) F_174_95 o_174 fl_6_28 ty_77 (by decide) rfl (kd2 kd_77_6 (by decide)) (kd9 kd_77_6 (by decide)) rf_77_6 ?_
        refine r_iconst F_174_98 ?_
        refine r_bipush F_174_99 bi_10 ?_
        refine r_ldI_n (m := 2) F_174_101 rfl ?_
        refine r_imul F_174_102 rfl ?_
        refine r_ldI_n (m := 3) F_174_103 rfl ?_
        refine r_iadd F_174_104 rfl ?_
        refine r_iast F_174_105 ty_84 (by decide) (lt_ln ln_84 (by decide)) ?_
        refine r_ldR_n (m := 0) F_174_106 rfl ?_
        refine r_getR (J := 6) F_174_107 o_174 fl_6_28 ty_77 (by decide) rfl (kd2 kd_77_6 (by decide)) (kd9 kd_77_6 (by decide)) rf_77_6 ?_
        refine r_iconst F_174_110 ?_
        refine r_ldR_n (m := 0) F_174_111 rfl ?_
        refine r_getR (J := 6) F_174_112 o_174 fl_6_28 ty_77 (by decide) rfl (kd2 kd_77_6 (by decide)) (kd9 kd_77_6 (by decide)) rf_77_6 ?_
        refine r_iconst F_174_115 ?_
        refine r_iald (e := ((10 * (lkM (m_upd (m_upd (skS s t) 77 19 1) 77 18 (((skS s t) 77 18) + 1)) t - 48)) + (lkM (fgS (m_upd (m_upd (skS s t) 77 19 1) 77 18 (((skS s t) 77 18) + 1)) t 9) t - 48))) F_174_116 ty_84 (by decide) (lt_ln ln_84 (by decide)) upd_eq ?_
        refine r_iast F_174_117 ty_84 (by decide) (lt_ln ln_84 (by decide)) ?_
        refine r_ldR_n (m := 0) F_174_118 rfl ?_
        refine r_ldI_n (m := 1) F_174_119 rfl ?_
        refine r_virt2 (A := [vI t]) (r := []) (n := 1) F_174_120 o_174 il_6_103 rfl rfl rfl rfl ty_77 vy_175 (lay_le n_175 rfl) ?_
        refine sp_skipsM t0 t4 (l20 e6 e8 e9) ?_
        show Rn _ _ _ _ _ [] _ _
        refine r_return F_174_123 rt_174 ?_
        exact (l21 e6 e8 e9)
      · intro e10
        replace e10 : 40 < ((10 * (lkM (m_upd (m_upd (skS s t) 77 19 1) 77 18 (((skS s t) 77 18) + 1)) t - 48)) + (lkM (fgS (m_upd (m_upd (skS s t) 77 19 1) 77 18 (((skS s t) 77 18) + 1)) t 9) t - 48)) := (Int.not_le.mp e10)
        refine r_ldR_n (m := 0) F_174_79 rfl ?_
        refine r_iconst F_174_80 ?_
        refine r_putZ (J := 19) F_174_81 o_174 fl_6_96 ty_77 (by decide) rfl kd_77_19 pf_6_19 (Or.inl rfl) ?_
        refine r_ldR_n (m := 0) F_174_84 rfl ?_
        refine r_dupR F_174_85 ?_
        refine r_getI (J := 18) (e := ((fgS (fgS (m_upd (m_upd (skS s t) 77 19 1) 77 18 (((skS s t) 77 18) + 1)) t 9) t 9) 77 18)) F_174_86 o_174 fl_6_93 ty_77 (by decide) rfl kd_77_18 (upd_nj (by decide)) ?_
        refine r_iconst F_174_89 ?_
        refine r_isub F_174_90 rfl ?_
        refine r_putI (J := 18) F_174_91 o_174 fl_6_93 ty_77 (by decide) rfl kd_77_18 pf_6_18 ?_
        refine r_ldR_n (m := 0) F_174_94 rfl ?_
        refine r_getR (J := 6) F_174_95 o_174 fl_6_28 ty_77 (by decide) rfl (kd2 kd_77_6 (by decide)) (kd9 kd_77_6 (by decide)) rf_77_6 ?_
        refine r_iconst F_174_98 ?_
        refine r_bipush F_174_99 bi_10 ?_
        refine r_ldI_n (m := 2) F_174_101 rfl ?_
        refine r_imul F_174_102 rfl ?_
        refine r_ldI_n (m := 3) F_174_103 rfl ?_
        refine r_iadd F_174_104 rfl ?_
        refine r_iast F_174_105 ty_84 (by decide) (lt_ln ln_84 (by decide)) ?_
        refine r_ldR_n (m := 0) F_174_106 rfl ?_
        refine r_getR (J := 6) F_174_107 o_174 fl_6_28 ty_77 (by decide) rfl (kd2 kd_77_6 (by decide)) (kd9 kd_77_6 (by decide)) rf_77_6 ?_
        refine r_iconst F_174_110 ?_
        refine r_ldR_n (m := 0) F_174_111 rfl ?_
        refine r_getR (J := 6) F_174_112 o_174 fl_6_28 ty_77 (by decide) rfl (kd2 kd_77_6 (by decide)) (kd9 kd_77_6 (by decide)) rf_77_6 ?_
        refine r_iconst F_174_115 ?_
        refine r_iald (e := ((10 * (lkM (m_upd (m_upd (skS s t) 77 19 1) 77 18 (((skS s t) 77 18) + 1)) t - 48)) + (lkM (fgS (m_upd (m_upd (skS s t) 77 19 1) 77 18 (((skS s t) 77 18) + 1)) t 9) t - 48))) F_174_116 ty_84 (by decide) (lt_ln ln_84 (by decide)) upd_eq ?_
        refine r_iast F_174_117 ty_84 (by decide) (lt_ln ln_84 (by decide)) ?_
        refine r_ldR_n (m := 0) F_174_118 rfl ?_
        refine r_ldI_n (m := 1) F_174_119 rfl ?_
        refine r_virt2 (A := [vI t]) (r := []) (n := 1) F_174_120 o_174 il_6_103 rfl rfl rfl rfl ty_77 vy_175 (lay_le n_175 rfl) ?_
        refine sp_skipsM t0 t4 (l22 e6 e8 e10) ?_
        show Rn _ _ _ _ _ [] _ _
        refine r_return F_174_123 rt_174 ?_
        exact (l23 e6 e8 e10)
theorem t_X6_readsPair {X : List Int32} {d : Nat} {s : m_St} {P : Option Value → m_St → Prop} {t : Int} (t0 : 0 ≤ t) (t4 : t < 4) (p0 : 0 ≤ (s 77 18))
    (l1 : rdk (m_upd s 77 18 ((s 77 18) + 1)) t)
    (l2 : rdk (fgS (m_upd s 77 18 ((s 77 18) + 1)) t 3) t)
    (l3 : inR ((lkM (fgS (m_upd s 77 18 ((s 77 18) + 1)) t 3) t) - 48))
    (l4 : inR (lkM (m_upd s 77 18 ((s 77 18) + 1)) t - 48))
    (l5 : ((lkM (fgS (m_upd s 77 18 ((s 77 18) + 1)) t 3) t) - 48) = (lkM (m_upd s 77 18 ((s 77 18) + 1)) t - 48) → inR ((fgS (m_upd s 77 18 ((s 77 18) + 1)) t 3) 77 19))
    (l6 : ((lkM (fgS (m_upd s 77 18 ((s 77 18) + 1)) t 3) t) - 48) = (lkM (m_upd s 77 18 ((s 77 18) + 1)) t - 48) → ((fgS (m_upd s 77 18 ((s 77 18) + 1)) t 3) 77 19) = 0 → rdk (m_upd (fgS (m_upd s 77 18 ((s 77 18) + 1)) t 3) 77 19 0) t)
    (l7 : ((lkM (fgS (m_upd s 77 18 ((s 77 18) + 1)) t 3) t) - 48) = (lkM (m_upd s 77 18 ((s 77 18) + 1)) t - 48) → ((fgS (m_upd s 77 18 ((s 77 18) + 1)) t 3) 77 19) = 0 → inR ((fgS (m_upd (fgS (m_upd s 77 18 ((s 77 18) + 1)) t 3) 77 19 0) t 3) 77 19))
    (l8 : ((lkM (fgS (m_upd s 77 18 ((s 77 18) + 1)) t 3) t) - 48) = (lkM (m_upd s 77 18 ((s 77 18) + 1)) t - 48) → ((fgS (m_upd s 77 18 ((s 77 18) + 1)) t 3) 77 19) = 0 → ((fgS (m_upd (fgS (m_upd s 77 18 ((s 77 18) + 1)) t 3) 77 19 0) t 3) 77 19) = 0 → rdk (m_upd (fgS (m_upd (fgS (m_upd s 77 18 ((s 77 18) + 1)) t 3) 77 19 0) t 3) 84 7 (iOr ((fgS (m_upd (fgS (m_upd s 77 18 ((s 77 18) + 1)) t 3) 77 19 0) t 3) 84 7) 0)) t)
    (l9 : ((lkM (fgS (m_upd s 77 18 ((s 77 18) + 1)) t 3) t) - 48) = (lkM (m_upd s 77 18 ((s 77 18) + 1)) t - 48) → ((fgS (m_upd s 77 18 ((s 77 18) + 1)) t 3) 77 19) = 0 → ((fgS (m_upd (fgS (m_upd s 77 18 ((s 77 18) + 1)) t 3) 77 19 0) t 3) 77 19) = 0 → P none (skS (m_upd (fgS (m_upd (fgS (m_upd s 77 18 ((s 77 18) + 1)) t 3) 77 19 0) t 3) 84 7 (iOr ((fgS (m_upd (fgS (m_upd s 77 18 ((s 77 18) + 1)) t 3) 77 19 0) t 3) 84 7) 0)) t))
    (l10 : ((lkM (fgS (m_upd s 77 18 ((s 77 18) + 1)) t 3) t) - 48) = (lkM (m_upd s 77 18 ((s 77 18) + 1)) t - 48) → ((fgS (m_upd s 77 18 ((s 77 18) + 1)) t 3) 77 19) = 0 → ¬ ((fgS (m_upd (fgS (m_upd s 77 18 ((s 77 18) + 1)) t 3) 77 19 0) t 3) 77 19) = 0 → rdk (m_upd (fgS (m_upd (fgS (m_upd s 77 18 ((s 77 18) + 1)) t 3) 77 19 0) t 3) 84 7 (iOr ((fgS (m_upd (fgS (m_upd s 77 18 ((s 77 18) + 1)) t 3) 77 19 0) t 3) 84 7) (iShl 1 ((4 * (lkM (m_upd s 77 18 ((s 77 18) + 1)) t - 48)) + (lkM (m_upd (fgS (m_upd s 77 18 ((s 77 18) + 1)) t 3) 77 19 0) t - 48))))) t)
    (l11 : ((lkM (fgS (m_upd s 77 18 ((s 77 18) + 1)) t 3) t) - 48) = (lkM (m_upd s 77 18 ((s 77 18) + 1)) t - 48) → ((fgS (m_upd s 77 18 ((s 77 18) + 1)) t 3) 77 19) = 0 → ¬ ((fgS (m_upd (fgS (m_upd s 77 18 ((s 77 18) + 1)) t 3) 77 19 0) t 3) 77 19) = 0 → P none (skS (m_upd (fgS (m_upd (fgS (m_upd s 77 18 ((s 77 18) + 1)) t 3) 77 19 0) t 3) 84 7 (iOr ((fgS (m_upd (fgS (m_upd s 77 18 ((s 77 18) + 1)) t 3) 77 19 0) t 3) 84 7) (iShl 1 ((4 * (lkM (m_upd s 77 18 ((s 77 18) + 1)) t - 48)) + (lkM (m_upd (fgS (m_upd s 77 18 ((s 77 18) + 1)) t 3) 77 19 0) t - 48))))) t))
    (l12 : ((lkM (fgS (m_upd s 77 18 ((s 77 18) + 1)) t 3) t) - 48) = (lkM (m_upd s 77 18 ((s 77 18) + 1)) t - 48) → ¬ ((fgS (m_upd s 77 18 ((s 77 18) + 1)) t 3) 77 19) = 0 → rdk (m_upd (fgS (m_upd s 77 18 ((s 77 18) + 1)) t 3) 77 19 0) t)
    (l13 : ((lkM (fgS (m_upd s 77 18 ((s 77 18) + 1)) t 3) t) - 48) = (lkM (m_upd s 77 18 ((s 77 18) + 1)) t - 48) → ¬ ((fgS (m_upd s 77 18 ((s 77 18) + 1)) t 3) 77 19) = 0 → inR ((fgS (m_upd (fgS (m_upd s 77 18 ((s 77 18) + 1)) t 3) 77 19 0) t 3) 77 19))
    (l14 : ((lkM (fgS (m_upd s 77 18 ((s 77 18) + 1)) t 3) t) - 48) = (lkM (m_upd s 77 18 ((s 77 18) + 1)) t - 48) → ¬ ((fgS (m_upd s 77 18 ((s 77 18) + 1)) t 3) 77 19) = 0 → ((fgS (m_upd (fgS (m_upd s 77 18 ((s 77 18) + 1)) t 3) 77 19 0) t 3) 77 19) = 0 → rdk (m_upd (fgS (m_upd (fgS (m_upd s 77 18 ((s 77 18) + 1)) t 3) 77 19 0) t 3) 84 7 (iOr ((fgS (m_upd (fgS (m_upd s 77 18 ((s 77 18) + 1)) t 3) 77 19 0) t 3) 84 7) 0)) t)
    (l15 : ((lkM (fgS (m_upd s 77 18 ((s 77 18) + 1)) t 3) t) - 48) = (lkM (m_upd s 77 18 ((s 77 18) + 1)) t - 48) → ¬ ((fgS (m_upd s 77 18 ((s 77 18) + 1)) t 3) 77 19) = 0 → ((fgS (m_upd (fgS (m_upd s 77 18 ((s 77 18) + 1)) t 3) 77 19 0) t 3) 77 19) = 0 → P none (skS (m_upd (fgS (m_upd (fgS (m_upd s 77 18 ((s 77 18) + 1)) t 3) 77 19 0) t 3) 84 7 (iOr ((fgS (m_upd (fgS (m_upd s 77 18 ((s 77 18) + 1)) t 3) 77 19 0) t 3) 84 7) 0)) t))
    (l16 : ((lkM (fgS (m_upd s 77 18 ((s 77 18) + 1)) t 3) t) - 48) = (lkM (m_upd s 77 18 ((s 77 18) + 1)) t - 48) → ¬ ((fgS (m_upd s 77 18 ((s 77 18) + 1)) t 3) 77 19) = 0 → ¬ ((fgS (m_upd (fgS (m_upd s 77 18 ((s 77 18) + 1)) t 3) 77 19 0) t 3) 77 19) = 0 → rdk (m_upd (fgS (m_upd (fgS (m_upd s 77 18 ((s 77 18) + 1)) t 3) 77 19 0) t 3) 84 7 (iOr ((fgS (m_upd (fgS (m_upd s 77 18 ((s 77 18) + 1)) t 3) 77 19 0) t 3) 84 7) (iShl 1 ((4 * (lkM (m_upd s 77 18 ((s 77 18) + 1)) t - 48)) + (lkM (m_upd (fgS (m_upd s 77 18 ((s 77 18) + 1)) t 3) 77 19 0) t - 48))))) t)
    (l17 : ((lkM (fgS (m_upd s 77 18 ((s 77 18) + 1)) t 3) t) - 48) = (lkM (m_upd s 77 18 ((s 77 18) + 1)) t - 48) → ¬ ((fgS (m_upd s 77 18 ((s 77 18) + 1)) t 3) 77 19) = 0 → ¬ ((fgS (m_upd (fgS (m_upd s 77 18 ((s 77 18) + 1)) t 3) 77 19 0) t 3) 77 19) = 0 → P none (skS (m_upd (fgS (m_upd (fgS (m_upd s 77 18 ((s 77 18) + 1)) t 3) 77 19 0) t 3) 84 7 (iOr ((fgS (m_upd (fgS (m_upd s 77 18 ((s 77 18) + 1)) t 3) 77 19 0) t 3) 84 7) (iShl 1 ((4 * (lkM (m_upd s 77 18 ((s 77 18) + 1)) t - 48)) + (lkM (m_upd (fgS (m_upd s 77 18 ((s 77 18) + 1)) t 3) 77 19 0) t - 48))))) t))
    (l18 : ¬ ((lkM (fgS (m_upd s 77 18 ((s 77 18) + 1)) t 3) t) - 48) = (lkM (m_upd s 77 18 ((s 77 18) + 1)) t - 48) → inR ((fgS (m_upd s 77 18 ((s 77 18) + 1)) t 3) 77 19))
    (l19 : ¬ ((lkM (fgS (m_upd s 77 18 ((s 77 18) + 1)) t 3) t) - 48) = (lkM (m_upd s 77 18 ((s 77 18) + 1)) t - 48) → ((fgS (m_upd s 77 18 ((s 77 18) + 1)) t 3) 77 19) = 0 → rdk (m_upd (fgS (m_upd s 77 18 ((s 77 18) + 1)) t 3) 77 19 0) t)
    (l20 : ¬ ((lkM (fgS (m_upd s 77 18 ((s 77 18) + 1)) t 3) t) - 48) = (lkM (m_upd s 77 18 ((s 77 18) + 1)) t - 48) → ((fgS (m_upd s 77 18 ((s 77 18) + 1)) t 3) 77 19) = 0 → inR ((fgS (m_upd (fgS (m_upd s 77 18 ((s 77 18) + 1)) t 3) 77 19 0) t 3) 77 19))
    (l21 : ¬ ((lkM (fgS (m_upd s 77 18 ((s 77 18) + 1)) t 3) t) - 48) = (lkM (m_upd s 77 18 ((s 77 18) + 1)) t - 48) → ((fgS (m_upd s 77 18 ((s 77 18) + 1)) t 3) 77 19) = 0 → ((fgS (m_upd (fgS (m_upd s 77 18 ((s 77 18) + 1)) t 3) 77 19 0) t 3) 77 19) = 0 → rdk (m_upd (fgS (m_upd (fgS (m_upd s 77 18 ((s 77 18) + 1)) t 3) 77 19 0) t 3) 84 7 (iOr ((fgS (m_upd (fgS (m_upd s 77 18 ((s 77 18) + 1)) t 3) 77 19 0) t 3) 84 7) 0)) t)
    (l22 : ¬ ((lkM (fgS (m_upd s 77 18 ((s 77 18) + 1)) t 3) t) - 48) = (lkM (m_upd s 77 18 ((s 77 18) + 1)) t - 48) → ((fgS (m_upd s 77 18 ((s 77 18) + 1)) t 3) 77 19) = 0 → ((fgS (m_upd (fgS (m_upd s 77 18 ((s 77 18) + 1)) t 3) 77 19 0) t 3) 77 19) = 0 → P none (skS (m_upd (fgS (m_upd (fgS (m_upd s 77 18 ((s 77 18) + 1)) t 3) 77 19 0) t 3) 84 7 (iOr ((fgS (m_upd (fgS (m_upd s 77 18 ((s 77 18) + 1)) t 3) 77 19 0) t 3) 84 7) 0)) t))
    (l23 : ¬ ((lkM (fgS (m_upd s 77 18 ((s 77 18) + 1)) t 3) t) - 48) = (lkM (m_upd s 77 18 ((s 77 18) + 1)) t - 48) → ((fgS (m_upd s 77 18 ((s 77 18) + 1)) t 3) 77 19) = 0 → ¬ ((fgS (m_upd (fgS (m_upd s 77 18 ((s 77 18) + 1)) t 3) 77 19 0) t 3) 77 19) = 0 → rdk (m_upd (fgS (m_upd (fgS (m_upd s 77 18 ((s 77 18) + 1)) t 3) 77 19 0) t 3) 84 7 (iOr ((fgS (m_upd (fgS (m_upd s 77 18 ((s 77 18) + 1)) t 3) 77 19 0) t 3) 84 7) (iShl 1 ((4 * (lkM (m_upd s 77 18 ((s 77 18) + 1)) t - 48)) + (lkM (m_upd (fgS (m_upd s 77 18 ((s 77 18) + 1)) t 3) 77 19 0) t - 48))))) t)
    (l24 : ¬ ((lkM (fgS (m_upd s 77 18 ((s 77 18) + 1)) t 3) t) - 48) = (lkM (m_upd s 77 18 ((s 77 18) + 1)) t - 48) → ((fgS (m_upd s 77 18 ((s 77 18) + 1)) t 3) 77 19) = 0 → ¬ ((fgS (m_upd (fgS (m_upd s 77 18 ((s 77 18) + 1)) t 3) 77 19 0) t 3) 77 19) = 0 → P none (skS (m_upd (fgS (m_upd (fgS (m_upd s 77 18 ((s 77 18) + 1)) t 3) 77 19 0) t 3) 84 7 (iOr ((fgS (m_upd (fgS (m_upd s 77 18 ((s 77 18) + 1)) t 3) 77 19 0) t 3) 84 7) (iShl 1 ((4 * (lkM (m_upd s 77 18 ((s 77 18) + 1)) t - 48)) + (lkM (m_upd (fgS (m_upd s 77 18 ((s 77 18) + 1)) t 3) 77 19 0) t - 48))))) t))
    (l25 : ¬ ((lkM (fgS (m_upd s 77 18 ((s 77 18) + 1)) t 3) t) - 48) = (lkM (m_upd s 77 18 ((s 77 18) + 1)) t - 48) → ¬ ((fgS (m_upd s 77 18 ((s 77 18) + 1)) t 3) 77 19) = 0 → rdk (m_upd (fgS (m_upd s 77 18 ((s 77 18) + 1)) t 3) 77 19 1) t)
    (l26 : ¬ ((lkM (fgS (m_upd s 77 18 ((s 77 18) + 1)) t 3) t) - 48) = (lkM (m_upd s 77 18 ((s 77 18) + 1)) t - 48) → ¬ ((fgS (m_upd s 77 18 ((s 77 18) + 1)) t 3) 77 19) = 0 → inR ((fgS (m_upd (fgS (m_upd s 77 18 ((s 77 18) + 1)) t 3) 77 19 1) t 3) 77 19))
    (l27 : ¬ ((lkM (fgS (m_upd s 77 18 ((s 77 18) + 1)) t 3) t) - 48) = (lkM (m_upd s 77 18 ((s 77 18) + 1)) t - 48) → ¬ ((fgS (m_upd s 77 18 ((s 77 18) + 1)) t 3) 77 19) = 0 → ((fgS (m_upd (fgS (m_upd s 77 18 ((s 77 18) + 1)) t 3) 77 19 1) t 3) 77 19) = 0 → rdk (m_upd (fgS (m_upd (fgS (m_upd s 77 18 ((s 77 18) + 1)) t 3) 77 19 1) t 3) 84 7 (iOr ((fgS (m_upd (fgS (m_upd s 77 18 ((s 77 18) + 1)) t 3) 77 19 1) t 3) 84 7) 0)) t)
    (l28 : ¬ ((lkM (fgS (m_upd s 77 18 ((s 77 18) + 1)) t 3) t) - 48) = (lkM (m_upd s 77 18 ((s 77 18) + 1)) t - 48) → ¬ ((fgS (m_upd s 77 18 ((s 77 18) + 1)) t 3) 77 19) = 0 → ((fgS (m_upd (fgS (m_upd s 77 18 ((s 77 18) + 1)) t 3) 77 19 1) t 3) 77 19) = 0 → P none (skS (m_upd (fgS (m_upd (fgS (m_upd s 77 18 ((s 77 18) + 1)) t 3) 77 19 1) t 3) 84 7 (iOr ((fgS (m_upd (fgS (m_upd s 77 18 ((s 77 18) + 1)) t 3) 77 19 1) t 3) 84 7) 0)) t))
    (l29 : ¬ ((lkM (fgS (m_upd s 77 18 ((s 77 18) + 1)) t 3) t) - 48) = (lkM (m_upd s 77 18 ((s 77 18) + 1)) t - 48) → ¬ ((fgS (m_upd s 77 18 ((s 77 18) + 1)) t 3) 77 19) = 0 → ¬ ((fgS (m_upd (fgS (m_upd s 77 18 ((s 77 18) + 1)) t 3) 77 19 1) t 3) 77 19) = 0 → rdk (m_upd (fgS (m_upd (fgS (m_upd s 77 18 ((s 77 18) + 1)) t 3) 77 19 1) t 3) 84 7 (iOr ((fgS (m_upd (fgS (m_upd s 77 18 ((s 77 18) + 1)) t 3) 77 19 1) t 3) 84 7) (iShl 1 ((4 * (lkM (m_upd s 77 18 ((s 77 18) + 1)) t - 48)) + (lkM (m_upd (fgS (m_upd s 77 18 ((s 77 18) + 1)) t 3) 77 19 1) t - 48))))) t)
    (l30 : ¬ ((lkM (fgS (m_upd s 77 18 ((s 77 18) + 1)) t 3) t) - 48) = (lkM (m_upd s 77 18 ((s 77 18) + 1)) t - 48) → ¬ ((fgS (m_upd s 77 18 ((s 77 18) + 1)) t 3) 77 19) = 0 → ¬ ((fgS (m_upd (fgS (m_upd s 77 18 ((s 77 18) + 1)) t 3) 77 19 1) t 3) 77 19) = 0 → P none (skS (m_upd (fgS (m_upd (fgS (m_upd s 77 18 ((s 77 18) + 1)) t 3) 77 19 1) t 3) 84 7 (iOr ((fgS (m_upd (fgS (m_upd s 77 18 ((s 77 18) + 1)) t 3) 77 19 1) t 3) 84 7) (iShl 1 ((4 * (lkM (m_upd s 77 18 ((s 77 18) + 1)) t - 48)) + (lkM (m_upd (fgS (m_upd s 77 18 ((s 77 18) + 1)) t 3) 77 19 1) t - 48))))) t))
    : Cl X (d + 2) 178 [vR 77, vI t] s P := by
  refine Cl_of n_178 rfl ?_
  show Rn _ _ _ _ [some (vR 77), some (vI t), none, none, none] [] _ _
  refine r_ldR_n (m := 0) F_178_0 rfl ?_
  refine r_dupR F_178_1 ?_
  refine r_getI (J := 18) (e := (s 77 18)) F_178_2 o_178 fl_6_93 ty_77 (by decide) rfl kd_77_18 rfl ?_
  refine r_iconst F_178_5 ?_
  refine r_iadd F_178_6 rfl ?_
  refine r_putI (J := 18) F_178_7 o_178 fl_6_93 ty_77 (by decide) rfl kd_77_18 pf_6_18 ?_
  refine r_ldR_n (m := 0) F_178_10 rfl ?_
  refine r_ldI_n (m := 1) F_178_11 rfl ?_
  refine r_iconst F_178_12 ?_
  refine r_virt2 (A := [vI t, vI 3]) (r := []) (n := 2) F_178_13 o_178 il_6_107 rfl rfl rfl rfl ty_77 vy_177 (lay_le n_177 rfl) ?_
  refine sp_figureM t0 t4 l1 (by decide) (by decide) ?_
  show Rn _ _ _ _ _ [vI (lkM (m_upd s 77 18 ((s 77 18) + 1)) t - 48)] _ _
  refine r_stI_n (m := 2) (L' := [some (vR 77), some (vI t), some (vI (lkM (m_upd s 77 18 ((s 77 18) + 1)) t - 48)), none, none]) F_178_16 rfl rfl ?_
  refine r_ldR_n (m := 0) F_178_17 rfl ?_
  refine r_ldI_n (m := 1) F_178_18 rfl ?_
  refine r_virt2 (A := [vI t]) (r := []) (n := 1) F_178_19 o_178 il_6_100 rfl rfl rfl rfl ty_77 vy_176 (lay_le n_176 rfl) ?_
  refine sp_look t0 t4 l2 ?_
  show Rn _ _ _ _ _ [vI (lkM (fgS (m_upd s 77 18 ((s 77 18) + 1)) t 3) t)] _ _
  refine r_bipush F_178_22 bi_48 ?_
  refine r_isub F_178_24 rfl ?_
  refine r_ldI_n (m := 2) F_178_25 rfl ?_
  refine r_icmp (t := 33) F_178_26 rfl l3 l4 ?_ ?_
  · intro e1
    replace e1 : ((lkM (fgS (m_upd s 77 18 ((s 77 18) + 1)) t 3) t) - 48) = (lkM (m_upd s 77 18 ((s 77 18) + 1)) t - 48) := e1
    refine r_iconst F_178_33 ?_
    refine r_stI_n (m := 3) (L' := [some (vR 77), some (vI t), some (vI (lkM (m_upd s 77 18 ((s 77 18) + 1)) t - 48)), some (vI 0), none]) F_178_34 rfl rfl ?_
    refine r_ldR_n (m := 0) F_178_35 rfl ?_
    refine r_ldR_n (m := 0) F_178_36 rfl ?_
    refine r_getI (J := 19) (e := ((fgS (m_upd s 77 18 ((s 77 18) + 1)) t 3) 77 19)) F_178_37 o_178 fl_6_96 ty_77 (by decide) rfl kd_77_19 rfl ?_
    refine r_if (t := 51) F_178_40 rfl (l5 e1) ?_ ?_
    · intro e2
      replace e2 : ((fgS (m_upd s 77 18 ((s 77 18) + 1)) t 3) 77 19) = 0 := e2
      refine r_iconst F_178_51 ?_
      refine r_putZ (J := 19) F_178_52 o_178 fl_6_96 ty_77 (by decide) rfl kd_77_19 pf_6_19 (Or.inl rfl) ?_
      refine r_ldR_n (m := 0) F_178_55 rfl ?_
      refine r_ldI_n (m := 1) F_178_56 rfl ?_
      refine r_iconst F_178_57 ?_
      refine r_virt2 (A := [vI t, vI 3]) (r := []) (n := 2) F_178_58 o_178 il_6_107 rfl rfl rfl rfl ty_77 vy_177 (lay_le n_177 rfl) ?_
      refine sp_figureM t0 t4 (l6 e1 e2) (by decide) (by decide) ?_
      show Rn _ _ _ _ _ [vI (lkM (m_upd (fgS (m_upd s 77 18 ((s 77 18) + 1)) t 3) 77 19 0) t - 48)] _ _
      refine r_stI (m := 4) (L' := [some (vR 77), some (vI t), some (vI (lkM (m_upd s 77 18 ((s 77 18) + 1)) t - 48)), some (vI 0), some (vI (lkM (m_upd (fgS (m_upd s 77 18 ((s 77 18) + 1)) t 3) 77 19 0) t - 48))]) F_178_61 rfl rfl ?_
      refine r_ldR_n (m := 0) F_178_63 rfl ?_
      refine r_getR (J := 6) F_178_64 o_178 fl_6_28 ty_77 (by decide) rfl (kd2 kd_77_6 (by decide)) (kd9 kd_77_6 (by decide)) rf_77_6 ?_
      refine r_bipush F_178_67 bi_7 ?_
      refine r_dup2 F_178_69 ?_
      refine r_iald (e := ((fgS (m_upd (fgS (m_upd s 77 18 ((s 77 18) + 1)) t 3) 77 19 0) t 3) 84 7)) F_178_70 ty_84 (by decide) (lt_ln ln_84 (by decide)) rfl ?_
      refine r_ldR_n (m := 0) F_178_71 rfl ?_
      refine r_getI (J := 19) (e := ((fgS (m_upd (fgS (m_upd s 77 18 ((s 77 18) + 1)) t 3) 77 19 0) t 3) 77 19)) F_178_72 o_178 fl_6_96 ty_77 (by decide) rfl kd_77_19 rfl ?_
      refine r_if (t := 89) F_178_75 rfl (l7 e1 e2) ?_ ?_
      · intro e3
        replace e3 : ((fgS (m_upd (fgS (m_upd s 77 18 ((s 77 18) + 1)) t 3) 77 19 0) t 3) 77 19) = 0 := e3
        refine r_iconst F_178_89 ?_
        refine r_ior F_178_90 rfl ?_
        refine r_iast F_178_91 ty_84 (by decide) (lt_ln ln_84 (by decide)) ?_
        refine r_ldR_n (m := 0) F_178_92 rfl ?_
        refine r_ldI_n (m := 1) F_178_93 rfl ?_
        refine r_virt2 (A := [vI t]) (r := []) (n := 1) F_178_94 o_178 il_6_103 rfl rfl rfl rfl ty_77 vy_175 (lay_le n_175 rfl) ?_
        refine sp_skipsM t0 t4 (l8 e1 e2 e3) ?_
        show Rn _ _ _ _ _ [] _ _
        refine r_return F_178_97 rt_178 ?_
        exact (l9 e1 e2 e3)
      · intro e4
        replace e4 : ¬ ((fgS (m_upd (fgS (m_upd s 77 18 ((s 77 18) + 1)) t 3) 77 19 0) t 3) 77 19) = 0 := e4
        refine r_iconst F_178_78 ?_
        refine r_iconst F_178_79 ?_
        refine r_ldI_n (m := 2) F_178_80 rfl ?_
        refine r_imul F_178_81 rfl ?_
        refine r_ldI (m := 4) F_178_82 rfl ?_
        refine r_iadd F_178_84 rfl ?_
        refine r_ishl F_178_85 rfl ?_
        refine r_goto (t := 90) F_178_86 rfl ?_
        refine r_ior F_178_90 rfl ?_
        refine r_iast F_178_91 ty_84 (by decide) (lt_ln ln_84 (by decide)) ?_
        refine r_ldR_n (m := 0) F_178_92 rfl ?_
        refine r_ldI_n (m := 1) F_178_93 rfl ?_
        refine r_virt2 (A := [vI t]) (r := []) (n := 1) F_178_94 o_178 il_6_103 rfl rfl rfl rfl ty_77 vy_175 (lay_le n_175 rfl) ?_
        refine sp_skipsM t0 t4 (l10 e1 e2 e4) ?_
        show Rn _ _ _ _ _ [] _ _
        refine r_return F_178_97 rt_178 ?_
        exact (l11 e1 e2 e4)
    · intro e5
      replace e5 : ¬ ((fgS (m_upd s 77 18 ((s 77 18) + 1)) t 3) 77 19) = 0 := e5
      refine r_ldI_n (m := 3) F_178_43 rfl ?_
      refine r_ifT (t := 51) F_178_44 rfl (by decide) (by show (0 : Int) = 0; decide) ?_
      refine r_iconst F_178_51 ?_
      refine r_putZ (J := 19) F_178_52 o_178 fl_6_96 ty_77 (by decide) rfl kd_77_19 pf_6_19 (Or.inl rfl) ?_
      refine r_ldR_n (m := 0) F_178_55 rfl ?_
      refine r_ldI_n (m := 1) F_178_56 rfl ?_
      refine r_iconst F_178_57 ?_
      refine r_virt2 (A := [vI t, vI 3]) (r := []) (n := 2) F_178_58 o_178 il_6_107 rfl rfl rfl rfl ty_77 vy_177 (lay_le n_177 rfl) ?_
      refine sp_figureM t0 t4 (l12 e1 e5) (by decide) (by decide) ?_
      show Rn _ _ _ _ _ [vI (lkM (m_upd (fgS (m_upd s 77 18 ((s 77 18) + 1)) t 3) 77 19 0) t - 48)] _ _
      refine r_stI (m := 4) (L' := [some (vR 77), some (vI t), some (vI (lkM (m_upd s 77 18 ((s 77 18) + 1)) t - 48)), some (vI 0), some (vI (lkM (m_upd (fgS (m_upd s 77 18 ((s 77 18) + 1)) t 3) 77 19 0) t - 48))]) F_178_61 rfl rfl ?_
      refine r_ldR_n (m := 0) F_178_63 rfl ?_
      refine r_getR (J := 6) F_178_64 o_178 fl_6_28 ty_77 (by decide) rfl (kd2 kd_77_6 (by decide)) (kd9 kd_77_6 (by decide)) rf_77_6 ?_
      refine r_bipush F_178_67 bi_7 ?_
      refine r_dup2 F_178_69 ?_
      refine r_iald (e := ((fgS (m_upd (fgS (m_upd s 77 18 ((s 77 18) + 1)) t 3) 77 19 0) t 3) 84 7)) F_178_70 ty_84 (by decide) (lt_ln ln_84 (by decide)) rfl ?_
      refine r_ldR_n (m := 0) F_178_71 rfl ?_
      refine r_getI (J := 19) (e := ((fgS (m_upd (fgS (m_upd s 77 18 ((s 77 18) + 1)) t 3) 77 19 0) t 3) 77 19)) F_178_72 o_178 fl_6_96 ty_77 (by decide) rfl kd_77_19 rfl ?_
      refine r_if (t := 89) F_178_75 rfl (l13 e1 e5) ?_ ?_
      · intro e6
        replace e6 : ((fgS (m_upd (fgS (m_upd s 77 18 ((s 77 18) + 1)) t 3) 77 19 0) t 3) 77 19) = 0 := e6
        refine r_iconst F_178_89 ?_
        refine r_ior F_178_90 rfl ?_
        refine r_iast F_178_91 ty_84 (by decide) (lt_ln ln_84 (by decide)) ?_
        refine r_ldR_n (m := 0) F_178_92 rfl ?_
        refine r_ldI_n (m := 1) F_178_93 rfl ?_
        refine r_virt2 (A := [vI t]) (r := []) (n := 1) F_178_94 o_178 il_6_103 rfl rfl rfl rfl ty_77 vy_175 (lay_le n_175 rfl) ?_
        refine sp_skipsM t0 t4 (l14 e1 e5 e6) ?_
        show Rn _ _ _ _ _ [] _ _
        refine r_return F_178_97 rt_178 ?_
        exact (l15 e1 e5 e6)
      · intro e7
        replace e7 : ¬ ((fgS (m_upd (fgS (m_upd s 77 18 ((s 77 18) + 1)) t 3) 77 19 0) t 3) 77 19) = 0 := e7
        refine r_iconst F_178_78 ?_
        refine r_iconst F_178_79 ?_
        refine r_ldI_n (m := 2) F_178_80 rfl ?_
        refine r_imul F_178_81 rfl ?_
        refine r_ldI (m := 4) F_178_82 rfl ?_
        refine r_iadd F_178_84 rfl ?_
        refine r_ishl F_178_85 rfl ?_
        refine r_goto (t := 90) F_178_86 rfl ?_
        refine r_ior F_178_90 rfl ?_
        refine r_iast F_178_91 ty_84 (by decide) (lt_ln ln_84 (by decide)) ?_
        refine r_ldR_n (m := 0) F_178_92 rfl ?_
        refine r_ldI_n (m := 1) F_178_93 rfl ?_
        refine r_virt2 (A := [vI t]) (r := []) (n := 1) F_178_94 o_178 il_6_103 rfl rfl rfl rfl ty_77 vy_175 (lay_le n_175 rfl) ?_
        refine sp_skipsM t0 t4 (l16 e1 e5 e7) ?_
        show Rn _ _ _ _ _ [] _ _
        refine r_return F_178_97 rt_178 ?_
        exact (l17 e1 e5 e7)
  · intro e8
    replace e8 : ¬ ((lkM (fgS (m_upd s 77 18 ((s 77 18) + 1)) t 3) t) - 48) = (lkM (m_upd s 77 18 ((s 77 18) + 1)) t - 48) := e8
    refine r_iconst F_178_29 ?_
    refine r_goto (t := 34) F_178_30 rfl ?_
    refine r_stI_n (m := 3) (L' := [some (vR 77), some (vI t), some (vI (lkM (m_upd s 77 18 ((s 77 18) + 1)) t - 48)), some (vI 1), none]) F_178_34 rfl rfl ?_
    refine r_ldR_n (m := 0) F_178_35 rfl ?_
    refine r_ldR_n (m := 0) F_178_36 rfl ?_
    refine r_getI (J := 19) (e := ((fgS (m_upd s 77 18 ((s 77 18) + 1)) t 3) 77 19)) F_178_37 o_178 fl_6_96 ty_77 (by decide) rfl kd_77_19 rfl ?_
    refine r_if (t := 51) F_178_40 rfl (l18 e8) ?_ ?_
    · intro e9
      replace e9 : ((fgS (m_upd s 77 18 ((s 77 18) + 1)) t 3) 77 19) = 0 := e9
      refine r_iconst F_178_51 ?_
      refine r_putZ (J := 19) F_178_52 o_178 fl_6_96 ty_77 (by decide) rfl kd_77_19 pf_6_19 (Or.inl rfl) ?_
      refine r_ldR_n (m := 0) F_178_55 rfl ?_
      refine r_ldI_n (m := 1) F_178_56 rfl ?_
      refine r_iconst F_178_57 ?_
      refine r_virt2 (A := [vI t, vI 3]) (r := []) (n := 2) F_178_58 o_178 il_6_107 rfl rfl rfl rfl ty_77 vy_177 (lay_le n_177 rfl) ?_
      refine sp_figureM t0 t4 (l19 e8 e9) (by decide) (by decide) ?_
      show Rn _ _ _ _ _ [vI (lkM (m_upd (fgS (m_upd s 77 18 ((s 77 18) + 1)) t 3) 77 19 0) t - 48)] _ _
      refine r_stI (m := 4) (L' := [some (vR 77), some (vI t), some (vI (lkM (m_upd s 77 18 ((s 77 18) + 1)) t - 48)), some (vI 1), some (vI (lkM (m_upd (fgS (m_upd s 77 18 ((s 77 18) + 1)) t 3) 77 19 0) t - 48))]) F_178_61 rfl rfl ?_
      refine r_ldR_n (m := 0) F_178_63 rfl ?_
      refine r_getR (J := 6) F_178_64 o_178 fl_6_28 ty_77 (by decide) rfl (kd2 kd_77_6 (by decide)) (kd9 kd_77_6 (by decide)) rf_77_6 ?_
      refine r_bipush F_178_67 bi_7 ?_
      refine r_dup2 F_178_69 ?_
      refine r_iald (e := ((fgS (m_upd (fgS (m_upd s 77 18 ((s 77 18) + 1)) t 3) 77 19 0) t 3) 84 7)) F_178_70 ty_84 (by decide) (lt_ln ln_84 (by decide)) rfl ?_
      refine r_ldR_n (m := 0) F_178_71 rfl ?_
      refine r_getI (J := 19) (e := ((fgS (m_upd (fgS (m_upd s 77 18 ((s 77 18) + 1)) t 3) 77 19 0) t 3) 77 19)) F_178_72 o_178 fl_6_96 ty_77 (by decide) rfl kd_77_19 rfl ?_
      refine r_if (t := 89) F_178_75 rfl (l20 e8 e9) ?_ ?_
      · intro e10
        replace e10 : ((fgS (m_upd (fgS (m_upd s 77 18 ((s 77 18) + 1)) t 3) 77 19 0) t 3) 77 19) = 0 := e10
        refine r_iconst F_178_89 ?_
        refine r_ior F_178_90 rfl ?_
        refine r_iast F_178_91 ty_84 (by decide) (lt_ln ln_84 (by decide)) ?_
        refine r_ldR_n (m := 0) F_178_92 rfl ?_
        refine r_ldI_n (m := 1) F_178_93 rfl ?_
        refine r_virt2 (A := [vI t]) (r := []) (n := 1) F_178_94 o_178 il_6_103 rfl rfl rfl rfl ty_77 vy_175 (lay_le n_175 rfl) ?_
        refine sp_skipsM t0 t4 (l21 e8 e9 e10) ?_
        show Rn _ _ _ _ _ [] _ _
        refine r_return F_178_97 rt_178 ?_
        exact (l22 e8 e9 e10)
      · intro e11
        replace e11 : ¬ ((fgS (m_upd (fgS (m_upd s 77 18 ((s 77 18) + 1)) t 3) 77 19 0) t 3) 77 19) = 0 := e11
        refine r_iconst F_178_78 ?_
        refine r_iconst F_178_79 ?_
        refine r_ldI_n (m := 2) F_178_80 rfl ?_
        refine r_imul F_178_81 rfl ?_
        refine r_ldI (m := 4) F_178_82 rfl ?_
        refine r_iadd F_178_84 rfl ?_
        refine r_ishl F_178_85 rfl ?_
        refine r_goto (t := 90) F_178_86 rfl ?_
        refine r_ior F_178_90 rfl ?_
        refine r_iast F_178_91 ty_84 (by decide) (lt_ln ln_84 (by decide)) ?_
        refine r_ldR_n (m := 0) F_178_92 rfl ?_
        refine r_ldI_n (m := 1) F_178_93 rfl ?_
        refine r_virt2 (A := [vI t]) (r := []) (n := 1) F_178_94 o_178 il_6_103 rfl rfl rfl rfl ty_77 vy_175 (lay_le n_175 rfl) ?_
        refine sp_skipsM t0 t4 (l23 e8 e9 e11) ?_
        show Rn _ _ _ _ _ [] _ _
        refine r_return F_178_97 rt_178 ?_
        exact (l24 e8 e9 e11)
    · intro e12
      replace e12 : ¬ ((fgS (m_upd s 77 18 ((s 77 18) + 1)) t 3) 77 19) = 0 := e12
      refine r_ldI_n (m := 3) F_178_43 rfl ?_
      refine r_ifF (t := 51) F_178_44 rfl (by decide) (by show ¬ ((1 : Int) = 0); decide) ?_
      refine r_iconst F_178_47 ?_
      refine r_goto (t := 52) F_178_48 rfl ?_
      refine r_putZ (J := 19) F_178_52 o_178 fl_6_96 ty_77 (by decide) rfl kd_77_19 pf_6_19 (Or.inr rfl) ?_
      refine r_ldR_n (m := 0) F_178_55 rfl ?_
      refine r_ldI_n (m := 1) F_178_56 rfl ?_
      refine r_iconst F_178_57 ?_
      refine r_virt2 (A := [vI t, vI 3]) (r := []) (n := 2) F_178_58 o_178 il_6_107 rfl rfl rfl rfl ty_77 vy_177 (lay_le n_177 rfl) ?_
      refine sp_figureM t0 t4 (l25 e8 e12) (by decide) (by decide) ?_
      show Rn _ _ _ _ _ [vI (lkM (m_upd (fgS (m_upd s 77 18 ((s 77 18) + 1)) t 3) 77 19 1) t - 48)] _ _
      refine r_stI (m := 4) (L' := [some (vR 77), some (vI t), some (vI (lkM (m_upd s 77 18 ((s 77 18) + 1)) t - 48)), some (vI 1), some (vI (lkM (m_upd (fgS (m_upd s 77 18 ((s 77 18) + 1)) t 3) 77 19 1) t - 48))]) F_178_61 rfl rfl ?_
      refine r_ldR_n (m := 0) F_178_63 rfl ?_
      refine r_getR (J := 6) F_178_64 o_178 fl_6_28 ty_77 (by decide) rfl (kd2 kd_77_6 (by decide)) (kd9 kd_77_6 (by decide)) rf_77_6 ?_
      refine r_bipush F_178_67 bi_7 ?_
      refine r_dup2 F_178_69 ?_
      refine r_iald (e := ((fgS (m_upd (fgS (m_upd s 77 18 ((s 77 18) + 1)) t 3) 77 19 1) t 3) 84 7)) F_178_70 ty_84 (by decide) (lt_ln ln_84 (by decide)) rfl ?_
      refine r_ldR_n (m := 0) F_178_71 rfl ?_
      refine r_getI (J := 19) (e := ((fgS (m_upd (fgS (m_upd s 77 18 ((s 77 18) + 1)) t 3) 77 19 1) t 3) 77 19)) F_178_72 o_178 fl_6_96 ty_77 (by decide) rfl kd_77_19 rfl ?_
      refine r_if (t := 89) F_178_75 rfl (l26 e8 e12) ?_ ?_
      · intro e13
        replace e13 : ((fgS (m_upd (fgS (m_upd s 77 18 ((s 77 18) + 1)) t 3) 77 19 1) t 3) 77 19) = 0 := e13
        refine r_iconst F_178_89 ?_
        refine r_ior F_178_90 rfl ?_
        refine r_iast F_178_91 ty_84 (by decide) (lt_ln ln_84 (by decide)) ?_
        refine r_ldR_n (m := 0) F_178_92 rfl ?_
        refine r_ldI_n (m := 1) F_178_93 rfl ?_
        refine r_virt2 (A := [vI t]) (r := []) (n := 1) F_178_94 o_178 il_6_103 rfl rfl rfl rfl ty_77 vy_175 (lay_le n_175 rfl) ?_
        refine sp_skipsM t0 t4 (l27 e8 e12 e13) ?_
        show Rn _ _ _ _ _ [] _ _
        refine r_return F_178_97 rt_178 ?_
        exact (l28 e8 e12 e13)
      · intro e14
        replace e14 : ¬ ((fgS (m_upd (fgS (m_upd s 77 18 ((s 77 18) + 1)) t 3) 77 19 1) t 3) 77 19) = 0 := e14
        refine r_iconst F_178_78 ?_
        refine r_iconst F_178_79 ?_
        refine r_ldI_n (m := 2) F_178_80 rfl ?_
        refine r_imul F_178_81 rfl ?_
        refine r_ldI (m := 4) F_178_82 rfl ?_
        refine r_iadd F_178_84 rfl ?_
        refine r_ishl F_178_85 rfl ?_
        refine r_goto (t := 90) F_178_86 rfl ?_
        refine r_ior F_178_90 rfl ?_
        refine r_iast F_178_91 ty_84 (by decide) (lt_ln ln_84 (by decide)) ?_
        refine r_ldR_n (m := 0) F_178_92 rfl ?_
        refine r_ldI_n (m := 1) F_178_93 rfl ?_
        refine r_virt2 (A := [vI t]) (r := []) (n := 1) F_178_94 o_178 il_6_103 rfl rfl rfl rfl ty_77 vy_175 (lay_le n_175 rfl) ?_
        refine sp_skipsM t0 t4 (l29 e8 e12 e14) ?_
        show Rn _ _ _ _ _ [] _ _
        refine r_return F_178_97 rt_178 ?_
        exact (l30 e8 e12 e14)
theorem t_X6_readsGuest {X : List Int32} {d : Nat} {s : m_St} {P : Option Value → m_St → Prop} {t : Int} (t0 : 0 ≤ t) (t4 : t < 4) (p0 : 0 ≤ (s 77 18))
    (l1 : rdk s t)
    (l2 : inR (lkM s t))
    (l3 : (kOf (lkM s t)) = (-9) → inR (s 84 0))
    (l4 : (kOf (lkM s t)) = (-9) → 6 ≤ (s 84 0) → Rn X (d + 2) 179 86 [some (vR 77), some (vI t), some (vI (kOf (lkM s t))), some (vI 8), some (vI 0)] [] (m_upd (m_upd s 77 19 0) 77 18 (s 77 18)) P)
    (l5 : (kOf (lkM s t)) = (-9) → (s 84 0) < 6 → Rn X (d + 2) 179 86 [some (vR 77), some (vI t), some (vI (kOf (lkM s t))), some (vI (8 + (5 * (s 84 0)))), some (vI 0)] [] (m_upd (m_upd s 77 19 0) 77 18 (s 77 18)) P)
    (l6 : ¬ (kOf (lkM s t)) = (-9) → inR (s 84 0))
    (l7 : ¬ (kOf (lkM s t)) = (-9) → 6 ≤ (s 84 0) → Rn X (d + 2) 179 86 [some (vR 77), some (vI t), some (vI (kOf (lkM s t))), some (vI 8), some (vI 0)] [] (m_upd (m_upd s 77 19 0) 77 18 (s 77 18)) P)
    (l8 : ¬ (kOf (lkM s t)) = (-9) → (s 84 0) < 6 → Rn X (d + 2) 179 86 [some (vR 77), some (vI t), some (vI (kOf (lkM s t))), some (vI (8 + (5 * (s 84 0)))), some (vI 0)] [] (m_upd (m_upd s 77 19 1) 77 18 ((s 77 18) + 1)) P)
    : Cl X (d + 2) 179 [vR 77, vI t] s P := by
  refine Cl_of n_179 rfl ?_
  show Rn _ _ _ _ [some (vR 77), some (vI t), none, none, none] [] _ _
  refine r_ldR_n (m := 0) F_179_0 rfl ?_
  refine r_ldI_n (m := 1) F_179_1 rfl ?_
  refine r_virt2 (A := [vI t]) (r := []) (n := 1) F_179_2 o_179 il_6_100 rfl rfl rfl rfl ty_77 vy_176 (lay_le n_176 rfl) ?_
  refine sp_look t0 t4 l1 ?_
  show Rn _ _ _ _ _ [vI (lkM s t)] _ _
  refine r_stat2 (A := [vI (lkM s t)]) (r := []) (n := 1) F_179_5 o_179 il_6_110 (by decide) rfl rfl rfl rfl (lay_le n_180 rfl) ?_
  refine sp_kindOfM l2 ?_
  show Rn _ _ _ _ _ [vI (kOf (lkM s t))] _ _
  refine r_stI_n (m := 2) (L' := [some (vR 77), some (vI t), some (vI (kOf (lkM s t))), none, none]) F_179_8 rfl rfl ?_
  refine r_ldR_n (m := 0) F_179_9 rfl ?_
  refine r_ldI_n (m := 2) F_179_10 rfl ?_
  refine r_bipush F_179_11 bi__9 ?_
  refine r_icmp (t := 31) F_179_13 rfl (inR_kOf _) (by decide) ?_ ?_
  · intro e1
    replace e1 : (kOf (lkM s t)) = (-9) := e1
    refine r_iconst F_179_31 ?_
    refine r_putZ (J := 19) F_179_32 o_179 fl_6_96 ty_77 (by decide) rfl kd_77_19 pf_6_19 (Or.inl rfl) ?_
    refine r_ldR_n (m := 0) F_179_35 rfl ?_
    refine r_dupR F_179_36 ?_
    refine r_getI (J := 18) (e := (s 77 18)) F_179_37 o_179 fl_6_93 ty_77 (by decide) rfl kd_77_18 (upd_nj (by decide)) ?_
    refine r_ldR_n (m := 0) F_179_40 rfl ?_
    refine r_getI (J := 19) (e := 0) F_179_41 o_179 fl_6_96 ty_77 (by decide) rfl kd_77_19 upd_eq ?_
    refine r_ifT (t := 51) F_179_44 rfl (by decide) (by show (0 : Int) = 0; decide) ?_
    refine r_iconst F_179_51 ?_
    refine r_iadd (e := (s 77 18)) F_179_52 (Int.add_zero _) ?_
    refine r_putI (J := 18) F_179_53 o_179 fl_6_93 ty_77 (by decide) rfl kd_77_18 pf_6_18 ?_
    refine r_bipush F_179_56 bi_8 ?_
    refine r_iconst F_179_58 ?_
    refine r_ldR_n (m := 0) F_179_59 rfl ?_
    refine r_getR (J := 6) F_179_60 o_179 fl_6_28 ty_77 (by decide) rfl (kd2 kd_77_6 (by decide)) (kd9 kd_77_6 (by decide)) rf_77_6 ?_
    refine r_iconst F_179_63 ?_
    refine r_iald (e := (s 84 0)) F_179_64 ty_84 (by decide) (lt_ln ln_84 (by decide)) ((upd_nc (by decide)).trans (upd_nc (by decide))) ?_
    refine r_bipush F_179_65 bi_6 ?_
    refine r_icmp (t := 79) F_179_67 rfl (l3 e1) (by decide) ?_ ?_
    · intro e2
      replace e2 : 6 ≤ (s 84 0) := e2
      refine r_iconst F_179_79 ?_
      refine r_imul (e := 0) F_179_80 (by decide) ?_
      refine r_iadd (e := 8) F_179_81 (by decide) ?_
      refine r_stI_n (m := 3) (L' := [some (vR 77), some (vI t), some (vI (kOf (lkM s t))), some (vI 8), none]) F_179_82 rfl rfl ?_
      refine r_iconst F_179_83 ?_
      refine r_stI (m := 4) (L' := [some (vR 77), some (vI t), some (vI (kOf (lkM s t))), some (vI 8), some (vI 0)]) F_179_84 rfl rfl ?_
      exact (l4 e1 e2)
    · intro e3
      replace e3 : (s 84 0) < 6 := (Int.not_le.mp e3)
      refine r_ldR_n (m := 0) F_179_70 rfl ?_
      refine r_getR (J := 6) F_179_71 o_179 fl_6_28 ty_77 (by decide) rfl (kd2 kd_77_6 (by decide)) (kd9 kd_77_6 (by decide)) rf_77_6 ?_
      refine r_iconst F_179_74 ?_
      refine r_iald (e := (s 84 0)) F_179_75 ty_84 (by decide) (lt_ln ln_84 (by decide)) ((upd_nc (by decide)).trans (upd_nc (by decide))) ?_
      refine r_goto (t := 80) F_179_76 rfl ?_
      refine r_imul F_179_80 rfl ?_
      refine r_iadd F_179_81 rfl ?_
      refine r_stI_n (m := 3) (L' := [some (vR 77), some (vI t), some (vI (kOf (lkM s t))), some (vI (8 + (5 * (s 84 0)))), none]) F_179_82 rfl rfl ?_
      refine r_iconst F_179_83 ?_
      refine r_stI (m := 4) (L' := [some (vR 77), some (vI t), some (vI (kOf (lkM s t))), some (vI (8 + (5 * (s 84 0)))), some (vI 0)]) F_179_84 rfl rfl ?_
      exact (l5 e1 e3)
  · intro e4
    replace e4 : ¬ (kOf (lkM s t)) = (-9) := e4
    refine r_ldR_n (m := 0) F_179_16 rfl ?_
    refine r_getR (J := 6) F_179_17 o_179 fl_6_28 ty_77 (by decide) rfl (kd2 kd_77_6 (by decide)) (kd9 kd_77_6 (by decide)) rf_77_6 ?_
    refine r_iconst F_179_20 ?_
    refine r_iald (e := (s 84 0)) F_179_21 ty_84 (by decide) (lt_ln ln_84 (by decide)) rfl ?_
    refine r_bipush F_179_22 bi_6 ?_
    refine r_icmp (t := 31) F_179_24 rfl (l6 e4) (by decide) ?_ ?_
    · intro e5
      replace e5 : 6 ≤ (s 84 0) := e5
      refine r_iconst F_179_31 ?_
      refine r_putZ (J := 19) F_179_32 o_179 fl_6_96 ty_77 (by decide) rfl kd_77_19 pf_6_19 (Or.inl rfl) ?_
      refine r_ldR_n (m := 0) F_179_35 rfl ?_
      refine r_dupR F_179_36 ?_
      refine r_getI (J := 18) (e := (s 77 18)) F_179_37 o_179 fl_6_93 ty_77 (by decide) rfl kd_77_18 (upd_nj (by decide)) ?_
      refine r_ldR_n (m := 0) F_179_40 rfl ?_
      refine r_getI (J := 19) (e := 0) F_179_41 o_179 fl_6_96 ty_77 (by decide) rfl kd_77_19 upd_eq ?_
      refine r_ifT (t := 51) F_179_44 rfl (by decide) (by show (0 : Int) = 0; decide) ?_
      refine r_iconst F_179_51 ?_
      refine r_iadd (e := (s 77 18)) F_179_52 (Int.add_zero _) ?_
      refine r_putI (J := 18) F_179_53 o_179 fl_6_93 ty_77 (by decide) rfl kd_77_18 pf_6_18 ?_
      refine r_bipush F_179_56 bi_8 ?_
      refine r_iconst F_179_58 ?_
      refine r_ldR_n (m := 0) F_179_59 rfl ?_
      refine r_getR (J := 6) F_179_60 o_179 fl_6_28 ty_77 (by decide) rfl (kd2 kd_77_6 (by decide)) (kd9 kd_77_6 (by decide)) rf_77_6 ?_
      refine r_iconst F_179_63 ?_
      refine r_iald (e := (s 84 0)) F_179_64 ty_84 (by decide) (lt_ln ln_84 (by decide)) ((upd_nc (by decide)).trans (upd_nc (by decide))) ?_
      refine r_bipush F_179_65 bi_6 ?_
      refine r_icmpT (t := 79) F_179_67 rfl (l6 e4) (by decide) e5 ?_
      refine r_iconst F_179_79 ?_
      refine r_imul (e := 0) F_179_80 (by decide) ?_
      refine r_iadd (e := 8) F_179_81 (by decide) ?_
      refine r_stI_n (m := 3) (L' := [some (vR 77), some (vI t), some (vI (kOf (lkM s t))), some (vI 8), none]) F_179_82 rfl rfl ?_
      refine r_iconst F_179_83 ?_
      refine r_stI (m := 4) (L' := [some (vR 77), some (vI t), some (vI (kOf (lkM s t))), some (vI 8), some (vI 0)]) F_179_84 rfl rfl ?_
      exact (l7 e4 e5)
    · intro e6
      replace e6 : (s 84 0) < 6 := (Int.not_le.mp e6)
      refine r_iconst F_179_27 ?_
      refine r_goto (t := 32) F_179_28 rfl ?_
      refine r_putZ (J := 19) F_179_32 o_179 fl_6_96 ty_77 (by decide) rfl kd_77_19 pf_6_19 (Or.inr rfl) ?_
      refine r_ldR_n (m := 0) F_179_35 rfl ?_
      refine r_dupR F_179_36 ?_
      refine r_getI (J := 18) (e := (s 77 18)) F_179_37 o_179 fl_6_93 ty_77 (by decide) rfl kd_77_18 (upd_nj (by decide)) ?_
      refine r_ldR_n (m := 0) F_179_40 rfl ?_
      refine r_getI (J := 19) (e := 1) F_179_41 o_179 fl_6_96 ty_77 (by decide) rfl kd_77_19 upd_eq ?_
      refine r_ifF (t := 51) F_179_44 rfl (by decide) (by show ¬ ((1 : Int) = 0); decide) ?_
      refine r_iconst F_179_47 ?_
      refine r_goto (t := 52) F_179_48 rfl ?_
      refine r_iadd F_179_52 rfl ?_
      refine r_putI (J := 18) F_179_53 o_179 fl_6_93 ty_77 (by decide) rfl kd_77_18 pf_6_18 ?_
      refine r_bipush F_179_56 bi_8 ?_
      refine r_iconst F_179_58 ?_
      refine r_ldR_n (m := 0) F_179_59 rfl ?_
      refine r_getR (J := 6) F_179_60 o_179 fl_6_28 ty_77 (by decide) rfl (kd2 kd_77_6 (by decide)) (kd9 kd_77_6 (by decide)) rf_77_6 ?_
      refine r_iconst F_179_63 ?_
      refine r_iald (e := (s 84 0)) F_179_64 ty_84 (by decide) (lt_ln ln_84 (by decide)) ((upd_nc (by decide)).trans (upd_nc (by decide))) ?_
      refine r_bipush F_179_65 bi_6 ?_
      refine r_icmpF (t := 79) F_179_67 rfl (l6 e4) (by decide) (Int.not_le.mpr e6) ?_
      refine r_ldR_n (m := 0) F_179_70 rfl ?_
      refine r_getR (J := 6) F_179_71 o_179 fl_6_28 ty_77 (by decide) rfl (kd2 kd_77_6 (by decide)) (kd9 kd_77_6 (by decide)) rf_77_6 ?_
      refine r_iconst F_179_74 ?_
      refine r_iald (e := (s 84 0)) F_179_75 ty_84 (by decide) (lt_ln ln_84 (by decide)) ((upd_nc (by decide)).trans (upd_nc (by decide))) ?_
      refine r_goto (t := 80) F_179_76 rfl ?_
      refine r_imul F_179_80 rfl ?_
      refine r_iadd F_179_81 rfl ?_
      refine r_stI_n (m := 3) (L' := [some (vR 77), some (vI t), some (vI (kOf (lkM s t))), some (vI (8 + (5 * (s 84 0)))), none]) F_179_82 rfl rfl ?_
      refine r_iconst F_179_83 ?_
      refine r_stI (m := 4) (L' := [some (vR 77), some (vI t), some (vI (kOf (lkM s t))), some (vI (8 + (5 * (s 84 0)))), some (vI 0)]) F_179_84 rfl rfl ?_
      exact (l8 e4 e6)
theorem t_X6_readsGuest_86 {X : List Int32} {d : Nat} {s : m_St} {P : Option Value → m_St → Prop} {t k m c : Int} (t0 : 0 ≤ t) (t4 : t < 4) (c0 : 0 ≤ c)
    (l1 : inR c)
    (l2 : 4 ≤ c → inR (s 77 19))
    (l3 : 4 ≤ c → (s 77 19) = 0 → rdk s t)
    (l4 : 4 ≤ c → (s 77 19) = 0 → P none (skS s t))
    (l5 : 4 ≤ c → ¬ (s 77 19) = 0 → 0 ≤ m)
    (l6 : 4 ≤ c → ¬ (s 77 19) = 0 → m < 198)
    (l7 : 4 ≤ c → ¬ (s 77 19) = 0 → rdk (m_upd (m_upd s 84 m k) 84 0 (((m_upd s 84 m k) 84 0) + 1)) t)
    (l8 : 4 ≤ c → ¬ (s 77 19) = 0 → P none (skS (m_upd (m_upd s 84 m k) 84 0 (((m_upd s 84 m k) 84 0) + 1)) t))
    (l9 : c < 4 → inR (s 77 19))
    (l10 : c < 4 → (s 77 19) = 0 → rdk s t)
    (l11 : c < 4 → (s 77 19) = 0 → P none (skS s t))
    (l12 : c < 4 → ¬ (s 77 19) = 0 → rdk s t)
    (l13 : c < 4 → ¬ (s 77 19) = 0 → 0 ≤ ((m + 1) + c))
    (l14 : c < 4 → ¬ (s 77 19) = 0 → ((m + 1) + c) < 198)
    (l15 : c < 4 → ¬ (s 77 19) = 0 → Rn X (d + 2) 179 86 [some (vR 77), some (vI t), some (vI k), some (vI m), some (vI (c + 1))] [] (m_upd (fgS s t 9) 84 ((m + 1) + c) (lkM s t - 48)) P)
    : Rn X (d + 2) 179 86 [some (vR 77), some (vI t), some (vI k), some (vI m), some (vI c)] [] s P := by
  refine r_ldI (m := 4) F_179_86 rfl ?_
  refine r_iconst F_179_88 ?_
  refine r_icmp (t := 123) F_179_89 rfl l1 (by decide) ?_ ?_
  · intro e1
    replace e1 : 4 ≤ c := e1
    refine r_ldR_n (m := 0) F_179_123 rfl ?_
    refine r_getI (J := 19) (e := (s 77 19)) F_179_124 o_179 fl_6_96 ty_77 (by decide) rfl kd_77_19 rfl ?_
    refine r_if (t := 147) F_179_127 rfl (l2 e1) ?_ ?_
    · intro e2
      replace e2 : (s 77 19) = 0 := e2
      refine r_ldR_n (m := 0) F_179_147 rfl ?_
      refine r_ldI_n (m := 1) F_179_148 rfl ?_
      refine r_virt2 (A := [vI t]) (r := []) (n := 1) F_179_149 o_179 il_6_103 rfl rfl rfl rfl ty_77 vy_175 (lay_le n_175 rfl) ?_
      refine sp_skipsM t0 t4 (l3 e1 e2) ?_
      show Rn _ _ _ _ _ [] _ _
      refine r_return F_179_152 rt_179 ?_
      exact (l4 e1 e2)
    · intro e3
      replace e3 : ¬ (s 77 19) = 0 := e3
      refine r_ldR_n (m := 0) F_179_130 rfl ?_
      refine r_getR (J := 6) F_179_131 o_179 fl_6_28 ty_77 (by decide) rfl (kd2 kd_77_6 (by decide)) (kd9 kd_77_6 (by decide)) rf_77_6 ?_
      refine r_ldI_n (m := 3) F_179_134 rfl ?_
      refine r_ldI_n (m := 2) F_179_135 rfl ?_
      refine r_iast F_179_136 ty_84 (l5 e1 e3) (lt_ln ln_84 (l6 e1 e3)) ?_
      refine r_ldR_n (m := 0) F_179_137 rfl ?_
      refine r_getR (J := 6) F_179_138 o_179 fl_6_28 ty_77 (by decide) rfl (kd2 kd_77_6 (by decide)) (kd9 kd_77_6 (by decide)) rf_77_6 ?_
      refine r_iconst F_179_141 ?_
      refine r_dup2 F_179_142 ?_
      refine r_iald (e := ((m_upd s 84 m k) 84 0)) F_179_143 ty_84 (by decide) (lt_ln ln_84 (by decide)) rfl ?_
      refine r_iconst F_179_144 ?_
      refine r_iadd F_179_145 rfl ?_
      refine r_iast F_179_146 ty_84 (by decide) (lt_ln ln_84 (by decide)) ?_
      refine r_ldR_n (m := 0) F_179_147 rfl ?_
      refine r_ldI_n (m := 1) F_179_148 rfl ?_
      refine r_virt2 (A := [vI t]) (r := []) (n := 1) F_179_149 o_179 il_6_103 rfl rfl rfl rfl ty_77 vy_175 (lay_le n_175 rfl) ?_
      refine sp_skipsM t0 t4 (l7 e1 e3) ?_
      show Rn _ _ _ _ _ [] _ _
      refine r_return F_179_152 rt_179 ?_
      exact (l8 e1 e3)
  · intro e4
    replace e4 : c < 4 := (Int.not_le.mp e4)
    refine r_ldR_n (m := 0) F_179_92 rfl ?_
    refine r_getI (J := 19) (e := (s 77 19)) F_179_93 o_179 fl_6_96 ty_77 (by decide) rfl kd_77_19 rfl ?_
    refine r_if (t := 123) F_179_96 rfl (l9 e4) ?_ ?_
    · intro e5
      replace e5 : (s 77 19) = 0 := e5
      refine r_ldR_n (m := 0) F_179_123 rfl ?_
      refine r_getI (J := 19) (e := (s 77 19)) F_179_124 o_179 fl_6_96 ty_77 (by decide) rfl kd_77_19 rfl ?_
      refine r_ifT (t := 147) F_179_127 rfl (l9 e4) e5 ?_
      refine r_ldR_n (m := 0) F_179_147 rfl ?_
      refine r_ldI_n (m := 1) F_179_148 rfl ?_
      refine r_virt2 (A := [vI t]) (r := []) (n := 1) F_179_149 o_179 il_6_103 rfl rfl rfl rfl ty_77 vy_175 (lay_le n_175 rfl) ?_
      refine sp_skipsM t0 t4 (l10 e4 e5) ?_
      show Rn _ _ _ _ _ [] _ _
      refine r_return F_179_152 rt_179 ?_
      exact (l11 e4 e5)
    · intro e6
      replace e6 : ¬ (s 77 19) = 0 := e6
      refine r_ldR_n (m := 0) F_179_99 rfl ?_
      refine r_getR (J := 6) F_179_100 o_179 fl_6_28 ty_77 (by decide) rfl (kd2 kd_77_6 (by decide)) (kd9 kd_77_6 (by decide)) rf_77_6 ?_
      refine r_ldI_n (m := 3) F_179_103 rfl ?_
      refine r_iconst F_179_104 ?_
      refine r_iadd F_179_105 rfl ?_
      refine r_ldI (m := 4) F_179_106 rfl ?_
      refine r_iadd F_179_108 rfl ?_
      refine r_ldR_n (m := 0) F_179_109 rfl ?_
      refine r_ldI_n (m := 1) F_179_110 rfl ?_
      refine r_bipush F_179_111 bi_9 ?_
      refine r_virt2 (A := [vI t, vI 9]) (r := [vI ((m + 1) + c), vR 84]) (n := 2) F_179_113 o_179 il_6_107 rfl rfl rfl rfl ty_77 vy_177 (lay_le n_177 rfl) ?_
      refine sp_figureM t0 t4 (l12 e4 e6) (by decide) (by decide) ?_
      show Rn _ _ _ _ _ [vI (lkM s t - 48), vI ((m + 1) + c), vR 84] _ _
      refine r_iast F_179_116 ty_84 (l13 e4 e6) (lt_ln ln_84 (l14 e4 e6)) ?_
      refine r_iinc (m := 4) (e := (c + 1)) (L' := [some (vR 77), some (vI t), some (vI k), some (vI m), some (vI (c + 1))]) F_179_117 rfl rfl rfl rfl ?_
      refine r_goto (t := 86) F_179_120 rfl ?_
      exact (l15 e4 e6)
