/-! walks: talks of the reference -/
theorem n_218 : m_n 218 = 4 := by decide +kernel
theorem F_218_0 : F 218 0 (.iconst 1) 1 := ⟨1, by decide +kernel, rfl, rfl⟩
theorem F_218_1 : F 218 1 (.istore_n 2) 2 := ⟨1, by decide +kernel, rfl, rfl⟩
theorem F_218_2 : F 218 2 (.iconst 0) 3 := ⟨1, by decide +kernel, rfl, rfl⟩
theorem F_218_3 : F 218 3 (.istore_n 3) 4 := ⟨1, by decide +kernel, rfl, rfl⟩
theorem F_218_4 : F 218 4 (.iload_n 3) 5 := ⟨1, by decide +kernel, rfl, rfl⟩
theorem F_218_5 : F 218 5 (.aload_n 0) 6 := ⟨1, by decide +kernel, rfl, rfl⟩
theorem F_218_6 : F 218 6 (.getfield 7) 9 := ⟨3, by decide +kernel, rfl, rfl⟩
theorem o_218 : m_o 218 = 6 := by decide +kernel
theorem F_218_9 : F 218 9 (.iload_n 1) 10 := ⟨1, by decide +kernel, rfl, rfl⟩
theorem F_218_10 : F 218 10 (.iaload) 11 := ⟨1, by decide +kernel, rfl, rfl⟩
theorem F_218_11 : F 218 11 (.if_icmp .ge 39) 14 := ⟨3, by decide +kernel, rfl, rfl⟩
theorem F_218_50 : F 218 50 (.iload_n 2) 51 := ⟨1, by decide +kernel, rfl, rfl⟩
theorem F_218_51 : F 218 51 (.ireturn) 52 := ⟨1, by decide +kernel, rfl, rfl⟩
theorem rt_218 : m_r 218 = (some .boolean) := by decide +kernel
theorem F_218_14 : F 218 14 (.iload_n 2) 15 := ⟨1, by decide +kernel, rfl, rfl⟩
theorem F_218_15 : F 218 15 (.ifCond .eq 27) 18 := ⟨3, by decide +kernel, rfl, rfl⟩
theorem F_218_42 : F 218 42 (.iconst 0) 43 := ⟨1, by decide +kernel, rfl, rfl⟩
theorem F_218_43 : F 218 43 (.istore_n 2) 44 := ⟨1, by decide +kernel, rfl, rfl⟩
theorem F_218_44 : F 218 44 (.iinc 3 1) 47 := ⟨3, by decide +kernel, rfl, rfl⟩
theorem F_218_47 : F 218 47 (.goto (-43)) 50 := ⟨3, by decide +kernel, rfl, rfl⟩
theorem F_218_18 : F 218 18 (.aload_n 0) 19 := ⟨1, by decide +kernel, rfl, rfl⟩
theorem F_218_19 : F 218 19 (.getfield 13) 22 := ⟨3, by decide +kernel, rfl, rfl⟩
theorem F_218_22 : F 218 22 (.bipush 40) 24 := ⟨2, by decide +kernel, rfl, rfl⟩
theorem F_218_24 : F 218 24 (.iload_n 1) 25 := ⟨1, by decide +kernel, rfl, rfl⟩
theorem F_218_25 : F 218 25 (.imul) 26 := ⟨1, by decide +kernel, rfl, rfl⟩
theorem F_218_26 : F 218 26 (.iload_n 3) 27 := ⟨1, by decide +kernel, rfl, rfl⟩
theorem F_218_27 : F 218 27 (.iadd) 28 := ⟨1, by decide +kernel, rfl, rfl⟩
theorem F_218_28 : F 218 28 (.iaload) 29 := ⟨1, by decide +kernel, rfl, rfl⟩
theorem F_218_29 : F 218 29 (.iconst 0) 30 := ⟨1, by decide +kernel, rfl, rfl⟩
theorem F_218_30 : F 218 30 (.bipush 7) 32 := ⟨2, by decide +kernel, rfl, rfl⟩
theorem F_218_32 : F 218 32 (.invokestatic 67) 35 := ⟨3, by decide +kernel, rfl, rfl⟩
theorem F_218_35 : F 218 35 (.ifCond .eq 7) 38 := ⟨3, by decide +kernel, rfl, rfl⟩
theorem F_218_38 : F 218 38 (.iconst 1) 39 := ⟨1, by decide +kernel, rfl, rfl⟩
theorem F_218_39 : F 218 39 (.goto 4) 42 := ⟨3, by decide +kernel, rfl, rfl⟩
theorem n_220 : m_n 220 = 4 := by decide +kernel
theorem F_220_0 : F 220 0 (.aload_n 0) 1 := ⟨1, by decide +kernel, rfl, rfl⟩
theorem F_220_1 : F 220 1 (.getfield 41) 4 := ⟨3, by decide +kernel, rfl, rfl⟩
theorem fl_6_41 : m_fl.lookup (6, 41) = some (6, 14, 4159) := by decide +kernel
theorem kd_77_14 : kd 77 14 = 90 := by decide +kernel
theorem o_220 : m_o 220 = 6 := by decide +kernel
theorem rf_77_14 : rf 77 14 = 88 := by decide +kernel
theorem F_220_4 : F 220 4 (.iconst 0) 5 := ⟨1, by decide +kernel, rfl, rfl⟩
theorem F_220_5 : F 220 5 (.aload_n 0) 6 := ⟨1, by decide +kernel, rfl, rfl⟩
theorem F_220_6 : F 220 6 (.iload_n 1) 7 := ⟨1, by decide +kernel, rfl, rfl⟩
theorem F_220_7 : F 220 7 (.invokevirtual 136) 10 := ⟨3, by decide +kernel, rfl, rfl⟩
theorem F_220_10 : F 220 10 (.iastore) 11 := ⟨1, by decide +kernel, rfl, rfl⟩
theorem ln_88 : ln 88 = 2 := by decide +kernel
theorem ty_88 : ty 88 = 20 := by decide +kernel
theorem F_220_11 : F 220 11 (.aload_n 0) 12 := ⟨1, by decide +kernel, rfl, rfl⟩
theorem F_220_12 : F 220 12 (.getfield 41) 15 := ⟨3, by decide +kernel, rfl, rfl⟩
theorem F_220_15 : F 220 15 (.iconst 1) 16 := ⟨1, by decide +kernel, rfl, rfl⟩
theorem F_220_16 : F 220 16 (.aload_n 0) 17 := ⟨1, by decide +kernel, rfl, rfl⟩
theorem F_220_17 : F 220 17 (.iload_n 2) 18 := ⟨1, by decide +kernel, rfl, rfl⟩
theorem F_220_18 : F 220 18 (.invokevirtual 136) 21 := ⟨3, by decide +kernel, rfl, rfl⟩
theorem F_220_21 : F 220 21 (.iastore) 22 := ⟨1, by decide +kernel, rfl, rfl⟩
theorem F_220_22 : F 220 22 (.iconst 0) 23 := ⟨1, by decide +kernel, rfl, rfl⟩
theorem F_220_23 : F 220 23 (.istore_n 3) 24 := ⟨1, by decide +kernel, rfl, rfl⟩
theorem F_220_24 : F 220 24 (.iload_n 3) 25 := ⟨1, by decide +kernel, rfl, rfl⟩
theorem F_220_25 : F 220 25 (.iconst 4) 26 := ⟨1, by decide +kernel, rfl, rfl⟩
theorem F_220_26 : F 220 26 (.if_icmp .ge 53) 29 := ⟨3, by decide +kernel, rfl, rfl⟩
theorem F_220_29 : F 220 29 (.aload_n 0) 30 := ⟨1, by decide +kernel, rfl, rfl⟩
theorem F_220_30 : F 220 30 (.getfield 44) 33 := ⟨3, by decide +kernel, rfl, rfl⟩
theorem fl_6_44 : m_fl.lookup (6, 44) = some (6, 15, 4160) := by decide +kernel
theorem kd_77_15 : kd 77 15 = 91 := by decide +kernel
theorem rf_77_15 : rf 77 15 = 89 := by decide +kernel
theorem F_220_33 : F 220 33 (.iload_n 3) 34 := ⟨1, by decide +kernel, rfl, rfl⟩
theorem F_220_34 : F 220 34 (.aload_n 0) 35 := ⟨1, by decide +kernel, rfl, rfl⟩
theorem F_220_35 : F 220 35 (.getfield 25) 38 := ⟨3, by decide +kernel, rfl, rfl⟩
theorem F_220_38 : F 220 38 (.bipush 8) 40 := ⟨2, by decide +kernel, rfl, rfl⟩
theorem F_220_40 : F 220 40 (.iconst 5) 41 := ⟨1, by decide +kernel, rfl, rfl⟩
theorem F_220_41 : F 220 41 (.iload_n 1) 42 := ⟨1, by decide +kernel, rfl, rfl⟩
theorem F_220_42 : F 220 42 (.imul) 43 := ⟨1, by decide +kernel, rfl, rfl⟩
theorem F_220_43 : F 220 43 (.iadd) 44 := ⟨1, by decide +kernel, rfl, rfl⟩
theorem F_220_44 : F 220 44 (.iconst 1) 45 := ⟨1, by decide +kernel, rfl, rfl⟩
theorem F_220_45 : F 220 45 (.iadd) 46 := ⟨1, by decide +kernel, rfl, rfl⟩
theorem F_220_46 : F 220 46 (.iload_n 3) 47 := ⟨1, by decide +kernel, rfl, rfl⟩
theorem F_220_47 : F 220 47 (.iadd) 48 := ⟨1, by decide +kernel, rfl, rfl⟩
theorem F_220_48 : F 220 48 (.iaload) 49 := ⟨1, by decide +kernel, rfl, rfl⟩
theorem F_220_49 : F 220 49 (.iastore) 50 := ⟨1, by decide +kernel, rfl, rfl⟩
theorem F_220_50 : F 220 50 (.aload_n 0) 51 := ⟨1, by decide +kernel, rfl, rfl⟩
theorem F_220_51 : F 220 51 (.getfield 44) 54 := ⟨3, by decide +kernel, rfl, rfl⟩
theorem F_220_54 : F 220 54 (.iconst 4) 55 := ⟨1, by decide +kernel, rfl, rfl⟩
theorem F_220_55 : F 220 55 (.iload_n 3) 56 := ⟨1, by decide +kernel, rfl, rfl⟩
theorem F_220_56 : F 220 56 (.iadd) 57 := ⟨1, by decide +kernel, rfl, rfl⟩
theorem F_220_57 : F 220 57 (.aload_n 0) 58 := ⟨1, by decide +kernel, rfl, rfl⟩
theorem F_220_58 : F 220 58 (.getfield 25) 61 := ⟨3, by decide +kernel, rfl, rfl⟩
theorem F_220_61 : F 220 61 (.bipush 8) 63 := ⟨2, by decide +kernel, rfl, rfl⟩
theorem F_220_63 : F 220 63 (.iconst 5) 64 := ⟨1, by decide +kernel, rfl, rfl⟩
theorem F_220_64 : F 220 64 (.iload_n 2) 65 := ⟨1, by decide +kernel, rfl, rfl⟩
theorem F_220_65 : F 220 65 (.imul) 66 := ⟨1, by decide +kernel, rfl, rfl⟩
theorem F_220_66 : F 220 66 (.iadd) 67 := ⟨1, by decide +kernel, rfl, rfl⟩
theorem F_220_67 : F 220 67 (.iconst 1) 68 := ⟨1, by decide +kernel, rfl, rfl⟩
theorem F_220_68 : F 220 68 (.iadd) 69 := ⟨1, by decide +kernel, rfl, rfl⟩
theorem F_220_69 : F 220 69 (.iload_n 3) 70 := ⟨1, by decide +kernel, rfl, rfl⟩
theorem F_220_70 : F 220 70 (.iadd) 71 := ⟨1, by decide +kernel, rfl, rfl⟩
theorem F_220_71 : F 220 71 (.iaload) 72 := ⟨1, by decide +kernel, rfl, rfl⟩
theorem F_220_72 : F 220 72 (.iastore) 73 := ⟨1, by decide +kernel, rfl, rfl⟩
theorem F_220_73 : F 220 73 (.iinc 3 1) 76 := ⟨3, by decide +kernel, rfl, rfl⟩
theorem F_220_76 : F 220 76 (.goto (-52)) 79 := ⟨3, by decide +kernel, rfl, rfl⟩
theorem F_220_79 : F 220 79 (.return_) 80 := ⟨1, by decide +kernel, rfl, rfl⟩
theorem rt_220 : m_r 220 = none := by decide +kernel
theorem n_223 : m_n 223 = 6 := by decide +kernel
theorem F_223_0 : F 223 0 (.iconst 0) 1 := ⟨1, by decide +kernel, rfl, rfl⟩
theorem F_223_1 : F 223 1 (.istore 4) 3 := ⟨2, by decide +kernel, rfl, rfl⟩
theorem F_223_3 : F 223 3 (.iload 4) 5 := ⟨2, by decide +kernel, rfl, rfl⟩
theorem F_223_5 : F 223 5 (.bipush 8) 7 := ⟨2, by decide +kernel, rfl, rfl⟩
theorem F_223_7 : F 223 7 (.if_icmp .ge 36) 10 := ⟨3, by decide +kernel, rfl, rfl⟩
theorem F_223_43 : F 223 43 (.iload_n 3) 44 := ⟨1, by decide +kernel, rfl, rfl⟩
theorem F_223_44 : F 223 44 (.ifCond .eq 67) 47 := ⟨3, by decide +kernel, rfl, rfl⟩
theorem F_223_111 : F 223 111 (.return_) 112 := ⟨1, by decide +kernel, rfl, rfl⟩
theorem rt_223 : m_r 223 = none := by decide +kernel
theorem F_223_47 : F 223 47 (.iconst 1) 48 := ⟨1, by decide +kernel, rfl, rfl⟩
theorem F_223_48 : F 223 48 (.iload_n 2) 49 := ⟨1, by decide +kernel, rfl, rfl⟩
theorem F_223_49 : F 223 49 (.iconst 4) 50 := ⟨1, by decide +kernel, rfl, rfl⟩
theorem F_223_50 : F 223 50 (.idiv) 51 := ⟨1, by decide +kernel, rfl, rfl⟩
theorem F_223_51 : F 223 51 (.isub) 52 := ⟨1, by decide +kernel, rfl, rfl⟩
theorem F_223_52 : F 223 52 (.istore 4) 54 := ⟨2, by decide +kernel, rfl, rfl⟩
theorem F_223_54 : F 223 54 (.bipush 8) 56 := ⟨2, by decide +kernel, rfl, rfl⟩
theorem F_223_56 : F 223 56 (.iload_n 1) 57 := ⟨1, by decide +kernel, rfl, rfl⟩
theorem F_223_57 : F 223 57 (.imul) 58 := ⟨1, by decide +kernel, rfl, rfl⟩
theorem F_223_58 : F 223 58 (.bipush 8) 60 := ⟨2, by decide +kernel, rfl, rfl⟩
theorem F_223_60 : F 223 60 (.iadd) 61 := ⟨1, by decide +kernel, rfl, rfl⟩
theorem F_223_61 : F 223 61 (.iconst 4) 62 := ⟨1, by decide +kernel, rfl, rfl⟩
theorem F_223_62 : F 223 62 (.iload 4) 64 := ⟨2, by decide +kernel, rfl, rfl⟩
theorem F_223_64 : F 223 64 (.imul) 65 := ⟨1, by decide +kernel, rfl, rfl⟩
theorem F_223_65 : F 223 65 (.iadd) 66 := ⟨1, by decide +kernel, rfl, rfl⟩
theorem F_223_66 : F 223 66 (.iload_n 2) 67 := ⟨1, by decide +kernel, rfl, rfl⟩
theorem F_223_67 : F 223 67 (.iconst 4) 68 := ⟨1, by decide +kernel, rfl, rfl⟩
theorem F_223_68 : F 223 68 (.irem) 69 := ⟨1, by decide +kernel, rfl, rfl⟩
theorem F_223_69 : F 223 69 (.iadd) 70 := ⟨1, by decide +kernel, rfl, rfl⟩
theorem F_223_70 : F 223 70 (.istore 5) 72 := ⟨2, by decide +kernel, rfl, rfl⟩
theorem F_223_72 : F 223 72 (.aload_n 0) 73 := ⟨1, by decide +kernel, rfl, rfl⟩
theorem F_223_73 : F 223 73 (.getfield 44) 76 := ⟨3, by decide +kernel, rfl, rfl⟩
theorem o_223 : m_o 223 = 6 := by decide +kernel
theorem F_223_76 : F 223 76 (.iload 5) 78 := ⟨2, by decide +kernel, rfl, rfl⟩
theorem F_223_78 : F 223 78 (.aload_n 0) 79 := ⟨1, by decide +kernel, rfl, rfl⟩
theorem F_223_79 : F 223 79 (.getfield 44) 82 := ⟨3, by decide +kernel, rfl, rfl⟩
theorem F_223_82 : F 223 82 (.iload 5) 84 := ⟨2, by decide +kernel, rfl, rfl⟩
theorem F_223_84 : F 223 84 (.iaload) 85 := ⟨1, by decide +kernel, rfl, rfl⟩
theorem F_223_85 : F 223 85 (.aload_n 0) 86 := ⟨1, by decide +kernel, rfl, rfl⟩
theorem F_223_86 : F 223 86 (.aload_n 0) 87 := ⟨1, by decide +kernel, rfl, rfl⟩
theorem F_223_87 : F 223 87 (.getfield 41) 90 := ⟨3, by decide +kernel, rfl, rfl⟩
theorem F_223_90 : F 223 90 (.iload 4) 92 := ⟨2, by decide +kernel, rfl, rfl⟩
theorem F_223_92 : F 223 92 (.iaload) 93 := ⟨1, by decide +kernel, rfl, rfl⟩
theorem F_223_93 : F 223 93 (.aload_n 0) 94 := ⟨1, by decide +kernel, rfl, rfl⟩
theorem F_223_94 : F 223 94 (.iload_n 1) 95 := ⟨1, by decide +kernel, rfl, rfl⟩
theorem F_223_95 : F 223 95 (.iload 4) 97 := ⟨2, by decide +kernel, rfl, rfl⟩
theorem F_223_97 : F 223 97 (.invokevirtual 204) 100 := ⟨3, by decide +kernel, rfl, rfl⟩
theorem il_6_204 : ilq 6 204 0 222 2 = true := by decide +kernel
theorem vy_222 : (m_cls 6).1 = (m_y 222).cls ∧ 6 < m_cl.length := by decide +kernel
theorem n_222 : m_n 222 = 3 := by decide +kernel
theorem F_222_0 : F 222 0 (.aload_n 0) 1 := ⟨1, by decide +kernel, rfl, rfl⟩
theorem F_222_1 : F 222 1 (.getfield 41) 4 := ⟨3, by decide +kernel, rfl, rfl⟩
theorem o_222 : m_o 222 = 6 := by decide +kernel
theorem F_222_4 : F 222 4 (.iload_n 2) 5 := ⟨1, by decide +kernel, rfl, rfl⟩
theorem F_222_5 : F 222 5 (.iaload) 6 := ⟨1, by decide +kernel, rfl, rfl⟩
theorem F_222_6 : F 222 6 (.aload_n 0) 7 := ⟨1, by decide +kernel, rfl, rfl⟩
theorem F_222_7 : F 222 7 (.getfield 44) 10 := ⟨3, by decide +kernel, rfl, rfl⟩
theorem F_222_10 : F 222 10 (.bipush 8) 12 := ⟨2, by decide +kernel, rfl, rfl⟩
theorem F_222_12 : F 222 12 (.iload_n 1) 13 := ⟨1, by decide +kernel, rfl, rfl⟩
theorem F_222_13 : F 222 13 (.imul) 14 := ⟨1, by decide +kernel, rfl, rfl⟩
theorem F_222_14 : F 222 14 (.iconst 4) 15 := ⟨1, by decide +kernel, rfl, rfl⟩
theorem F_222_15 : F 222 15 (.iload_n 2) 16 := ⟨1, by decide +kernel, rfl, rfl⟩
theorem F_222_16 : F 222 16 (.imul) 17 := ⟨1, by decide +kernel, rfl, rfl⟩
theorem F_222_17 : F 222 17 (.iadd) 18 := ⟨1, by decide +kernel, rfl, rfl⟩
theorem F_222_18 : F 222 18 (.invokestatic 139) 21 := ⟨3, by decide +kernel, rfl, rfl⟩
theorem F_222_21 : F 222 21 (.ireturn) 22 := ⟨1, by decide +kernel, rfl, rfl⟩
theorem rt_222 : m_r 222 = (some .int) := by decide +kernel
theorem F_223_100 : F 223 100 (.iload_n 2) 101 := ⟨1, by decide +kernel, rfl, rfl⟩
theorem F_223_101 : F 223 101 (.iconst 4) 102 := ⟨1, by decide +kernel, rfl, rfl⟩
theorem F_223_102 : F 223 102 (.irem) 103 := ⟨1, by decide +kernel, rfl, rfl⟩
theorem F_223_103 : F 223 103 (.invokevirtual 146) 106 := ⟨3, by decide +kernel, rfl, rfl⟩
theorem F_223_106 : F 223 106 (.iadd) 107 := ⟨1, by decide +kernel, rfl, rfl⟩
theorem F_223_107 : F 223 107 (.invokestatic 179) 110 := ⟨3, by decide +kernel, rfl, rfl⟩
theorem F_223_110 : F 223 110 (.iastore) 111 := ⟨1, by decide +kernel, rfl, rfl⟩
theorem F_223_10 : F 223 10 (.aload_n 0) 11 := ⟨1, by decide +kernel, rfl, rfl⟩
theorem F_223_11 : F 223 11 (.getfield 44) 14 := ⟨3, by decide +kernel, rfl, rfl⟩
theorem F_223_14 : F 223 14 (.bipush 8) 16 := ⟨2, by decide +kernel, rfl, rfl⟩
theorem F_223_16 : F 223 16 (.iload_n 1) 17 := ⟨1, by decide +kernel, rfl, rfl⟩
theorem F_223_17 : F 223 17 (.imul) 18 := ⟨1, by decide +kernel, rfl, rfl⟩
theorem F_223_18 : F 223 18 (.bipush 8) 20 := ⟨2, by decide +kernel, rfl, rfl⟩
theorem F_223_20 : F 223 20 (.iadd) 21 := ⟨1, by decide +kernel, rfl, rfl⟩
theorem F_223_21 : F 223 21 (.iload 4) 23 := ⟨2, by decide +kernel, rfl, rfl⟩
theorem F_223_23 : F 223 23 (.iadd) 24 := ⟨1, by decide +kernel, rfl, rfl⟩
theorem F_223_24 : F 223 24 (.aload_n 0) 25 := ⟨1, by decide +kernel, rfl, rfl⟩
theorem F_223_25 : F 223 25 (.getfield 44) 28 := ⟨3, by decide +kernel, rfl, rfl⟩
theorem F_223_28 : F 223 28 (.bipush 8) 30 := ⟨2, by decide +kernel, rfl, rfl⟩
theorem F_223_30 : F 223 30 (.iload_n 1) 31 := ⟨1, by decide +kernel, rfl, rfl⟩
theorem F_223_31 : F 223 31 (.imul) 32 := ⟨1, by decide +kernel, rfl, rfl⟩
theorem F_223_32 : F 223 32 (.iload 4) 34 := ⟨2, by decide +kernel, rfl, rfl⟩
theorem F_223_34 : F 223 34 (.iadd) 35 := ⟨1, by decide +kernel, rfl, rfl⟩
theorem F_223_35 : F 223 35 (.iaload) 36 := ⟨1, by decide +kernel, rfl, rfl⟩
theorem F_223_36 : F 223 36 (.iastore) 37 := ⟨1, by decide +kernel, rfl, rfl⟩
theorem F_223_37 : F 223 37 (.iinc 4 1) 40 := ⟨3, by decide +kernel, rfl, rfl⟩
theorem F_223_40 : F 223 40 (.goto (-37)) 43 := ⟨3, by decide +kernel, rfl, rfl⟩
theorem t_X6_areSayings {X : List Int32} {d : Nat} {s : m_St} {P : Option Value → m_St → Prop} {r : Int} (h0 : 0 ≤ r) (h6 : r < 6)
    (l1 : Rn X (d + 1) 218 4 [some (vR 77), some (vI r), some (vI 1), some (vI 0)] [] s P)
    : Cl X (d + 1) 218 [vR 77, vI r] s P := by
  refine Cl_of n_218 rfl ?_
  show Rn _ _ _ _ [some (vR 77), some (vI r), none, none] [] _ _
  refine r_iconst F_218_0 ?_
  refine r_stI_n (m := 2) (L' := [some (vR 77), some (vI r), some (vI 1), none]) F_218_1 rfl rfl ?_
  refine r_iconst F_218_2 ?_
  refine r_stI_n (m := 3) (L' := [some (vR 77), some (vI r), some (vI 1), some (vI 0)]) F_218_3 rfl rfl ?_
  exact l1
theorem t_X6_areSayings_4 {X : List Int32} {d : Nat} {s : m_St} {P : Option Value → m_St → Prop} {r b k : Int} (h0 : 0 ≤ r) (h6 : r < 6) (k0 : 0 ≤ k)
    (l1 : inR k)
    (l2 : inR (s 78 r))
    (l3 : (s 78 r) ≤ k → (b = 0 ∨ b = 1))
    (l4 : (s 78 r) ≤ k → P (some (vI b)) s)
    (l5 : k < (s 78 r) → inR b)
    (l6 : k < (s 78 r) → b = 0 → Rn X (d + 1) 218 4 [some (vR 77), some (vI r), some (vI 0), some (vI (k + 1))] [] s P)
    (l7 : k < (s 78 r) → ¬ b = 0 → 0 ≤ ((40 * r) + k))
    (l8 : k < (s 78 r) → ¬ b = 0 → ((40 * r) + k) < 240)
    (l9 : k < (s 78 r) → ¬ b = 0 → inR (s 79 ((40 * r) + k)))
    (l10 : k < (s 78 r) → ¬ b = 0 → (s 79 ((40 * r) + k)) < 0 → Rn X (d + 1) 218 4 [some (vR 77), some (vI r), some (vI 0), some (vI (k + 1))] [] s P)
    (l11 : k < (s 78 r) → ¬ b = 0 → 0 ≤ (s 79 ((40 * r) + k)) → 7 < (s 79 ((40 * r) + k)) → Rn X (d + 1) 218 4 [some (vR 77), some (vI r), some (vI 0), some (vI (k + 1))] [] s P)
    (l12 : k < (s 78 r) → ¬ b = 0 → 0 ≤ (s 79 ((40 * r) + k)) → (s 79 ((40 * r) + k)) ≤ 7 → Rn X (d + 1) 218 4 [some (vR 77), some (vI r), some (vI 1), some (vI (k + 1))] [] s P)
    : Rn X (d + 1) 218 4 [some (vR 77), some (vI r), some (vI b), some (vI k)] [] s P := by
  refine r_ldI_n (m := 3) F_218_4 rfl ?_
  refine r_ldR_n (m := 0) F_218_5 rfl ?_
  refine r_getR (J := 0) F_218_6 o_218 fl_6_7 ty_77 (by decide) rfl (kd2 kd_77_0 (by decide)) (kd9 kd_77_0 (by decide)) rf_77_0 ?_
  refine r_ldI_n (m := 1) F_218_9 rfl ?_
  refine r_iald (e := (s 78 r)) F_218_10 ty_78 h0 (lt_ln ln_78 h6) rfl ?_
  refine r_icmp (t := 50) F_218_11 rfl l1 l2 ?_ ?_
  · intro e1
    replace e1 : (s 78 r) ≤ k := e1
    refine r_ldI_n (m := 2) F_218_50 rfl ?_
    refine r_zreturn F_218_51 rt_218 (l3 e1) ?_
    exact (l4 e1)
  · intro e2
    replace e2 : k < (s 78 r) := (Int.not_le.mp e2)
    refine r_ldI_n (m := 2) F_218_14 rfl ?_
    refine r_if (t := 42) F_218_15 rfl (l5 e2) ?_ ?_
    · intro e3
      replace e3 : b = 0 := e3
      refine r_iconst F_218_42 ?_
      refine r_stI_n (m := 2) (L' := [some (vR 77), some (vI r), some (vI 0), some (vI k)]) F_218_43 rfl rfl ?_
      refine r_iinc (m := 3) (e := (k + 1)) (L' := [some (vR 77), some (vI r), some (vI 0), some (vI (k + 1))]) F_218_44 rfl rfl rfl rfl ?_
      refine r_goto (t := 4) F_218_47 rfl ?_
      exact (l6 e2 e3)
    · intro e4
      replace e4 : ¬ b = 0 := e4
      refine r_ldR_n (m := 0) F_218_18 rfl ?_
      refine r_getR (J := 1) F_218_19 o_218 fl_6_13 ty_77 (by decide) rfl (kd2 kd_77_1 (by decide)) (kd9 kd_77_1 (by decide)) rf_77_1 ?_
      refine r_bipush F_218_22 bi_40 ?_
      refine r_ldI_n (m := 1) F_218_24 rfl ?_
      refine r_imul F_218_25 rfl ?_
      refine r_ldI_n (m := 3) F_218_26 rfl ?_
      refine r_iadd F_218_27 rfl ?_
      refine r_iald (e := (s 79 ((40 * r) + k))) F_218_28 ty_79 (l7 e2 e4) (lt_ln ln_79 (l8 e2 e4)) rfl ?_
      refine r_iconst F_218_29 ?_
      refine r_bipush F_218_30 bi_7 ?_
      refine r_stat2 (A := [vI (s 79 ((40 * r) + k)), vI 0, vI 7]) (r := []) (n := 3) F_218_32 o_218 il_6_67 (by decide) rfl rfl rfl rfl (lay_le n_160 rfl) ?_
      refine Cl_of n_160 rfl ?_
      show Rn _ _ _ _ [some (vI (s 79 ((40 * r) + k))), some (vI 0), some (vI 7)] [] _ _
      refine r_ldI_n (m := 0) F_160_0 rfl ?_
      refine r_ldI_n (m := 1) F_160_1 rfl ?_
      refine r_icmp (t := 14) F_160_2 rfl (l9 e2 e4) (by decide) ?_ ?_
      · intro e5
        replace e5 : (s 79 ((40 * r) + k)) < 0 := e5
        refine r_iconst F_160_14 ?_
        refine r_zreturn F_160_15 rt_160 (Or.inl rfl) ?_
        show Rn _ _ _ _ _ [vI 0] _ _
        refine r_ifT (t := 42) F_218_35 rfl (by decide) (by show (0 : Int) = 0; decide) ?_
        refine r_iconst F_218_42 ?_
        refine r_stI_n (m := 2) (L' := [some (vR 77), some (vI r), some (vI 0), some (vI k)]) F_218_43 rfl rfl ?_
        refine r_iinc (m := 3) (e := (k + 1)) (L' := [some (vR 77), some (vI r), some (vI 0), some (vI (k + 1))]) F_218_44 rfl rfl rfl rfl ?_
        refine r_goto (t := 4) F_218_47 rfl ?_
        exact (l10 e2 e4 e5)
      · intro e6
        replace e6 : 0 ≤ (s 79 ((40 * r) + k)) := (Int.not_lt.mp e6)
        refine r_ldI_n (m := 0) F_160_5 rfl ?_
        refine r_ldI_n (m := 2) F_160_6 rfl ?_
        refine r_icmp (t := 14) F_160_7 rfl (l9 e2 e4) (by decide) ?_ ?_
        · intro e7
          replace e7 : 7 < (s 79 ((40 * r) + k)) := e7
          refine r_iconst F_160_14 ?_
          refine r_zreturn F_160_15 rt_160 (Or.inl rfl) ?_
          show Rn _ _ _ _ _ [vI 0] _ _
          refine r_ifT (t := 42) F_218_35 rfl (by decide) (by show (0 : Int) = 0; decide) ?_
          refine r_iconst F_218_42 ?_
          refine r_stI_n (m := 2) (L' := [some (vR 77), some (vI r), some (vI 0), some (vI k)]) F_218_43 rfl rfl ?_
          refine r_iinc (m := 3) (e := (k + 1)) (L' := [some (vR 77), some (vI r), some (vI 0), some (vI (k + 1))]) F_218_44 rfl rfl rfl rfl ?_
          refine r_goto (t := 4) F_218_47 rfl ?_
          exact (l11 e2 e4 e6 e7)
        · intro e8
          replace e8 : (s 79 ((40 * r) + k)) ≤ 7 := (Int.not_lt.mp e8)
          refine r_iconst F_160_10 ?_
          refine r_goto (t := 15) F_160_11 rfl ?_
          refine r_zreturn F_160_15 rt_160 (Or.inr rfl) ?_
          show Rn _ _ _ _ _ [vI 1] _ _
          refine r_ifF (t := 42) F_218_35 rfl (by decide) (by show ¬ ((1 : Int) = 0); decide) ?_
          refine r_iconst F_218_38 ?_
          refine r_goto (t := 43) F_218_39 rfl ?_
          refine r_stI_n (m := 2) (L' := [some (vR 77), some (vI r), some (vI 1), some (vI k)]) F_218_43 rfl rfl ?_
          refine r_iinc (m := 3) (e := (k + 1)) (L' := [some (vR 77), some (vI r), some (vI 1), some (vI (k + 1))]) F_218_44 rfl rfl rfl rfl ?_
          refine r_goto (t := 4) F_218_47 rfl ?_
          exact (l12 e2 e4 e6 e8)
theorem t_X6_opens {X : List Int32} {d : Nat} {s : m_St} {P : Option Value → m_St → Prop} {i j : Int} (i0 : 0 ≤ i) (i6 : i < 6) (j0 : 0 ≤ j) (j6 : j < 6)
    (l1 : 0 ≤ (8 + (5 * i)))
    (l2 : (8 + (5 * i)) < 198)
    (l3 : 0 ≤ (8 + (5 * j)))
    (l4 : (8 + (5 * j)) < 198)
    (l5 : 0 ≤ ((8 + (5 * i)) + 1))
    (l6 : ((8 + (5 * i)) + 1) < 198)
    (l7 : 0 ≤ ((8 + (5 * j)) + 1))
    (l8 : ((8 + (5 * j)) + 1) < 198)
    (l9 : 0 ≤ (((8 + (5 * i)) + 1) + 1))
    (l10 : (((8 + (5 * i)) + 1) + 1) < 198)
    (l11 : 0 ≤ (((8 + (5 * j)) + 1) + 1))
    (l12 : (((8 + (5 * j)) + 1) + 1) < 198)
    (l13 : 0 ≤ (((8 + (5 * i)) + 1) + 2))
    (l14 : (((8 + (5 * i)) + 1) + 2) < 198)
    (l15 : 0 ≤ (((8 + (5 * j)) + 1) + 2))
    (l16 : (((8 + (5 * j)) + 1) + 2) < 198)
    (l17 : 0 ≤ (((8 + (5 * i)) + 1) + 3))
    (l18 : (((8 + (5 * i)) + 1) + 3) < 198)
    (l19 : 0 ≤ (((8 + (5 * j)) + 1) + 3))
    (l20 : (((8 + (5 * j)) + 1) + 3) < 198)
    (l21 : P none (m_upd (m_upd (m_upd (m_upd (m_upd (m_upd (m_upd (m_upd (m_upd (m_upd s 88 0 (s 83 (8 + (5 * i)))) 88 1 (s 83 (8 + (5 * j)))) 89 0 (s 83 ((8 + (5 * i)) + 1))) 89 4 (s 83 ((8 + (5 * j)) + 1))) 89 1 (s 83 (((8 + (5 * i)) + 1) + 1))) 89 5 (s 83 (((8 + (5 * j)) + 1) + 1))) 89 2 (s 83 (((8 + (5 * i)) + 1) + 2))) 89 6 (s 83 (((8 + (5 * j)) + 1) + 2))) 89 3 (s 83 (((8 + (5 * i)) + 1) + 3))) 89 7 (s 83 (((8 + (5 * j)) + 1) + 3))))
    : Cl X (d + 1) 220 [vR 77, vI i, vI j] s P := by
  refine Cl_of n_220 rfl ?_
  show Rn _ _ _ _ [some (vR 77), some (vI i), some (vI j), none] [] _ _
  refine r_ldR_n (m := 0) F_220_0 rfl ?_
  refine r_getR (J := 14) F_220_1 o_220 fl_6_41 ty_77 (by decide) rfl (kd2 kd_77_14 (by decide)) (kd9 kd_77_14 (by decide)) rf_77_14 ?_
  refine r_iconst F_220_4 ?_
  refine r_ldR_n (m := 0) F_220_5 rfl ?_
  refine r_ldI_n (m := 1) F_220_6 rfl ?_
  refine r_virt2 (A := [vI i]) (r := [vI 0, vR 88]) (n := 1) F_220_7 o_220 il_6_136 rfl rfl rfl rfl ty_77 vy_187 (lay_le n_187 rfl) ?_
  refine Cl_of n_187 rfl ?_
  show Rn _ _ _ _ [some (vR 77), some (vI i)] [] _ _
  refine r_ldR_n (m := 0) F_187_0 rfl ?_
  refine r_getR (J := 5) F_187_1 o_187 fl_6_25 ty_77 (by decide) rfl (kd2 kd_77_5 (by decide)) (kd9 kd_77_5 (by decide)) rf_77_5 ?_
  refine r_bipush F_187_4 bi_8 ?_
  refine r_iconst F_187_6 ?_
  refine r_ldI_n (m := 1) F_187_7 rfl ?_
  refine r_imul F_187_8 rfl ?_
  refine r_iadd F_187_9 rfl ?_
  refine r_iald (e := (s 83 (8 + (5 * i)))) F_187_10 ty_83 l1 (lt_ln ln_83 l2) rfl ?_
  refine r_ireturn F_187_11 rt_187 ?_
  show Rn _ _ _ _ _ [vI (s 83 (8 + (5 * i))), vI 0, vR 88] _ _
  refine r_iast F_220_10 ty_88 (by decide) (lt_ln ln_88 (by decide)) ?_
  refine r_ldR_n (m := 0) F_220_11 rfl ?_
  refine r_getR (J := 14) F_220_12 o_220 fl_6_41 ty_77 (by decide) rfl (kd2 kd_77_14 (by decide)) (kd9 kd_77_14 (by decide)) rf_77_14 ?_
  refine r_iconst F_220_15 ?_
  refine r_ldR_n (m := 0) F_220_16 rfl ?_
  refine r_ldI_n (m := 2) F_220_17 rfl ?_
  refine r_virt2 (A := [vI j]) (r := [vI 1, vR 88]) (n := 1) F_220_18 o_220 il_6_136 rfl rfl rfl rfl ty_77 vy_187 (lay_le n_187 rfl) ?_
  refine Cl_of n_187 rfl ?_
  show Rn _ _ _ _ [some (vR 77), some (vI j)] [] _ _
  refine r_ldR_n (m := 0) F_187_0 rfl ?_
  refine r_getR (J := 5) F_187_1 o_187 fl_6_25 ty_77 (by decide) rfl (kd2 kd_77_5 (by decide)) (kd9 kd_77_5 (by decide)) rf_77_5 ?_
  refine r_bipush F_187_4 bi_8 ?_
  refine r_iconst F_187_6 ?_
  refine r_ldI_n (m := 1) F_187_7 rfl ?_
  refine r_imul F_187_8 rfl ?_
  refine r_iadd F_187_9 rfl ?_
  refine r_iald (e := (s 83 (8 + (5 * j)))) F_187_10 ty_83 l3 (lt_ln ln_83 l4) (upd_nc (by decide)) ?_
  refine r_ireturn F_187_11 rt_187 ?_
  show Rn _ _ _ _ _ [vI (s 83 (8 + (5 * j))), vI 1, vR 88] _ _
  refine r_iast F_220_21 ty_88 (by decide) (lt_ln ln_88 (by decide)) ?_
  refine r_iconst F_220_22 ?_
  refine r_stI_n (m := 3) (L' := [some (vR 77), some (vI i), some (vI j), some (vI 0)]) F_220_23 rfl rfl ?_
  refine r_ldI_n (m := 3) F_220_24 rfl ?_
  refine r_iconst F_220_25 ?_
  refine r_icmpF (t := 79) F_220_26 rfl (by decide) (by decide) (by show ¬ ((4 : Int) ≤ 0); decide) ?_
  refine r_ldR_n (m := 0) F_220_29 rfl ?_
  refine r_getR (J := 15) F_220_30 o_220 fl_6_44 ty_77 (by decide) rfl (kd2 kd_77_15 (by decide)) (kd9 kd_77_15 (by decide)) rf_77_15 ?_
  refine r_ldI_n (m := 3) F_220_33 rfl ?_
  refine r_ldR_n (m := 0) F_220_34 rfl ?_
  refine r_getR (J := 5) F_220_35 o_220 fl_6_25 ty_77 (by decide) rfl (kd2 kd_77_5 (by decide)) (kd9 kd_77_5 (by decide)) rf_77_5 ?_
  refine r_bipush F_220_38 bi_8 ?_
  refine r_iconst F_220_40 ?_
  refine r_ldI_n (m := 1) F_220_41 rfl ?_
  refine r_imul F_220_42 rfl ?_
  refine r_iadd F_220_43 rfl ?_
  refine r_iconst F_220_44 ?_
  refine r_iadd F_220_45 rfl ?_
  refine r_ldI_n (m := 3) F_220_46 rfl ?_
  refine r_iadd (e := ((8 + (5 * i)) + 1)) F_220_47 (Int.add_zero _) ?_
  refine r_iald (e := (s 83 ((8 + (5 * i)) + 1))) F_220_48 ty_83 l5 (lt_ln ln_83 l6) ((upd_nc (by decide)).trans (upd_nc (by decide))) ?_
  refine r_iast F_220_49 ty_89 (by decide) (lt_ln ln_89 (by decide)) ?_
  refine r_ldR_n (m := 0) F_220_50 rfl ?_
  refine r_getR (J := 15) F_220_51 o_220 fl_6_44 ty_77 (by decide) rfl (kd2 kd_77_15 (by decide)) (kd9 kd_77_15 (by decide)) rf_77_15 ?_
  refine r_iconst F_220_54 ?_
  refine r_ldI_n (m := 3) F_220_55 rfl ?_
  refine r_iadd (e := 4) F_220_56 (by decide) ?_
  refine r_ldR_n (m := 0) F_220_57 rfl ?_
  refine r_getR (J := 5) F_220_58 o_220 fl_6_25 ty_77 (by decide) rfl (kd2 kd_77_5 (by decide)) (kd9 kd_77_5 (by decide)) rf_77_5 ?_
  refine r_bipush F_220_61 bi_8 ?_
  refine r_iconst F_220_63 ?_
  refine r_ldI_n (m := 2) F_220_64 rfl ?_
  refine r_imul F_220_65 rfl ?_
  refine r_iadd F_220_66 rfl ?_
  refine r_iconst F_220_67 ?_
  refine r_iadd F_220_68 rfl ?_
  refine r_ldI_n (m := 3) F_220_69 rfl ?_
  refine r_iadd (e := ((8 + (5 * j)) + 1)) F_220_70 (Int.add_zero _) ?_
  refine r_iald (e := (s 83 ((8 + (5 * j)) + 1))) F_220_71 ty_83 l7 (lt_ln ln_83 l8) ((upd_nc (by decide)).trans ((upd_nc (by decide)).trans (upd_nc (by decide)))) ?_
  refine r_iast F_220_72 ty_89 (by decide) (lt_ln ln_89 (by decide)) ?_
  refine r_iinc (m := 3) (e := 1) (L' := [some (vR 77), some (vI i), some (vI j), some (vI 1)]) F_220_73 rfl rfl rfl rfl ?_
  refine r_goto (t := 24) F_220_76 rfl ?_
  refine r_ldI_n (m := 3) F_220_24 rfl ?_
  refine r_iconst F_220_25 ?_
  refine r_icmpF (t := 79) F_220_26 rfl (by decide) (by decide) (by show ¬ ((4 : Int) ≤ 1); decide) ?_
  refine r_ldR_n (m := 0) F_220_29 rfl ?_
  refine r_getR (J := 15) F_220_30 o_220 fl_6_44 ty_77 (by decide) rfl (kd2 kd_77_15 (by decide)) (kd9 kd_77_15 (by decide)) rf_77_15 ?_
  refine r_ldI_n (m := 3) F_220_33 rfl ?_
  refine r_ldR_n (m := 0) F_220_34 rfl ?_
  refine r_getR (J := 5) F_220_35 o_220 fl_6_25 ty_77 (by decide) rfl (kd2 kd_77_5 (by decide)) (kd9 kd_77_5 (by decide)) rf_77_5 ?_
  refine r_bipush F_220_38 bi_8 ?_
  refine r_iconst F_220_40 ?_
  refine r_ldI_n (m := 1) F_220_41 rfl ?_
  refine r_imul F_220_42 rfl ?_
  refine r_iadd F_220_43 rfl ?_
  refine r_iconst F_220_44 ?_
  refine r_iadd F_220_45 rfl ?_
  refine r_ldI_n (m := 3) F_220_46 rfl ?_
  refine r_iadd F_220_47 rfl ?_
  refine r_iald (e := (s 83 (((8 + (5 * i)) + 1) + 1))) F_220_48 ty_83 l9 (lt_ln ln_83 l10) ((upd_nc (by decide)).trans ((upd_nc (by decide)).trans ((upd_nc (by decide)).trans (upd_nc (by decide))))) ?_
  refine r_iast F_220_49 ty_89 (by decide) (lt_ln ln_89 (by decide)) ?_
  refine r_ldR_n (m := 0) F_220_50 rfl ?_
  refine r_getR (J := 15) F_220_51 o_220 fl_6_44 ty_77 (by decide) rfl (kd2 kd_77_15 (by decide)) (kd9 kd_77_15 (by decide)) rf_77_15 ?_
  refine r_iconst F_220_54 ?_
  refine r_ldI_n (m := 3) F_220_55 rfl ?_
  refine r_iadd (e := 5) F_220_56 (by decide) ?_
  refine r_ldR_n (m := 0) F_220_57 rfl ?_
  refine r_getR (J := 5) F_220_58 o_220 fl_6_25 ty_77 (by decide) rfl (kd2 kd_77_5 (by decide)) (kd9 kd_77_5 (by decide)) rf_77_5 ?_
  refine r_bipush F_220_61 bi_8 ?_
  refine r_iconst F_220_63 ?_
  refine r_ldI_n (m := 2) F_220_64 rfl ?_
  refine r_imul F_220_65 rfl ?_
  refine r_iadd F_220_66 rfl ?_
  refine r_iconst F_220_67 ?_
  refine r_iadd F_220_68 rfl ?_
  refine r_ldI_n (m := 3) F_220_69 rfl ?_
  refine r_iadd F_220_70 rfl ?_
  refine r_iald (e := (s 83 (((8 + (5 * j)) + 1) + 1))) F_220_71 ty_83 l11 (lt_ln ln_83 l12) ((upd_nc (by decide)).trans ((upd_nc (by decide)).trans ((upd_nc (by decide)).trans ((upd_nc (by decide)).trans (upd_nc (by decide)))))) ?_
  refine r_iast F_220_72 ty_89 (by decide) (lt_ln ln_89 (by decide)) ?_
  refine r_iinc (m := 3) (e := 2) (L' := [some (vR 77), some (vI i), some (vI j), some (vI 2)]) F_220_73 rfl rfl rfl rfl ?_
  refine r_goto (t := 24) F_220_76 rfl ?_
  refine r_ldI_n (m := 3) F_220_24 rfl ?_
  refine r_iconst F_220_25 ?_
  refine r_icmpF (t := 79) F_220_26 rfl (by decide) (by decide) (by show ¬ ((4 : Int) ≤ 2); decide) ?_
  refine r_ldR_n (m := 0) F_220_29 rfl ?_
  refine r_getR (J := 15) F_220_30 o_220 fl_6_44 ty_77 (by decide) rfl (kd2 kd_77_15 (by decide)) (kd9 kd_77_15 (by decide)) rf_77_15 ?_
  refine r_ldI_n (m := 3) F_220_33 rfl ?_
  refine r_ldR_n (m := 0) F_220_34 rfl ?_
  refine r_getR (J := 5) F_220_35 o_220 fl_6_25 ty_77 (by decide) rfl (kd2 kd_77_5 (by decide)) (kd9 kd_77_5 (by decide)) rf_77_5 ?_
  refine r_bipush F_220_38 bi_8 ?_
  refine r_iconst F_220_40 ?_
  refine r_ldI_n (m := 1) F_220_41 rfl ?_
  refine r_imul F_220_42 rfl ?_
  refine r_iadd F_220_43 rfl ?_
  refine r_iconst F_220_44 ?_
  refine r_iadd F_220_45 rfl ?_
  refine r_ldI_n (m := 3) F_220_46 rfl ?_
  refine r_iadd F_220_47 rfl ?_
  refine r_iald (e := (s 83 (((8 + (5 * i)) + 1) + 2))) F_220_48 ty_83 l13 (lt_ln ln_83 l14) ((upd_nc (by decide)).trans ((upd_nc (by decide)).trans ((upd_nc (by decide)).trans ((upd_nc (by decide)).trans ((upd_nc (by decide)).trans (upd_nc (by decide))))))) ?_
  refine r_iast F_220_49 ty_89 (by decide) (lt_ln ln_89 (by decide)) ?_
  refine r_ldR_n (m := 0) F_220_50 rfl ?_
  refine r_getR (J := 15) F_220_51 o_220 fl_6_44 ty_77 (by decide) rfl (kd2 kd_77_15 (by decide)) (kd9 kd_77_15 (by decide)) rf_77_15 ?_
  refine r_iconst F_220_54 ?_
  refine r_ldI_n (m := 3) F_220_55 rfl ?_
  refine r_iadd (e := 6) F_220_56 (by decide) ?_
  refine r_ldR_n (m := 0) F_220_57 rfl ?_
  refine r_getR (J := 5) F_220_58 o_220 fl_6_25 ty_77 (by decide) rfl (kd2 kd_77_5 (by decide)) (kd9 kd_77_5 (by decide)) rf_77_5 ?_
  refine r_bipush F_220_61 bi_8 ?_
  refine r_iconst F_220_63 ?_
  refine r_ldI_n (m := 2) F_220_64 rfl ?_
  refine r_imul F_220_65 rfl ?_
  refine r_iadd F_220_66 rfl ?_
  refine r_iconst F_220_67 ?_
  refine r_iadd F_220_68 rfl ?_
  refine r_ldI_n (m := 3) F_220_69 rfl ?_
  refine r_iadd F_220_70 rfl ?_
  refine r_iald (e := (s 83 (((8 + (5 * j)) + 1) + 2))) F_220_71 ty_83 l15 (lt_ln ln_83 l16) ((upd_nc (by decide)).trans ((upd_nc (by decide)).trans ((upd_nc (by decide)).trans ((upd_nc (by decide)).trans ((upd_nc (by decide)).trans ((upd_nc (by decide)).trans (upd_nc (by decide)))))))) ?_
  refine r_iast F_220_72 ty_89 (by decide) (lt_ln ln_89 (by decide)) ?_
  refine r_iinc (m := 3) (e := 3) (L' := [some (vR 77), some (vI i), some (vI j), some (vI 3)]) F_220_73 rfl rfl rfl rfl ?_
  refine r_goto (t := 24) F_220_76 rfl ?_
  refine r_ldI_n (m := 3) F_220_24 rfl ?_
  refine r_iconst F_220_25 ?_
  refine r_icmpF (t := 79) F_220_26 rfl (by decide) (by decide) (by show ¬ ((4 : Int) ≤ 3); decide) ?_
  refine r_ldR_n (m := 0) F_220_29 rfl ?_
  refine r_getR (J := 15) F_220_30 o_220 fl_6_44 ty_77 (by decide) rfl (kd2 kd_77_15 (by decide)) (kd9 kd_77_15 (by decide)) rf_77_15 ?_
  refine r_ldI_n (m := 3) F_220_33 rfl ?_
  refine r_ldR_n (m := 0) F_220_34 rfl ?_
  refine r_getR (J := 5) F_220_35 o_220 fl_6_25 ty_77 (by decide) rfl (kd2 kd_77_5 (by decide)) (kd9 kd_77_5 (by decide)) rf_77_5 ?_
  refine r_bipush F_220_38 bi_8 ?_
  refine r_iconst F_220_40 ?_
  refine r_ldI_n (m := 1) F_220_41 rfl ?_
  refine r_imul F_220_42 rfl ?_
  refine r_iadd F_220_43 rfl ?_
  refine r_iconst F_220_44 ?_
  refine r_iadd F_220_45 rfl ?_
  refine r_ldI_n (m := 3) F_220_46 rfl ?_
  refine r_iadd F_220_47 rfl ?_
  refine r_iald (e := (s 83 (((8 + (5 * i)) + 1) + 3))) F_220_48 ty_83 l17 (lt_ln ln_83 l18) ((upd_nc (by decide)).trans ((upd_nc (by decide)).trans ((upd_nc (by decide)).trans ((upd_nc (by decide)).trans ((upd_nc (by decide)).trans ((upd_nc (by decide)).trans ((upd_nc (by decide)).trans (upd_nc (by decide))))))))) ?_
  refine r_iast F_220_49 ty_89 (by decide) (lt_ln ln_89 (by decide)) ?_
  refine r_ldR_n (m := 0) F_220_50 rfl ?_
  refine r_getR (J := 15) F_220_51 o_220 fl_6_44 ty_77 (by decide) rfl (kd2 kd_77_15 (by decide)) (kd9 kd_77_15 (by decide)) rf_77_15 ?_
  refine r_iconst F_220_54 ?_
  refine r_ldI_n (m := 3) F_220_55 rfl ?_
  refine r_iadd (e := 7) F_220_56 (by decide) ?_
  refine r_ldR_n (m := 0) F_220_57 rfl ?_
  refine r_getR (J := 5) F_220_58 o_220 fl_6_25 ty_77 (by decide) rfl (kd2 kd_77_5 (by decide)) (kd9 kd_77_5 (by decide)) rf_77_5 ?_
  refine r_bipush F_220_61 bi_8 ?_
  refine r_iconst F_220_63 ?_
  refine r_ldI_n (m := 2) F_220_64 rfl ?_
  refine r_imul F_220_65 rfl ?_
  refine r_iadd F_220_66 rfl ?_
  refine r_iconst F_220_67 ?_
  refine r_iadd F_220_68 rfl ?_
  refine r_ldI_n (m := 3) F_220_69 rfl ?_
  refine r_iadd F_220_70 rfl ?_
  refine r_iald (e := (s 83 (((8 + (5 * j)) + 1) + 3))) F_220_71 ty_83 l19 (lt_ln ln_83 l20) ((upd_nc (by decide)).trans ((upd_nc (by decide)).trans ((upd_nc (by decide)).trans ((upd_nc (by decide)).trans ((upd_nc (by decide)).trans ((upd_nc (by decide)).trans ((upd_nc (by decide)).trans ((upd_nc (by decide)).trans (upd_nc (by decide)))))))))) ?_
  refine r_iast F_220_72 ty_89 (by decide) (lt_ln ln_89 (by decide)) ?_
  refine r_iinc (m := 3) (e := 4) (L' := [some (vR 77), some (vI i), some (vI j), some (vI 4)]) F_220_73 rfl rfl rfl rfl ?_
  refine r_goto (t := 24) F_220_76 rfl ?_
  refine r_ldI_n (m := 3) F_220_24 rfl ?_
  refine r_iconst F_220_25 ?_
  refine r_icmpT (t := 79) F_220_26 rfl (by decide) (by decide) (by show (4 : Int) ≤ 4; decide) ?_
  refine r_return F_220_79 rt_220 ?_
  exact l21
theorem t_X6_goes {X : List Int32} {d : Nat} {s : m_St} {P : Option Value → m_St → Prop} {n z f : Int} (n0 : 0 ≤ n) (n5 : n ≤ 5) (z0 : 0 ≤ z) (z8 : z < 8)
    (l1 : Rn X (d + 3) 223 3 [some (vR 77), some (vI n), some (vI z), some (vI f), some (vI 0), none] [] s P)
    : Cl X (d + 3) 223 [vR 77, vI n, vI z, vI f] s P := by
  refine Cl_of n_223 rfl ?_
  show Rn _ _ _ _ [some (vR 77), some (vI n), some (vI z), some (vI f), none, none] [] _ _
  refine r_iconst F_223_0 ?_
  refine r_stI (m := 4) (L' := [some (vR 77), some (vI n), some (vI z), some (vI f), some (vI 0), none]) F_223_1 rfl rfl ?_
  exact l1
theorem t_X6_goes_3 {X : List Int32} {d : Nat} {s : m_St} {P : Option Value → m_St → Prop} {n z f k : Int} (n0 : 0 ≤ n) (n5 : n ≤ 5) (z0 : 0 ≤ z) (z8 : z < 8) (k0 : 0 ≤ k)
    (l1 : inR k)
    (l2 : 8 ≤ k → inR f)
    (l3 : 8 ≤ k → f = 0 → P none s)
    (l4 : 8 ≤ k → ¬ f = 0 → inR z)
    (l5 : 8 ≤ k → ¬ f = 0 → 0 ≤ ((((8 * n) + 8) + (4 * (1 - (z / 4)))) + (z % 4)))
    (l6 : 8 ≤ k → ¬ f = 0 → ((((8 * n) + 8) + (4 * (1 - (z / 4)))) + (z % 4)) < 56)
    (l7 : 8 ≤ k → ¬ f = 0 → 0 ≤ (1 - (z / 4)))
    (l8 : 8 ≤ k → ¬ f = 0 → (1 - (z / 4)) < 2)
    (l9 : 8 ≤ k → ¬ f = 0 → inR (s 88 (1 - (z / 4))))
    (l10 : 8 ≤ k → ¬ f = 0 → 0 ≤ ((8 * n) + (4 * (1 - (z / 4)))))
    (l11 : 8 ≤ k → ¬ f = 0 → (((8 * n) + (4 * (1 - (z / 4)))) : Int) + 3 < 56)
    (l12 : 8 ≤ k → ¬ f = 0 → wr (fun c => s 89 (((8 * n) + (4 * (1 - (z / 4)))) + c)))
    (l13 : 8 ≤ k → ¬ f = 0 → tr (s 38 5) (s 83 7))
    (l14 : 8 ≤ k → ¬ f = 0 → 0 ≤ (s 88 (1 - (z / 4))))
    (l15 : 8 ≤ k → ¬ f = 0 → (s 88 (1 - (z / 4))) < 6)
    (l16 : 8 ≤ k → ¬ f = 0 → 0 ≤ (hset (fun c => s 89 (((8 * n) + (4 * (1 - (z / 4)))) + c)) (hf (s 88 (1 - (z / 4))))))
    (l17 : 8 ≤ k → ¬ f = 0 → (hset (fun c => s 89 (((8 * n) + (4 * (1 - (z / 4)))) + c)) (hf (s 88 (1 - (z / 4))))) < 16)
    (l18 : 8 ≤ k → ¬ f = 0 → 0 ≤ (z % 4))
    (l19 : 8 ≤ k → ¬ f = 0 → (z % 4) < 4)
    (l20 : 8 ≤ k → ¬ f = 0 → inR ((s 89 ((((8 * n) + 8) + (4 * (1 - (z / 4)))) + (z % 4))) + (mv (s 88 (1 - (z / 4))) (hset (fun c => s 89 (((8 * n) + (4 * (1 - (z / 4)))) + c)) (hf (s 88 (1 - (z / 4))))) (s 38 5) (z % 4))))
    (l21 : 8 ≤ k → ¬ f = 0 → P none (m_upd s 89 ((((8 * n) + 8) + (4 * (1 - (z / 4)))) + (z % 4)) (cl ((s 89 ((((8 * n) + 8) + (4 * (1 - (z / 4)))) + (z % 4))) + (mv (s 88 (1 - (z / 4))) (hset (fun c => s 89 (((8 * n) + (4 * (1 - (z / 4)))) + c)) (hf (s 88 (1 - (z / 4))))) (s 38 5) (z % 4))))))
    (l22 : k < 8 → 0 ≤ ((8 * n) + k))
    (l23 : k < 8 → ((8 * n) + k) < 56)
    (l24 : k < 8 → 0 ≤ (((8 * n) + 8) + k))
    (l25 : k < 8 → (((8 * n) + 8) + k) < 56)
    (l26 : k < 8 → Rn X (d + 3) 223 3 [some (vR 77), some (vI n), some (vI z), some (vI f), some (vI (k + 1)), none] [] (m_upd s 89 (((8 * n) + 8) + k) (s 89 ((8 * n) + k))) P)
    : Rn X (d + 3) 223 3 [some (vR 77), some (vI n), some (vI z), some (vI f), some (vI k), none] [] s P := by
  refine r_ldI (m := 4) F_223_3 rfl ?_
  refine r_bipush F_223_5 bi_8 ?_
  refine r_icmp (t := 43) F_223_7 rfl l1 (by decide) ?_ ?_
  · intro e1
    replace e1 : 8 ≤ k := e1
    refine r_ldI_n (m := 3) F_223_43 rfl ?_
    refine r_if (t := 111) F_223_44 rfl (l2 e1) ?_ ?_
    · intro e2
      replace e2 : f = 0 := e2
      refine r_return F_223_111 rt_223 ?_
      exact (l3 e1 e2)
    · intro e3
      replace e3 : ¬ f = 0 := e3
      refine r_iconst F_223_47 ?_
      refine r_ldI_n (m := 2) F_223_48 rfl ?_
      refine r_iconst F_223_49 ?_
      refine r_idiv F_223_50 (l4 e1 e3) z0 (by decide) (by decide) ?_
      refine r_isub F_223_51 rfl ?_
      refine r_stI (m := 4) (L' := [some (vR 77), some (vI n), some (vI z), some (vI f), some (vI (1 - (z / 4))), none]) F_223_52 rfl rfl ?_
      refine r_bipush F_223_54 bi_8 ?_
      refine r_ldI_n (m := 1) F_223_56 rfl ?_
      refine r_imul F_223_57 rfl ?_
      refine r_bipush F_223_58 bi_8 ?_
      refine r_iadd F_223_60 rfl ?_
      refine r_iconst F_223_61 ?_
      refine r_ldI (m := 4) F_223_62 rfl ?_
      refine r_imul F_223_64 rfl ?_
      refine r_iadd F_223_65 rfl ?_
      refine r_ldI_n (m := 2) F_223_66 rfl ?_
      refine r_iconst F_223_67 ?_
      refine r_irem F_223_68 (l4 e1 e3) z0 (by decide) (by decide) ?_
      refine r_iadd F_223_69 rfl ?_
      refine r_stI (m := 5) (L' := [some (vR 77), some (vI n), some (vI z), some (vI f), some (vI (1 - (z / 4))), some (vI ((((8 * n) + 8) + (4 * (1 - (z / 4)))) + (z % 4)))]) F_223_70 rfl rfl ?_
      refine r_ldR_n (m := 0) F_223_72 rfl ?_
      refine r_getR (J := 15) F_223_73 o_223 fl_6_44 ty_77 (by decide) rfl (kd2 kd_77_15 (by decide)) (kd9 kd_77_15 (by decide)) rf_77_15 ?_
      refine r_ldI (m := 5) F_223_76 rfl ?_
      refine r_ldR_n (m := 0) F_223_78 rfl ?_
      refine r_getR (J := 15) F_223_79 o_223 fl_6_44 ty_77 (by decide) rfl (kd2 kd_77_15 (by decide)) (kd9 kd_77_15 (by decide)) rf_77_15 ?_
      refine r_ldI (m := 5) F_223_82 rfl ?_
      refine r_iald (e := (s 89 ((((8 * n) + 8) + (4 * (1 - (z / 4)))) + (z % 4)))) F_223_84 ty_89 (l5 e1 e3) (lt_ln ln_89 (l6 e1 e3)) rfl ?_
      refine r_ldR_n (m := 0) F_223_85 rfl ?_
      refine r_ldR_n (m := 0) F_223_86 rfl ?_
      refine r_getR (J := 14) F_223_87 o_223 fl_6_41 ty_77 (by decide) rfl (kd2 kd_77_14 (by decide)) (kd9 kd_77_14 (by decide)) rf_77_14 ?_
      refine r_ldI (m := 4) F_223_90 rfl ?_
      refine r_iald (e := (s 88 (1 - (z / 4)))) F_223_92 ty_88 (l7 e1 e3) (lt_ln ln_88 (l8 e1 e3)) rfl ?_
      refine r_ldR_n (m := 0) F_223_93 rfl ?_
      refine r_ldI_n (m := 1) F_223_94 rfl ?_
      refine r_ldI (m := 4) F_223_95 rfl ?_
      refine r_virt2 (A := [vI n, vI (1 - (z / 4))]) (r := [vI (s 88 (1 - (z / 4))), vR 77, vI (s 89 ((((8 * n) + 8) + (4 * (1 - (z / 4)))) + (z % 4))), vI ((((8 * n) + 8) + (4 * (1 - (z / 4)))) + (z % 4)), vR 89]) (n := 2) F_223_97 o_223 il_6_204 rfl rfl rfl rfl ty_77 vy_222 (lay_le n_222 rfl) ?_
      refine Cl_of n_222 rfl ?_
      show Rn _ _ _ _ [some (vR 77), some (vI n), some (vI (1 - (z / 4)))] [] _ _
      refine r_ldR_n (m := 0) F_222_0 rfl ?_
      refine r_getR (J := 14) F_222_1 o_222 fl_6_41 ty_77 (by decide) rfl (kd2 kd_77_14 (by decide)) (kd9 kd_77_14 (by decide)) rf_77_14 ?_
      refine r_ldI_n (m := 2) F_222_4 rfl ?_
      refine r_iald (e := (s 88 (1 - (z / 4)))) F_222_5 ty_88 (l7 e1 e3) (lt_ln ln_88 (l8 e1 e3)) rfl ?_
      refine r_ldR_n (m := 0) F_222_6 rfl ?_
      refine r_getR (J := 15) F_222_7 o_222 fl_6_44 ty_77 (by decide) rfl (kd2 kd_77_15 (by decide)) (kd9 kd_77_15 (by decide)) rf_77_15 ?_
      refine r_bipush F_222_10 bi_8 ?_
      refine r_ldI_n (m := 1) F_222_12 rfl ?_
      refine r_imul F_222_13 rfl ?_
      refine r_iconst F_222_14 ?_
      refine r_ldI_n (m := 2) F_222_15 rfl ?_
      refine r_imul F_222_16 rfl ?_
      refine r_iadd F_222_17 rfl ?_
      refine r_stat2 (A := [vI (s 88 (1 - (z / 4))), vR 89, vI ((8 * n) + (4 * (1 - (z / 4))))]) (r := []) (n := 3) F_222_18 o_222 il_6_139 (by decide) rfl rfl rfl rfl (lay_le n_188 rfl) ?_
      refine sp_held89 (l9 e1 e3) (l10 e1 e3) (l11 e1 e3) (l12 e1 e3) ?_
      show Rn _ _ _ _ _ [vI (hset (fun c => s 89 (((8 * n) + (4 * (1 - (z / 4)))) + c)) (hf (s 88 (1 - (z / 4)))))] _ _
      refine r_ireturn F_222_21 rt_222 ?_
      show Rn _ _ _ _ _ [vI (hset (fun c => s 89 (((8 * n) + (4 * (1 - (z / 4)))) + c)) (hf (s 88 (1 - (z / 4))))), vI (s 88 (1 - (z / 4))), vR 77, vI (s 89 ((((8 * n) + 8) + (4 * (1 - (z / 4)))) + (z % 4))), vI ((((8 * n) + 8) + (4 * (1 - (z / 4)))) + (z % 4)), vR 89] _ _
      refine r_ldI_n (m := 2) F_223_100 rfl ?_
      refine r_iconst F_223_101 ?_
      refine r_irem F_223_102 (l4 e1 e3) z0 (by decide) (by decide) ?_
      refine r_virt2 (A := [vI (s 88 (1 - (z / 4))), vI (hset (fun c => s 89 (((8 * n) + (4 * (1 - (z / 4)))) + c)) (hf (s 88 (1 - (z / 4))))), vI (z % 4)]) (r := [vI (s 89 ((((8 * n) + 8) + (4 * (1 - (z / 4)))) + (z % 4))), vI ((((8 * n) + 8) + (4 * (1 - (z / 4)))) + (z % 4)), vR 89]) (n := 3) F_223_103 o_223 il_6_146 rfl rfl rfl rfl ty_77 vy_193 (lay_le n_193 rfl) ?_
      refine sp_movedBy (l13 e1 e3) (l14 e1 e3) (l15 e1 e3) (l16 e1 e3) (l17 e1 e3) (l18 e1 e3) (l19 e1 e3) ?_
      show Rn _ _ _ _ _ [vI (mv (s 88 (1 - (z / 4))) (hset (fun c => s 89 (((8 * n) + (4 * (1 - (z / 4)))) + c)) (hf (s 88 (1 - (z / 4))))) (s 38 5) (z % 4)), vI (s 89 ((((8 * n) + 8) + (4 * (1 - (z / 4)))) + (z % 4))), vI ((((8 * n) + 8) + (4 * (1 - (z / 4)))) + (z % 4)), vR 89] _ _
      refine r_iadd F_223_106 rfl ?_
      refine r_stat2 (A := [vI ((s 89 ((((8 * n) + 8) + (4 * (1 - (z / 4)))) + (z % 4))) + (mv (s 88 (1 - (z / 4))) (hset (fun c => s 89 (((8 * n) + (4 * (1 - (z / 4)))) + c)) (hf (s 88 (1 - (z / 4))))) (s 38 5) (z % 4)))]) (r := [vI ((((8 * n) + 8) + (4 * (1 - (z / 4)))) + (z % 4)), vR 89]) (n := 1) F_223_107 o_223 il_6_179 (by decide) rfl rfl rfl rfl (lay_le n_207 rfl) ?_
      refine sp_within (l20 e1 e3) ?_
      show Rn _ _ _ _ _ [vI (cl ((s 89 ((((8 * n) + 8) + (4 * (1 - (z / 4)))) + (z % 4))) + (mv (s 88 (1 - (z / 4))) (hset (fun c => s 89 (((8 * n) + (4 * (1 - (z / 4)))) + c)) (hf (s 88 (1 - (z / 4))))) (s 38 5) (z % 4)))), vI ((((8 * n) + 8) + (4 * (1 - (z / 4)))) + (z % 4)), vR 89] _ _
      refine r_iast F_223_110 ty_89 (l5 e1 e3) (lt_ln ln_89 (l6 e1 e3)) ?_
      refine r_return F_223_111 rt_223 ?_
      exact (l21 e1 e3)
  · intro e4
    replace e4 : k < 8 := (Int.not_le.mp e4)
    refine r_ldR_n (m := 0) F_223_10 rfl ?_
    refine r_getR (J := 15) F_223_11 o_223 fl_6_44 ty_77 (by decide) rfl (kd2 kd_77_15 (by decide)) (kd9 kd_77_15 (by decide)) rf_77_15 ?_
    refine r_bipush F_223_14 bi_8 ?_
    refine r_ldI_n (m := 1) F_223_16 rfl ?_
    refine r_imul F_223_17 rfl ?_
    refine r_bipush F_223_18 bi_8 ?_
    refine r_iadd F_223_20 rfl ?_
    refine r_ldI (m := 4) F_223_21 rfl ?_
    refine r_iadd F_223_23 rfl ?_
    refine r_ldR_n (m := 0) F_223_24 rfl ?_
    refine r_getR (J := 15) F_223_25 o_223 fl_6_44 ty_77 (by decide) rfl (kd2 kd_77_15 (by decide)) (kd9 kd_77_15 (by decide)) rf_77_15 ?_
    refine r_bipush F_223_28 bi_8 ?_
    refine r_ldI_n (m := 1) F_223_30 rfl ?_
    refine r_imul F_223_31 rfl ?_
    refine r_ldI (m := 4) F_223_32 rfl ?_
    refine r_iadd F_223_34 rfl ?_
    refine r_iald (e := (s 89 ((8 * n) + k))) F_223_35 ty_89 (l22 e4) (lt_ln ln_89 (l23 e4)) rfl ?_
    refine r_iast F_223_36 ty_89 (l24 e4) (lt_ln ln_89 (l25 e4)) ?_
    refine r_iinc (m := 4) (e := (k + 1)) (L' := [some (vR 77), some (vI n), some (vI z), some (vI f), some (vI (k + 1)), none]) F_223_37 rfl rfl rfl rfl ?_
    refine r_goto (t := 3) F_223_40 rfl ?_
    exact (l26 e4)
theorem t_X6_heldAt {X : List Int32} {d : Nat} {s : m_St} {P : Option Value → m_St → Prop} {n w : Int} (n0 : 0 ≤ n) (n6 : n ≤ 6) (w0 : 0 ≤ w) (w1 : w < 2)
    (l1 : inR (s 88 w))
    (l2 : 0 ≤ ((8 * n) + (4 * w)))
    (l3 : (((8 * n) + (4 * w)) : Int) + 3 < 56)
    (l4 : wr (fun c => s 89 (((8 * n) + (4 * w)) + c)))
    (l5 : P (some (vI (hset (fun c => s 89 (((8 * n) + (4 * w)) + c)) (hf (s 88 w))))) s)
    : Cl X (d + 2) 222 [vR 77, vI n, vI w] s P := by
  refine Cl_of n_222 rfl ?_
  show Rn _ _ _ _ [some (vR 77), some (vI n), some (vI w)] [] _ _
  refine r_ldR_n (m := 0) F_222_0 rfl ?_
  refine r_getR (J := 14) F_222_1 o_222 fl_6_41 ty_77 (by decide) rfl (kd2 kd_77_14 (by decide)) (kd9 kd_77_14 (by decide)) rf_77_14 ?_
  refine r_ldI_n (m := 2) F_222_4 rfl ?_
  refine r_iald (e := (s 88 w)) F_222_5 ty_88 w0 (lt_ln ln_88 w1) rfl ?_
  refine r_ldR_n (m := 0) F_222_6 rfl ?_
  refine r_getR (J := 15) F_222_7 o_222 fl_6_44 ty_77 (by decide) rfl (kd2 kd_77_15 (by decide)) (kd9 kd_77_15 (by decide)) rf_77_15 ?_
  refine r_bipush F_222_10 bi_8 ?_
  refine r_ldI_n (m := 1) F_222_12 rfl ?_
  refine r_imul F_222_13 rfl ?_
  refine r_iconst F_222_14 ?_
  refine r_ldI_n (m := 2) F_222_15 rfl ?_
  refine r_imul F_222_16 rfl ?_
  refine r_iadd F_222_17 rfl ?_
  refine r_stat2 (A := [vI (s 88 w), vR 89, vI ((8 * n) + (4 * w))]) (r := []) (n := 3) F_222_18 o_222 il_6_139 (by decide) rfl rfl rfl rfl (lay_le n_188 rfl) ?_
  refine sp_held89 l1 l2 l3 l4 ?_
  show Rn _ _ _ _ _ [vI (hset (fun c => s 89 (((8 * n) + (4 * w)) + c)) (hf (s 88 w)))] _ _
  refine r_ireturn F_222_21 rt_222 ?_
  exact l5
