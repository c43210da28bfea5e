/-! walks: the reference -/
theorem n_188 : m_n 188 = 5 := by decide +kernel
theorem F_188_0 : F 188 0 (.iconst 0) 1 := ⟨1, by decide +kernel, rfl, rfl⟩
theorem F_188_1 : F 188 1 (.istore_n 3) 2 := ⟨1, by decide +kernel, rfl, rfl⟩
theorem F_188_2 : F 188 2 (.iconst 0) 3 := ⟨1, by decide +kernel, rfl, rfl⟩
theorem F_188_3 : F 188 3 (.istore 4) 5 := ⟨2, by decide +kernel, rfl, rfl⟩
theorem F_188_5 : F 188 5 (.iload 4) 7 := ⟨2, by decide +kernel, rfl, rfl⟩
theorem F_188_7 : F 188 7 (.iconst 4) 8 := ⟨1, by decide +kernel, rfl, rfl⟩
theorem F_188_8 : F 188 8 (.if_icmp .ge 33) 11 := ⟨3, by decide +kernel, rfl, rfl⟩
theorem F_188_11 : F 188 11 (.iload_n 3) 12 := ⟨1, by decide +kernel, rfl, rfl⟩
theorem F_188_12 : F 188 12 (.aload_n 1) 13 := ⟨1, by decide +kernel, rfl, rfl⟩
theorem F_188_13 : F 188 13 (.iload_n 2) 14 := ⟨1, by decide +kernel, rfl, rfl⟩
theorem F_188_14 : F 188 14 (.iload 4) 16 := ⟨2, by decide +kernel, rfl, rfl⟩
theorem F_188_16 : F 188 16 (.iadd) 17 := ⟨1, by decide +kernel, rfl, rfl⟩
theorem F_188_17 : F 188 17 (.iaload) 18 := ⟨1, by decide +kernel, rfl, rfl⟩
theorem ln_83 : ln 83 = 198 := by decide +kernel
theorem ty_83 : ty 83 = 20 := by decide +kernel
theorem F_188_18 : F 188 18 (.iload_n 0) 19 := ⟨1, by decide +kernel, rfl, rfl⟩
theorem F_188_19 : F 188 19 (.invokestatic 129) 22 := ⟨3, by decide +kernel, rfl, rfl⟩
theorem o_188 : m_o 188 = 6 := by decide +kernel
theorem il_6_129 : ilq 6 129 1 189 1 = true := by decide +kernel
theorem F_188_22 : F 188 22 (.if_icmp .lt 10) 25 := ⟨3, by decide +kernel, rfl, rfl⟩
theorem F_188_32 : F 188 32 (.iconst 0) 33 := ⟨1, by decide +kernel, rfl, rfl⟩
theorem F_188_33 : F 188 33 (.ior) 34 := ⟨1, by decide +kernel, rfl, rfl⟩
theorem bo_ior_0_0 : iOr 0 0 = 0 := by decide +kernel
theorem F_188_34 : F 188 34 (.istore_n 3) 35 := ⟨1, by decide +kernel, rfl, rfl⟩
theorem F_188_35 : F 188 35 (.iinc 4 1) 38 := ⟨3, by decide +kernel, rfl, rfl⟩
theorem F_188_38 : F 188 38 (.goto (-33)) 41 := ⟨3, by decide +kernel, rfl, rfl⟩
theorem F_188_41 : F 188 41 (.iload_n 3) 42 := ⟨1, by decide +kernel, rfl, rfl⟩
theorem F_188_42 : F 188 42 (.ireturn) 43 := ⟨1, by decide +kernel, rfl, rfl⟩
theorem rt_188 : m_r 188 = (some .int) := by decide +kernel
theorem F_188_25 : F 188 25 (.iconst 1) 26 := ⟨1, by decide +kernel, rfl, rfl⟩
theorem F_188_26 : F 188 26 (.iload 4) 28 := ⟨2, by decide +kernel, rfl, rfl⟩
theorem F_188_28 : F 188 28 (.ishl) 29 := ⟨1, by decide +kernel, rfl, rfl⟩
theorem F_188_29 : F 188 29 (.goto 4) 32 := ⟨3, by decide +kernel, rfl, rfl⟩
theorem bo_ior_4_0 : iOr 4 0 = 4 := by decide +kernel
theorem bo_ior_2_0 : iOr 2 0 = 2 := by decide +kernel
theorem bo_ior_6_0 : iOr 6 0 = 6 := by decide +kernel
theorem bo_ior_1_0 : iOr 1 0 = 1 := by decide +kernel
theorem bo_ior_5_0 : iOr 5 0 = 5 := by decide +kernel
theorem bo_ior_3_0 : iOr 3 0 = 3 := by decide +kernel
theorem bo_ior_7_0 : iOr 7 0 = 7 := by decide +kernel
theorem ln_80 : ln 80 = 40 := by decide +kernel
theorem ty_80 : ty 80 = 20 := by decide +kernel
theorem ln_89 : ln 89 = 56 := by decide +kernel
theorem ty_89 : ty 89 = 20 := by decide +kernel
theorem n_193 : m_n 193 = 6 := by decide +kernel
theorem F_193_0 : F 193 0 (.iconst 0) 1 := ⟨1, by decide +kernel, rfl, rfl⟩
theorem F_193_1 : F 193 1 (.istore 4) 3 := ⟨2, by decide +kernel, rfl, rfl⟩
theorem F_193_3 : F 193 3 (.iconst 0) 4 := ⟨1, by decide +kernel, rfl, rfl⟩
theorem F_193_4 : F 193 4 (.istore 5) 6 := ⟨2, by decide +kernel, rfl, rfl⟩
theorem F_193_6 : F 193 6 (.iload 5) 8 := ⟨2, by decide +kernel, rfl, rfl⟩
theorem F_193_8 : F 193 8 (.iconst 4) 9 := ⟨1, by decide +kernel, rfl, rfl⟩
theorem F_193_9 : F 193 9 (.if_icmp .ge 55) 12 := ⟨3, by decide +kernel, rfl, rfl⟩
theorem F_193_64 : F 193 64 (.iload_n 1) 65 := ⟨1, by decide +kernel, rfl, rfl⟩
theorem F_193_65 : F 193 65 (.tableswitch 80 1 5 #[35, 46, 57, 35, 46]) 100 := ⟨35, by decide +kernel, rfl, rfl⟩
theorem F_193_100 : F 193 100 (.iload 4) 102 := ⟨2, by decide +kernel, rfl, rfl⟩
theorem F_193_102 : F 193 102 (.ifCond .eq 7) 105 := ⟨3, by decide +kernel, rfl, rfl⟩
theorem F_193_109 : F 193 109 (.iconst 0) 110 := ⟨1, by decide +kernel, rfl, rfl⟩
theorem F_193_110 : F 193 110 (.ireturn) 111 := ⟨1, by decide +kernel, rfl, rfl⟩
theorem rt_193 : m_r 193 = (some .int) := by decide +kernel
theorem F_193_105 : F 193 105 (.iconst 2) 106 := ⟨1, by decide +kernel, rfl, rfl⟩
theorem F_193_106 : F 193 106 (.goto 4) 109 := ⟨3, by decide +kernel, rfl, rfl⟩
theorem F_193_111 : F 193 111 (.iload 4) 113 := ⟨2, by decide +kernel, rfl, rfl⟩
theorem F_193_113 : F 193 113 (.ifCond .eq 7) 116 := ⟨3, by decide +kernel, rfl, rfl⟩
theorem F_193_120 : F 193 120 (.iconst 2) 121 := ⟨1, by decide +kernel, rfl, rfl⟩
theorem F_193_121 : F 193 121 (.ireturn) 122 := ⟨1, by decide +kernel, rfl, rfl⟩
theorem F_193_116 : F 193 116 (.iconst 3) 117 := ⟨1, by decide +kernel, rfl, rfl⟩
theorem F_193_117 : F 193 117 (.goto 4) 120 := ⟨3, by decide +kernel, rfl, rfl⟩
theorem F_193_122 : F 193 122 (.iload_n 2) 123 := ⟨1, by decide +kernel, rfl, rfl⟩
theorem F_193_123 : F 193 123 (.iload_n 3) 124 := ⟨1, by decide +kernel, rfl, rfl⟩
theorem F_193_124 : F 193 124 (.invokestatic 132) 127 := ⟨3, by decide +kernel, rfl, rfl⟩
theorem o_193 : m_o 193 = 6 := by decide +kernel
theorem il_6_132 : ilq 6 132 1 194 2 = true := by decide +kernel
theorem n_194 : m_n 194 = 2 := by decide +kernel
theorem F_194_0 : F 194 0 (.iload_n 0) 1 := ⟨1, by decide +kernel, rfl, rfl⟩
theorem F_194_1 : F 194 1 (.iload_n 1) 2 := ⟨1, by decide +kernel, rfl, rfl⟩
theorem F_194_2 : F 194 2 (.ishr) 3 := ⟨1, by decide +kernel, rfl, rfl⟩
theorem F_194_3 : F 194 3 (.iconst 1) 4 := ⟨1, by decide +kernel, rfl, rfl⟩
theorem F_194_4 : F 194 4 (.iand) 5 := ⟨1, by decide +kernel, rfl, rfl⟩
theorem F_194_5 : F 194 5 (.iconst 1) 6 := ⟨1, by decide +kernel, rfl, rfl⟩
theorem F_194_6 : F 194 6 (.if_icmp .ne 7) 9 := ⟨3, by decide +kernel, rfl, rfl⟩
theorem F_194_13 : F 194 13 (.iconst 0) 14 := ⟨1, by decide +kernel, rfl, rfl⟩
theorem F_194_14 : F 194 14 (.ireturn) 15 := ⟨1, by decide +kernel, rfl, rfl⟩
theorem rt_194 : m_r 194 = (some .boolean) := by decide +kernel
theorem F_193_127 : F 193 127 (.ifCond .ne 7) 130 := ⟨3, by decide +kernel, rfl, rfl⟩
theorem F_193_130 : F 193 130 (.iconst (-1)) 131 := ⟨1, by decide +kernel, rfl, rfl⟩
theorem F_193_131 : F 193 131 (.goto 13) 134 := ⟨3, by decide +kernel, rfl, rfl⟩
theorem F_193_144 : F 193 144 (.ireturn) 145 := ⟨1, by decide +kernel, rfl, rfl⟩
theorem F_194_9 : F 194 9 (.iconst 1) 10 := ⟨1, by decide +kernel, rfl, rfl⟩
theorem F_194_10 : F 194 10 (.goto 4) 13 := ⟨3, by decide +kernel, rfl, rfl⟩
theorem F_193_134 : F 193 134 (.iload 4) 136 := ⟨2, by decide +kernel, rfl, rfl⟩
theorem F_193_136 : F 193 136 (.ifCond .eq 7) 139 := ⟨3, by decide +kernel, rfl, rfl⟩
theorem F_193_143 : F 193 143 (.iconst 1) 144 := ⟨1, by decide +kernel, rfl, rfl⟩
theorem F_193_139 : F 193 139 (.iconst 2) 140 := ⟨1, by decide +kernel, rfl, rfl⟩
theorem F_193_140 : F 193 140 (.goto 4) 143 := ⟨3, by decide +kernel, rfl, rfl⟩
theorem F_193_145 : F 193 145 (.iload 4) 147 := ⟨2, by decide +kernel, rfl, rfl⟩
theorem F_193_147 : F 193 147 (.ifCond .eq 7) 150 := ⟨3, by decide +kernel, rfl, rfl⟩
theorem F_193_154 : F 193 154 (.iconst 1) 155 := ⟨1, by decide +kernel, rfl, rfl⟩
theorem F_193_155 : F 193 155 (.ireturn) 156 := ⟨1, by decide +kernel, rfl, rfl⟩
theorem F_193_150 : F 193 150 (.iconst 2) 151 := ⟨1, by decide +kernel, rfl, rfl⟩
theorem F_193_151 : F 193 151 (.goto 4) 154 := ⟨3, by decide +kernel, rfl, rfl⟩
theorem F_193_12 : F 193 12 (.iload 4) 14 := ⟨2, by decide +kernel, rfl, rfl⟩
theorem F_193_14 : F 193 14 (.ifCond .ne 37) 17 := ⟨3, by decide +kernel, rfl, rfl⟩
theorem F_193_51 : F 193 51 (.iconst 1) 52 := ⟨1, by decide +kernel, rfl, rfl⟩
theorem F_193_52 : F 193 52 (.goto 4) 55 := ⟨3, by decide +kernel, rfl, rfl⟩
theorem F_193_56 : F 193 56 (.istore 4) 58 := ⟨2, by decide +kernel, rfl, rfl⟩
theorem F_193_58 : F 193 58 (.iinc 5 1) 61 := ⟨3, by decide +kernel, rfl, rfl⟩
theorem F_193_61 : F 193 61 (.goto (-55)) 64 := ⟨3, by decide +kernel, rfl, rfl⟩
theorem F_193_17 : F 193 17 (.iload 5) 19 := ⟨2, by decide +kernel, rfl, rfl⟩
theorem F_193_19 : F 193 19 (.iload_n 3) 20 := ⟨1, by decide +kernel, rfl, rfl⟩
theorem F_193_20 : F 193 20 (.if_icmp .eq 35) 23 := ⟨3, by decide +kernel, rfl, rfl⟩
theorem F_193_55 : F 193 55 (.iconst 0) 56 := ⟨1, by decide +kernel, rfl, rfl⟩
theorem F_193_23 : F 193 23 (.iload_n 2) 24 := ⟨1, by decide +kernel, rfl, rfl⟩
theorem F_193_24 : F 193 24 (.iload 5) 26 := ⟨2, by decide +kernel, rfl, rfl⟩
theorem F_193_26 : F 193 26 (.invokestatic 132) 29 := ⟨3, by decide +kernel, rfl, rfl⟩
theorem F_193_29 : F 193 29 (.ifCond .eq 26) 32 := ⟨3, by decide +kernel, rfl, rfl⟩
theorem F_193_32 : F 193 32 (.aload_n 0) 33 := ⟨1, by decide +kernel, rfl, rfl⟩
theorem F_193_33 : F 193 33 (.getfield 25) 36 := ⟨3, by decide +kernel, rfl, rfl⟩
theorem ty_77 : ty 77 = 6 := by decide +kernel
theorem fl_6_25 : m_fl.lookup (6, 25) = some (6, 5, 4150) := by decide +kernel
theorem kd_77_5 : kd 77 5 = 85 := by decide +kernel
theorem rf_77_5 : rf 77 5 = 83 := by decide +kernel
theorem F_193_36 : F 193 36 (.bipush 7) 38 := ⟨2, by decide +kernel, rfl, rfl⟩
theorem F_193_38 : F 193 38 (.iaload) 39 := ⟨1, by decide +kernel, rfl, rfl⟩
theorem F_193_39 : F 193 39 (.iconst 4) 40 := ⟨1, by decide +kernel, rfl, rfl⟩
theorem F_193_40 : F 193 40 (.iload 5) 42 := ⟨2, by decide +kernel, rfl, rfl⟩
theorem F_193_42 : F 193 42 (.imul) 43 := ⟨1, by decide +kernel, rfl, rfl⟩
theorem F_193_43 : F 193 43 (.iload_n 3) 44 := ⟨1, by decide +kernel, rfl, rfl⟩
theorem F_193_44 : F 193 44 (.iadd) 45 := ⟨1, by decide +kernel, rfl, rfl⟩
theorem F_193_45 : F 193 45 (.invokestatic 132) 48 := ⟨3, by decide +kernel, rfl, rfl⟩
theorem F_193_48 : F 193 48 (.ifCond .eq 7) 51 := ⟨3, by decide +kernel, rfl, rfl⟩
theorem n_196 : m_n 196 = 5 := by decide +kernel
theorem F_196_0 : F 196 0 (.iload_n 1) 1 := ⟨1, by decide +kernel, rfl, rfl⟩
theorem F_196_1 : F 196 1 (.istore_n 2) 2 := ⟨1, by decide +kernel, rfl, rfl⟩
theorem F_196_2 : F 196 2 (.iconst 0) 3 := ⟨1, by decide +kernel, rfl, rfl⟩
theorem F_196_3 : F 196 3 (.istore_n 3) 4 := ⟨1, by decide +kernel, rfl, rfl⟩
theorem F_196_4 : F 196 4 (.iload_n 3) 5 := ⟨1, by decide +kernel, rfl, rfl⟩
theorem F_196_5 : F 196 5 (.iconst 4) 6 := ⟨1, by decide +kernel, rfl, rfl⟩
theorem F_196_6 : F 196 6 (.if_icmp .ge 64) 9 := ⟨3, by decide +kernel, rfl, rfl⟩
theorem F_196_70 : F 196 70 (.iload_n 2) 71 := ⟨1, by decide +kernel, rfl, rfl⟩
theorem F_196_71 : F 196 71 (.ireturn) 72 := ⟨1, by decide +kernel, rfl, rfl⟩
theorem rt_196 : m_r 196 = (some .int) := by decide +kernel
theorem F_196_9 : F 196 9 (.iconst 0) 10 := ⟨1, by decide +kernel, rfl, rfl⟩
theorem F_196_10 : F 196 10 (.istore 4) 12 := ⟨2, by decide +kernel, rfl, rfl⟩
theorem F_196_12 : F 196 12 (.iload 4) 14 := ⟨2, by decide +kernel, rfl, rfl⟩
theorem F_196_14 : F 196 14 (.bipush 16) 16 := ⟨2, by decide +kernel, rfl, rfl⟩
theorem F_196_16 : F 196 16 (.if_icmp .ge 48) 19 := ⟨3, by decide +kernel, rfl, rfl⟩
theorem F_196_64 : F 196 64 (.iinc 3 1) 67 := ⟨3, by decide +kernel, rfl, rfl⟩
theorem F_196_67 : F 196 67 (.goto (-63)) 70 := ⟨3, by decide +kernel, rfl, rfl⟩
theorem F_196_19 : F 196 19 (.iload_n 2) 20 := ⟨1, by decide +kernel, rfl, rfl⟩
theorem F_196_20 : F 196 20 (.aload_n 0) 21 := ⟨1, by decide +kernel, rfl, rfl⟩
theorem F_196_21 : F 196 21 (.getfield 25) 24 := ⟨3, by decide +kernel, rfl, rfl⟩
theorem o_196 : m_o 196 = 6 := by decide +kernel
theorem F_196_24 : F 196 24 (.bipush 7) 26 := ⟨2, by decide +kernel, rfl, rfl⟩
theorem F_196_26 : F 196 26 (.iaload) 27 := ⟨1, by decide +kernel, rfl, rfl⟩
theorem F_196_27 : F 196 27 (.iload 4) 29 := ⟨2, by decide +kernel, rfl, rfl⟩
theorem F_196_29 : F 196 29 (.invokestatic 132) 32 := ⟨3, by decide +kernel, rfl, rfl⟩
theorem F_196_32 : F 196 32 (.ifCond .eq 23) 35 := ⟨3, by decide +kernel, rfl, rfl⟩
theorem F_196_55 : F 196 55 (.iconst 0) 56 := ⟨1, by decide +kernel, rfl, rfl⟩
theorem F_196_56 : F 196 56 (.ior) 57 := ⟨1, by decide +kernel, rfl, rfl⟩
theorem F_196_57 : F 196 57 (.istore_n 2) 58 := ⟨1, by decide +kernel, rfl, rfl⟩
theorem F_196_58 : F 196 58 (.iinc 4 1) 61 := ⟨3, by decide +kernel, rfl, rfl⟩
theorem F_196_61 : F 196 61 (.goto (-49)) 64 := ⟨3, by decide +kernel, rfl, rfl⟩
theorem F_196_35 : F 196 35 (.iload_n 2) 36 := ⟨1, by decide +kernel, rfl, rfl⟩
theorem F_196_36 : F 196 36 (.iload 4) 38 := ⟨2, by decide +kernel, rfl, rfl⟩
theorem F_196_38 : F 196 38 (.iconst 4) 39 := ⟨1, by decide +kernel, rfl, rfl⟩
theorem F_196_39 : F 196 39 (.idiv) 40 := ⟨1, by decide +kernel, rfl, rfl⟩
theorem F_196_40 : F 196 40 (.invokestatic 132) 43 := ⟨3, by decide +kernel, rfl, rfl⟩
theorem F_196_43 : F 196 43 (.ifCond .eq 12) 46 := ⟨3, by decide +kernel, rfl, rfl⟩
theorem F_196_46 : F 196 46 (.iconst 1) 47 := ⟨1, by decide +kernel, rfl, rfl⟩
theorem F_196_47 : F 196 47 (.iload 4) 49 := ⟨2, by decide +kernel, rfl, rfl⟩
theorem F_196_49 : F 196 49 (.iconst 4) 50 := ⟨1, by decide +kernel, rfl, rfl⟩
theorem F_196_50 : F 196 50 (.irem) 51 := ⟨1, by decide +kernel, rfl, rfl⟩
theorem F_196_51 : F 196 51 (.ishl) 52 := ⟨1, by decide +kernel, rfl, rfl⟩
theorem F_196_52 : F 196 52 (.goto 4) 55 := ⟨3, by decide +kernel, rfl, rfl⟩
theorem n_232 : m_n 232 = 3 := by decide +kernel
theorem F_232_0 : F 232 0 (.iconst 0) 1 := ⟨1, by decide +kernel, rfl, rfl⟩
theorem F_232_1 : F 232 1 (.istore_n 1) 2 := ⟨1, by decide +kernel, rfl, rfl⟩
theorem F_232_2 : F 232 2 (.iconst 0) 3 := ⟨1, by decide +kernel, rfl, rfl⟩
theorem F_232_3 : F 232 3 (.istore_n 2) 4 := ⟨1, by decide +kernel, rfl, rfl⟩
theorem F_232_4 : F 232 4 (.iload_n 2) 5 := ⟨1, by decide +kernel, rfl, rfl⟩
theorem F_232_5 : F 232 5 (.bipush 16) 7 := ⟨2, by decide +kernel, rfl, rfl⟩
theorem F_232_7 : F 232 7 (.if_icmp .ge 17) 10 := ⟨3, by decide +kernel, rfl, rfl⟩
theorem F_232_24 : F 232 24 (.iload_n 1) 25 := ⟨1, by decide +kernel, rfl, rfl⟩
theorem F_232_25 : F 232 25 (.ireturn) 26 := ⟨1, by decide +kernel, rfl, rfl⟩
theorem rt_232 : m_r 232 = (some .int) := by decide +kernel
theorem F_232_10 : F 232 10 (.iload_n 1) 11 := ⟨1, by decide +kernel, rfl, rfl⟩
theorem F_232_11 : F 232 11 (.iload_n 0) 12 := ⟨1, by decide +kernel, rfl, rfl⟩
theorem F_232_12 : F 232 12 (.iload_n 2) 13 := ⟨1, by decide +kernel, rfl, rfl⟩
theorem F_232_13 : F 232 13 (.ishr) 14 := ⟨1, by decide +kernel, rfl, rfl⟩
theorem F_232_14 : F 232 14 (.iconst 1) 15 := ⟨1, by decide +kernel, rfl, rfl⟩
theorem F_232_15 : F 232 15 (.iand) 16 := ⟨1, by decide +kernel, rfl, rfl⟩
theorem F_232_16 : F 232 16 (.iadd) 17 := ⟨1, by decide +kernel, rfl, rfl⟩
theorem F_232_17 : F 232 17 (.istore_n 1) 18 := ⟨1, by decide +kernel, rfl, rfl⟩
theorem F_232_18 : F 232 18 (.iinc 2 1) 21 := ⟨3, by decide +kernel, rfl, rfl⟩
theorem F_232_21 : F 232 21 (.goto (-17)) 24 := ⟨3, by decide +kernel, rfl, rfl⟩
theorem t_held83 {X : List Int32} {d : Nat} {s : m_St} {P : Option Value → m_St → Prop} {k p : Int} (p0 : 0 ≤ p) (pn : p + 3 < 198)
    (l1 : p < 198)
    (l2 : inR k)
    (l3 : inR (s 83 p))
    (l4 : (s 83 p) < (hf k) → 0 ≤ (p + 1))
    (l5 : (s 83 p) < (hf k) → (p + 1) < 198)
    (l6 : (s 83 p) < (hf k) → inR (s 83 (p + 1)))
    (l7 : (s 83 p) < (hf k) → (s 83 (p + 1)) < (hf k) → 0 ≤ (p + 2))
    (l8 : (s 83 p) < (hf k) → (s 83 (p + 1)) < (hf k) → (p + 2) < 198)
    (l9 : (s 83 p) < (hf k) → (s 83 (p + 1)) < (hf k) → inR (s 83 (p + 2)))
    (l10 : (s 83 p) < (hf k) → (s 83 (p + 1)) < (hf k) → (s 83 (p + 2)) < (hf k) → 0 ≤ (p + 3))
    (l11 : (s 83 p) < (hf k) → (s 83 (p + 1)) < (hf k) → (s 83 (p + 2)) < (hf k) → (p + 3) < 198)
    (l12 : (s 83 p) < (hf k) → (s 83 (p + 1)) < (hf k) → (s 83 (p + 2)) < (hf k) → inR (s 83 (p + 3)))
    (l13 : (s 83 p) < (hf k) → (s 83 (p + 1)) < (hf k) → (s 83 (p + 2)) < (hf k) → (s 83 (p + 3)) < (hf k) → P (some (vI 0)) s)
    (l14 : (s 83 p) < (hf k) → (s 83 (p + 1)) < (hf k) → (s 83 (p + 2)) < (hf k) → (hf k) ≤ (s 83 (p + 3)) → P (some (vI 8)) s)
    (l15 : (s 83 p) < (hf k) → (s 83 (p + 1)) < (hf k) → (hf k) ≤ (s 83 (p + 2)) → 0 ≤ (p + 3))
    (l16 : (s 83 p) < (hf k) → (s 83 (p + 1)) < (hf k) → (hf k) ≤ (s 83 (p + 2)) → (p + 3) < 198)
    (l17 : (s 83 p) < (hf k) → (s 83 (p + 1)) < (hf k) → (hf k) ≤ (s 83 (p + 2)) → inR (s 83 (p + 3)))
    (l18 : (s 83 p) < (hf k) → (s 83 (p + 1)) < (hf k) → (hf k) ≤ (s 83 (p + 2)) → (s 83 (p + 3)) < (hf k) → P (some (vI 4)) s)
    (l19 : (s 83 p) < (hf k) → (s 83 (p + 1)) < (hf k) → (hf k) ≤ (s 83 (p + 2)) → (hf k) ≤ (s 83 (p + 3)) → P (some (vI 12)) s)
    (l20 : (s 83 p) < (hf k) → (hf k) ≤ (s 83 (p + 1)) → 0 ≤ (p + 2))
    (l21 : (s 83 p) < (hf k) → (hf k) ≤ (s 83 (p + 1)) → (p + 2) < 198)
    (l22 : (s 83 p) < (hf k) → (hf k) ≤ (s 83 (p + 1)) → inR (s 83 (p + 2)))
    (l23 : (s 83 p) < (hf k) → (hf k) ≤ (s 83 (p + 1)) → (s 83 (p + 2)) < (hf k) → 0 ≤ (p + 3))
    (l24 : (s 83 p) < (hf k) → (hf k) ≤ (s 83 (p + 1)) → (s 83 (p + 2)) < (hf k) → (p + 3) < 198)
    (l25 : (s 83 p) < (hf k) → (hf k) ≤ (s 83 (p + 1)) → (s 83 (p + 2)) < (hf k) → inR (s 83 (p + 3)))
    (l26 : (s 83 p) < (hf k) → (hf k) ≤ (s 83 (p + 1)) → (s 83 (p + 2)) < (hf k) → (s 83 (p + 3)) < (hf k) → P (some (vI 2)) s)
    (l27 : (s 83 p) < (hf k) → (hf k) ≤ (s 83 (p + 1)) → (s 83 (p + 2)) < (hf k) → (hf k) ≤ (s 83 (p + 3)) → P (some (vI 10)) s)
    (l28 : (s 83 p) < (hf k) → (hf k) ≤ (s 83 (p + 1)) → (hf k) ≤ (s 83 (p + 2)) → 0 ≤ (p + 3))
    (l29 : (s 83 p) < (hf k) → (hf k) ≤ (s 83 (p + 1)) → (hf k) ≤ (s 83 (p + 2)) → (p + 3) < 198)
    (l30 : (s 83 p) < (hf k) → (hf k) ≤ (s 83 (p + 1)) → (hf k) ≤ (s 83 (p + 2)) → inR (s 83 (p + 3)))
    (l31 : (s 83 p) < (hf k) → (hf k) ≤ (s 83 (p + 1)) → (hf k) ≤ (s 83 (p + 2)) → (s 83 (p + 3)) < (hf k) → P (some (vI 6)) s)
    (l32 : (s 83 p) < (hf k) → (hf k) ≤ (s 83 (p + 1)) → (hf k) ≤ (s 83 (p + 2)) → (hf k) ≤ (s 83 (p + 3)) → P (some (vI 14)) s)
    (l33 : (hf k) ≤ (s 83 p) → 0 ≤ (p + 1))
    (l34 : (hf k) ≤ (s 83 p) → (p + 1) < 198)
    (l35 : (hf k) ≤ (s 83 p) → inR (s 83 (p + 1)))
    (l36 : (hf k) ≤ (s 83 p) → (s 83 (p + 1)) < (hf k) → 0 ≤ (p + 2))
    (l37 : (hf k) ≤ (s 83 p) → (s 83 (p + 1)) < (hf k) → (p + 2) < 198)
    (l38 : (hf k) ≤ (s 83 p) → (s 83 (p + 1)) < (hf k) → inR (s 83 (p + 2)))
    (l39 : (hf k) ≤ (s 83 p) → (s 83 (p + 1)) < (hf k) → (s 83 (p + 2)) < (hf k) → 0 ≤ (p + 3))
    (l40 : (hf k) ≤ (s 83 p) → (s 83 (p + 1)) < (hf k) → (s 83 (p + 2)) < (hf k) → (p + 3) < 198)
    (l41 : (hf k) ≤ (s 83 p) → (s 83 (p + 1)) < (hf k) → (s 83 (p + 2)) < (hf k) → inR (s 83 (p + 3)))
    (l42 : (hf k) ≤ (s 83 p) → (s 83 (p + 1)) < (hf k) → (s 83 (p + 2)) < (hf k) → (s 83 (p + 3)) < (hf k) → P (some (vI 1)) s)
    (l43 : (hf k) ≤ (s 83 p) → (s 83 (p + 1)) < (hf k) → (s 83 (p + 2)) < (hf k) → (hf k) ≤ (s 83 (p + 3)) → P (some (vI 9)) s)
    (l44 : (hf k) ≤ (s 83 p) → (s 83 (p + 1)) < (hf k) → (hf k) ≤ (s 83 (p + 2)) → 0 ≤ (p + 3))
    (l45 : (hf k) ≤ (s 83 p) → (s 83 (p + 1)) < (hf k) → (hf k) ≤ (s 83 (p + 2)) → (p + 3) < 198)
    (l46 : (hf k) ≤ (s 83 p) → (s 83 (p + 1)) < (hf k) → (hf k) ≤ (s 83 (p + 2)) → inR (s 83 (p + 3)))
    (l47 : (hf k) ≤ (s 83 p) → (s 83 (p + 1)) < (hf k) → (hf k) ≤ (s 83 (p + 2)) → (s 83 (p + 3)) < (hf k) → P (some (vI 5)) s)
    (l48 : (hf k) ≤ (s 83 p) → (s 83 (p + 1)) < (hf k) → (hf k) ≤ (s 83 (p + 2)) → (hf k) ≤ (s 83 (p + 3)) → P (some (vI 13)) s)
    (l49 : (hf k) ≤ (s 83 p) → (hf k) ≤ (s 83 (p + 1)) → 0 ≤ (p + 2))
    (l50 : (hf k) ≤ (s 83 p) → (hf k) ≤ (s 83 (p + 1)) → (p + 2) < 198)
    (l51 : (hf k) ≤ (s 83 p) → (hf k) ≤ (s 83 (p + 1)) → inR (s 83 (p + 2)))
    (l52 : (hf k) ≤ (s 83 p) → (hf k) ≤ (s 83 (p + 1)) → (s 83 (p + 2)) < (hf k) → 0 ≤ (p + 3))
    (l53 : (hf k) ≤ (s 83 p) → (hf k) ≤ (s 83 (p + 1)) → (s 83 (p + 2)) < (hf k) → (p + 3) < 198)
    (l54 : (hf k) ≤ (s 83 p) → (hf k) ≤ (s 83 (p + 1)) → (s 83 (p + 2)) < (hf k) → inR (s 83 (p + 3)))
    (l55 : (hf k) ≤ (s 83 p) → (hf k) ≤ (s 83 (p + 1)) → (s 83 (p + 2)) < (hf k) → (s 83 (p + 3)) < (hf k) → P (some (vI 3)) s)
    (l56 : (hf k) ≤ (s 83 p) → (hf k) ≤ (s 83 (p + 1)) → (s 83 (p + 2)) < (hf k) → (hf k) ≤ (s 83 (p + 3)) → P (some (vI 11)) s)
    (l57 : (hf k) ≤ (s 83 p) → (hf k) ≤ (s 83 (p + 1)) → (hf k) ≤ (s 83 (p + 2)) → 0 ≤ (p + 3))
    (l58 : (hf k) ≤ (s 83 p) → (hf k) ≤ (s 83 (p + 1)) → (hf k) ≤ (s 83 (p + 2)) → (p + 3) < 198)
    (l59 : (hf k) ≤ (s 83 p) → (hf k) ≤ (s 83 (p + 1)) → (hf k) ≤ (s 83 (p + 2)) → inR (s 83 (p + 3)))
    (l60 : (hf k) ≤ (s 83 p) → (hf k) ≤ (s 83 (p + 1)) → (hf k) ≤ (s 83 (p + 2)) → (s 83 (p + 3)) < (hf k) → P (some (vI 7)) s)
    (l61 : (hf k) ≤ (s 83 p) → (hf k) ≤ (s 83 (p + 1)) → (hf k) ≤ (s 83 (p + 2)) → (hf k) ≤ (s 83 (p + 3)) → P (some (vI 15)) s)
    : Cl X (d + 1) 188 [vI k, vR 83, vI p] s P := by
  refine Cl_of n_188 rfl ?_
  show Rn _ _ _ _ [some (vI k), some (vR 83), some (vI p), none, none] [] _ _
  refine r_iconst F_188_0 ?_
  refine r_stI_n (m := 3) (L' := [some (vI k), some (vR 83), some (vI p), some (vI 0), none]) F_188_1 rfl rfl ?_
  refine r_iconst F_188_2 ?_
  refine r_stI (m := 4) (L' := [some (vI k), some (vR 83), some (vI p), some (vI 0), some (vI 0)]) F_188_3 rfl rfl ?_
  refine r_ldI (m := 4) F_188_5 rfl ?_
  refine r_iconst F_188_7 ?_
  refine r_icmpF (t := 41) F_188_8 rfl (by decide) (by decide) (by show ¬ ((4 : Int) ≤ 0); decide) ?_
  refine r_ldI_n (m := 3) F_188_11 rfl ?_
  refine r_ldR_n (m := 1) F_188_12 rfl ?_
  refine r_ldI_n (m := 2) F_188_13 rfl ?_
  refine r_ldI (m := 4) F_188_14 rfl ?_
  refine r_iadd (e := p) F_188_16 (Int.add_zero _) ?_
  refine r_iald (e := (s 83 p)) F_188_17 ty_83 p0 (lt_ln ln_83 l1) rfl ?_
  refine r_ldI_n (m := 0) F_188_18 rfl ?_
  refine r_stat2 (A := [vI k]) (r := [vI (s 83 p), vI 0]) (n := 1) F_188_19 o_188 il_6_129 (by decide) rfl rfl rfl rfl (lay_le n_189 rfl) ?_
  refine sp_least l2 ?_
  show Rn _ _ _ _ _ [vI (hf k), vI (s 83 p), vI 0] _ _
  refine r_icmp (t := 32) F_188_22 rfl l3 (inR_hf _) ?_ ?_
  · intro e1
    replace e1 : (s 83 p) < (hf k) := e1
    refine r_iconst F_188_32 ?_
    refine r_ior (e := 0) F_188_33 bo_ior_0_0 ?_
    refine r_stI_n (m := 3) (L' := [some (vI k), some (vR 83), some (vI p), some (vI 0), some (vI 0)]) F_188_34 rfl rfl ?_
    refine r_iinc (m := 4) (e := 1) (L' := [some (vI k), some (vR 83), some (vI p), some (vI 0), some (vI 1)]) F_188_35 rfl rfl rfl rfl ?_
    refine r_goto (t := 5) F_188_38 rfl ?_
    refine r_ldI (m := 4) F_188_5 rfl ?_
    refine r_iconst F_188_7 ?_
    refine r_icmpF (t := 41) F_188_8 rfl (by decide) (by decide) (by show ¬ ((4 : Int) ≤ 1); decide) ?_
    refine r_ldI_n (m := 3) F_188_11 rfl ?_
    refine r_ldR_n (m := 1) F_188_12 rfl ?_
    refine r_ldI_n (m := 2) F_188_13 rfl ?_
    refine r_ldI (m := 4) F_188_14 rfl ?_
    refine r_iadd F_188_16 rfl ?_
    refine r_iald (e := (s 83 (p + 1))) F_188_17 ty_83 (l4 e1) (lt_ln ln_83 (l5 e1)) rfl ?_
    refine r_ldI_n (m := 0) F_188_18 rfl ?_
    refine r_stat2 (A := [vI k]) (r := [vI (s 83 (p + 1)), vI 0]) (n := 1) F_188_19 o_188 il_6_129 (by decide) rfl rfl rfl rfl (lay_le n_189 rfl) ?_
    refine sp_least l2 ?_
    show Rn _ _ _ _ _ [vI (hf k), vI (s 83 (p + 1)), vI 0] _ _
    refine r_icmp (t := 32) F_188_22 rfl (l6 e1) (inR_hf _) ?_ ?_
    · intro e2
      replace e2 : (s 83 (p + 1)) < (hf k) := e2
      refine r_iconst F_188_32 ?_
      refine r_ior (e := 0) F_188_33 bo_ior_0_0 ?_
      refine r_stI_n (m := 3) (L' := [some (vI k), some (vR 83), some (vI p), some (vI 0), some (vI 1)]) F_188_34 rfl rfl ?_
      refine r_iinc (m := 4) (e := 2) (L' := [some (vI k), some (vR 83), some (vI p), some (vI 0), some (vI 2)]) F_188_35 rfl rfl rfl rfl ?_
      refine r_goto (t := 5) F_188_38 rfl ?_
      refine r_ldI (m := 4) F_188_5 rfl ?_
      refine r_iconst F_188_7 ?_
      refine r_icmpF (t := 41) F_188_8 rfl (by decide) (by decide) (by show ¬ ((4 : Int) ≤ 2); decide) ?_
      refine r_ldI_n (m := 3) F_188_11 rfl ?_
      refine r_ldR_n (m := 1) F_188_12 rfl ?_
      refine r_ldI_n (m := 2) F_188_13 rfl ?_
      refine r_ldI (m := 4) F_188_14 rfl ?_
      refine r_iadd F_188_16 rfl ?_
      refine r_iald (e := (s 83 (p + 2))) F_188_17 ty_83 (l7 e1 e2) (lt_ln ln_83 (l8 e1 e2)) rfl ?_
      refine r_ldI_n (m := 0) F_188_18 rfl ?_
      refine r_stat2 (A := [vI k]) (r := [vI (s 83 (p + 2)), vI 0]) (n := 1) F_188_19 o_188 il_6_129 (by decide) rfl rfl rfl rfl (lay_le n_189 rfl) ?_
      refine sp_least l2 ?_
      show Rn _ _ _ _ _ [vI (hf k), vI (s 83 (p + 2)), vI 0] _ _
      refine r_icmp (t := 32) F_188_22 rfl (l9 e1 e2) (inR_hf _) ?_ ?_
      · intro e3
        replace e3 : (s 83 (p + 2)) < (hf k) := e3
        refine r_iconst F_188_32 ?_
        refine r_ior (e := 0) F_188_33 bo_ior_0_0 ?_
        refine r_stI_n (m := 3) (L' := [some (vI k), some (vR 83), some (vI p), some (vI 0), some (vI 2)]) F_188_34 rfl rfl ?_
        refine r_iinc (m := 4) (e := 3) (L' := [some (vI k), some (vR 83), some (vI p), some (vI 0), some (vI 3)]) F_188_35 rfl rfl rfl rfl ?_
        refine r_goto (t := 5) F_188_38 rfl ?_
        refine r_ldI (m := 4) F_188_5 rfl ?_
        refine r_iconst F_188_7 ?_
        refine r_icmpF (t := 41) F_188_8 rfl (by decide) (by decide) (by show ¬ ((4 : Int) ≤ 3); decide) ?_
        refine r_ldI_n (m := 3) F_188_11 rfl ?_
        refine r_ldR_n (m := 1) F_188_12 rfl ?_
        refine r_ldI_n (m := 2) F_188_13 rfl ?_
        refine r_ldI (m := 4) F_188_14 rfl ?_
        refine r_iadd F_188_16 rfl ?_
        refine r_iald (e := (s 83 (p + 3))) F_188_17 ty_83 (l10 e1 e2 e3) (lt_ln ln_83 (l11 e1 e2 e3)) rfl ?_
        refine r_ldI_n (m := 0) F_188_18 rfl ?_
        refine r_stat2 (A := [vI k]) (r := [vI (s 83 (p + 3)), vI 0]) (n := 1) F_188_19 o_188 il_6_129 (by decide) rfl rfl rfl rfl (lay_le n_189 rfl) ?_
        refine sp_least l2 ?_
        show Rn _ _ _ _ _ [vI (hf k), vI (s 83 (p + 3)), vI 0] _ _
        refine r_icmp (t := 32) F_188_22 rfl (l12 e1 e2 e3) (inR_hf _) ?_ ?_
        · intro e4
          replace e4 : (s 83 (p + 3)) < (hf k) := e4
          refine r_iconst F_188_32 ?_
          refine r_ior (e := 0) F_188_33 bo_ior_0_0 ?_
          refine r_stI_n (m := 3) (L' := [some (vI k), some (vR 83), some (vI p), some (vI 0), some (vI 3)]) F_188_34 rfl rfl ?_
          refine r_iinc (m := 4) (e := 4) (L' := [some (vI k), some (vR 83), some (vI p), some (vI 0), some (vI 4)]) F_188_35 rfl rfl rfl rfl ?_
          refine r_goto (t := 5) F_188_38 rfl ?_
          refine r_ldI (m := 4) F_188_5 rfl ?_
          refine r_iconst F_188_7 ?_
          refine r_icmpT (t := 41) F_188_8 rfl (by decide) (by decide) (by show (4 : Int) ≤ 4; decide) ?_
          refine r_ldI_n (m := 3) F_188_41 rfl ?_
          refine r_ireturn F_188_42 rt_188 ?_
          exact (l13 e1 e2 e3 e4)
        · intro e5
          replace e5 : (hf k) ≤ (s 83 (p + 3)) := (Int.not_lt.mp e5)
          refine r_iconst F_188_25 ?_
          refine r_ldI (m := 4) F_188_26 rfl ?_
          refine r_ishl (e := 8) F_188_28 bo_ishl_1_3 ?_
          refine r_goto (t := 33) F_188_29 rfl ?_
          refine r_ior (e := 8) F_188_33 bo_ior_0_8 ?_
          refine r_stI_n (m := 3) (L' := [some (vI k), some (vR 83), some (vI p), some (vI 8), some (vI 3)]) F_188_34 rfl rfl ?_
          refine r_iinc (m := 4) (e := 4) (L' := [some (vI k), some (vR 83), some (vI p), some (vI 8), some (vI 4)]) F_188_35 rfl rfl rfl rfl ?_
          refine r_goto (t := 5) F_188_38 rfl ?_
          refine r_ldI (m := 4) F_188_5 rfl ?_
          refine r_iconst F_188_7 ?_
          refine r_icmpT (t := 41) F_188_8 rfl (by decide) (by decide) (by show (4 : Int) ≤ 4; decide) ?_
          refine r_ldI_n (m := 3) F_188_41 rfl ?_
          refine r_ireturn F_188_42 rt_188 ?_
          exact (l14 e1 e2 e3 e5)
      · intro e6
        replace e6 : (hf k) ≤ (s 83 (p + 2)) := (Int.not_lt.mp e6)
        refine r_iconst F_188_25 ?_
        refine r_ldI (m := 4) F_188_26 rfl ?_
        refine r_ishl (e := 4) F_188_28 bo_ishl_1_2 ?_
        refine r_goto (t := 33) F_188_29 rfl ?_
        refine r_ior (e := 4) F_188_33 bo_ior_0_4 ?_
        refine r_stI_n (m := 3) (L' := [some (vI k), some (vR 83), some (vI p), some (vI 4), some (vI 2)]) F_188_34 rfl rfl ?_
        refine r_iinc (m := 4) (e := 3) (L' := [some (vI k), some (vR 83), some (vI p), some (vI 4), some (vI 3)]) F_188_35 rfl rfl rfl rfl ?_
        refine r_goto (t := 5) F_188_38 rfl ?_
        refine r_ldI (m := 4) F_188_5 rfl ?_
        refine r_iconst F_188_7 ?_
        refine r_icmpF (t := 41) F_188_8 rfl (by decide) (by decide) (by show ¬ ((4 : Int) ≤ 3); decide) ?_
        refine r_ldI_n (m := 3) F_188_11 rfl ?_
        refine r_ldR_n (m := 1) F_188_12 rfl ?_
        refine r_ldI_n (m := 2) F_188_13 rfl ?_
        refine r_ldI (m := 4) F_188_14 rfl ?_
        refine r_iadd F_188_16 rfl ?_
        refine r_iald (e := (s 83 (p + 3))) F_188_17 ty_83 (l15 e1 e2 e6) (lt_ln ln_83 (l16 e1 e2 e6)) rfl ?_
        refine r_ldI_n (m := 0) F_188_18 rfl ?_
        refine r_stat2 (A := [vI k]) (r := [vI (s 83 (p + 3)), vI 4]) (n := 1) F_188_19 o_188 il_6_129 (by decide) rfl rfl rfl rfl (lay_le n_189 rfl) ?_
        refine sp_least l2 ?_
        show Rn _ _ _ _ _ [vI (hf k), vI (s 83 (p + 3)), vI 4] _ _
        refine r_icmp (t := 32) F_188_22 rfl (l17 e1 e2 e6) (inR_hf _) ?_ ?_
        · intro e7
          replace e7 : (s 83 (p + 3)) < (hf k) := e7
          refine r_iconst F_188_32 ?_
          refine r_ior (e := 4) F_188_33 bo_ior_4_0 ?_
          refine r_stI_n (m := 3) (L' := [some (vI k), some (vR 83), some (vI p), some (vI 4), some (vI 3)]) F_188_34 rfl rfl ?_
          refine r_iinc (m := 4) (e := 4) (L' := [some (vI k), some (vR 83), some (vI p), some (vI 4), some (vI 4)]) F_188_35 rfl rfl rfl rfl ?_
          refine r_goto (t := 5) F_188_38 rfl ?_
          refine r_ldI (m := 4) F_188_5 rfl ?_
          refine r_iconst F_188_7 ?_
          refine r_icmpT (t := 41) F_188_8 rfl (by decide) (by decide) (by show (4 : Int) ≤ 4; decide) ?_
          refine r_ldI_n (m := 3) F_188_41 rfl ?_
          refine r_ireturn F_188_42 rt_188 ?_
          exact (l18 e1 e2 e6 e7)
        · intro e8
          replace e8 : (hf k) ≤ (s 83 (p + 3)) := (Int.not_lt.mp e8)
          refine r_iconst F_188_25 ?_
          refine r_ldI (m := 4) F_188_26 rfl ?_
          refine r_ishl (e := 8) F_188_28 bo_ishl_1_3 ?_
          refine r_goto (t := 33) F_188_29 rfl ?_
          refine r_ior (e := 12) F_188_33 bo_ior_4_8 ?_
          refine r_stI_n (m := 3) (L' := [some (vI k), some (vR 83), some (vI p), some (vI 12), some (vI 3)]) F_188_34 rfl rfl ?_
          refine r_iinc (m := 4) (e := 4) (L' := [some (vI k), some (vR 83), some (vI p), some (vI 12), some (vI 4)]) F_188_35 rfl rfl rfl rfl ?_
          refine r_goto (t := 5) F_188_38 rfl ?_
          refine r_ldI (m := 4) F_188_5 rfl ?_
          refine r_iconst F_188_7 ?_
          refine r_icmpT (t := 41) F_188_8 rfl (by decide) (by decide) (by show (4 : Int) ≤ 4; decide) ?_
          refine r_ldI_n (m := 3) F_188_41 rfl ?_
          refine r_ireturn F_188_42 rt_188 ?_
          exact (l19 e1 e2 e6 e8)
    · intro e9
      replace e9 : (hf k) ≤ (s 83 (p + 1)) := (Int.not_lt.mp e9)
      refine r_iconst F_188_25 ?_
      refine r_ldI (m := 4) F_188_26 rfl ?_
      refine r_ishl (e := 2) F_188_28 bo_ishl_1_1 ?_
      refine r_goto (t := 33) F_188_29 rfl ?_
      refine r_ior (e := 2) F_188_33 bo_ior_0_2 ?_
      refine r_stI_n (m := 3) (L' := [some (vI k), some (vR 83), some (vI p), some (vI 2), some (vI 1)]) F_188_34 rfl rfl ?_
      refine r_iinc (m := 4) (e := 2) (L' := [some (vI k), some (vR 83), some (vI p), some (vI 2), some (vI 2)]) F_188_35 rfl rfl rfl rfl ?_
      refine r_goto (t := 5) F_188_38 rfl ?_
      refine r_ldI (m := 4) F_188_5 rfl ?_
      refine r_iconst F_188_7 ?_
      refine r_icmpF (t := 41) F_188_8 rfl (by decide) (by decide) (by show ¬ ((4 : Int) ≤ 2); decide) ?_
      refine r_ldI_n (m := 3) F_188_11 rfl ?_
      refine r_ldR_n (m := 1) F_188_12 rfl ?_
      refine r_ldI_n (m := 2) F_188_13 rfl ?_
      refine r_ldI (m := 4) F_188_14 rfl ?_
      refine r_iadd F_188_16 rfl ?_
      refine r_iald (e := (s 83 (p + 2))) F_188_17 ty_83 (l20 e1 e9) (lt_ln ln_83 (l21 e1 e9)) rfl ?_
      refine r_ldI_n (m := 0) F_188_18 rfl ?_
      refine r_stat2 (A := [vI k]) (r := [vI (s 83 (p + 2)), vI 2]) (n := 1) F_188_19 o_188 il_6_129 (by decide) rfl rfl rfl rfl (lay_le n_189 rfl) ?_
      refine sp_least l2 ?_
      show Rn _ _ _ _ _ [vI (hf k), vI (s 83 (p + 2)), vI 2] _ _
      refine r_icmp (t := 32) F_188_22 rfl (l22 e1 e9) (inR_hf _) ?_ ?_
      · intro e10
        replace e10 : (s 83 (p + 2)) < (hf k) := e10
        refine r_iconst F_188_32 ?_
        refine r_ior (e := 2) F_188_33 bo_ior_2_0 ?_
        refine r_stI_n (m := 3) (L' := [some (vI k), some (vR 83), some (vI p), some (vI 2), some (vI 2)]) F_188_34 rfl rfl ?_
        refine r_iinc (m := 4) (e := 3) (L' := [some (vI k), some (vR 83), some (vI p), some (vI 2), some (vI 3)]) F_188_35 rfl rfl rfl rfl ?_
        refine r_goto (t := 5) F_188_38 rfl ?_
        refine r_ldI (m := 4) F_188_5 rfl ?_
        refine r_iconst F_188_7 ?_
        refine r_icmpF (t := 41) F_188_8 rfl (by decide) (by decide) (by show ¬ ((4 : Int) ≤ 3); decide) ?_
        refine r_ldI_n (m := 3) F_188_11 rfl ?_
        refine r_ldR_n (m := 1) F_188_12 rfl ?_
        refine r_ldI_n (m := 2) F_188_13 rfl ?_
        refine r_ldI (m := 4) F_188_14 rfl ?_
        refine r_iadd F_188_16 rfl ?_
        refine r_iald (e := (s 83 (p + 3))) F_188_17 ty_83 (l23 e1 e9 e10) (lt_ln ln_83 (l24 e1 e9 e10)) rfl ?_
        refine r_ldI_n (m := 0) F_188_18 rfl ?_
        refine r_stat2 (A := [vI k]) (r := [vI (s 83 (p + 3)), vI 2]) (n := 1) F_188_19 o_188 il_6_129 (by decide) rfl rfl rfl rfl (lay_le n_189 rfl) ?_
        refine sp_least l2 ?_
        show Rn _ _ _ _ _ [vI (hf k), vI (s 83 (p + 3)), vI 2] _ _
        refine r_icmp (t := 32) F_188_22 rfl (l25 e1 e9 e10) (inR_hf _) ?_ ?_
        · intro e11
          replace e11 : (s 83 (p + 3)) < (hf k) := e11
          refine r_iconst F_188_32 ?_
          refine r_ior (e := 2) F_188_33 bo_ior_2_0 ?_
          refine r_stI_n (m := 3) (L' := [some (vI k), some (vR 83), some (vI p), some (vI 2), some (vI 3)]) F_188_34 rfl rfl ?_
          refine r_iinc (m := 4) (e := 4) (L' := [some (vI k), some (vR 83), some (vI p), some (vI 2), some (vI 4)]) F_188_35 rfl rfl rfl rfl ?_
          refine r_goto (t := 5) F_188_38 rfl ?_
          refine r_ldI (m := 4) F_188_5 rfl ?_
          refine r_iconst F_188_7 ?_
          refine r_icmpT (t := 41) F_188_8 rfl (by decide) (by decide) (by show (4 : Int) ≤ 4; decide) ?_
          refine r_ldI_n (m := 3) F_188_41 rfl ?_
          refine r_ireturn F_188_42 rt_188 ?_
          exact (l26 e1 e9 e10 e11)
        · intro e12
          replace e12 : (hf k) ≤ (s 83 (p + 3)) := (Int.not_lt.mp e12)
          refine r_iconst F_188_25 ?_
          refine r_ldI (m := 4) F_188_26 rfl ?_
          refine r_ishl (e := 8) F_188_28 bo_ishl_1_3 ?_
          refine r_goto (t := 33) F_188_29 rfl ?_
          refine r_ior (e := 10) F_188_33 bo_ior_2_8 ?_
          refine r_stI_n (m := 3) (L' := [some (vI k), some (vR 83), some (vI p), some (vI 10), some (vI 3)]) F_188_34 rfl rfl ?_
          refine r_iinc (m := 4) (e := 4) (L' := [some (vI k), some (vR 83), some (vI p), some (vI 10), some (vI 4)]) F_188_35 rfl rfl rfl rfl ?_
          refine r_goto (t := 5) F_188_38 rfl ?_
          refine r_ldI (m := 4) F_188_5 rfl ?_
          refine r_iconst F_188_7 ?_
          refine r_icmpT (t := 41) F_188_8 rfl (by decide) (by decide) (by show (4 : Int) ≤ 4; decide) ?_
          refine r_ldI_n (m := 3) F_188_41 rfl ?_
          refine r_ireturn F_188_42 rt_188 ?_
          exact (l27 e1 e9 e10 e12)
      · intro e13
        replace e13 : (hf k) ≤ (s 83 (p + 2)) := (Int.not_lt.mp e13)
        refine r_iconst F_188_25 ?_
        refine r_ldI (m := 4) F_188_26 rfl ?_
        refine r_ishl (e := 4) F_188_28 bo_ishl_1_2 ?_
        refine r_goto (t := 33) F_188_29 rfl ?_
        refine r_ior (e := 6) F_188_33 bo_ior_2_4 ?_
        refine r_stI_n (m := 3) (L' := [some (vI k), some (vR 83), some (vI p), some (vI 6), some (vI 2)]) F_188_34 rfl rfl ?_
        refine r_iinc (m := 4) (e := 3) (L' := [some (vI k), some (vR 83), some (vI p), some (vI 6), some (vI 3)]) F_188_35 rfl rfl rfl rfl ?_
        refine r_goto (t := 5) F_188_38 rfl ?_
        refine r_ldI (m := 4) F_188_5 rfl ?_
        refine r_iconst F_188_7 ?_
        refine r_icmpF (t := 41) F_188_8 rfl (by decide) (by decide) (by show ¬ ((4 : Int) ≤ 3); decide) ?_
        refine r_ldI_n (m := 3) F_188_11 rfl ?_
        refine r_ldR_n (m := 1) F_188_12 rfl ?_
        refine r_ldI_n (m := 2) F_188_13 rfl ?_
        refine r_ldI (m := 4) F_188_14 rfl ?_
        refine r_iadd F_188_16 rfl ?_
        refine r_iald (e := (s 83 (p + 3))) F_188_17 ty_83 (l28 e1 e9 e13) (lt_ln ln_83 (l29 e1 e9 e13)) rfl ?_
        refine r_ldI_n (m := 0) F_188_18 rfl ?_
        refine r_stat2 (A := [vI k]) (r := [vI (s 83 (p + 3)), vI 6]) (n := 1) F_188_19 o_188 il_6_129 (by decide) rfl rfl rfl rfl (lay_le n_189 rfl) ?_
        refine sp_least l2 ?_
        show Rn _ _ _ _ _ [vI (hf k), vI (s 83 (p + 3)), vI 6] _ _
        refine r_icmp (t := 32) F_188_22 rfl (l30 e1 e9 e13) (inR_hf _) ?_ ?_
        · intro e14
          replace e14 : (s 83 (p + 3)) < (hf k) := e14
          refine r_iconst F_188_32 ?_
          refine r_ior (e := 6) F_188_33 bo_ior_6_0 ?_
          refine r_stI_n (m := 3) (L' := [some (vI k), some (vR 83), some (vI p), some (vI 6), some (vI 3)]) F_188_34 rfl rfl ?_
          refine r_iinc (m := 4) (e := 4) (L' := [some (vI k), some (vR 83), some (vI p), some (vI 6), some (vI 4)]) F_188_35 rfl rfl rfl rfl ?_
          refine r_goto (t := 5) F_188_38 rfl ?_
          refine r_ldI (m := 4) F_188_5 rfl ?_
          refine r_iconst F_188_7 ?_
          refine r_icmpT (t := 41) F_188_8 rfl (by decide) (by decide) (by show (4 : Int) ≤ 4; decide) ?_
          refine r_ldI_n (m := 3) F_188_41 rfl ?_
          refine r_ireturn F_188_42 rt_188 ?_
          exact (l31 e1 e9 e13 e14)
        · intro e15
          replace e15 : (hf k) ≤ (s 83 (p + 3)) := (Int.not_lt.mp e15)
          refine r_iconst F_188_25 ?_
          refine r_ldI (m := 4) F_188_26 rfl ?_
          refine r_ishl (e := 8) F_188_28 bo_ishl_1_3 ?_
          refine r_goto (t := 33) F_188_29 rfl ?_
          refine r_ior (e := 14) F_188_33 bo_ior_6_8 ?_
          refine r_stI_n (m := 3) (L' := [some (vI k), some (vR 83), some (vI p), some (vI 14), some (vI 3)]) F_188_34 rfl rfl ?_
          refine r_iinc (m := 4) (e := 4) (L' := [some (vI k), some (vR 83), some (vI p), some (vI 14), some (vI 4)]) F_188_35 rfl rfl rfl rfl ?_
          refine r_goto (t := 5) F_188_38 rfl ?_
          refine r_ldI (m := 4) F_188_5 rfl ?_
          refine r_iconst F_188_7 ?_
          refine r_icmpT (t := 41) F_188_8 rfl (by decide) (by decide) (by show (4 : Int) ≤ 4; decide) ?_
          refine r_ldI_n (m := 3) F_188_41 rfl ?_
          refine r_ireturn F_188_42 rt_188 ?_
          exact (l32 e1 e9 e13 e15)
  · intro e16
    replace e16 : (hf k) ≤ (s 83 p) := (Int.not_lt.mp e16)
    refine r_iconst F_188_25 ?_
    refine r_ldI (m := 4) F_188_26 rfl ?_
    refine r_ishl (e := 1) F_188_28 bo_ishl_1_0 ?_
    refine r_goto (t := 33) F_188_29 rfl ?_
    refine r_ior (e := 1) F_188_33 bo_ior_0_1 ?_
    refine r_stI_n (m := 3) (L' := [some (vI k), some (vR 83), some (vI p), some (vI 1), some (vI 0)]) F_188_34 rfl rfl ?_
    refine r_iinc (m := 4) (e := 1) (L' := [some (vI k), some (vR 83), some (vI p), some (vI 1), some (vI 1)]) F_188_35 rfl rfl rfl rfl ?_
    refine r_goto (t := 5) F_188_38 rfl ?_
    refine r_ldI (m := 4) F_188_5 rfl ?_
    refine r_iconst F_188_7 ?_
    refine r_icmpF (t := 41) F_188_8 rfl (by decide) (by decide) (by show ¬ ((4 : Int) ≤ 1); decide) ?_
    refine r_ldI_n (m := 3) F_188_11 rfl ?_
    refine r_ldR_n (m := 1) F_188_12 rfl ?_
    refine r_ldI_n (m := 2) F_188_13 rfl ?_
    refine r_ldI (m := 4) F_188_14 rfl ?_
    refine r_iadd F_188_16 rfl ?_
    refine r_iald (e := (s 83 (p + 1))) F_188_17 ty_83 (l33 e16) (lt_ln ln_83 (l34 e16)) rfl ?_
    refine r_ldI_n (m := 0) F_188_18 rfl ?_
    refine r_stat2 (A := [vI k]) (r := [vI (s 83 (p + 1)), vI 1]) (n := 1) F_188_19 o_188 il_6_129 (by decide) rfl rfl rfl rfl (lay_le n_189 rfl) ?_
    refine sp_least l2 ?_
    show Rn _ _ _ _ _ [vI (hf k), vI (s 83 (p + 1)), vI 1] _ _
    refine r_icmp (t := 32) F_188_22 rfl (l35 e16) (inR_hf _) ?_ ?_
    · intro e17
      replace e17 : (s 83 (p + 1)) < (hf k) := e17
      refine r_iconst F_188_32 ?_
      refine r_ior (e := 1) F_188_33 bo_ior_1_0 ?_
      refine r_stI_n (m := 3) (L' := [some (vI k), some (vR 83), some (vI p), some (vI 1), some (vI 1)]) F_188_34 rfl rfl ?_
      refine r_iinc (m := 4) (e := 2) (L' := [some (vI k), some (vR 83), some (vI p), some (vI 1), some (vI 2)]) F_188_35 rfl rfl rfl rfl ?_
      refine r_goto (t := 5) F_188_38 rfl ?_
      refine r_ldI (m := 4) F_188_5 rfl ?_
      refine r_iconst F_188_7 ?_
      refine r_icmpF (t := 41) F_188_8 rfl (by decide) (by decide) (by show ¬ ((4 : Int) ≤ 2); decide) ?_
      refine r_ldI_n (m := 3) F_188_11 rfl ?_
      refine r_ldR_n (m := 1) F_188_12 rfl ?_
      refine r_ldI_n (m := 2) F_188_13 rfl ?_
      refine r_ldI (m := 4) F_188_14 rfl ?_
      refine r_iadd F_188_16 rfl ?_
      refine r_iald (e := (s 83 (p + 2))) F_188_17 ty_83 (l36 e16 e17) (lt_ln ln_83 (l37 e16 e17)) rfl ?_
      refine r_ldI_n (m := 0) F_188_18 rfl ?_
      refine r_stat2 (A := [vI k]) (r := [vI (s 83 (p + 2)), vI 1]) (n := 1) F_188_19 o_188 il_6_129 (by decide) rfl rfl rfl rfl (lay_le n_189 rfl) ?_
      refine sp_least l2 ?_
      show Rn _ _ _ _ _ [vI (hf k), vI (s 83 (p + 2)), vI 1] _ _
      refine r_icmp (t := 32) F_188_22 rfl (l38 e16 e17) (inR_hf _) ?_ ?_
      · intro e18
        replace e18 : (s 83 (p + 2)) < (hf k) := e18
        refine r_iconst F_188_32 ?_
        refine r_ior (e := 1) F_188_33 bo_ior_1_0 ?_
        refine r_stI_n (m := 3) (L' := [some (vI k), some (vR 83), some (vI p), some (vI 1), some (vI 2)]) F_188_34 rfl rfl ?_
        refine r_iinc (m := 4) (e := 3) (L' := [some (vI k), some (vR 83), some (vI p), some (vI 1), some (vI 3)]) F_188_35 rfl rfl rfl rfl ?_
        refine r_goto (t := 5) F_188_38 rfl ?_
        refine r_ldI (m := 4) F_188_5 rfl ?_
        refine r_iconst F_188_7 ?_
        refine r_icmpF (t := 41) F_188_8 rfl (by decide) (by decide) (by show ¬ ((4 : Int) ≤ 3); decide) ?_
        refine r_ldI_n (m := 3) F_188_11 rfl ?_
        refine r_ldR_n (m := 1) F_188_12 rfl ?_
        refine r_ldI_n (m := 2) F_188_13 rfl ?_
        refine r_ldI (m := 4) F_188_14 rfl ?_
        refine r_iadd F_188_16 rfl ?_
        refine r_iald (e := (s 83 (p + 3))) F_188_17 ty_83 (l39 e16 e17 e18) (lt_ln ln_83 (l40 e16 e17 e18)) rfl ?_
        refine r_ldI_n (m := 0) F_188_18 rfl ?_
        refine r_stat2 (A := [vI k]) (r := [vI (s 83 (p + 3)), vI 1]) (n := 1) F_188_19 o_188 il_6_129 (by decide) rfl rfl rfl rfl (lay_le n_189 rfl) ?_
        refine sp_least l2 ?_
        show Rn _ _ _ _ _ [vI (hf k), vI (s 83 (p + 3)), vI 1] _ _
        refine r_icmp (t := 32) F_188_22 rfl (l41 e16 e17 e18) (inR_hf _) ?_ ?_
        · intro e19
          replace e19 : (s 83 (p + 3)) < (hf k) := e19
          refine r_iconst F_188_32 ?_
          refine r_ior (e := 1) F_188_33 bo_ior_1_0 ?_
          refine r_stI_n (m := 3) (L' := [some (vI k), some (vR 83), some (vI p), some (vI 1), some (vI 3)]) F_188_34 rfl rfl ?_
          refine r_iinc (m := 4) (e := 4) (L' := [some (vI k), some (vR 83), some (vI p), some (vI 1), some (vI 4)]) F_188_35 rfl rfl rfl rfl ?_
          refine r_goto (t := 5) F_188_38 rfl ?_
          refine r_ldI (m := 4) F_188_5 rfl ?_
          refine r_iconst F_188_7 ?_
          refine r_icmpT (t := 41) F_188_8 rfl (by decide) (by decide) (by show (4 : Int) ≤ 4; decide) ?_
          refine r_ldI_n (m := 3) F_188_41 rfl ?_
          refine r_ireturn F_188_42 rt_188 ?_
          exact (l42 e16 e17 e18 e19)
        · intro e20
          replace e20 : (hf k) ≤ (s 83 (p + 3)) := (Int.not_lt.mp e20)
          refine r_iconst F_188_25 ?_
          refine r_ldI (m := 4) F_188_26 rfl ?_
          refine r_ishl (e := 8) F_188_28 bo_ishl_1_3 ?_
          refine r_goto (t := 33) F_188_29 rfl ?_
          refine r_ior (e := 9) F_188_33 bo_ior_1_8 ?_
          refine r_stI_n (m := 3) (L' := [some (vI k), some (vR 83), some (vI p), some (vI 9), some (vI 3)]) F_188_34 rfl rfl ?_
          refine r_iinc (m := 4) (e := 4) (L' := [some (vI k), some (vR 83), some (vI p), some (vI 9), some (vI 4)]) F_188_35 rfl rfl rfl rfl ?_
          refine r_goto (t := 5) F_188_38 rfl ?_
          refine r_ldI (m := 4) F_188_5 rfl ?_
          refine r_iconst F_188_7 ?_
          refine r_icmpT (t := 41) F_188_8 rfl (by decide) (by decide) (by show (4 : Int) ≤ 4; decide) ?_
          refine r_ldI_n (m := 3) F_188_41 rfl ?_
          refine r_ireturn F_188_42 rt_188 ?_
          exact (l43 e16 e17 e18 e20)
      · intro e21
        replace e21 : (hf k) ≤ (s 83 (p + 2)) := (Int.not_lt.mp e21)
        refine r_iconst F_188_25 ?_
        refine r_ldI (m := 4) F_188_26 rfl ?_
        refine r_ishl (e := 4) F_188_28 bo_ishl_1_2 ?_
        refine r_goto (t := 33) F_188_29 rfl ?_
        refine r_ior (e := 5) F_188_33 bo_ior_1_4 ?_
        refine r_stI_n (m := 3) (L' := [some (vI k), some (vR 83), some (vI p), some (vI 5), some (vI 2)]) F_188_34 rfl rfl ?_
        refine r_iinc (m := 4) (e := 3) (L' := [some (vI k), some (vR 83), some (vI p), some (vI 5), some (vI 3)]) F_188_35 rfl rfl rfl rfl ?_
        refine r_goto (t := 5) F_188_38 rfl ?_
        refine r_ldI (m := 4) F_188_5 rfl ?_
        refine r_iconst F_188_7 ?_
        refine r_icmpF (t := 41) F_188_8 rfl (by decide) (by decide) (by show ¬ ((4 : Int) ≤ 3); decide) ?_
        refine r_ldI_n (m := 3) F_188_11 rfl ?_
        refine r_ldR_n (m := 1) F_188_12 rfl ?_
        refine r_ldI_n (m := 2) F_188_13 rfl ?_
        refine r_ldI (m := 4) F_188_14 rfl ?_
        refine r_iadd F_188_16 rfl ?_
        refine r_iald (e := (s 83 (p + 3))) F_188_17 ty_83 (l44 e16 e17 e21) (lt_ln ln_83 (l45 e16 e17 e21)) rfl ?_
        refine r_ldI_n (m := 0) F_188_18 rfl ?_
        refine r_stat2 (A := [vI k]) (r := [vI (s 83 (p + 3)), vI 5]) (n := 1) F_188_19 o_188 il_6_129 (by decide) rfl rfl rfl rfl (lay_le n_189 rfl) ?_
        refine sp_least l2 ?_
        show Rn _ _ _ _ _ [vI (hf k), vI (s 83 (p + 3)), vI 5] _ _
        refine r_icmp (t := 32) F_188_22 rfl (l46 e16 e17 e21) (inR_hf _) ?_ ?_
        · intro e22
          replace e22 : (s 83 (p + 3)) < (hf k) := e22
          refine r_iconst F_188_32 ?_
          refine r_ior (e := 5) F_188_33 bo_ior_5_0 ?_
          refine r_stI_n (m := 3) (L' := [some (vI k), some (vR 83), some (vI p), some (vI 5), some (vI 3)]) F_188_34 rfl rfl ?_
          refine r_iinc (m := 4) (e := 4) (L' := [some (vI k), some (vR 83), some (vI p), some (vI 5), some (vI 4)]) F_188_35 rfl rfl rfl rfl ?_
          refine r_goto (t := 5) F_188_38 rfl ?_
          refine r_ldI (m := 4) F_188_5 rfl ?_
          refine r_iconst F_188_7 ?_
          refine r_icmpT (t := 41) F_188_8 rfl (by decide) (by decide) (by show (4 : Int) ≤ 4; decide) ?_
          refine r_ldI_n (m := 3) F_188_41 rfl ?_
          refine r_ireturn F_188_42 rt_188 ?_
          exact (l47 e16 e17 e21 e22)
        · intro e23
          replace e23 : (hf k) ≤ (s 83 (p + 3)) := (Int.not_lt.mp e23)
          refine r_iconst F_188_25 ?_
          refine r_ldI (m := 4) F_188_26 rfl ?_
          refine r_ishl (e := 8) F_188_28 bo_ishl_1_3 ?_
          refine r_goto (t := 33) F_188_29 rfl ?_
          refine r_ior (e := 13) F_188_33 bo_ior_5_8 ?_
          refine r_stI_n (m := 3) (L' := [some (vI k), some (vR 83), some (vI p), some (vI 13), some (vI 3)]) F_188_34 rfl rfl ?_
          refine r_iinc (m := 4) (e := 4) (L' := [some (vI k), some (vR 83), some (vI p), some (vI 13), some (vI 4)]) F_188_35 rfl rfl rfl rfl ?_
          refine r_goto (t := 5) F_188_38 rfl ?_
          refine r_ldI (m := 4) F_188_5 rfl ?_
          refine r_iconst F_188_7 ?_
          refine r_icmpT (t := 41) F_188_8 rfl (by decide) (by decide) (by show (4 : Int) ≤ 4; decide) ?_
          refine r_ldI_n (m := 3) F_188_41 rfl ?_
          refine r_ireturn F_188_42 rt_188 ?_
          exact (l48 e16 e17 e21 e23)
    · intro e24
      replace e24 : (hf k) ≤ (s 83 (p + 1)) := (Int.not_lt.mp e24)
      refine r_iconst F_188_25 ?_
      refine r_ldI (m := 4) F_188_26 rfl ?_
      refine r_ishl (e := 2) F_188_28 bo_ishl_1_1 ?_
      refine r_goto (t := 33) F_188_29 rfl ?_
      refine r_ior (e := 3) F_188_33 bo_ior_1_2 ?_
      refine r_stI_n (m := 3) (L' := [some (vI k), some (vR 83), some (vI p), some (vI 3), some (vI 1)]) F_188_34 rfl rfl ?_
      refine r_iinc (m := 4) (e := 2) (L' := [some (vI k), some (vR 83), some (vI p), some (vI 3), some (vI 2)]) F_188_35 rfl rfl rfl rfl ?_
      refine r_goto (t := 5) F_188_38 rfl ?_
      refine r_ldI (m := 4) F_188_5 rfl ?_
      refine r_iconst F_188_7 ?_
      refine r_icmpF (t := 41) F_188_8 rfl (by decide) (by decide) (by show ¬ ((4 : Int) ≤ 2); decide) ?_
      refine r_ldI_n (m := 3) F_188_11 rfl ?_
      refine r_ldR_n (m := 1) F_188_12 rfl ?_
      refine r_ldI_n (m := 2) F_188_13 rfl ?_
      refine r_ldI (m := 4) F_188_14 rfl ?_
      refine r_iadd F_188_16 rfl ?_
      refine r_iald (e := (s 83 (p + 2))) F_188_17 ty_83 (l49 e16 e24) (lt_ln ln_83 (l50 e16 e24)) rfl ?_
      refine r_ldI_n (m := 0) F_188_18 rfl ?_
      refine r_stat2 (A := [vI k]) (r := [vI (s 83 (p + 2)), vI 3]) (n := 1) F_188_19 o_188 il_6_129 (by decide) rfl rfl rfl rfl (lay_le n_189 rfl) ?_
      refine sp_least l2 ?_
      show Rn _ _ _ _ _ [vI (hf k), vI (s 83 (p + 2)), vI 3] _ _
      refine r_icmp (t := 32) F_188_22 rfl (l51 e16 e24) (inR_hf _) ?_ ?_
      · intro e25
        replace e25 : (s 83 (p + 2)) < (hf k) := e25
        refine r_iconst F_188_32 ?_
        refine r_ior (e := 3) F_188_33 bo_ior_3_0 ?_
        refine r_stI_n (m := 3) (L' := [some (vI k), some (vR 83), some (vI p), some (vI 3), some (vI 2)]) F_188_34 rfl rfl ?_
        refine r_iinc (m := 4) (e := 3) (L' := [some (vI k), some (vR 83), some (vI p), some (vI 3), some (vI 3)]) F_188_35 rfl rfl rfl rfl ?_
        refine r_goto (t := 5) F_188_38 rfl ?_
        refine r_ldI (m := 4) F_188_5 rfl ?_
        refine r_iconst F_188_7 ?_
        refine r_icmpF (t := 41) F_188_8 rfl (by decide) (by decide) (by show ¬ ((4 : Int) ≤ 3); decide) ?_
        refine r_ldI_n (m := 3) F_188_11 rfl ?_
        refine r_ldR_n (m := 1) F_188_12 rfl ?_
        refine r_ldI_n (m := 2) F_188_13 rfl ?_
        refine r_ldI (m := 4) F_188_14 rfl ?_
        refine r_iadd F_188_16 rfl ?_
        refine r_iald (e := (s 83 (p + 3))) F_188_17 ty_83 (l52 e16 e24 e25) (lt_ln ln_83 (l53 e16 e24 e25)) rfl ?_
        refine r_ldI_n (m := 0) F_188_18 rfl ?_
        refine r_stat2 (A := [vI k]) (r := [vI (s 83 (p + 3)), vI 3]) (n := 1) F_188_19 o_188 il_6_129 (by decide) rfl rfl rfl rfl (lay_le n_189 rfl) ?_
        refine sp_least l2 ?_
        show Rn _ _ _ _ _ [vI (hf k), vI (s 83 (p + 3)), vI 3] _ _
        refine r_icmp (t := 32) F_188_22 rfl (l54 e16 e24 e25) (inR_hf _) ?_ ?_
        · intro e26
          replace e26 : (s 83 (p + 3)) < (hf k) := e26
          refine r_iconst F_188_32 ?_
          refine r_ior (e := 3) F_188_33 bo_ior_3_0 ?_
          refine r_stI_n (m := 3) (L' := [some (vI k), some (vR 83), some (vI p), some (vI 3), some (vI 3)]) F_188_34 rfl rfl ?_
          refine r_iinc (m := 4) (e := 4) (L' := [some (vI k), some (vR 83), some (vI p), some (vI 3), some (vI 4)]) F_188_35 rfl rfl rfl rfl ?_
          refine r_goto (t := 5) F_188_38 rfl ?_
          refine r_ldI (m := 4) F_188_5 rfl ?_
          refine r_iconst F_188_7 ?_
          refine r_icmpT (t := 41) F_188_8 rfl (by decide) (by decide) (by show (4 : Int) ≤ 4; decide) ?_
          refine r_ldI_n (m := 3) F_188_41 rfl ?_
          refine r_ireturn F_188_42 rt_188 ?_
          exact (l55 e16 e24 e25 e26)
        · intro e27
          replace e27 : (hf k) ≤ (s 83 (p + 3)) := (Int.not_lt.mp e27)
          refine r_iconst F_188_25 ?_
          refine r_ldI (m := 4) F_188_26 rfl ?_
          refine r_ishl (e := 8) F_188_28 bo_ishl_1_3 ?_
          refine r_goto (t := 33) F_188_29 rfl ?_
          refine r_ior (e := 11) F_188_33 bo_ior_3_8 ?_
          refine r_stI_n (m := 3) (L' := [some (vI k), some (vR 83), some (vI p), some (vI 11), some (vI 3)]) F_188_34 rfl rfl ?_
          refine r_iinc (m := 4) (e := 4) (L' := [some (vI k), some (vR 83), some (vI p), some (vI 11), some (vI 4)]) F_188_35 rfl rfl rfl rfl ?_
          refine r_goto (t := 5) F_188_38 rfl ?_
          refine r_ldI (m := 4) F_188_5 rfl ?_
          refine r_iconst F_188_7 ?_
          refine r_icmpT (t := 41) F_188_8 rfl (by decide) (by decide) (by show (4 : Int) ≤ 4; decide) ?_
          refine r_ldI_n (m := 3) F_188_41 rfl ?_
          refine r_ireturn F_188_42 rt_188 ?_
          exact (l56 e16 e24 e25 e27)
      · intro e28
        replace e28 : (hf k) ≤ (s 83 (p + 2)) := (Int.not_lt.mp e28)
        refine r_iconst F_188_25 ?_
        refine r_ldI (m := 4) F_188_26 rfl ?_
        refine r_ishl (e := 4) F_188_28 bo_ishl_1_2 ?_
        refine r_goto (t := 33) F_188_29 rfl ?_
        refine r_ior (e := 7) F_188_33 bo_ior_3_4 ?_
        refine r_stI_n (m := 3) (L' := [some (vI k), some (vR 83), some (vI p), some (vI 7), some (vI 2)]) F_188_34 rfl rfl ?_
        refine r_iinc (m := 4) (e := 3) (L' := [some (vI k), some (vR 83), some (vI p), some (vI 7), some (vI 3)]) F_188_35 rfl rfl rfl rfl ?_
        refine r_goto (t := 5) F_188_38 rfl ?_
        refine r_ldI (m := 4) F_188_5 rfl ?_
        refine r_iconst F_188_7 ?_
        refine r_icmpF (t := 41) F_188_8 rfl (by decide) (by decide) (by show ¬ ((4 : Int) ≤ 3); decide) ?_
        refine r_ldI_n (m := 3) F_188_11 rfl ?_
        refine r_ldR_n (m := 1) F_188_12 rfl ?_
        refine r_ldI_n (m := 2) F_188_13 rfl ?_
        refine r_ldI (m := 4) F_188_14 rfl ?_
        refine r_iadd F_188_16 rfl ?_
        refine r_iald (e := (s 83 (p + 3))) F_188_17 ty_83 (l57 e16 e24 e28) (lt_ln ln_83 (l58 e16 e24 e28)) rfl ?_
        refine r_ldI_n (m := 0) F_188_18 rfl ?_
        refine r_stat2 (A := [vI k]) (r := [vI (s 83 (p + 3)), vI 7]) (n := 1) F_188_19 o_188 il_6_129 (by decide) rfl rfl rfl rfl (lay_le n_189 rfl) ?_
        refine sp_least l2 ?_
        show Rn _ _ _ _ _ [vI (hf k), vI (s 83 (p + 3)), vI 7] _ _
        refine r_icmp (t := 32) F_188_22 rfl (l59 e16 e24 e28) (inR_hf _) ?_ ?_
        · intro e29
          replace e29 : (s 83 (p + 3)) < (hf k) := e29
          refine r_iconst F_188_32 ?_
          refine r_ior (e := 7) F_188_33 bo_ior_7_0 ?_
          refine r_stI_n (m := 3) (L' := [some (vI k), some (vR 83), some (vI p), some (vI 7), some (vI 3)]) F_188_34 rfl rfl ?_
          refine r_iinc (m := 4) (e := 4) (L' := [some (vI k), some (vR 83), some (vI p), some (vI 7), some (vI 4)]) F_188_35 rfl rfl rfl rfl ?_
          refine r_goto (t := 5) F_188_38 rfl ?_
          refine r_ldI (m := 4) F_188_5 rfl ?_
          refine r_iconst F_188_7 ?_
          refine r_icmpT (t := 41) F_188_8 rfl (by decide) (by decide) (by show (4 : Int) ≤ 4; decide) ?_
          refine r_ldI_n (m := 3) F_188_41 rfl ?_
          refine r_ireturn F_188_42 rt_188 ?_
          exact (l60 e16 e24 e28 e29)
        · intro e30
          replace e30 : (hf k) ≤ (s 83 (p + 3)) := (Int.not_lt.mp e30)
          refine r_iconst F_188_25 ?_
          refine r_ldI (m := 4) F_188_26 rfl ?_
          refine r_ishl (e := 8) F_188_28 bo_ishl_1_3 ?_
          refine r_goto (t := 33) F_188_29 rfl ?_
          refine r_ior (e := 15) F_188_33 bo_ior_7_8 ?_
          refine r_stI_n (m := 3) (L' := [some (vI k), some (vR 83), some (vI p), some (vI 15), some (vI 3)]) F_188_34 rfl rfl ?_
          refine r_iinc (m := 4) (e := 4) (L' := [some (vI k), some (vR 83), some (vI p), some (vI 15), some (vI 4)]) F_188_35 rfl rfl rfl rfl ?_
          refine r_goto (t := 5) F_188_38 rfl ?_
          refine r_ldI (m := 4) F_188_5 rfl ?_
          refine r_iconst F_188_7 ?_
          refine r_icmpT (t := 41) F_188_8 rfl (by decide) (by decide) (by show (4 : Int) ≤ 4; decide) ?_
          refine r_ldI_n (m := 3) F_188_41 rfl ?_
          refine r_ireturn F_188_42 rt_188 ?_
          exact (l61 e16 e24 e28 e30)
theorem t_held80 {X : List Int32} {d : Nat} {s : m_St} {P : Option Value → m_St → Prop} {k p : Int} (p0 : 0 ≤ p) (pn : p + 3 < 40)
    (l1 : p < 40)
    (l2 : inR k)
    (l3 : inR (s 80 p))
    (l4 : (s 80 p) < (hf k) → 0 ≤ (p + 1))
    (l5 : (s 80 p) < (hf k) → (p + 1) < 40)
    (l6 : (s 80 p) < (hf k) → inR (s 80 (p + 1)))
    (l7 : (s 80 p) < (hf k) → (s 80 (p + 1)) < (hf k) → 0 ≤ (p + 2))
    (l8 : (s 80 p) < (hf k) → (s 80 (p + 1)) < (hf k) → (p + 2) < 40)
    (l9 : (s 80 p) < (hf k) → (s 80 (p + 1)) < (hf k) → inR (s 80 (p + 2)))
    (l10 : (s 80 p) < (hf k) → (s 80 (p + 1)) < (hf k) → (s 80 (p + 2)) < (hf k) → 0 ≤ (p + 3))
    (l11 : (s 80 p) < (hf k) → (s 80 (p + 1)) < (hf k) → (s 80 (p + 2)) < (hf k) → (p + 3) < 40)
    (l12 : (s 80 p) < (hf k) → (s 80 (p + 1)) < (hf k) → (s 80 (p + 2)) < (hf k) → inR (s 80 (p + 3)))
    (l13 : (s 80 p) < (hf k) → (s 80 (p + 1)) < (hf k) → (s 80 (p + 2)) < (hf k) → (s 80 (p + 3)) < (hf k) → P (some (vI 0)) s)
    (l14 : (s 80 p) < (hf k) → (s 80 (p + 1)) < (hf k) → (s 80 (p + 2)) < (hf k) → (hf k) ≤ (s 80 (p + 3)) → P (some (vI 8)) s)
    (l15 : (s 80 p) < (hf k) → (s 80 (p + 1)) < (hf k) → (hf k) ≤ (s 80 (p + 2)) → 0 ≤ (p + 3))
    (l16 : (s 80 p) < (hf k) → (s 80 (p + 1)) < (hf k) → (hf k) ≤ (s 80 (p + 2)) → (p + 3) < 40)
    (l17 : (s 80 p) < (hf k) → (s 80 (p + 1)) < (hf k) → (hf k) ≤ (s 80 (p + 2)) → inR (s 80 (p + 3)))
    (l18 : (s 80 p) < (hf k) → (s 80 (p + 1)) < (hf k) → (hf k) ≤ (s 80 (p + 2)) → (s 80 (p + 3)) < (hf k) → P (some (vI 4)) s)
    (l19 : (s 80 p) < (hf k) → (s 80 (p + 1)) < (hf k) → (hf k) ≤ (s 80 (p + 2)) → (hf k) ≤ (s 80 (p + 3)) → P (some (vI 12)) s)
    (l20 : (s 80 p) < (hf k) → (hf k) ≤ (s 80 (p + 1)) → 0 ≤ (p + 2))
    (l21 : (s 80 p) < (hf k) → (hf k) ≤ (s 80 (p + 1)) → (p + 2) < 40)
    (l22 : (s 80 p) < (hf k) → (hf k) ≤ (s 80 (p + 1)) → inR (s 80 (p + 2)))
    (l23 : (s 80 p) < (hf k) → (hf k) ≤ (s 80 (p + 1)) → (s 80 (p + 2)) < (hf k) → 0 ≤ (p + 3))
    (l24 : (s 80 p) < (hf k) → (hf k) ≤ (s 80 (p + 1)) → (s 80 (p + 2)) < (hf k) → (p + 3) < 40)
    (l25 : (s 80 p) < (hf k) → (hf k) ≤ (s 80 (p + 1)) → (s 80 (p + 2)) < (hf k) → inR (s 80 (p + 3)))
    (l26 : (s 80 p) < (hf k) → (hf k) ≤ (s 80 (p + 1)) → (s 80 (p + 2)) < (hf k) → (s 80 (p + 3)) < (hf k) → P (some (vI 2)) s)
    (l27 : (s 80 p) < (hf k) → (hf k) ≤ (s 80 (p + 1)) → (s 80 (p + 2)) < (hf k) → (hf k) ≤ (s 80 (p + 3)) → P (some (vI 10)) s)
    (l28 : (s 80 p) < (hf k) → (hf k) ≤ (s 80 (p + 1)) → (hf k) ≤ (s 80 (p + 2)) → 0 ≤ (p + 3))
    (l29 : (s 80 p) < (hf k) → (hf k) ≤ (s 80 (p + 1)) → (hf k) ≤ (s 80 (p + 2)) → (p + 3) < 40)
    (l30 : (s 80 p) < (hf k) → (hf k) ≤ (s 80 (p + 1)) → (hf k) ≤ (s 80 (p + 2)) → inR (s 80 (p + 3)))
    (l31 : (s 80 p) < (hf k) → (hf k) ≤ (s 80 (p + 1)) → (hf k) ≤ (s 80 (p + 2)) → (s 80 (p + 3)) < (hf k) → P (some (vI 6)) s)
    (l32 : (s 80 p) < (hf k) → (hf k) ≤ (s 80 (p + 1)) → (hf k) ≤ (s 80 (p + 2)) → (hf k) ≤ (s 80 (p + 3)) → P (some (vI 14)) s)
    (l33 : (hf k) ≤ (s 80 p) → 0 ≤ (p + 1))
    (l34 : (hf k) ≤ (s 80 p) → (p + 1) < 40)
    (l35 : (hf k) ≤ (s 80 p) → inR (s 80 (p + 1)))
    (l36 : (hf k) ≤ (s 80 p) → (s 80 (p + 1)) < (hf k) → 0 ≤ (p + 2))
    (l37 : (hf k) ≤ (s 80 p) → (s 80 (p + 1)) < (hf k) → (p + 2) < 40)
    (l38 : (hf k) ≤ (s 80 p) → (s 80 (p + 1)) < (hf k) → inR (s 80 (p + 2)))
    (l39 : (hf k) ≤ (s 80 p) → (s 80 (p + 1)) < (hf k) → (s 80 (p + 2)) < (hf k) → 0 ≤ (p + 3))
    (l40 : (hf k) ≤ (s 80 p) → (s 80 (p + 1)) < (hf k) → (s 80 (p + 2)) < (hf k) → (p + 3) < 40)
    (l41 : (hf k) ≤ (s 80 p) → (s 80 (p + 1)) < (hf k) → (s 80 (p + 2)) < (hf k) → inR (s 80 (p + 3)))
    (l42 : (hf k) ≤ (s 80 p) → (s 80 (p + 1)) < (hf k) → (s 80 (p + 2)) < (hf k) → (s 80 (p + 3)) < (hf k) → P (some (vI 1)) s)
    (l43 : (hf k) ≤ (s 80 p) → (s 80 (p + 1)) < (hf k) → (s 80 (p + 2)) < (hf k) → (hf k) ≤ (s 80 (p + 3)) → P (some (vI 9)) s)
    (l44 : (hf k) ≤ (s 80 p) → (s 80 (p + 1)) < (hf k) → (hf k) ≤ (s 80 (p + 2)) → 0 ≤ (p + 3))
    (l45 : (hf k) ≤ (s 80 p) → (s 80 (p + 1)) < (hf k) → (hf k) ≤ (s 80 (p + 2)) → (p + 3) < 40)
    (l46 : (hf k) ≤ (s 80 p) → (s 80 (p + 1)) < (hf k) → (hf k) ≤ (s 80 (p + 2)) → inR (s 80 (p + 3)))
    (l47 : (hf k) ≤ (s 80 p) → (s 80 (p + 1)) < (hf k) → (hf k) ≤ (s 80 (p + 2)) → (s 80 (p + 3)) < (hf k) → P (some (vI 5)) s)
    (l48 : (hf k) ≤ (s 80 p) → (s 80 (p + 1)) < (hf k) → (hf k) ≤ (s 80 (p + 2)) → (hf k) ≤ (s 80 (p + 3)) → P (some (vI 13)) s)
    (l49 : (hf k) ≤ (s 80 p) → (hf k) ≤ (s 80 (p + 1)) → 0 ≤ (p + 2))
    (l50 : (hf k) ≤ (s 80 p) → (hf k) ≤ (s 80 (p + 1)) → (p + 2) < 40)
    (l51 : (hf k) ≤ (s 80 p) → (hf k) ≤ (s 80 (p + 1)) → inR (s 80 (p + 2)))
    (l52 : (hf k) ≤ (s 80 p) → (hf k) ≤ (s 80 (p + 1)) → (s 80 (p + 2)) < (hf k) → 0 ≤ (p + 3))
    (l53 : (hf k) ≤ (s 80 p) → (hf k) ≤ (s 80 (p + 1)) → (s 80 (p + 2)) < (hf k) → (p + 3) < 40)
    (l54 : (hf k) ≤ (s 80 p) → (hf k) ≤ (s 80 (p + 1)) → (s 80 (p + 2)) < (hf k) → inR (s 80 (p + 3)))
    (l55 : (hf k) ≤ (s 80 p) → (hf k) ≤ (s 80 (p + 1)) → (s 80 (p + 2)) < (hf k) → (s 80 (p + 3)) < (hf k) → P (some (vI 3)) s)
    (l56 : (hf k) ≤ (s 80 p) → (hf k) ≤ (s 80 (p + 1)) → (s 80 (p + 2)) < (hf k) → (hf k) ≤ (s 80 (p + 3)) → P (some (vI 11)) s)
    (l57 : (hf k) ≤ (s 80 p) → (hf k) ≤ (s 80 (p + 1)) → (hf k) ≤ (s 80 (p + 2)) → 0 ≤ (p + 3))
    (l58 : (hf k) ≤ (s 80 p) → (hf k) ≤ (s 80 (p + 1)) → (hf k) ≤ (s 80 (p + 2)) → (p + 3) < 40)
    (l59 : (hf k) ≤ (s 80 p) → (hf k) ≤ (s 80 (p + 1)) → (hf k) ≤ (s 80 (p + 2)) → inR (s 80 (p + 3)))
    (l60 : (hf k) ≤ (s 80 p) → (hf k) ≤ (s 80 (p + 1)) → (hf k) ≤ (s 80 (p + 2)) → (s 80 (p + 3)) < (hf k) → P (some (vI 7)) s)
    (l61 : (hf k) ≤ (s 80 p) → (hf k) ≤ (s 80 (p + 1)) → (hf k) ≤ (s 80 (p + 2)) → (hf k) ≤ (s 80 (p + 3)) → P (some (vI 15)) s)
    : Cl X (d + 1) 188 [vI k, vR 80, vI p] s P := by
  refine Cl_of n_188 rfl ?_
  show Rn _ _ _ _ [some (vI k), some (vR 80), some (vI p), none, none] [] _ _
  refine r_iconst F_188_0 ?_
  refine r_stI_n (m := 3) (L' := [some (vI k), some (vR 80), some (vI p), some (vI 0), none]) F_188_1 rfl rfl ?_
  refine r_iconst F_188_2 ?_
  refine r_stI (m := 4) (L' := [some (vI k), some (vR 80), some (vI p), some (vI 0), some (vI 0)]) F_188_3 rfl rfl ?_
  refine r_ldI (m := 4) F_188_5 rfl ?_
  refine r_iconst F_188_7 ?_
  refine r_icmpF (t := 41) F_188_8 rfl (by decide) (by decide) (by show ¬ ((4 : Int) ≤ 0); decide) ?_
  refine r_ldI_n (m := 3) F_188_11 rfl ?_
  refine r_ldR_n (m := 1) F_188_12 rfl ?_
  refine r_ldI_n (m := 2) F_188_13 rfl ?_
  refine r_ldI (m := 4) F_188_14 rfl ?_
  refine r_iadd (e := p) F_188_16 (Int.add_zero _) ?_
  refine r_iald (e := (s 80 p)) F_188_17 ty_80 p0 (lt_ln ln_80 l1) rfl ?_
  refine r_ldI_n (m := 0) F_188_18 rfl ?_
  refine r_stat2 (A := [vI k]) (r := [vI (s 80 p), vI 0]) (n := 1) F_188_19 o_188 il_6_129 (by decide) rfl rfl rfl rfl (lay_le n_189 rfl) ?_
  refine sp_least l2 ?_
  show Rn _ _ _ _ _ [vI (hf k), vI (s 80 p), vI 0] _ _
  refine r_icmp (t := 32) F_188_22 rfl l3 (inR_hf _) ?_ ?_
  · intro e1
    replace e1 : (s 80 p) < (hf k) := e1
    refine r_iconst F_188_32 ?_
    refine r_ior (e := 0) F_188_33 bo_ior_0_0 ?_
    refine r_stI_n (m := 3) (L' := [some (vI k), some (vR 80), some (vI p), some (vI 0), some (vI 0)]) F_188_34 rfl rfl ?_
    refine r_iinc (m := 4) (e := 1) (L' := [some (vI k), some (vR 80), some (vI p), some (vI 0), some (vI 1)]) F_188_35 rfl rfl rfl rfl ?_
    refine r_goto (t := 5) F_188_38 rfl ?_
    refine r_ldI (m := 4) F_188_5 rfl ?_
    refine r_iconst F_188_7 ?_
    refine r_icmpF (t := 41) F_188_8 rfl (by decide) (by decide) (by show ¬ ((4 : Int) ≤ 1); decide) ?_
    refine r_ldI_n (m := 3) F_188_11 rfl ?_
    refine r_ldR_n (m := 1) F_188_12 rfl ?_
    refine r_ldI_n (m := 2) F_188_13 rfl ?_
    refine r_ldI (m := 4) F_188_14 rfl ?_
    refine r_iadd F_188_16 rfl ?_
    refine r_iald (e := (s 80 (p + 1))) F_188_17 ty_80 (l4 e1) (lt_ln ln_80 (l5 e1)) rfl ?_
    refine r_ldI_n (m := 0) F_188_18 rfl ?_
    refine r_stat2 (A := [vI k]) (r := [vI (s 80 (p + 1)), vI 0]) (n := 1) F_188_19 o_188 il_6_129 (by decide) rfl rfl rfl rfl (lay_le n_189 rfl) ?_
    refine sp_least l2 ?_
    show Rn _ _ _ _ _ [vI (hf k), vI (s 80 (p + 1)), vI 0] _ _
    refine r_icmp (t := 32) F_188_22 rfl (l6 e1) (inR_hf _) ?_ ?_
    · intro e2
      replace e2 : (s 80 (p + 1)) < (hf k) := e2
      refine r_iconst F_188_32 ?_
      refine r_ior (e := 0) F_188_33 bo_ior_0_0 ?_
      refine r_stI_n (m := 3) (L' := [some (vI k), some (vR 80), some (vI p), some (vI 0), some (vI 1)]) F_188_34 rfl rfl ?_
      refine r_iinc (m := 4) (e := 2) (L' := [some (vI k), some (vR 80), some (vI p), some (vI 0), some (vI 2)]) F_188_35 rfl rfl rfl rfl ?_
      refine r_goto (t := 5) F_188_38 rfl ?_
      refine r_ldI (m := 4) F_188_5 rfl ?_
      refine r_iconst F_188_7 ?_
      refine r_icmpF (t := 41) F_188_8 rfl (by decide) (by decide) (by show ¬ ((4 : Int) ≤ 2); decide) ?_
      refine r_ldI_n (m := 3) F_188_11 rfl ?_
      refine r_ldR_n (m := 1) F_188_12 rfl ?_
      refine r_ldI_n (m := 2) F_188_13 rfl ?_
      refine r_ldI (m := 4) F_188_14 rfl ?_
      refine r_iadd F_188_16 rfl ?_
      refine r_iald (e := (s 80 (p + 2))) F_188_17 ty_80 (l7 e1 e2) (lt_ln ln_80 (l8 e1 e2)) rfl ?_
      refine r_ldI_n (m := 0) F_188_18 rfl ?_
      refine r_stat2 (A := [vI k]) (r := [vI (s 80 (p + 2)), vI 0]) (n := 1) F_188_19 o_188 il_6_129 (by decide) rfl rfl rfl rfl (lay_le n_189 rfl) ?_
      refine sp_least l2 ?_
      show Rn _ _ _ _ _ [vI (hf k), vI (s 80 (p + 2)), vI 0] _ _
      refine r_icmp (t := 32) F_188_22 rfl (l9 e1 e2) (inR_hf _) ?_ ?_
      · intro e3
        replace e3 : (s 80 (p + 2)) < (hf k) := e3
        refine r_iconst F_188_32 ?_
        refine r_ior (e := 0) F_188_33 bo_ior_0_0 ?_
        refine r_stI_n (m := 3) (L' := [some (vI k), some (vR 80), some (vI p), some (vI 0), some (vI 2)]) F_188_34 rfl rfl ?_
        refine r_iinc (m := 4) (e := 3) (L' := [some (vI k), some (vR 80), some (vI p), some (vI 0), some (vI 3)]) F_188_35 rfl rfl rfl rfl ?_
        refine r_goto (t := 5) F_188_38 rfl ?_
        refine r_ldI (m := 4) F_188_5 rfl ?_
        refine r_iconst F_188_7 ?_
        refine r_icmpF (t := 41) F_188_8 rfl (by decide) (by decide) (by show ¬ ((4 : Int) ≤ 3); decide) ?_
        refine r_ldI_n (m := 3) F_188_11 rfl ?_
        refine r_ldR_n (m := 1) F_188_12 rfl ?_
        refine r_ldI_n (m := 2) F_188_13 rfl ?_
        refine r_ldI (m := 4) F_188_14 rfl ?_
        refine r_iadd F_188_16 rfl ?_
        refine r_iald (e := (s 80 (p + 3))) F_188_17 ty_80 (l10 e1 e2 e3) (lt_ln ln_80 (l11 e1 e2 e3)) rfl ?_
        refine r_ldI_n (m := 0) F_188_18 rfl ?_
        refine r_stat2 (A := [vI k]) (r := [vI (s 80 (p + 3)), vI 0]) (n := 1) F_188_19 o_188 il_6_129 (by decide) rfl rfl rfl rfl (lay_le n_189 rfl) ?_
        refine sp_least l2 ?_
        show Rn _ _ _ _ _ [vI (hf k), vI (s 80 (p + 3)), vI 0] _ _
        refine r_icmp (t := 32) F_188_22 rfl (l12 e1 e2 e3) (inR_hf _) ?_ ?_
        · intro e4
          replace e4 : (s 80 (p + 3)) < (hf k) := e4
          refine r_iconst F_188_32 ?_
          refine r_ior (e := 0) F_188_33 bo_ior_0_0 ?_
          refine r_stI_n (m := 3) (L' := [some (vI k), some (vR 80), some (vI p), some (vI 0), some (vI 3)]) F_188_34 rfl rfl ?_
          refine r_iinc (m := 4) (e := 4) (L' := [some (vI k), some (vR 80), some (vI p), some (vI 0), some (vI 4)]) F_188_35 rfl rfl rfl rfl ?_
          refine r_goto (t := 5) F_188_38 rfl ?_
          refine r_ldI (m := 4) F_188_5 rfl ?_
          refine r_iconst F_188_7 ?_
          refine r_icmpT (t := 41) F_188_8 rfl (by decide) (by decide) (by show (4 : Int) ≤ 4; decide) ?_
          refine r_ldI_n (m := 3) F_188_41 rfl ?_
          refine r_ireturn F_188_42 rt_188 ?_
          exact (l13 e1 e2 e3 e4)
        · intro e5
          replace e5 : (hf k) ≤ (s 80 (p + 3)) := (Int.not_lt.mp e5)
          refine r_iconst F_188_25 ?_
          refine r_ldI (m := 4) F_188_26 rfl ?_
          refine r_ishl (e := 8) F_188_28 bo_ishl_1_3 ?_
          refine r_goto (t := 33) F_188_29 rfl ?_
          refine r_ior (e := 8) F_188_33 bo_ior_0_8 ?_
          refine r_stI_n (m := 3) (L' := [some (vI k), some (vR 80), some (vI p), some (vI 8), some (vI 3)]) F_188_34 rfl rfl ?_
          refine r_iinc (m := 4) (e := 4) (L' := [some (vI k), some (vR 80), some (vI p), some (vI 8), some (vI 4)]) F_188_35 rfl rfl rfl rfl ?_
          refine r_goto (t := 5) F_188_38 rfl ?_
          refine r_ldI (m := 4) F_188_5 rfl ?_
          refine r_iconst F_188_7 ?_
          refine r_icmpT (t := 41) F_188_8 rfl (by decide) (by decide) (by show (4 : Int) ≤ 4; decide) ?_
          refine r_ldI_n (m := 3) F_188_41 rfl ?_
          refine r_ireturn F_188_42 rt_188 ?_
          exact (l14 e1 e2 e3 e5)
      · intro e6
        replace e6 : (hf k) ≤ (s 80 (p + 2)) := (Int.not_lt.mp e6)
        refine r_iconst F_188_25 ?_
        refine r_ldI (m := 4) F_188_26 rfl ?_
        refine r_ishl (e := 4) F_188_28 bo_ishl_1_2 ?_
        refine r_goto (t := 33) F_188_29 rfl ?_
        refine r_ior (e := 4) F_188_33 bo_ior_0_4 ?_
        refine r_stI_n (m := 3) (L' := [some (vI k), some (vR 80), some (vI p), some (vI 4), some (vI 2)]) F_188_34 rfl rfl ?_
        refine r_iinc (m := 4) (e := 3) (L' := [some (vI k), some (vR 80), some (vI p), some (vI 4), some (vI 3)]) F_188_35 rfl rfl rfl rfl ?_
        refine r_goto (t := 5) F_188_38 rfl ?_
        refine r_ldI (m := 4) F_188_5 rfl ?_
        refine r_iconst F_188_7 ?_
        refine r_icmpF (t := 41) F_188_8 rfl (by decide) (by decide) (by show ¬ ((4 : Int) ≤ 3); decide) ?_
        refine r_ldI_n (m := 3) F_188_11 rfl ?_
        refine r_ldR_n (m := 1) F_188_12 rfl ?_
        refine r_ldI_n (m := 2) F_188_13 rfl ?_
        refine r_ldI (m := 4) F_188_14 rfl ?_
        refine r_iadd F_188_16 rfl ?_
        refine r_iald (e := (s 80 (p + 3))) F_188_17 ty_80 (l15 e1 e2 e6) (lt_ln ln_80 (l16 e1 e2 e6)) rfl ?_
        refine r_ldI_n (m := 0) F_188_18 rfl ?_
        refine r_stat2 (A := [vI k]) (r := [vI (s 80 (p + 3)), vI 4]) (n := 1) F_188_19 o_188 il_6_129 (by decide) rfl rfl rfl rfl (lay_le n_189 rfl) ?_
        refine sp_least l2 ?_
        show Rn _ _ _ _ _ [vI (hf k), vI (s 80 (p + 3)), vI 4] _ _
        refine r_icmp (t := 32) F_188_22 rfl (l17 e1 e2 e6) (inR_hf _) ?_ ?_
        · intro e7
          replace e7 : (s 80 (p + 3)) < (hf k) := e7
          refine r_iconst F_188_32 ?_
          refine r_ior (e := 4) F_188_33 bo_ior_4_0 ?_
          refine r_stI_n (m := 3) (L' := [some (vI k), some (vR 80), some (vI p), some (vI 4), some (vI 3)]) F_188_34 rfl rfl ?_
          refine r_iinc (m := 4) (e := 4) (L' := [some (vI k), some (vR 80), some (vI p), some (vI 4), some (vI 4)]) F_188_35 rfl rfl rfl rfl ?_
          refine r_goto (t := 5) F_188_38 rfl ?_
          refine r_ldI (m := 4) F_188_5 rfl ?_
          refine r_iconst F_188_7 ?_
          refine r_icmpT (t := 41) F_188_8 rfl (by decide) (by decide) (by show (4 : Int) ≤ 4; decide) ?_
          refine r_ldI_n (m := 3) F_188_41 rfl ?_
          refine r_ireturn F_188_42 rt_188 ?_
          exact (l18 e1 e2 e6 e7)
        · intro e8
          replace e8 : (hf k) ≤ (s 80 (p + 3)) := (Int.not_lt.mp e8)
          refine r_iconst F_188_25 ?_
          refine r_ldI (m := 4) F_188_26 rfl ?_
          refine r_ishl (e := 8) F_188_28 bo_ishl_1_3 ?_
          refine r_goto (t := 33) F_188_29 rfl ?_
          refine r_ior (e := 12) F_188_33 bo_ior_4_8 ?_
          refine r_stI_n (m := 3) (L' := [some (vI k), some (vR 80), some (vI p), some (vI 12), some (vI 3)]) F_188_34 rfl rfl ?_
          refine r_iinc (m := 4) (e := 4) (L' := [some (vI k), some (vR 80), some (vI p), some (vI 12), some (vI 4)]) F_188_35 rfl rfl rfl rfl ?_
          refine r_goto (t := 5) F_188_38 rfl ?_
          refine r_ldI (m := 4) F_188_5 rfl ?_
          refine r_iconst F_188_7 ?_
          refine r_icmpT (t := 41) F_188_8 rfl (by decide) (by decide) (by show (4 : Int) ≤ 4; decide) ?_
          refine r_ldI_n (m := 3) F_188_41 rfl ?_
          refine r_ireturn F_188_42 rt_188 ?_
          exact (l19 e1 e2 e6 e8)
    · intro e9
      replace e9 : (hf k) ≤ (s 80 (p + 1)) := (Int.not_lt.mp e9)
      refine r_iconst F_188_25 ?_
      refine r_ldI (m := 4) F_188_26 rfl ?_
      refine r_ishl (e := 2) F_188_28 bo_ishl_1_1 ?_
      refine r_goto (t := 33) F_188_29 rfl ?_
      refine r_ior (e := 2) F_188_33 bo_ior_0_2 ?_
      refine r_stI_n (m := 3) (L' := [some (vI k), some (vR 80), some (vI p), some (vI 2), some (vI 1)]) F_188_34 rfl rfl ?_
      refine r_iinc (m := 4) (e := 2) (L' := [some (vI k), some (vR 80), some (vI p), some (vI 2), some (vI 2)]) F_188_35 rfl rfl rfl rfl ?_
      refine r_goto (t := 5) F_188_38 rfl ?_
      refine r_ldI (m := 4) F_188_5 rfl ?_
      refine r_iconst F_188_7 ?_
      refine r_icmpF (t := 41) F_188_8 rfl (by decide) (by decide) (by show ¬ ((4 : Int) ≤ 2); decide) ?_
      refine r_ldI_n (m := 3) F_188_11 rfl ?_
      refine r_ldR_n (m := 1) F_188_12 rfl ?_
      refine r_ldI_n (m := 2) F_188_13 rfl ?_
      refine r_ldI (m := 4) F_188_14 rfl ?_
      refine r_iadd F_188_16 rfl ?_
      refine r_iald (e := (s 80 (p + 2))) F_188_17 ty_80 (l20 e1 e9) (lt_ln ln_80 (l21 e1 e9)) rfl ?_
      refine r_ldI_n (m := 0) F_188_18 rfl ?_
      refine r_stat2 (A := [vI k]) (r := [vI (s 80 (p + 2)), vI 2]) (n := 1) F_188_19 o_188 il_6_129 (by decide) rfl rfl rfl rfl (lay_le n_189 rfl) ?_
      refine sp_least l2 ?_
      show Rn _ _ _ _ _ [vI (hf k), vI (s 80 (p + 2)), vI 2] _ _
      refine r_icmp (t := 32) F_188_22 rfl (l22 e1 e9) (inR_hf _) ?_ ?_
      · intro e10
        replace e10 : (s 80 (p + 2)) < (hf k) := e10
        refine r_iconst F_188_32 ?_
        refine r_ior (e := 2) F_188_33 bo_ior_2_0 ?_
        refine r_stI_n (m := 3) (L' := [some (vI k), some (vR 80), some (vI p), some (vI 2), some (vI 2)]) F_188_34 rfl rfl ?_
        refine r_iinc (m := 4) (e := 3) (L' := [some (vI k), some (vR 80), some (vI p), some (vI 2), some (vI 3)]) F_188_35 rfl rfl rfl rfl ?_
        refine r_goto (t := 5) F_188_38 rfl ?_
        refine r_ldI (m := 4) F_188_5 rfl ?_
        refine r_iconst F_188_7 ?_
        refine r_icmpF (t := 41) F_188_8 rfl (by decide) (by decide) (by show ¬ ((4 : Int) ≤ 3); decide) ?_
        refine r_ldI_n (m := 3) F_188_11 rfl ?_
        refine r_ldR_n (m := 1) F_188_12 rfl ?_
        refine r_ldI_n (m := 2) F_188_13 rfl ?_
        refine r_ldI (m := 4) F_188_14 rfl ?_
        refine r_iadd F_188_16 rfl ?_
        refine r_iald (e := (s 80 (p + 3))) F_188_17 ty_80 (l23 e1 e9 e10) (lt_ln ln_80 (l24 e1 e9 e10)) rfl ?_
        refine r_ldI_n (m := 0) F_188_18 rfl ?_
        refine r_stat2 (A := [vI k]) (r := [vI (s 80 (p + 3)), vI 2]) (n := 1) F_188_19 o_188 il_6_129 (by decide) rfl rfl rfl rfl (lay_le n_189 rfl) ?_
        refine sp_least l2 ?_
        show Rn _ _ _ _ _ [vI (hf k), vI (s 80 (p + 3)), vI 2] _ _
        refine r_icmp (t := 32) F_188_22 rfl (l25 e1 e9 e10) (inR_hf _) ?_ ?_
        · intro e11
          replace e11 : (s 80 (p + 3)) < (hf k) := e11
          refine r_iconst F_188_32 ?_
          refine r_ior (e := 2) F_188_33 bo_ior_2_0 ?_
          refine r_stI_n (m := 3) (L' := [some (vI k), some (vR 80), some (vI p), some (vI 2), some (vI 3)]) F_188_34 rfl rfl ?_
          refine r_iinc (m := 4) (e := 4) (L' := [some (vI k), some (vR 80), some (vI p), some (vI 2), some (vI 4)]) F_188_35 rfl rfl rfl rfl ?_
          refine r_goto (t := 5) F_188_38 rfl ?_
          refine r_ldI (m := 4) F_188_5 rfl ?_
          refine r_iconst F_188_7 ?_
          refine r_icmpT (t := 41) F_188_8 rfl (by decide) (by decide) (by show (4 : Int) ≤ 4; decide) ?_
          refine r_ldI_n (m := 3) F_188_41 rfl ?_
          refine r_ireturn F_188_42 rt_188 ?_
          exact (l26 e1 e9 e10 e11)
        · intro e12
          replace e12 : (hf k) ≤ (s 80 (p + 3)) := (Int.not_lt.mp e12)
          refine r_iconst F_188_25 ?_
          refine r_ldI (m := 4) F_188_26 rfl ?_
          refine r_ishl (e := 8) F_188_28 bo_ishl_1_3 ?_
          refine r_goto (t := 33) F_188_29 rfl ?_
          refine r_ior (e := 10) F_188_33 bo_ior_2_8 ?_
          refine r_stI_n (m := 3) (L' := [some (vI k), some (vR 80), some (vI p), some (vI 10), some (vI 3)]) F_188_34 rfl rfl ?_
          refine r_iinc (m := 4) (e := 4) (L' := [some (vI k), some (vR 80), some (vI p), some (vI 10), some (vI 4)]) F_188_35 rfl rfl rfl rfl ?_
          refine r_goto (t := 5) F_188_38 rfl ?_
          refine r_ldI (m := 4) F_188_5 rfl ?_
          refine r_iconst F_188_7 ?_
          refine r_icmpT (t := 41) F_188_8 rfl (by decide) (by decide) (by show (4 : Int) ≤ 4; decide) ?_
          refine r_ldI_n (m := 3) F_188_41 rfl ?_
          refine r_ireturn F_188_42 rt_188 ?_
          exact (l27 e1 e9 e10 e12)
      · intro e13
        replace e13 : (hf k) ≤ (s 80 (p + 2)) := (Int.not_lt.mp e13)
        refine r_iconst F_188_25 ?_
        refine r_ldI (m := 4) F_188_26 rfl ?_
        refine r_ishl (e := 4) F_188_28 bo_ishl_1_2 ?_
        refine r_goto (t := 33) F_188_29 rfl ?_
        refine r_ior (e := 6) F_188_33 bo_ior_2_4 ?_
        refine r_stI_n (m := 3) (L' := [some (vI k), some (vR 80), some (vI p), some (vI 6), some (vI 2)]) F_188_34 rfl rfl ?_
        refine r_iinc (m := 4) (e := 3) (L' := [some (vI k), some (vR 80), some (vI p), some (vI 6), some (vI 3)]) F_188_35 rfl rfl rfl rfl ?_
        refine r_goto (t := 5) F_188_38 rfl ?_
        refine r_ldI (m := 4) F_188_5 rfl ?_
        refine r_iconst F_188_7 ?_
        refine r_icmpF (t := 41) F_188_8 rfl (by decide) (by decide) (by show ¬ ((4 : Int) ≤ 3); decide) ?_
        refine r_ldI_n (m := 3) F_188_11 rfl ?_
        refine r_ldR_n (m := 1) F_188_12 rfl ?_
        refine r_ldI_n (m := 2) F_188_13 rfl ?_
        refine r_ldI (m := 4) F_188_14 rfl ?_
        refine r_iadd F_188_16 rfl ?_
        refine r_iald (e := (s 80 (p + 3))) F_188_17 ty_80 (l28 e1 e9 e13) (lt_ln ln_80 (l29 e1 e9 e13)) rfl ?_
        refine r_ldI_n (m := 0) F_188_18 rfl ?_
        refine r_stat2 (A := [vI k]) (r := [vI (s 80 (p + 3)), vI 6]) (n := 1) F_188_19 o_188 il_6_129 (by decide) rfl rfl rfl rfl (lay_le n_189 rfl) ?_
        refine sp_least l2 ?_
        show Rn _ _ _ _ _ [vI (hf k), vI (s 80 (p + 3)), vI 6] _ _
        refine r_icmp (t := 32) F_188_22 rfl (l30 e1 e9 e13) (inR_hf _) ?_ ?_
        · intro e14
          replace e14 : (s 80 (p + 3)) < (hf k) := e14
          refine r_iconst F_188_32 ?_
          refine r_ior (e := 6) F_188_33 bo_ior_6_0 ?_
          refine r_stI_n (m := 3) (L' := [some (vI k), some (vR 80), some (vI p), some (vI 6), some (vI 3)]) F_188_34 rfl rfl ?_
          refine r_iinc (m := 4) (e := 4) (L' := [some (vI k), some (vR 80), some (vI p), some (vI 6), some (vI 4)]) F_188_35 rfl rfl rfl rfl ?_
          refine r_goto (t := 5) F_188_38 rfl ?_
          refine r_ldI (m := 4) F_188_5 rfl ?_
          refine r_iconst F_188_7 ?_
          refine r_icmpT (t := 41) F_188_8 rfl (by decide) (by decide) (by show (4 : Int) ≤ 4; decide) ?_
          refine r_ldI_n (m := 3) F_188_41 rfl ?_
          refine r_ireturn F_188_42 rt_188 ?_
          exact (l31 e1 e9 e13 e14)
        · intro e15
          replace e15 : (hf k) ≤ (s 80 (p + 3)) := (Int.not_lt.mp e15)
          refine r_iconst F_188_25 ?_
          refine r_ldI (m := 4) F_188_26 rfl ?_
          refine r_ishl (e := 8) F_188_28 bo_ishl_1_3 ?_
          refine r_goto (t := 33) F_188_29 rfl ?_
          refine r_ior (e := 14) F_188_33 bo_ior_6_8 ?_
          refine r_stI_n (m := 3) (L' := [some (vI k), some (vR 80), some (vI p), some (vI 14), some (vI 3)]) F_188_34 rfl rfl ?_
          refine r_iinc (m := 4) (e := 4) (L' := [some (vI k), some (vR 80), some (vI p), some (vI 14), some (vI 4)]) F_188_35 rfl rfl rfl rfl ?_
          refine r_goto (t := 5) F_188_38 rfl ?_
          refine r_ldI (m := 4) F_188_5 rfl ?_
          refine r_iconst F_188_7 ?_
          refine r_icmpT (t := 41) F_188_8 rfl (by decide) (by decide) (by show (4 : Int) ≤ 4; decide) ?_
          refine r_ldI_n (m := 3) F_188_41 rfl ?_
          refine r_ireturn F_188_42 rt_188 ?_
          exact (l32 e1 e9 e13 e15)
  · intro e16
    replace e16 : (hf k) ≤ (s 80 p) := (Int.not_lt.mp e16)
    refine r_iconst F_188_25 ?_
    refine r_ldI (m := 4) F_188_26 rfl ?_
    refine r_ishl (e := 1) F_188_28 bo_ishl_1_0 ?_
    refine r_goto (t := 33) F_188_29 rfl ?_
    refine r_ior (e := 1) F_188_33 bo_ior_0_1 ?_
    refine r_stI_n (m := 3) (L' := [some (vI k), some (vR 80), some (vI p), some (vI 1), some (vI 0)]) F_188_34 rfl rfl ?_
    refine r_iinc (m := 4) (e := 1) (L' := [some (vI k), some (vR 80), some (vI p), some (vI 1), some (vI 1)]) F_188_35 rfl rfl rfl rfl ?_
    refine r_goto (t := 5) F_188_38 rfl ?_
    refine r_ldI (m := 4) F_188_5 rfl ?_
    refine r_iconst F_188_7 ?_
    refine r_icmpF (t := 41) F_188_8 rfl (by decide) (by decide) (by show ¬ ((4 : Int) ≤ 1); decide) ?_
    refine r_ldI_n (m := 3) F_188_11 rfl ?_
    refine r_ldR_n (m := 1) F_188_12 rfl ?_
    refine r_ldI_n (m := 2) F_188_13 rfl ?_
    refine r_ldI (m := 4) F_188_14 rfl ?_
    refine r_iadd F_188_16 rfl ?_
    refine r_iald (e := (s 80 (p + 1))) F_188_17 ty_80 (l33 e16) (lt_ln ln_80 (l34 e16)) rfl ?_
    refine r_ldI_n (m := 0) F_188_18 rfl ?_
    refine r_stat2 (A := [vI k]) (r := [vI (s 80 (p + 1)), vI 1]) (n := 1) F_188_19 o_188 il_6_129 (by decide) rfl rfl rfl rfl (lay_le n_189 rfl) ?_
    refine sp_least l2 ?_
    show Rn _ _ _ _ _ [vI (hf k), vI (s 80 (p + 1)), vI 1] _ _
    refine r_icmp (t := 32) F_188_22 rfl (l35 e16) (inR_hf _) ?_ ?_
    · intro e17
      replace e17 : (s 80 (p + 1)) < (hf k) := e17
      refine r_iconst F_188_32 ?_
      refine r_ior (e := 1) F_188_33 bo_ior_1_0 ?_
      refine r_stI_n (m := 3) (L' := [some (vI k), some (vR 80), some (vI p), some (vI 1), some (vI 1)]) F_188_34 rfl rfl ?_
      refine r_iinc (m := 4) (e := 2) (L' := [some (vI k), some (vR 80), some (vI p), some (vI 1), some (vI 2)]) F_188_35 rfl rfl rfl rfl ?_
      refine r_goto (t := 5) F_188_38 rfl ?_
      refine r_ldI (m := 4) F_188_5 rfl ?_
      refine r_iconst F_188_7 ?_
      refine r_icmpF (t := 41) F_188_8 rfl (by decide) (by decide) (by show ¬ ((4 : Int) ≤ 2); decide) ?_
      refine r_ldI_n (m := 3) F_188_11 rfl ?_
      refine r_ldR_n (m := 1) F_188_12 rfl ?_
      refine r_ldI_n (m := 2) F_188_13 rfl ?_
      refine r_ldI (m := 4) F_188_14 rfl ?_
      refine r_iadd F_188_16 rfl ?_
      refine r_iald (e := (s 80 (p + 2))) F_188_17 ty_80 (l36 e16 e17) (lt_ln ln_80 (l37 e16 e17)) rfl ?_
      refine r_ldI_n (m := 0) F_188_18 rfl ?_
      refine r_stat2 (A := [vI k]) (r := [vI (s 80 (p + 2)), vI 1]) (n := 1) F_188_19 o_188 il_6_129 (by decide) rfl rfl rfl rfl (lay_le n_189 rfl) ?_
      refine sp_least l2 ?_
      show Rn _ _ _ _ _ [vI (hf k), vI (s 80 (p + 2)), vI 1] _ _
      refine r_icmp (t := 32) F_188_22 rfl (l38 e16 e17) (inR_hf _) ?_ ?_
      · intro e18
        replace e18 : (s 80 (p + 2)) < (hf k) := e18
        refine r_iconst F_188_32 ?_
        refine r_ior (e := 1) F_188_33 bo_ior_1_0 ?_
        refine r_stI_n (m := 3) (L' := [some (vI k), some (vR 80), some (vI p), some (vI 1), some (vI 2)]) F_188_34 rfl rfl ?_
        refine r_iinc (m := 4) (e := 3) (L' := [some (vI k), some (vR 80), some (vI p), some (vI 1), some (vI 3)]) F_188_35 rfl rfl rfl rfl ?_
        refine r_goto (t := 5) F_188_38 rfl ?_
        refine r_ldI (m := 4) F_188_5 rfl ?_
        refine r_iconst F_188_7 ?_
        refine r_icmpF (t := 41) F_188_8 rfl (by decide) (by decide) (by show ¬ ((4 : Int) ≤ 3); decide) ?_
        refine r_ldI_n (m := 3) F_188_11 rfl ?_
        refine r_ldR_n (m := 1) F_188_12 rfl ?_
        refine r_ldI_n (m := 2) F_188_13 rfl ?_
        refine r_ldI (m := 4) F_188_14 rfl ?_
        refine r_iadd F_188_16 rfl ?_
        refine r_iald (e := (s 80 (p + 3))) F_188_17 ty_80 (l39 e16 e17 e18) (lt_ln ln_80 (l40 e16 e17 e18)) rfl ?_
        refine r_ldI_n (m := 0) F_188_18 rfl ?_
        refine r_stat2 (A := [vI k]) (r := [vI (s 80 (p + 3)), vI 1]) (n := 1) F_188_19 o_188 il_6_129 (by decide) rfl rfl rfl rfl (lay_le n_189 rfl) ?_
        refine sp_least l2 ?_
        show Rn _ _ _ _ _ [vI (hf k), vI (s 80 (p + 3)), vI 1] _ _
        refine r_icmp (t := 32) F_188_22 rfl (l41 e16 e17 e18) (inR_hf _) ?_ ?_
        · intro e19
          replace e19 : (s 80 (p + 3)) < (hf k) := e19
          refine r_iconst F_188_32 ?_
          refine r_ior (e := 1) F_188_33 bo_ior_1_0 ?_
          refine r_stI_n (m := 3) (L' := [some (vI k), some (vR 80), some (vI p), some (vI 1), some (vI 3)]) F_188_34 rfl rfl ?_
          refine r_iinc (m := 4) (e := 4) (L' := [some (vI k), some (vR 80), some (vI p), some (vI 1), some (vI 4)]) F_188_35 rfl rfl rfl rfl ?_
          refine r_goto (t := 5) F_188_38 rfl ?_
          refine r_ldI (m := 4) F_188_5 rfl ?_
          refine r_iconst F_188_7 ?_
          refine r_icmpT (t := 41) F_188_8 rfl (by decide) (by decide) (by show (4 : Int) ≤ 4; decide) ?_
          refine r_ldI_n (m := 3) F_188_41 rfl ?_
          refine r_ireturn F_188_42 rt_188 ?_
          exact (l42 e16 e17 e18 e19)
        · intro e20
          replace e20 : (hf k) ≤ (s 80 (p + 3)) := (Int.not_lt.mp e20)
          refine r_iconst F_188_25 ?_
          refine r_ldI (m := 4) F_188_26 rfl ?_
          refine r_ishl (e := 8) F_188_28 bo_ishl_1_3 ?_
          refine r_goto (t := 33) F_188_29 rfl ?_
          refine r_ior (e := 9) F_188_33 bo_ior_1_8 ?_
          refine r_stI_n (m := 3) (L' := [some (vI k), some (vR 80), some (vI p), some (vI 9), some (vI 3)]) F_188_34 rfl rfl ?_
          refine r_iinc (m := 4) (e := 4) (L' := [some (vI k), some (vR 80), some (vI p), some (vI 9), some (vI 4)]) F_188_35 rfl rfl rfl rfl ?_
          refine r_goto (t := 5) F_188_38 rfl ?_
          refine r_ldI (m := 4) F_188_5 rfl ?_
          refine r_iconst F_188_7 ?_
          refine r_icmpT (t := 41) F_188_8 rfl (by decide) (by decide) (by show (4 : Int) ≤ 4; decide) ?_
          refine r_ldI_n (m := 3) F_188_41 rfl ?_
          refine r_ireturn F_188_42 rt_188 ?_
          exact (l43 e16 e17 e18 e20)
      · intro e21
        replace e21 : (hf k) ≤ (s 80 (p + 2)) := (Int.not_lt.mp e21)
        refine r_iconst F_188_25 ?_
        refine r_ldI (m := 4) F_188_26 rfl ?_
        refine r_ishl (e := 4) F_188_28 bo_ishl_1_2 ?_
        refine r_goto (t := 33) F_188_29 rfl ?_
        refine r_ior (e := 5) F_188_33 bo_ior_1_4 ?_
        refine r_stI_n (m := 3) (L' := [some (vI k), some (vR 80), some (vI p), some (vI 5), some (vI 2)]) F_188_34 rfl rfl ?_
        refine r_iinc (m := 4) (e := 3) (L' := [some (vI k), some (vR 80), some (vI p), some (vI 5), some (vI 3)]) F_188_35 rfl rfl rfl rfl ?_
        refine r_goto (t := 5) F_188_38 rfl ?_
        refine r_ldI (m := 4) F_188_5 rfl ?_
        refine r_iconst F_188_7 ?_
        refine r_icmpF (t := 41) F_188_8 rfl (by decide) (by decide) (by show ¬ ((4 : Int) ≤ 3); decide) ?_
        refine r_ldI_n (m := 3) F_188_11 rfl ?_
        refine r_ldR_n (m := 1) F_188_12 rfl ?_
        refine r_ldI_n (m := 2) F_188_13 rfl ?_
        refine r_ldI (m := 4) F_188_14 rfl ?_
        refine r_iadd F_188_16 rfl ?_
        refine r_iald (e := (s 80 (p + 3))) F_188_17 ty_80 (l44 e16 e17 e21) (lt_ln ln_80 (l45 e16 e17 e21)) rfl ?_
        refine r_ldI_n (m := 0) F_188_18 rfl ?_
        refine r_stat2 (A := [vI k]) (r := [vI (s 80 (p + 3)), vI 5]) (n := 1) F_188_19 o_188 il_6_129 (by decide) rfl rfl rfl rfl (lay_le n_189 rfl) ?_
        refine sp_least l2 ?_
        show Rn _ _ _ _ _ [vI (hf k), vI (s 80 (p + 3)), vI 5] _ _
        refine r_icmp (t := 32) F_188_22 rfl (l46 e16 e17 e21) (inR_hf _) ?_ ?_
        · intro e22
          replace e22 : (s 80 (p + 3)) < (hf k) := e22
          refine r_iconst F_188_32 ?_
          refine r_ior (e := 5) F_188_33 bo_ior_5_0 ?_
          refine r_stI_n (m := 3) (L' := [some (vI k), some (vR 80), some (vI p), some (vI 5), some (vI 3)]) F_188_34 rfl rfl ?_
          refine r_iinc (m := 4) (e := 4) (L' := [some (vI k), some (vR 80), some (vI p), some (vI 5), some (vI 4)]) F_188_35 rfl rfl rfl rfl ?_
          refine r_goto (t := 5) F_188_38 rfl ?_
          refine r_ldI (m := 4) F_188_5 rfl ?_
          refine r_iconst F_188_7 ?_
          refine r_icmpT (t := 41) F_188_8 rfl (by decide) (by decide) (by show (4 : Int) ≤ 4; decide) ?_
          refine r_ldI_n (m := 3) F_188_41 rfl ?_
          refine r_ireturn F_188_42 rt_188 ?_
          exact (l47 e16 e17 e21 e22)
        · intro e23
          replace e23 : (hf k) ≤ (s 80 (p + 3)) := (Int.not_lt.mp e23)
          refine r_iconst F_188_25 ?_
          refine r_ldI (m := 4) F_188_26 rfl ?_
          refine r_ishl (e := 8) F_188_28 bo_ishl_1_3 ?_
          refine r_goto (t := 33) F_188_29 rfl ?_
          refine r_ior (e := 13) F_188_33 bo_ior_5_8 ?_
          refine r_stI_n (m := 3) (L' := [some (vI k), some (vR 80), some (vI p), some (vI 13), some (vI 3)]) F_188_34 rfl rfl ?_
          refine r_iinc (m := 4) (e := 4) (L' := [some (vI k), some (vR 80), some (vI p), some (vI 13), some (vI 4)]) F_188_35 rfl rfl rfl rfl ?_
          refine r_goto (t := 5) F_188_38 rfl ?_
          refine r_ldI (m := 4) F_188_5 rfl ?_
          refine r_iconst F_188_7 ?_
          refine r_icmpT (t := 41) F_188_8 rfl (by decide) (by decide) (by show (4 : Int) ≤ 4; decide) ?_
          refine r_ldI_n (m := 3) F_188_41 rfl ?_
          refine r_ireturn F_188_42 rt_188 ?_
          exact (l48 e16 e17 e21 e23)
    · intro e24
      replace e24 : (hf k) ≤ (s 80 (p + 1)) := (Int.not_lt.mp e24)
      refine r_iconst F_188_25 ?_
      refine r_ldI (m := 4) F_188_26 rfl ?_
      refine r_ishl (e := 2) F_188_28 bo_ishl_1_1 ?_
      refine r_goto (t := 33) F_188_29 rfl ?_
      refine r_ior (e := 3) F_188_33 bo_ior_1_2 ?_
      refine r_stI_n (m := 3) (L' := [some (vI k), some (vR 80), some (vI p), some (vI 3), some (vI 1)]) F_188_34 rfl rfl ?_
      refine r_iinc (m := 4) (e := 2) (L' := [some (vI k), some (vR 80), some (vI p), some (vI 3), some (vI 2)]) F_188_35 rfl rfl rfl rfl ?_
      refine r_goto (t := 5) F_188_38 rfl ?_
      refine r_ldI (m := 4) F_188_5 rfl ?_
      refine r_iconst F_188_7 ?_
      refine r_icmpF (t := 41) F_188_8 rfl (by decide) (by decide) (by show ¬ ((4 : Int) ≤ 2); decide) ?_
      refine r_ldI_n (m := 3) F_188_11 rfl ?_
      refine r_ldR_n (m := 1) F_188_12 rfl ?_
      refine r_ldI_n (m := 2) F_188_13 rfl ?_
      refine r_ldI (m := 4) F_188_14 rfl ?_
      refine r_iadd F_188_16 rfl ?_
      refine r_iald (e := (s 80 (p + 2))) F_188_17 ty_80 (l49 e16 e24) (lt_ln ln_80 (l50 e16 e24)) rfl ?_
      refine r_ldI_n (m := 0) F_188_18 rfl ?_
      refine r_stat2 (A := [vI k]) (r := [vI (s 80 (p + 2)), vI 3]) (n := 1) F_188_19 o_188 il_6_129 (by decide) rfl rfl rfl rfl (lay_le n_189 rfl) ?_
      refine sp_least l2 ?_
      show Rn _ _ _ _ _ [vI (hf k), vI (s 80 (p + 2)), vI 3] _ _
      refine r_icmp (t := 32) F_188_22 rfl (l51 e16 e24) (inR_hf _) ?_ ?_
      · intro e25
        replace e25 : (s 80 (p + 2)) < (hf k) := e25
        refine r_iconst F_188_32 ?_
        refine r_ior (e := 3) F_188_33 bo_ior_3_0 ?_
        refine r_stI_n (m := 3) (L' := [some (vI k), some (vR 80), some (vI p), some (vI 3), some (vI 2)]) F_188_34 rfl rfl ?_
        refine r_iinc (m := 4) (e := 3) (L' := [some (vI k), some (vR 80), some (vI p), some (vI 3), some (vI 3)]) F_188_35 rfl rfl rfl rfl ?_
        refine r_goto (t := 5) F_188_38 rfl ?_
        refine r_ldI (m := 4) F_188_5 rfl ?_
        refine r_iconst F_188_7 ?_
        refine r_icmpF (t := 41) F_188_8 rfl (by decide) (by decide) (by show ¬ ((4 : Int) ≤ 3); decide) ?_
        refine r_ldI_n (m := 3) F_188_11 rfl ?_
        refine r_ldR_n (m := 1) F_188_12 rfl ?_
        refine r_ldI_n (m := 2) F_188_13 rfl ?_
        refine r_ldI (m := 4) F_188_14 rfl ?_
        refine r_iadd F_188_16 rfl ?_
        refine r_iald (e := (s 80 (p + 3))) F_188_17 ty_80 (l52 e16 e24 e25) (lt_ln ln_80 (l53 e16 e24 e25)) rfl ?_
        refine r_ldI_n (m := 0) F_188_18 rfl ?_
        refine r_stat2 (A := [vI k]) (r := [vI (s 80 (p + 3)), vI 3]) (n := 1) F_188_19 o_188 il_6_129 (by decide) rfl rfl rfl rfl (lay_le n_189 rfl) ?_
        refine sp_least l2 ?_
        show Rn _ _ _ _ _ [vI (hf k), vI (s 80 (p + 3)), vI 3] _ _
        refine r_icmp (t := 32) F_188_22 rfl (l54 e16 e24 e25) (inR_hf _) ?_ ?_
        · intro e26
          replace e26 : (s 80 (p + 3)) < (hf k) := e26
          refine r_iconst F_188_32 ?_
          refine r_ior (e := 3) F_188_33 bo_ior_3_0 ?_
          refine r_stI_n (m := 3) (L' := [some (vI k), some (vR 80), some (vI p), some (vI 3), some (vI 3)]) F_188_34 rfl rfl ?_
          refine r_iinc (m := 4) (e := 4) (L' := [some (vI k), some (vR 80), some (vI p), some (vI 3), some (vI 4)]) F_188_35 rfl rfl rfl rfl ?_
          refine r_goto (t := 5) F_188_38 rfl ?_
          refine r_ldI (m := 4) F_188_5 rfl ?_
          refine r_iconst F_188_7 ?_
          refine r_icmpT (t := 41) F_188_8 rfl (by decide) (by decide) (by show (4 : Int) ≤ 4; decide) ?_
          refine r_ldI_n (m := 3) F_188_41 rfl ?_
          refine r_ireturn F_188_42 rt_188 ?_
          exact (l55 e16 e24 e25 e26)
        · intro e27
          replace e27 : (hf k) ≤ (s 80 (p + 3)) := (Int.not_lt.mp e27)
          refine r_iconst F_188_25 ?_
          refine r_ldI (m := 4) F_188_26 rfl ?_
          refine r_ishl (e := 8) F_188_28 bo_ishl_1_3 ?_
          refine r_goto (t := 33) F_188_29 rfl ?_
          refine r_ior (e := 11) F_188_33 bo_ior_3_8 ?_
          refine r_stI_n (m := 3) (L' := [some (vI k), some (vR 80), some (vI p), some (vI 11), some (vI 3)]) F_188_34 rfl rfl ?_
          refine r_iinc (m := 4) (e := 4) (L' := [some (vI k), some (vR 80), some (vI p), some (vI 11), some (vI 4)]) F_188_35 rfl rfl rfl rfl ?_
          refine r_goto (t := 5) F_188_38 rfl ?_
          refine r_ldI (m := 4) F_188_5 rfl ?_
          refine r_iconst F_188_7 ?_
          refine r_icmpT (t := 41) F_188_8 rfl (by decide) (by decide) (by show (4 : Int) ≤ 4; decide) ?_
          refine r_ldI_n (m := 3) F_188_41 rfl ?_
          refine r_ireturn F_188_42 rt_188 ?_
          exact (l56 e16 e24 e25 e27)
      · intro e28
        replace e28 : (hf k) ≤ (s 80 (p + 2)) := (Int.not_lt.mp e28)
        refine r_iconst F_188_25 ?_
        refine r_ldI (m := 4) F_188_26 rfl ?_
        refine r_ishl (e := 4) F_188_28 bo_ishl_1_2 ?_
        refine r_goto (t := 33) F_188_29 rfl ?_
        refine r_ior (e := 7) F_188_33 bo_ior_3_4 ?_
        refine r_stI_n (m := 3) (L' := [some (vI k), some (vR 80), some (vI p), some (vI 7), some (vI 2)]) F_188_34 rfl rfl ?_
        refine r_iinc (m := 4) (e := 3) (L' := [some (vI k), some (vR 80), some (vI p), some (vI 7), some (vI 3)]) F_188_35 rfl rfl rfl rfl ?_
        refine r_goto (t := 5) F_188_38 rfl ?_
        refine r_ldI (m := 4) F_188_5 rfl ?_
        refine r_iconst F_188_7 ?_
        refine r_icmpF (t := 41) F_188_8 rfl (by decide) (by decide) (by show ¬ ((4 : Int) ≤ 3); decide) ?_
        refine r_ldI_n (m := 3) F_188_11 rfl ?_
        refine r_ldR_n (m := 1) F_188_12 rfl ?_
        refine r_ldI_n (m := 2) F_188_13 rfl ?_
        refine r_ldI (m := 4) F_188_14 rfl ?_
        refine r_iadd F_188_16 rfl ?_
        refine r_iald (e := (s 80 (p + 3))) F_188_17 ty_80 (l57 e16 e24 e28) (lt_ln ln_80 (l58 e16 e24 e28)) rfl ?_
        refine r_ldI_n (m := 0) F_188_18 rfl ?_
        refine r_stat2 (A := [vI k]) (r := [vI (s 80 (p + 3)), vI 7]) (n := 1) F_188_19 o_188 il_6_129 (by decide) rfl rfl rfl rfl (lay_le n_189 rfl) ?_
        refine sp_least l2 ?_
        show Rn _ _ _ _ _ [vI (hf k), vI (s 80 (p + 3)), vI 7] _ _
        refine r_icmp (t := 32) F_188_22 rfl (l59 e16 e24 e28) (inR_hf _) ?_ ?_
        · intro e29
          replace e29 : (s 80 (p + 3)) < (hf k) := e29
          refine r_iconst F_188_32 ?_
          refine r_ior (e := 7) F_188_33 bo_ior_7_0 ?_
          refine r_stI_n (m := 3) (L' := [some (vI k), some (vR 80), some (vI p), some (vI 7), some (vI 3)]) F_188_34 rfl rfl ?_
          refine r_iinc (m := 4) (e := 4) (L' := [some (vI k), some (vR 80), some (vI p), some (vI 7), some (vI 4)]) F_188_35 rfl rfl rfl rfl ?_
          refine r_goto (t := 5) F_188_38 rfl ?_
          refine r_ldI (m := 4) F_188_5 rfl ?_
          refine r_iconst F_188_7 ?_
          refine r_icmpT (t := 41) F_188_8 rfl (by decide) (by decide) (by show (4 : Int) ≤ 4; decide) ?_
          refine r_ldI_n (m := 3) F_188_41 rfl ?_
          refine r_ireturn F_188_42 rt_188 ?_
          exact (l60 e16 e24 e28 e29)
        · intro e30
          replace e30 : (hf k) ≤ (s 80 (p + 3)) := (Int.not_lt.mp e30)
          refine r_iconst F_188_25 ?_
          refine r_ldI (m := 4) F_188_26 rfl ?_
          refine r_ishl (e := 8) F_188_28 bo_ishl_1_3 ?_
          refine r_goto (t := 33) F_188_29 rfl ?_
          refine r_ior (e := 15) F_188_33 bo_ior_7_8 ?_
          refine r_stI_n (m := 3) (L' := [some (vI k), some (vR 80), some (vI p), some (vI 15), some (vI 3)]) F_188_34 rfl rfl ?_
          refine r_iinc (m := 4) (e := 4) (L' := [some (vI k), some (vR 80), some (vI p), some (vI 15), some (vI 4)]) F_188_35 rfl rfl rfl rfl ?_
          refine r_goto (t := 5) F_188_38 rfl ?_
          refine r_ldI (m := 4) F_188_5 rfl ?_
          refine r_iconst F_188_7 ?_
          refine r_icmpT (t := 41) F_188_8 rfl (by decide) (by decide) (by show (4 : Int) ≤ 4; decide) ?_
          refine r_ldI_n (m := 3) F_188_41 rfl ?_
          refine r_ireturn F_188_42 rt_188 ?_
          exact (l61 e16 e24 e28 e30)
theorem t_held89 {X : List Int32} {d : Nat} {s : m_St} {P : Option Value → m_St → Prop} {k p : Int} (p0 : 0 ≤ p) (pn : p + 3 < 56)
    (l1 : p < 56)
    (l2 : inR k)
    (l3 : inR (s 89 p))
    (l4 : (s 89 p) < (hf k) → 0 ≤ (p + 1))
    (l5 : (s 89 p) < (hf k) → (p + 1) < 56)
    (l6 : (s 89 p) < (hf k) → inR (s 89 (p + 1)))
    (l7 : (s 89 p) < (hf k) → (s 89 (p + 1)) < (hf k) → 0 ≤ (p + 2))
    (l8 : (s 89 p) < (hf k) → (s 89 (p + 1)) < (hf k) → (p + 2) < 56)
    (l9 : (s 89 p) < (hf k) → (s 89 (p + 1)) < (hf k) → inR (s 89 (p + 2)))
    (l10 : (s 89 p) < (hf k) → (s 89 (p + 1)) < (hf k) → (s 89 (p + 2)) < (hf k) → 0 ≤ (p + 3))
    (l11 : (s 89 p) < (hf k) → (s 89 (p + 1)) < (hf k) → (s 89 (p + 2)) < (hf k) → (p + 3) < 56)
    (l12 : (s 89 p) < (hf k) → (s 89 (p + 1)) < (hf k) → (s 89 (p + 2)) < (hf k) → inR (s 89 (p + 3)))
    (l13 : (s 89 p) < (hf k) → (s 89 (p + 1)) < (hf k) → (s 89 (p + 2)) < (hf k) → (s 89 (p + 3)) < (hf k) → P (some (vI 0)) s)
    (l14 : (s 89 p) < (hf k) → (s 89 (p + 1)) < (hf k) → (s 89 (p + 2)) < (hf k) → (hf k) ≤ (s 89 (p + 3)) → P (some (vI 8)) s)
    (l15 : (s 89 p) < (hf k) → (s 89 (p + 1)) < (hf k) → (hf k) ≤ (s 89 (p + 2)) → 0 ≤ (p + 3))
    (l16 : (s 89 p) < (hf k) → (s 89 (p + 1)) < (hf k) → (hf k) ≤ (s 89 (p + 2)) → (p + 3) < 56)
    (l17 : (s 89 p) < (hf k) → (s 89 (p + 1)) < (hf k) → (hf k) ≤ (s 89 (p + 2)) → inR (s 89 (p + 3)))
    (l18 : (s 89 p) < (hf k) → (s 89 (p + 1)) < (hf k) → (hf k) ≤ (s 89 (p + 2)) → (s 89 (p + 3)) < (hf k) → P (some (vI 4)) s)
    (l19 : (s 89 p) < (hf k) → (s 89 (p + 1)) < (hf k) → (hf k) ≤ (s 89 (p + 2)) → (hf k) ≤ (s 89 (p + 3)) → P (some (vI 12)) s)
    (l20 : (s 89 p) < (hf k) → (hf k) ≤ (s 89 (p + 1)) → 0 ≤ (p + 2))
    (l21 : (s 89 p) < (hf k) → (hf k) ≤ (s 89 (p + 1)) → (p + 2) < 56)
    (l22 : (s 89 p) < (hf k) → (hf k) ≤ (s 89 (p + 1)) → inR (s 89 (p + 2)))
    (l23 : (s 89 p) < (hf k) → (hf k) ≤ (s 89 (p + 1)) → (s 89 (p + 2)) < (hf k) → 0 ≤ (p + 3))
    (l24 : (s 89 p) < (hf k) → (hf k) ≤ (s 89 (p + 1)) → (s 89 (p + 2)) < (hf k) → (p + 3) < 56)
    (l25 : (s 89 p) < (hf k) → (hf k) ≤ (s 89 (p + 1)) → (s 89 (p + 2)) < (hf k) → inR (s 89 (p + 3)))
    (l26 : (s 89 p) < (hf k) → (hf k) ≤ (s 89 (p + 1)) → (s 89 (p + 2)) < (hf k) → (s 89 (p + 3)) < (hf k) → P (some (vI 2)) s)
    (l27 : (s 89 p) < (hf k) → (hf k) ≤ (s 89 (p + 1)) → (s 89 (p + 2)) < (hf k) → (hf k) ≤ (s 89 (p + 3)) → P (some (vI 10)) s)
    (l28 : (s 89 p) < (hf k) → (hf k) ≤ (s 89 (p + 1)) → (hf k) ≤ (s 89 (p + 2)) → 0 ≤ (p + 3))
    (l29 : (s 89 p) < (hf k) → (hf k) ≤ (s 89 (p + 1)) → (hf k) ≤ (s 89 (p + 2)) → (p + 3) < 56)
    (l30 : (s 89 p) < (hf k) → (hf k) ≤ (s 89 (p + 1)) → (hf k) ≤ (s 89 (p + 2)) → inR (s 89 (p + 3)))
    (l31 : (s 89 p) < (hf k) → (hf k) ≤ (s 89 (p + 1)) → (hf k) ≤ (s 89 (p + 2)) → (s 89 (p + 3)) < (hf k) → P (some (vI 6)) s)
    (l32 : (s 89 p) < (hf k) → (hf k) ≤ (s 89 (p + 1)) → (hf k) ≤ (s 89 (p + 2)) → (hf k) ≤ (s 89 (p + 3)) → P (some (vI 14)) s)
    (l33 : (hf k) ≤ (s 89 p) → 0 ≤ (p + 1))
    (l34 : (hf k) ≤ (s 89 p) → (p + 1) < 56)
    (l35 : (hf k) ≤ (s 89 p) → inR (s 89 (p + 1)))
    (l36 : (hf k) ≤ (s 89 p) → (s 89 (p + 1)) < (hf k) → 0 ≤ (p + 2))
    (l37 : (hf k) ≤ (s 89 p) → (s 89 (p + 1)) < (hf k) → (p + 2) < 56)
    (l38 : (hf k) ≤ (s 89 p) → (s 89 (p + 1)) < (hf k) → inR (s 89 (p + 2)))
    (l39 : (hf k) ≤ (s 89 p) → (s 89 (p + 1)) < (hf k) → (s 89 (p + 2)) < (hf k) → 0 ≤ (p + 3))
    (l40 : (hf k) ≤ (s 89 p) → (s 89 (p + 1)) < (hf k) → (s 89 (p + 2)) < (hf k) → (p + 3) < 56)
    (l41 : (hf k) ≤ (s 89 p) → (s 89 (p + 1)) < (hf k) → (s 89 (p + 2)) < (hf k) → inR (s 89 (p + 3)))
    (l42 : (hf k) ≤ (s 89 p) → (s 89 (p + 1)) < (hf k) → (s 89 (p + 2)) < (hf k) → (s 89 (p + 3)) < (hf k) → P (some (vI 1)) s)
    (l43 : (hf k) ≤ (s 89 p) → (s 89 (p + 1)) < (hf k) → (s 89 (p + 2)) < (hf k) → (hf k) ≤ (s 89 (p + 3)) → P (some (vI 9)) s)
    (l44 : (hf k) ≤ (s 89 p) → (s 89 (p + 1)) < (hf k) → (hf k) ≤ (s 89 (p + 2)) → 0 ≤ (p + 3))
    (l45 : (hf k) ≤ (s 89 p) → (s 89 (p + 1)) < (hf k) → (hf k) ≤ (s 89 (p + 2)) → (p + 3) < 56)
    (l46 : (hf k) ≤ (s 89 p) → (s 89 (p + 1)) < (hf k) → (hf k) ≤ (s 89 (p + 2)) → inR (s 89 (p + 3)))
    (l47 : (hf k) ≤ (s 89 p) → (s 89 (p + 1)) < (hf k) → (hf k) ≤ (s 89 (p + 2)) → (s 89 (p + 3)) < (hf k) → P (some (vI 5)) s)
    (l48 : (hf k) ≤ (s 89 p) → (s 89 (p + 1)) < (hf k) → (hf k) ≤ (s 89 (p + 2)) → (hf k) ≤ (s 89 (p + 3)) → P (some (vI 13)) s)
    (l49 : (hf k) ≤ (s 89 p) → (hf k) ≤ (s 89 (p + 1)) → 0 ≤ (p + 2))
    (l50 : (hf k) ≤ (s 89 p) → (hf k) ≤ (s 89 (p + 1)) → (p + 2) < 56)
    (l51 : (hf k) ≤ (s 89 p) → (hf k) ≤ (s 89 (p + 1)) → inR (s 89 (p + 2)))
    (l52 : (hf k) ≤ (s 89 p) → (hf k) ≤ (s 89 (p + 1)) → (s 89 (p + 2)) < (hf k) → 0 ≤ (p + 3))
    (l53 : (hf k) ≤ (s 89 p) → (hf k) ≤ (s 89 (p + 1)) → (s 89 (p + 2)) < (hf k) → (p + 3) < 56)
    (l54 : (hf k) ≤ (s 89 p) → (hf k) ≤ (s 89 (p + 1)) → (s 89 (p + 2)) < (hf k) → inR (s 89 (p + 3)))
    (l55 : (hf k) ≤ (s 89 p) → (hf k) ≤ (s 89 (p + 1)) → (s 89 (p + 2)) < (hf k) → (s 89 (p + 3)) < (hf k) → P (some (vI 3)) s)
    (l56 : (hf k) ≤ (s 89 p) → (hf k) ≤ (s 89 (p + 1)) → (s 89 (p + 2)) < (hf k) → (hf k) ≤ (s 89 (p + 3)) → P (some (vI 11)) s)
    (l57 : (hf k) ≤ (s 89 p) → (hf k) ≤ (s 89 (p + 1)) → (hf k) ≤ (s 89 (p + 2)) → 0 ≤ (p + 3))
    (l58 : (hf k) ≤ (s 89 p) → (hf k) ≤ (s 89 (p + 1)) → (hf k) ≤ (s 89 (p + 2)) → (p + 3) < 56)
    (l59 : (hf k) ≤ (s 89 p) → (hf k) ≤ (s 89 (p + 1)) → (hf k) ≤ (s 89 (p + 2)) → inR (s 89 (p + 3)))
    (l60 : (hf k) ≤ (s 89 p) → (hf k) ≤ (s 89 (p + 1)) → (hf k) ≤ (s 89 (p + 2)) → (s 89 (p + 3)) < (hf k) → P (some (vI 7)) s)
    (l61 : (hf k) ≤ (s 89 p) → (hf k) ≤ (s 89 (p + 1)) → (hf k) ≤ (s 89 (p + 2)) → (hf k) ≤ (s 89 (p + 3)) → P (some (vI 15)) s)
    : Cl X (d + 1) 188 [vI k, vR 89, vI p] s P := by
  refine Cl_of n_188 rfl ?_
  show Rn _ _ _ _ [some (vI k), some (vR 89), some (vI p), none, none] [] _ _
  refine r_iconst F_188_0 ?_
  refine r_stI_n (m := 3) (L' := [some (vI k), some (vR 89), some (vI p), some (vI 0), none]) F_188_1 rfl rfl ?_
  refine r_iconst F_188_2 ?_
  refine r_stI (m := 4) (L' := [some (vI k), some (vR 89), some (vI p), some (vI 0), some (vI 0)]) F_188_3 rfl rfl ?_
  refine r_ldI (m := 4) F_188_5 rfl ?_
  refine r_iconst F_188_7 ?_
  refine r_icmpF (t := 41) F_188_8 rfl (by decide) (by decide) (by show ¬ ((4 : Int) ≤ 0); decide) ?_
  refine r_ldI_n (m := 3) F_188_11 rfl ?_
  refine r_ldR_n (m := 1) F_188_12 rfl ?_
  refine r_ldI_n (m := 2) F_188_13 rfl ?_
  refine r_ldI (m := 4) F_188_14 rfl ?_
  refine r_iadd (e := p) F_188_16 (Int.add_zero _) ?_
  refine r_iald (e := (s 89 p)) F_188_17 ty_89 p0 (lt_ln ln_89 l1) rfl ?_
  refine r_ldI_n (m := 0) F_188_18 rfl ?_
  refine r_stat2 (A := [vI k]) (r := [vI (s 89 p), vI 0]) (n := 1) F_188_19 o_188 il_6_129 (by decide) rfl rfl rfl rfl (lay_le n_189 rfl) ?_
  refine sp_least l2 ?_
  show Rn _ _ _ _ _ [vI (hf k), vI (s 89 p), vI 0] _ _
  refine r_icmp (t := 32) F_188_22 rfl l3 (inR_hf _) ?_ ?_
  · intro e1
    replace e1 : (s 89 p) < (hf k) := e1
    refine r_iconst F_188_32 ?_
    refine r_ior (e := 0) F_188_33 bo_ior_0_0 ?_
    refine r_stI_n (m := 3) (L' := [some (vI k), some (vR 89), some (vI p), some (vI 0), some (vI 0)]) F_188_34 rfl rfl ?_
    refine r_iinc (m := 4) (e := 1) (L' := [some (vI k), some (vR 89), some (vI p), some (vI 0), some (vI 1)]) F_188_35 rfl rfl rfl rfl ?_
    refine r_goto (t := 5) F_188_38 rfl ?_
    refine r_ldI (m := 4) F_188_5 rfl ?_
    refine r_iconst F_188_7 ?_
    refine r_icmpF (t := 41) F_188_8 rfl (by decide) (by decide) (by show ¬ ((4 : Int) ≤ 1); decide) ?_
    refine r_ldI_n (m := 3) F_188_11 rfl ?_
    refine r_ldR_n (m := 1) F_188_12 rfl ?_
    refine r_ldI_n (m := 2) F_188_13 rfl ?_
    refine r_ldI (m := 4) F_188_14 rfl ?_
    refine r_iadd F_188_16 rfl ?_
    refine r_iald (e := (s 89 (p + 1))) F_188_17 ty_89 (l4 e1) (lt_ln ln_89 (l5 e1)) rfl ?_
    refine r_ldI_n (m := 0) F_188_18 rfl ?_
    refine r_stat2 (A := [vI k]) (r := [vI (s 89 (p + 1)), vI 0]) (n := 1) F_188_19 o_188 il_6_129 (by decide) rfl rfl rfl rfl (lay_le n_189 rfl) ?_
    refine sp_least l2 ?_
    show Rn _ _ _ _ _ [vI (hf k), vI (s 89 (p + 1)), vI 0] _ _
    refine r_icmp (t := 32) F_188_22 rfl (l6 e1) (inR_hf _) ?_ ?_
    · intro e2
      replace e2 : (s 89 (p + 1)) < (hf k) := e2
      refine r_iconst F_188_32 ?_
      refine r_ior (e := 0) F_188_33 bo_ior_0_0 ?_
      refine r_stI_n (m := 3) (L' := [some (vI k), some (vR 89), some (vI p), some (vI 0), some (vI 1)]) F_188_34 rfl rfl ?_
      refine r_iinc (m := 4) (e := 2) (L' := [some (vI k), some (vR 89), some (vI p), some (vI 0), some (vI 2)]) F_188_35 rfl rfl rfl rfl ?_
      refine r_goto (t := 5) F_188_38 rfl ?_
      refine r_ldI (m := 4) F_188_5 rfl ?_
      refine r_iconst F_188_7 ?_
      refine r_icmpF (t := 41) F_188_8 rfl (by decide) (by decide) (by show ¬ ((4 : Int) ≤ 2); decide) ?_
      refine r_ldI_n (m := 3) F_188_11 rfl ?_
      refine r_ldR_n (m := 1) F_188_12 rfl ?_
      refine r_ldI_n (m := 2) F_188_13 rfl ?_
      refine r_ldI (m := 4) F_188_14 rfl ?_
      refine r_iadd F_188_16 rfl ?_
      refine r_iald (e := (s 89 (p + 2))) F_188_17 ty_89 (l7 e1 e2) (lt_ln ln_89 (l8 e1 e2)) rfl ?_
      refine r_ldI_n (m := 0) F_188_18 rfl ?_
      refine r_stat2 (A := [vI k]) (r := [vI (s 89 (p + 2)), vI 0]) (n := 1) F_188_19 o_188 il_6_129 (by decide) rfl rfl rfl rfl (lay_le n_189 rfl) ?_
      refine sp_least l2 ?_
      show Rn _ _ _ _ _ [vI (hf k), vI (s 89 (p + 2)), vI 0] _ _
      refine r_icmp (t := 32) F_188_22 rfl (l9 e1 e2) (inR_hf _) ?_ ?_
      · intro e3
        replace e3 : (s 89 (p + 2)) < (hf k) := e3
        refine r_iconst F_188_32 ?_
        refine r_ior (e := 0) F_188_33 bo_ior_0_0 ?_
        refine r_stI_n (m := 3) (L' := [some (vI k), some (vR 89), some (vI p), some (vI 0), some (vI 2)]) F_188_34 rfl rfl ?_
        refine r_iinc (m := 4) (e := 3) (L' := [some (vI k), some (vR 89), some (vI p), some (vI 0), some (vI 3)]) F_188_35 rfl rfl rfl rfl ?_
        refine r_goto (t := 5) F_188_38 rfl ?_
        refine r_ldI (m := 4) F_188_5 rfl ?_
        refine r_iconst F_188_7 ?_
        refine r_icmpF (t := 41) F_188_8 rfl (by decide) (by decide) (by show ¬ ((4 : Int) ≤ 3); decide) ?_
        refine r_ldI_n (m := 3) F_188_11 rfl ?_
        refine r_ldR_n (m := 1) F_188_12 rfl ?_
        refine r_ldI_n (m := 2) F_188_13 rfl ?_
        refine r_ldI (m := 4) F_188_14 rfl ?_
        refine r_iadd F_188_16 rfl ?_
        refine r_iald (e := (s 89 (p + 3))) F_188_17 ty_89 (l10 e1 e2 e3) (lt_ln ln_89 (l11 e1 e2 e3)) rfl ?_
        refine r_ldI_n (m := 0) F_188_18 rfl ?_
        refine r_stat2 (A := [vI k]) (r := [vI (s 89 (p + 3)), vI 0]) (n := 1) F_188_19 o_188 il_6_129 (by decide) rfl rfl rfl rfl (lay_le n_189 rfl) ?_
        refine sp_least l2 ?_
        show Rn _ _ _ _ _ [vI (hf k), vI (s 89 (p + 3)), vI 0] _ _
        refine r_icmp (t := 32) F_188_22 rfl (l12 e1 e2 e3) (inR_hf _) ?_ ?_
        · intro e4
          replace e4 : (s 89 (p + 3)) < (hf k) := e4
          refine r_iconst F_188_32 ?_
          refine r_ior (e := 0) F_188_33 bo_ior_0_0 ?_
          refine r_stI_n (m := 3) (L' := [some (vI k), some (vR 89), some (vI p), some (vI 0), some (vI 3)]) F_188_34 rfl rfl ?_
          refine r_iinc (m := 4) (e := 4) (L' := [some (vI k), some (vR 89), some (vI p), some (vI 0), some (vI 4)]) F_188_35 rfl rfl rfl rfl ?_
          refine r_goto (t := 5) F_188_38 rfl ?_
          refine r_ldI (m := 4) F_188_5 rfl ?_
          refine r_iconst F_188_7 ?_
          refine r_icmpT (t := 41) F_188_8 rfl (by decide) (by decide) (by show (4 : Int) ≤ 4; decide) ?_
          refine r_ldI_n (m := 3) F_188_41 rfl ?_
          refine r_ireturn F_188_42 rt_188 ?_
          exact (l13 e1 e2 e3 e4)
        · intro e5
          replace e5 : (hf k) ≤ (s 89 (p + 3)) := (Int.not_lt.mp e5)
          refine r_iconst F_188_25 ?_
          refine r_ldI (m := 4) F_188_26 rfl ?_
          refine r_ishl (e := 8) F_188_28 bo_ishl_1_3 ?_
          refine r_goto (t := 33) F_188_29 rfl ?_
          refine r_ior (e := 8) F_188_33 bo_ior_0_8 ?_
          refine r_stI_n (m := 3) (L' := [some (vI k), some (vR 89), some (vI p), some (vI 8), some (vI 3)]) F_188_34 rfl rfl ?_
          refine r_iinc (m := 4) (e := 4) (L' := [some (vI k), some (vR 89), some (vI p), some (vI 8), some (vI 4)]) F_188_35 rfl rfl rfl rfl ?_
          refine r_goto (t := 5) F_188_38 rfl ?_
          refine r_ldI (m := 4) F_188_5 rfl ?_
          refine r_iconst F_188_7 ?_
          refine r_icmpT (t := 41) F_188_8 rfl (by decide) (by decide) (by show (4 : Int) ≤ 4; decide) ?_
          refine r_ldI_n (m := 3) F_188_41 rfl ?_
          refine r_ireturn F_188_42 rt_188 ?_
          exact (l14 e1 e2 e3 e5)
      · intro e6
        replace e6 : (hf k) ≤ (s 89 (p + 2)) := (Int.not_lt.mp e6)
        refine r_iconst F_188_25 ?_
        refine r_ldI (m := 4) F_188_26 rfl ?_
        refine r_ishl (e := 4) F_188_28 bo_ishl_1_2 ?_
        refine r_goto (t := 33) F_188_29 rfl ?_
        refine r_ior (e := 4) F_188_33 bo_ior_0_4 ?_
        refine r_stI_n (m := 3) (L' := [some (vI k), some (vR 89), some (vI p), some (vI 4), some (vI 2)]) F_188_34 rfl rfl ?_
        refine r_iinc (m := 4) (e := 3) (L' := [some (vI k), some (vR 89), some (vI p), some (vI 4), some (vI 3)]) F_188_35 rfl rfl rfl rfl ?_
        refine r_goto (t := 5) F_188_38 rfl ?_
        refine r_ldI (m := 4) F_188_5 rfl ?_
        refine r_iconst F_188_7 ?_
        refine r_icmpF (t := 41) F_188_8 rfl (by decide) (by decide) (by show ¬ ((4 : Int) ≤ 3); decide) ?_
        refine r_ldI_n (m := 3) F_188_11 rfl ?_
        refine r_ldR_n (m := 1) F_188_12 rfl ?_
        refine r_ldI_n (m := 2) F_188_13 rfl ?_
        refine r_ldI (m := 4) F_188_14 rfl ?_
        refine r_iadd F_188_16 rfl ?_
        refine r_iald (e := (s 89 (p + 3))) F_188_17 ty_89 (l15 e1 e2 e6) (lt_ln ln_89 (l16 e1 e2 e6)) rfl ?_
        refine r_ldI_n (m := 0) F_188_18 rfl ?_
        refine r_stat2 (A := [vI k]) (r := [vI (s 89 (p + 3)), vI 4]) (n := 1) F_188_19 o_188 il_6_129 (by decide) rfl rfl rfl rfl (lay_le n_189 rfl) ?_
        refine sp_least l2 ?_
        show Rn _ _ _ _ _ [vI (hf k), vI (s 89 (p + 3)), vI 4] _ _
        refine r_icmp (t := 32) F_188_22 rfl (l17 e1 e2 e6) (inR_hf _) ?_ ?_
        · intro e7
          replace e7 : (s 89 (p + 3)) < (hf k) := e7
          refine r_iconst F_188_32 ?_
          refine r_ior (e := 4) F_188_33 bo_ior_4_0 ?_
          refine r_stI_n (m := 3) (L' := [some (vI k), some (vR 89), some (vI p), some (vI 4), some (vI 3)]) F_188_34 rfl rfl ?_
          refine r_iinc (m := 4) (e := 4) (L' := [some (vI k), some (vR 89), some (vI p), some (vI 4), some (vI 4)]) F_188_35 rfl rfl rfl rfl ?_
          refine r_goto (t := 5) F_188_38 rfl ?_
          refine r_ldI (m := 4) F_188_5 rfl ?_
          refine r_iconst F_188_7 ?_
          refine r_icmpT (t := 41) F_188_8 rfl (by decide) (by decide) (by show (4 : Int) ≤ 4; decide) ?_
          refine r_ldI_n (m := 3) F_188_41 rfl ?_
          refine r_ireturn F_188_42 rt_188 ?_
          exact (l18 e1 e2 e6 e7)
        · intro e8
          replace e8 : (hf k) ≤ (s 89 (p + 3)) := (Int.not_lt.mp e8)
          refine r_iconst F_188_25 ?_
          refine r_ldI (m := 4) F_188_26 rfl ?_
          refine r_ishl (e := 8) F_188_28 bo_ishl_1_3 ?_
          refine r_goto (t := 33) F_188_29 rfl ?_
          refine r_ior (e := 12) F_188_33 bo_ior_4_8 ?_
          refine r_stI_n (m := 3) (L' := [some (vI k), some (vR 89), some (vI p), some (vI 12), some (vI 3)]) F_188_34 rfl rfl ?_
          refine r_iinc (m := 4) (e := 4) (L' := [some (vI k), some (vR 89), some (vI p), some (vI 12), some (vI 4)]) F_188_35 rfl rfl rfl rfl ?_
          refine r_goto (t := 5) F_188_38 rfl ?_
          refine r_ldI (m := 4) F_188_5 rfl ?_
          refine r_iconst F_188_7 ?_
          refine r_icmpT (t := 41) F_188_8 rfl (by decide) (by decide) (by show (4 : Int) ≤ 4; decide) ?_
          refine r_ldI_n (m := 3) F_188_41 rfl ?_
          refine r_ireturn F_188_42 rt_188 ?_
          exact (l19 e1 e2 e6 e8)
    · intro e9
      replace e9 : (hf k) ≤ (s 89 (p + 1)) := (Int.not_lt.mp e9)
      refine r_iconst F_188_25 ?_
      refine r_ldI (m := 4) F_188_26 rfl ?_
      refine r_ishl (e := 2) F_188_28 bo_ishl_1_1 ?_
      refine r_goto (t := 33) F_188_29 rfl ?_
      refine r_ior (e := 2) F_188_33 bo_ior_0_2 ?_
      refine r_stI_n (m := 3) (L' := [some (vI k), some (vR 89), some (vI p), some (vI 2), some (vI 1)]) F_188_34 rfl rfl ?_
      refine r_iinc (m := 4) (e := 2) (L' := [some (vI k), some (vR 89), some (vI p), some (vI 2), some (vI 2)]) F_188_35 rfl rfl rfl rfl ?_
      refine r_goto (t := 5) F_188_38 rfl ?_
      refine r_ldI (m := 4) F_188_5 rfl ?_
      refine r_iconst F_188_7 ?_
      refine r_icmpF (t := 41) F_188_8 rfl (by decide) (by decide) (by show ¬ ((4 : Int) ≤ 2); decide) ?_
      refine r_ldI_n (m := 3) F_188_11 rfl ?_
      refine r_ldR_n (m := 1) F_188_12 rfl ?_
      refine r_ldI_n (m := 2) F_188_13 rfl ?_
      refine r_ldI (m := 4) F_188_14 rfl ?_
      refine r_iadd F_188_16 rfl ?_
      refine r_iald (e := (s 89 (p + 2))) F_188_17 ty_89 (l20 e1 e9) (lt_ln ln_89 (l21 e1 e9)) rfl ?_
      refine r_ldI_n (m := 0) F_188_18 rfl ?_
      refine r_stat2 (A := [vI k]) (r := [vI (s 89 (p + 2)), vI 2]) (n := 1) F_188_19 o_188 il_6_129 (by decide) rfl rfl rfl rfl (lay_le n_189 rfl) ?_
      refine sp_least l2 ?_
      show Rn _ _ _ _ _ [vI (hf k), vI (s 89 (p + 2)), vI 2] _ _
      refine r_icmp (t := 32) F_188_22 rfl (l22 e1 e9) (inR_hf _) ?_ ?_
      · intro e10
        replace e10 : (s 89 (p + 2)) < (hf k) := e10
        refine r_iconst F_188_32 ?_
        refine r_ior (e := 2) F_188_33 bo_ior_2_0 ?_
        refine r_stI_n (m := 3) (L' := [some (vI k), some (vR 89), some (vI p), some (vI 2), some (vI 2)]) F_188_34 rfl rfl ?_
        refine r_iinc (m := 4) (e := 3) (L' := [some (vI k), some (vR 89), some (vI p), some (vI 2), some (vI 3)]) F_188_35 rfl rfl rfl rfl ?_
        refine r_goto (t := 5) F_188_38 rfl ?_
        refine r_ldI (m := 4) F_188_5 rfl ?_
        refine r_iconst F_188_7 ?_
        refine r_icmpF (t := 41) F_188_8 rfl (by decide) (by decide) (by show ¬ ((4 : Int) ≤ 3); decide) ?_
        refine r_ldI_n (m := 3) F_188_11 rfl ?_
        refine r_ldR_n (m := 1) F_188_12 rfl ?_
        refine r_ldI_n (m := 2) F_188_13 rfl ?_
        refine r_ldI (m := 4) F_188_14 rfl ?_
        refine r_iadd F_188_16 rfl ?_
        refine r_iald (e := (s 89 (p + 3))) F_188_17 ty_89 (l23 e1 e9 e10) (lt_ln ln_89 (l24 e1 e9 e10)) rfl ?_
        refine r_ldI_n (m := 0) F_188_18 rfl ?_
        refine r_stat2 (A := [vI k]) (r := [vI (s 89 (p + 3)), vI 2]) (n := 1) F_188_19 o_188 il_6_129 (by decide) rfl rfl rfl rfl (lay_le n_189 rfl) ?_
        refine sp_least l2 ?_
        show Rn _ _ _ _ _ [vI (hf k), vI (s 89 (p + 3)), vI 2] _ _
        refine r_icmp (t := 32) F_188_22 rfl (l25 e1 e9 e10) (inR_hf _) ?_ ?_
        · intro e11
          replace e11 : (s 89 (p + 3)) < (hf k) := e11
          refine r_iconst F_188_32 ?_
          refine r_ior (e := 2) F_188_33 bo_ior_2_0 ?_
          refine r_stI_n (m := 3) (L' := [some (vI k), some (vR 89), some (vI p), some (vI 2), some (vI 3)]) F_188_34 rfl rfl ?_
          refine r_iinc (m := 4) (e := 4) (L' := [some (vI k), some (vR 89), some (vI p), some (vI 2), some (vI 4)]) F_188_35 rfl rfl rfl rfl ?_
          refine r_goto (t := 5) F_188_38 rfl ?_
          refine r_ldI (m := 4) F_188_5 rfl ?_
          refine r_iconst F_188_7 ?_
          refine r_icmpT (t := 41) F_188_8 rfl (by decide) (by decide) (by show (4 : Int) ≤ 4; decide) ?_
          refine r_ldI_n (m := 3) F_188_41 rfl ?_
          refine r_ireturn F_188_42 rt_188 ?_
          exact (l26 e1 e9 e10 e11)
        · intro e12
          replace e12 : (hf k) ≤ (s 89 (p + 3)) := (Int.not_lt.mp e12)
          refine r_iconst F_188_25 ?_
          refine r_ldI (m := 4) F_188_26 rfl ?_
          refine r_ishl (e := 8) F_188_28 bo_ishl_1_3 ?_
          refine r_goto (t := 33) F_188_29 rfl ?_
          refine r_ior (e := 10) F_188_33 bo_ior_2_8 ?_
          refine r_stI_n (m := 3) (L' := [some (vI k), some (vR 89), some (vI p), some (vI 10), some (vI 3)]) F_188_34 rfl rfl ?_
          refine r_iinc (m := 4) (e := 4) (L' := [some (vI k), some (vR 89), some (vI p), some (vI 10), some (vI 4)]) F_188_35 rfl rfl rfl rfl ?_
          refine r_goto (t := 5) F_188_38 rfl ?_
          refine r_ldI (m := 4) F_188_5 rfl ?_
          refine r_iconst F_188_7 ?_
          refine r_icmpT (t := 41) F_188_8 rfl (by decide) (by decide) (by show (4 : Int) ≤ 4; decide) ?_
          refine r_ldI_n (m := 3) F_188_41 rfl ?_
          refine r_ireturn F_188_42 rt_188 ?_
          exact (l27 e1 e9 e10 e12)
      · intro e13
        replace e13 : (hf k) ≤ (s 89 (p + 2)) := (Int.not_lt.mp e13)
        refine r_iconst F_188_25 ?_
        refine r_ldI (m := 4) F_188_26 rfl ?_
        refine r_ishl (e := 4) F_188_28 bo_ishl_1_2 ?_
        refine r_goto (t := 33) F_188_29 rfl ?_
        refine r_ior (e := 6) F_188_33 bo_ior_2_4 ?_
        refine r_stI_n (m := 3) (L' := [some (vI k), some (vR 89), some (vI p), some (vI 6), some (vI 2)]) F_188_34 rfl rfl ?_
        refine r_iinc (m := 4) (e := 3) (L' := [some (vI k), some (vR 89), some (vI p), some (vI 6), some (vI 3)]) F_188_35 rfl rfl rfl rfl ?_
        refine r_goto (t := 5) F_188_38 rfl ?_
        refine r_ldI (m := 4) F_188_5 rfl ?_
        refine r_iconst F_188_7 ?_
        refine r_icmpF (t := 41) F_188_8 rfl (by decide) (by decide) (by show ¬ ((4 : Int) ≤ 3); decide) ?_
        refine r_ldI_n (m := 3) F_188_11 rfl ?_
        refine r_ldR_n (m := 1) F_188_12 rfl ?_
        refine r_ldI_n (m := 2) F_188_13 rfl ?_
        refine r_ldI (m := 4) F_188_14 rfl ?_
        refine r_iadd F_188_16 rfl ?_
        refine r_iald (e := (s 89 (p + 3))) F_188_17 ty_89 (l28 e1 e9 e13) (lt_ln ln_89 (l29 e1 e9 e13)) rfl ?_
        refine r_ldI_n (m := 0) F_188_18 rfl ?_
        refine r_stat2 (A := [vI k]) (r := [vI (s 89 (p + 3)), vI 6]) (n := 1) F_188_19 o_188 il_6_129 (by decide) rfl rfl rfl rfl (lay_le n_189 rfl) ?_
        refine sp_least l2 ?_
        show Rn _ _ _ _ _ [vI (hf k), vI (s 89 (p + 3)), vI 6] _ _
        refine r_icmp (t := 32) F_188_22 rfl (l30 e1 e9 e13) (inR_hf _) ?_ ?_
        · intro e14
          replace e14 : (s 89 (p + 3)) < (hf k) := e14
          refine r_iconst F_188_32 ?_
          refine r_ior (e := 6) F_188_33 bo_ior_6_0 ?_
          refine r_stI_n (m := 3) (L' := [some (vI k), some (vR 89), some (vI p), some (vI 6), some (vI 3)]) F_188_34 rfl rfl ?_
          refine r_iinc (m := 4) (e := 4) (L' := [some (vI k), some (vR 89), some (vI p), some (vI 6), some (vI 4)]) F_188_35 rfl rfl rfl rfl ?_
          refine r_goto (t := 5) F_188_38 rfl ?_
          refine r_ldI (m := 4) F_188_5 rfl ?_
          refine r_iconst F_188_7 ?_
          refine r_icmpT (t := 41) F_188_8 rfl (by decide) (by decide) (by show (4 : Int) ≤ 4; decide) ?_
          refine r_ldI_n (m := 3) F_188_41 rfl ?_
          refine r_ireturn F_188_42 rt_188 ?_
          exact (l31 e1 e9 e13 e14)
        · intro e15
          replace e15 : (hf k) ≤ (s 89 (p + 3)) := (Int.not_lt.mp e15)
          refine r_iconst F_188_25 ?_
          refine r_ldI (m := 4) F_188_26 rfl ?_
          refine r_ishl (e := 8) F_188_28 bo_ishl_1_3 ?_
          refine r_goto (t := 33) F_188_29 rfl ?_
          refine r_ior (e := 14) F_188_33 bo_ior_6_8 ?_
          refine r_stI_n (m := 3) (L' := [some (vI k), some (vR 89), some (vI p), some (vI 14), some (vI 3)]) F_188_34 rfl rfl ?_
          refine r_iinc (m := 4) (e := 4) (L' := [some (vI k), some (vR 89), some (vI p), some (vI 14), some (vI 4)]) F_188_35 rfl rfl rfl rfl ?_
          refine r_goto (t := 5) F_188_38 rfl ?_
          refine r_ldI (m := 4) F_188_5 rfl ?_
          refine r_iconst F_188_7 ?_
          refine r_icmpT (t := 41) F_188_8 rfl (by decide) (by decide) (by show (4 : Int) ≤ 4; decide) ?_
          refine r_ldI_n (m := 3) F_188_41 rfl ?_
          refine r_ireturn F_188_42 rt_188 ?_
          exact (l32 e1 e9 e13 e15)
  · intro e16
    replace e16 : (hf k) ≤ (s 89 p) := (Int.not_lt.mp e16)
    refine r_iconst F_188_25 ?_
    refine r_ldI (m := 4) F_188_26 rfl ?_
    refine r_ishl (e := 1) F_188_28 bo_ishl_1_0 ?_
    refine r_goto (t := 33) F_188_29 rfl ?_
    refine r_ior (e := 1) F_188_33 bo_ior_0_1 ?_
    refine r_stI_n (m := 3) (L' := [some (vI k), some (vR 89), some (vI p), some (vI 1), some (vI 0)]) F_188_34 rfl rfl ?_
    refine r_iinc (m := 4) (e := 1) (L' := [some (vI k), some (vR 89), some (vI p), some (vI 1), some (vI 1)]) F_188_35 rfl rfl rfl rfl ?_
    refine r_goto (t := 5) F_188_38 rfl ?_
    refine r_ldI (m := 4) F_188_5 rfl ?_
    refine r_iconst F_188_7 ?_
    refine r_icmpF (t := 41) F_188_8 rfl (by decide) (by decide) (by show ¬ ((4 : Int) ≤ 1); decide) ?_
    refine r_ldI_n (m := 3) F_188_11 rfl ?_
    refine r_ldR_n (m := 1) F_188_12 rfl ?_
    refine r_ldI_n (m := 2) F_188_13 rfl ?_
    refine r_ldI (m := 4) F_188_14 rfl ?_
    refine r_iadd F_188_16 rfl ?_
    refine r_iald (e := (s 89 (p + 1))) F_188_17 ty_89 (l33 e16) (lt_ln ln_89 (l34 e16)) rfl ?_
    refine r_ldI_n (m := 0) F_188_18 rfl ?_
    refine r_stat2 (A := [vI k]) (r := [vI (s 89 (p + 1)), vI 1]) (n := 1) F_188_19 o_188 il_6_129 (by decide) rfl rfl rfl rfl (lay_le n_189 rfl) ?_
    refine sp_least l2 ?_
    show Rn _ _ _ _ _ [vI (hf k), vI (s 89 (p + 1)), vI 1] _ _
    refine r_icmp (t := 32) F_188_22 rfl (l35 e16) (inR_hf _) ?_ ?_
    · intro e17
      replace e17 : (s 89 (p + 1)) < (hf k) := e17
      refine r_iconst F_188_32 ?_
      refine r_ior (e := 1) F_188_33 bo_ior_1_0 ?_
      refine r_stI_n (m := 3) (L' := [some (vI k), some (vR 89), some (vI p), some (vI 1), some (vI 1)]) F_188_34 rfl rfl ?_
      refine r_iinc (m := 4) (e := 2) (L' := [some (vI k), some (vR 89), some (vI p), some (vI 1), some (vI 2)]) F_188_35 rfl rfl rfl rfl ?_
      refine r_goto (t := 5) F_188_38 rfl ?_
      refine r_ldI (m := 4) F_188_5 rfl ?_
      refine r_iconst F_188_7 ?_
      refine r_icmpF (t := 41) F_188_8 rfl (by decide) (by decide) (by show ¬ ((4 : Int) ≤ 2); decide) ?_
      refine r_ldI_n (m := 3) F_188_11 rfl ?_
      refine r_ldR_n (m := 1) F_188_12 rfl ?_
      refine r_ldI_n (m := 2) F_188_13 rfl ?_
      refine r_ldI (m := 4) F_188_14 rfl ?_
      refine r_iadd F_188_16 rfl ?_
      refine r_iald (e := (s 89 (p + 2))) F_188_17 ty_89 (l36 e16 e17) (lt_ln ln_89 (l37 e16 e17)) rfl ?_
      refine r_ldI_n (m := 0) F_188_18 rfl ?_
      refine r_stat2 (A := [vI k]) (r := [vI (s 89 (p + 2)), vI 1]) (n := 1) F_188_19 o_188 il_6_129 (by decide) rfl rfl rfl rfl (lay_le n_189 rfl) ?_
      refine sp_least l2 ?_
      show Rn _ _ _ _ _ [vI (hf k), vI (s 89 (p + 2)), vI 1] _ _
      refine r_icmp (t := 32) F_188_22 rfl (l38 e16 e17) (inR_hf _) ?_ ?_
      · intro e18
        replace e18 : (s 89 (p + 2)) < (hf k) := e18
        refine r_iconst F_188_32 ?_
        refine r_ior (e := 1) F_188_33 bo_ior_1_0 ?_
        refine r_stI_n (m := 3) (L' := [some (vI k), some (vR 89), some (vI p), some (vI 1), some (vI 2)]) F_188_34 rfl rfl ?_
        refine r_iinc (m := 4) (e := 3) (L' := [some (vI k), some (vR 89), some (vI p), some (vI 1), some (vI 3)]) F_188_35 rfl rfl rfl rfl ?_
        refine r_goto (t := 5) F_188_38 rfl ?_
        refine r_ldI (m := 4) F_188_5 rfl ?_
        refine r_iconst F_188_7 ?_
        refine r_icmpF (t := 41) F_188_8 rfl (by decide) (by decide) (by show ¬ ((4 : Int) ≤ 3); decide) ?_
        refine r_ldI_n (m := 3) F_188_11 rfl ?_
        refine r_ldR_n (m := 1) F_188_12 rfl ?_
        refine r_ldI_n (m := 2) F_188_13 rfl ?_
        refine r_ldI (m := 4) F_188_14 rfl ?_
        refine r_iadd F_188_16 rfl ?_
        refine r_iald (e := (s 89 (p + 3))) F_188_17 ty_89 (l39 e16 e17 e18) (lt_ln ln_89 (l40 e16 e17 e18)) rfl ?_
        refine r_ldI_n (m := 0) F_188_18 rfl ?_
        refine r_stat2 (A := [vI k]) (r := [vI (s 89 (p + 3)), vI 1]) (n := 1) F_188_19 o_188 il_6_129 (by decide) rfl rfl rfl rfl (lay_le n_189 rfl) ?_
        refine sp_least l2 ?_
        show Rn _ _ _ _ _ [vI (hf k), vI (s 89 (p + 3)), vI 1] _ _
        refine r_icmp (t := 32) F_188_22 rfl (l41 e16 e17 e18) (inR_hf _) ?_ ?_
        · intro e19
          replace e19 : (s 89 (p + 3)) < (hf k) := e19
          refine r_iconst F_188_32 ?_
          refine r_ior (e := 1) F_188_33 bo_ior_1_0 ?_
          refine r_stI_n (m := 3) (L' := [some (vI k), some (vR 89), some (vI p), some (vI 1), some (vI 3)]) F_188_34 rfl rfl ?_
          refine r_iinc (m := 4) (e := 4) (L' := [some (vI k), some (vR 89), some (vI p), some (vI 1), some (vI 4)]) F_188_35 rfl rfl rfl rfl ?_
          refine r_goto (t := 5) F_188_38 rfl ?_
          refine r_ldI (m := 4) F_188_5 rfl ?_
          refine r_iconst F_188_7 ?_
          refine r_icmpT (t := 41) F_188_8 rfl (by decide) (by decide) (by show (4 : Int) ≤ 4; decide) ?_
          refine r_ldI_n (m := 3) F_188_41 rfl ?_
          refine r_ireturn F_188_42 rt_188 ?_
          exact (l42 e16 e17 e18 e19)
        · intro e20
          replace e20 : (hf k) ≤ (s 89 (p + 3)) := (Int.not_lt.mp e20)
          refine r_iconst F_188_25 ?_
          refine r_ldI (m := 4) F_188_26 rfl ?_
          refine r_ishl (e := 8) F_188_28 bo_ishl_1_3 ?_
          refine r_goto (t := 33) F_188_29 rfl ?_
          refine r_ior (e := 9) F_188_33 bo_ior_1_8 ?_
          refine r_stI_n (m := 3) (L' := [some (vI k), some (vR 89), some (vI p), some (vI 9), some (vI 3)]) F_188_34 rfl rfl ?_
          refine r_iinc (m := 4) (e := 4) (L' := [some (vI k), some (vR 89), some (vI p), some (vI 9), some (vI 4)]) F_188_35 rfl rfl rfl rfl ?_
          refine r_goto (t := 5) F_188_38 rfl ?_
          refine r_ldI (m := 4) F_188_5 rfl ?_
          refine r_iconst F_188_7 ?_
          refine r_icmpT (t := 41) F_188_8 rfl (by decide) (by decide) (by show (4 : Int) ≤ 4; decide) ?_
          refine r_ldI_n (m := 3) F_188_41 rfl ?_
          refine r_ireturn F_188_42 rt_188 ?_
          exact (l43 e16 e17 e18 e20)
      · intro e21
        replace e21 : (hf k) ≤ (s 89 (p + 2)) := (Int.not_lt.mp e21)
        refine r_iconst F_188_25 ?_
        refine r_ldI (m := 4) F_188_26 rfl ?_
        refine r_ishl (e := 4) F_188_28 bo_ishl_1_2 ?_
        refine r_goto (t := 33) F_188_29 rfl ?_
        refine r_ior (e := 5) F_188_33 bo_ior_1_4 ?_
        refine r_stI_n (m := 3) (L' := [some (vI k), some (vR 89), some (vI p), some (vI 5), some (vI 2)]) F_188_34 rfl rfl ?_
        refine r_iinc (m := 4) (e := 3) (L' := [some (vI k), some (vR 89), some (vI p), some (vI 5), some (vI 3)]) F_188_35 rfl rfl rfl rfl ?_
        refine r_goto (t := 5) F_188_38 rfl ?_
        refine r_ldI (m := 4) F_188_5 rfl ?_
        refine r_iconst F_188_7 ?_
        refine r_icmpF (t := 41) F_188_8 rfl (by decide) (by decide) (by show ¬ ((4 : Int) ≤ 3); decide) ?_
        refine r_ldI_n (m := 3) F_188_11 rfl ?_
        refine r_ldR_n (m := 1) F_188_12 rfl ?_
        refine r_ldI_n (m := 2) F_188_13 rfl ?_
        refine r_ldI (m := 4) F_188_14 rfl ?_
        refine r_iadd F_188_16 rfl ?_
        refine r_iald (e := (s 89 (p + 3))) F_188_17 ty_89 (l44 e16 e17 e21) (lt_ln ln_89 (l45 e16 e17 e21)) rfl ?_
        refine r_ldI_n (m := 0) F_188_18 rfl ?_
        refine r_stat2 (A := [vI k]) (r := [vI (s 89 (p + 3)), vI 5]) (n := 1) F_188_19 o_188 il_6_129 (by decide) rfl rfl rfl rfl (lay_le n_189 rfl) ?_
        refine sp_least l2 ?_
        show Rn _ _ _ _ _ [vI (hf k), vI (s 89 (p + 3)), vI 5] _ _
        refine r_icmp (t := 32) F_188_22 rfl (l46 e16 e17 e21) (inR_hf _) ?_ ?_
        · intro e22
          replace e22 : (s 89 (p + 3)) < (hf k) := e22
          refine r_iconst F_188_32 ?_
          refine r_ior (e := 5) F_188_33 bo_ior_5_0 ?_
          refine r_stI_n (m := 3) (L' := [some (vI k), some (vR 89), some (vI p), some (vI 5), some (vI 3)]) F_188_34 rfl rfl ?_
          refine r_iinc (m := 4) (e := 4) (L' := [some (vI k), some (vR 89), some (vI p), some (vI 5), some (vI 4)]) F_188_35 rfl rfl rfl rfl ?_
          refine r_goto (t := 5) F_188_38 rfl ?_
          refine r_ldI (m := 4) F_188_5 rfl ?_
          refine r_iconst F_188_7 ?_
          refine r_icmpT (t := 41) F_188_8 rfl (by decide) (by decide) (by show (4 : Int) ≤ 4; decide) ?_
          refine r_ldI_n (m := 3) F_188_41 rfl ?_
          refine r_ireturn F_188_42 rt_188 ?_
          exact (l47 e16 e17 e21 e22)
        · intro e23
          replace e23 : (hf k) ≤ (s 89 (p + 3)) := (Int.not_lt.mp e23)
          refine r_iconst F_188_25 ?_
          refine r_ldI (m := 4) F_188_26 rfl ?_
          refine r_ishl (e := 8) F_188_28 bo_ishl_1_3 ?_
          refine r_goto (t := 33) F_188_29 rfl ?_
          refine r_ior (e := 13) F_188_33 bo_ior_5_8 ?_
          refine r_stI_n (m := 3) (L' := [some (vI k), some (vR 89), some (vI p), some (vI 13), some (vI 3)]) F_188_34 rfl rfl ?_
          refine r_iinc (m := 4) (e := 4) (L' := [some (vI k), some (vR 89), some (vI p), some (vI 13), some (vI 4)]) F_188_35 rfl rfl rfl rfl ?_
          refine r_goto (t := 5) F_188_38 rfl ?_
          refine r_ldI (m := 4) F_188_5 rfl ?_
          refine r_iconst F_188_7 ?_
          refine r_icmpT (t := 41) F_188_8 rfl (by decide) (by decide) (by show (4 : Int) ≤ 4; decide) ?_
          refine r_ldI_n (m := 3) F_188_41 rfl ?_
          refine r_ireturn F_188_42 rt_188 ?_
          exact (l48 e16 e17 e21 e23)
    · intro e24
      replace e24 : (hf k) ≤ (s 89 (p + 1)) := (Int.not_lt.mp e24)
      refine r_iconst F_188_25 ?_
      refine r_ldI (m := 4) F_188_26 rfl ?_
      refine r_ishl (e := 2) F_188_28 bo_ishl_1_1 ?_
      refine r_goto (t := 33) F_188_29 rfl ?_
      refine r_ior (e := 3) F_188_33 bo_ior_1_2 ?_
      refine r_stI_n (m := 3) (L' := [some (vI k), some (vR 89), some (vI p), some (vI 3), some (vI 1)]) F_188_34 rfl rfl ?_
      refine r_iinc (m := 4) (e := 2) (L' := [some (vI k), some (vR 89), some (vI p), some (vI 3), some (vI 2)]) F_188_35 rfl rfl rfl rfl ?_
      refine r_goto (t := 5) F_188_38 rfl ?_
      refine r_ldI (m := 4) F_188_5 rfl ?_
      refine r_iconst F_188_7 ?_
      refine r_icmpF (t := 41) F_188_8 rfl (by decide) (by decide) (by show ¬ ((4 : Int) ≤ 2); decide) ?_
      refine r_ldI_n (m := 3) F_188_11 rfl ?_
      refine r_ldR_n (m := 1) F_188_12 rfl ?_
      refine r_ldI_n (m := 2) F_188_13 rfl ?_
      refine r_ldI (m := 4) F_188_14 rfl ?_
      refine r_iadd F_188_16 rfl ?_
      refine r_iald (e := (s 89 (p + 2))) F_188_17 ty_89 (l49 e16 e24) (lt_ln ln_89 (l50 e16 e24)) rfl ?_
      refine r_ldI_n (m := 0) F_188_18 rfl ?_
      refine r_stat2 (A := [vI k]) (r := [vI (s 89 (p + 2)), vI 3]) (n := 1) F_188_19 o_188 il_6_129 (by decide) rfl rfl rfl rfl (lay_le n_189 rfl) ?_
      refine sp_least l2 ?_
      show Rn _ _ _ _ _ [vI (hf k), vI (s 89 (p + 2)), vI 3] _ _
      refine r_icmp (t := 32) F_188_22 rfl (l51 e16 e24) (inR_hf _) ?_ ?_
      · intro e25
        replace e25 : (s 89 (p + 2)) < (hf k) := e25
        refine r_iconst F_188_32 ?_
        refine r_ior (e := 3) F_188_33 bo_ior_3_0 ?_
        refine r_stI_n (m := 3) (L' := [some (vI k), some (vR 89), some (vI p), some (vI 3), some (vI 2)]) F_188_34 rfl rfl ?_
        refine r_iinc (m := 4) (e := 3) (L' := [some (vI k), some (vR 89), some (vI p), some (vI 3), some (vI 3)]) F_188_35 rfl rfl rfl rfl ?_
        refine r_goto (t := 5) F_188_38 rfl ?_
        refine r_ldI (m := 4) F_188_5 rfl ?_
        refine r_iconst F_188_7 ?_
        refine r_icmpF (t := 41) F_188_8 rfl (by decide) (by decide) (by show ¬ ((4 : Int) ≤ 3); decide) ?_
        refine r_ldI_n (m := 3) F_188_11 rfl ?_
        refine r_ldR_n (m := 1) F_188_12 rfl ?_
        refine r_ldI_n (m := 2) F_188_13 rfl ?_
        refine r_ldI (m := 4) F_188_14 rfl ?_
        refine r_iadd F_188_16 rfl ?_
        refine r_iald (e := (s 89 (p + 3))) F_188_17 ty_89 (l52 e16 e24 e25) (lt_ln ln_89 (l53 e16 e24 e25)) rfl ?_
        refine r_ldI_n (m := 0) F_188_18 rfl ?_
        refine r_stat2 (A := [vI k]) (r := [vI (s 89 (p + 3)), vI 3]) (n := 1) F_188_19 o_188 il_6_129 (by decide) rfl rfl rfl rfl (lay_le n_189 rfl) ?_
        refine sp_least l2 ?_
        show Rn _ _ _ _ _ [vI (hf k), vI (s 89 (p + 3)), vI 3] _ _
        refine r_icmp (t := 32) F_188_22 rfl (l54 e16 e24 e25) (inR_hf _) ?_ ?_
        · intro e26
          replace e26 : (s 89 (p + 3)) < (hf k) := e26
          refine r_iconst F_188_32 ?_
          refine r_ior (e := 3) F_188_33 bo_ior_3_0 ?_
          refine r_stI_n (m := 3) (L' := [some (vI k), some (vR 89), some (vI p), some (vI 3), some (vI 3)]) F_188_34 rfl rfl ?_
          refine r_iinc (m := 4) (e := 4) (L' := [some (vI k), some (vR 89), some (vI p), some (vI 3), some (vI 4)]) F_188_35 rfl rfl rfl rfl ?_
          refine r_goto (t := 5) F_188_38 rfl ?_
          refine r_ldI (m := 4) F_188_5 rfl ?_
          refine r_iconst F_188_7 ?_
          refine r_icmpT (t := 41) F_188_8 rfl (by decide) (by decide) (by show (4 : Int) ≤ 4; decide) ?_
          refine r_ldI_n (m := 3) F_188_41 rfl ?_
          refine r_ireturn F_188_42 rt_188 ?_
          exact (l55 e16 e24 e25 e26)
        · intro e27
          replace e27 : (hf k) ≤ (s 89 (p + 3)) := (Int.not_lt.mp e27)
          refine r_iconst F_188_25 ?_
          refine r_ldI (m := 4) F_188_26 rfl ?_
          refine r_ishl (e := 8) F_188_28 bo_ishl_1_3 ?_
          refine r_goto (t := 33) F_188_29 rfl ?_
          refine r_ior (e := 11) F_188_33 bo_ior_3_8 ?_
          refine r_stI_n (m := 3) (L' := [some (vI k), some (vR 89), some (vI p), some (vI 11), some (vI 3)]) F_188_34 rfl rfl ?_
          refine r_iinc (m := 4) (e := 4) (L' := [some (vI k), some (vR 89), some (vI p), some (vI 11), some (vI 4)]) F_188_35 rfl rfl rfl rfl ?_
          refine r_goto (t := 5) F_188_38 rfl ?_
          refine r_ldI (m := 4) F_188_5 rfl ?_
          refine r_iconst F_188_7 ?_
          refine r_icmpT (t := 41) F_188_8 rfl (by decide) (by decide) (by show (4 : Int) ≤ 4; decide) ?_
          refine r_ldI_n (m := 3) F_188_41 rfl ?_
          refine r_ireturn F_188_42 rt_188 ?_
          exact (l56 e16 e24 e25 e27)
      · intro e28
        replace e28 : (hf k) ≤ (s 89 (p + 2)) := (Int.not_lt.mp e28)
        refine r_iconst F_188_25 ?_
        refine r_ldI (m := 4) F_188_26 rfl ?_
        refine r_ishl (e := 4) F_188_28 bo_ishl_1_2 ?_
        refine r_goto (t := 33) F_188_29 rfl ?_
        refine r_ior (e := 7) F_188_33 bo_ior_3_4 ?_
        refine r_stI_n (m := 3) (L' := [some (vI k), some (vR 89), some (vI p), some (vI 7), some (vI 2)]) F_188_34 rfl rfl ?_
        refine r_iinc (m := 4) (e := 3) (L' := [some (vI k), some (vR 89), some (vI p), some (vI 7), some (vI 3)]) F_188_35 rfl rfl rfl rfl ?_
        refine r_goto (t := 5) F_188_38 rfl ?_
        refine r_ldI (m := 4) F_188_5 rfl ?_
        refine r_iconst F_188_7 ?_
        refine r_icmpF (t := 41) F_188_8 rfl (by decide) (by decide) (by show ¬ ((4 : Int) ≤ 3); decide) ?_
        refine r_ldI_n (m := 3) F_188_11 rfl ?_
        refine r_ldR_n (m := 1) F_188_12 rfl ?_
        refine r_ldI_n (m := 2) F_188_13 rfl ?_
        refine r_ldI (m := 4) F_188_14 rfl ?_
        refine r_iadd F_188_16 rfl ?_
        refine r_iald (e := (s 89 (p + 3))) F_188_17 ty_89 (l57 e16 e24 e28) (lt_ln ln_89 (l58 e16 e24 e28)) rfl ?_
        refine r_ldI_n (m := 0) F_188_18 rfl ?_
        refine r_stat2 (A := [vI k]) (r := [vI (s 89 (p + 3)), vI 7]) (n := 1) F_188_19 o_188 il_6_129 (by decide) rfl rfl rfl rfl (lay_le n_189 rfl) ?_
        refine sp_least l2 ?_
        show Rn _ _ _ _ _ [vI (hf k), vI (s 89 (p + 3)), vI 7] _ _
        refine r_icmp (t := 32) F_188_22 rfl (l59 e16 e24 e28) (inR_hf _) ?_ ?_
        · intro e29
          replace e29 : (s 89 (p + 3)) < (hf k) := e29
          refine r_iconst F_188_32 ?_
          refine r_ior (e := 7) F_188_33 bo_ior_7_0 ?_
          refine r_stI_n (m := 3) (L' := [some (vI k), some (vR 89), some (vI p), some (vI 7), some (vI 3)]) F_188_34 rfl rfl ?_
          refine r_iinc (m := 4) (e := 4) (L' := [some (vI k), some (vR 89), some (vI p), some (vI 7), some (vI 4)]) F_188_35 rfl rfl rfl rfl ?_
          refine r_goto (t := 5) F_188_38 rfl ?_
          refine r_ldI (m := 4) F_188_5 rfl ?_
          refine r_iconst F_188_7 ?_
          refine r_icmpT (t := 41) F_188_8 rfl (by decide) (by decide) (by show (4 : Int) ≤ 4; decide) ?_
          refine r_ldI_n (m := 3) F_188_41 rfl ?_
          refine r_ireturn F_188_42 rt_188 ?_
          exact (l60 e16 e24 e28 e29)
        · intro e30
          replace e30 : (hf k) ≤ (s 89 (p + 3)) := (Int.not_lt.mp e30)
          refine r_iconst F_188_25 ?_
          refine r_ldI (m := 4) F_188_26 rfl ?_
          refine r_ishl (e := 8) F_188_28 bo_ishl_1_3 ?_
          refine r_goto (t := 33) F_188_29 rfl ?_
          refine r_ior (e := 15) F_188_33 bo_ior_7_8 ?_
          refine r_stI_n (m := 3) (L' := [some (vI k), some (vR 89), some (vI p), some (vI 15), some (vI 3)]) F_188_34 rfl rfl ?_
          refine r_iinc (m := 4) (e := 4) (L' := [some (vI k), some (vR 89), some (vI p), some (vI 15), some (vI 4)]) F_188_35 rfl rfl rfl rfl ?_
          refine r_goto (t := 5) F_188_38 rfl ?_
          refine r_ldI (m := 4) F_188_5 rfl ?_
          refine r_iconst F_188_7 ?_
          refine r_icmpT (t := 41) F_188_8 rfl (by decide) (by decide) (by show (4 : Int) ≤ 4; decide) ?_
          refine r_ldI_n (m := 3) F_188_41 rfl ?_
          refine r_ireturn F_188_42 rt_188 ?_
          exact (l61 e16 e24 e28 e30)
theorem t_X6_movedBy {X : List Int32} {d : Nat} {s : m_St} {P : Option Value → m_St → Prop} {k h c : Int}
    (l1 : Rn X (d + 1) 193 6 [some (vR 77), some (vI k), some (vI h), some (vI c), some (vI 0), some (vI 0)] [] s P)
    : Cl X (d + 1) 193 [vR 77, vI k, vI h, vI c] s P := by
  refine Cl_of n_193 rfl ?_
  show Rn _ _ _ _ [some (vR 77), some (vI k), some (vI h), some (vI c), none, none] [] _ _
  refine r_iconst F_193_0 ?_
  refine r_stI (m := 4) (L' := [some (vR 77), some (vI k), some (vI h), some (vI c), some (vI 0), none]) F_193_1 rfl rfl ?_
  refine r_iconst F_193_3 ?_
  refine r_stI (m := 5) (L' := [some (vR 77), some (vI k), some (vI h), some (vI c), some (vI 0), some (vI 0)]) F_193_4 rfl rfl ?_
  exact l1
theorem t_X6_movedBy_6 {X : List Int32} {d : Nat} {s : m_St} {P : Option Value → m_St → Prop} {k h c f i : Int} (i0 : 0 ≤ i)
    (l1 : inR i)
    (l2 : 4 ≤ i → inR k)
    (l3 : 4 ≤ i → k = 1 → inR f)
    (l4 : 4 ≤ i → k = 1 → f = 0 → P (some (vI 0)) s)
    (l5 : 4 ≤ i → k = 1 → ¬ f = 0 → P (some (vI 2)) s)
    (l6 : 4 ≤ i → k = 2 → inR f)
    (l7 : 4 ≤ i → k = 2 → f = 0 → P (some (vI 2)) s)
    (l8 : 4 ≤ i → k = 2 → ¬ f = 0 → P (some (vI 3)) s)
    (l9 : 4 ≤ i → k = 3 → ¬ (iAnd (iShr h c) 1) = 1 → P (some (vI (-1))) s)
    (l10 : 4 ≤ i → k = 3 → (iAnd (iShr h c) 1) = 1 → inR f)
    (l11 : 4 ≤ i → k = 3 → (iAnd (iShr h c) 1) = 1 → f = 0 → P (some (vI 1)) s)
    (l12 : 4 ≤ i → k = 3 → (iAnd (iShr h c) 1) = 1 → ¬ f = 0 → P (some (vI 2)) s)
    (l13 : 4 ≤ i → k = 4 → inR f)
    (l14 : 4 ≤ i → k = 4 → f = 0 → P (some (vI 0)) s)
    (l15 : 4 ≤ i → k = 4 → ¬ f = 0 → P (some (vI 2)) s)
    (l16 : 4 ≤ i → k = 5 → inR f)
    (l17 : 4 ≤ i → k = 5 → f = 0 → P (some (vI 2)) s)
    (l18 : 4 ≤ i → k = 5 → ¬ f = 0 → P (some (vI 3)) s)
    (l19 : 4 ≤ i → (k < 1 ∨ 5 < k) → inR f)
    (l20 : 4 ≤ i → (k < 1 ∨ 5 < k) → f = 0 → P (some (vI 1)) s)
    (l21 : 4 ≤ i → (k < 1 ∨ 5 < k) → ¬ f = 0 → P (some (vI 2)) s)
    (l22 : i < 4 → inR f)
    (l23 : i < 4 → ¬ f = 0 → Rn X (d + 1) 193 6 [some (vR 77), some (vI k), some (vI h), some (vI c), some (vI 1), some (vI (i + 1))] [] s P)
    (l24 : i < 4 → f = 0 → inR c)
    (l25 : i < 4 → f = 0 → i = c → Rn X (d + 1) 193 6 [some (vR 77), some (vI k), some (vI h), some (vI c), some (vI 0), some (vI (i + 1))] [] s P)
    (l26 : i < 4 → f = 0 → ¬ i = c → ¬ (iAnd (iShr h i) 1) = 1 → Rn X (d + 1) 193 6 [some (vR 77), some (vI k), some (vI h), some (vI c), some (vI 0), some (vI (i + 1))] [] s P)
    (l27 : i < 4 → f = 0 → ¬ i = c → (iAnd (iShr h i) 1) = 1 → ¬ (iAnd (iShr (s 83 7) ((4 * i) + c)) 1) = 1 → Rn X (d + 1) 193 6 [some (vR 77), some (vI k), some (vI h), some (vI c), some (vI 0), some (vI (i + 1))] [] s P)
    (l28 : i < 4 → f = 0 → ¬ i = c → (iAnd (iShr h i) 1) = 1 → (iAnd (iShr (s 83 7) ((4 * i) + c)) 1) = 1 → Rn X (d + 1) 193 6 [some (vR 77), some (vI k), some (vI h), some (vI c), some (vI 1), some (vI (i + 1))] [] s P)
    : Rn X (d + 1) 193 6 [some (vR 77), some (vI k), some (vI h), some (vI c), some (vI f), some (vI i)] [] s P := by
  refine r_ldI (m := 5) F_193_6 rfl ?_
  refine r_iconst F_193_8 ?_
  refine r_icmp (t := 64) F_193_9 rfl l1 (by decide) ?_ ?_
  · intro e1
    replace e1 : 4 ≤ i := e1
    refine r_ldI_n (m := 1) F_193_64 rfl ?_
    rcases (show k = 1 ∨ k = 2 ∨ k = 3 ∨ k = 4 ∨ k = 5 ∨ (k < 1 ∨ 5 < k) by omega) with hh | hh | hh | hh | hh | hh
    · have e2 := hh
      refine r_tswI (t := 100) (z := 35) (i := 0) F_193_65 (l2 e1) rfl rfl (by omega) (by decide) ?_
      refine r_ldI (m := 4) F_193_100 rfl ?_
      refine r_if (t := 109) F_193_102 rfl (l3 e1 e2) ?_ ?_
      · intro e3
        replace e3 : f = 0 := e3
        refine r_iconst F_193_109 ?_
        refine r_ireturn F_193_110 rt_193 ?_
        exact (l4 e1 e2 e3)
      · intro e4
        replace e4 : ¬ f = 0 := e4
        refine r_iconst F_193_105 ?_
        refine r_goto (t := 110) F_193_106 rfl ?_
        refine r_ireturn F_193_110 rt_193 ?_
        exact (l5 e1 e2 e4)
    · have e5 := hh
      refine r_tswI (t := 111) (z := 46) (i := 1) F_193_65 (l2 e1) rfl rfl (by omega) (by decide) ?_
      refine r_ldI (m := 4) F_193_111 rfl ?_
      refine r_if (t := 120) F_193_113 rfl (l6 e1 e5) ?_ ?_
      · intro e6
        replace e6 : f = 0 := e6
        refine r_iconst F_193_120 ?_
        refine r_ireturn F_193_121 rt_193 ?_
        exact (l7 e1 e5 e6)
      · intro e7
        replace e7 : ¬ f = 0 := e7
        refine r_iconst F_193_116 ?_
        refine r_goto (t := 121) F_193_117 rfl ?_
        refine r_ireturn F_193_121 rt_193 ?_
        exact (l8 e1 e5 e7)
    · have e8 := hh
      refine r_tswI (t := 122) (z := 57) (i := 2) F_193_65 (l2 e1) rfl rfl (by omega) (by decide) ?_
      refine r_ldI_n (m := 2) F_193_122 rfl ?_
      refine r_ldI_n (m := 3) F_193_123 rfl ?_
      refine r_stat2 (A := [vI h, vI c]) (r := []) (n := 2) F_193_124 o_193 il_6_132 (by decide) rfl rfl rfl rfl (lay_le n_194 rfl) ?_
      refine Cl_of n_194 rfl ?_
      show Rn _ _ _ _ [some (vI h), some (vI c)] [] _ _
      refine r_ldI_n (m := 0) F_194_0 rfl ?_
      refine r_ldI_n (m := 1) F_194_1 rfl ?_
      refine r_ishr F_194_2 rfl ?_
      refine r_iconst F_194_3 ?_
      refine r_iand F_194_4 rfl ?_
      refine r_iconst F_194_5 ?_
      refine r_icmp (t := 13) F_194_6 rfl (inR_iAnd _ _) (by decide) ?_ ?_
      · intro e9
        replace e9 : ¬ (iAnd (iShr h c) 1) = 1 := e9
        refine r_iconst F_194_13 ?_
        refine r_zreturn F_194_14 rt_194 (Or.inl rfl) ?_
        show Rn _ _ _ _ _ [vI 0] _ _
        refine r_ifF (t := 134) F_193_127 rfl (by decide) (by show ¬ (¬ (0 : Int) = 0); decide) ?_
        refine r_iconst F_193_130 ?_
        refine r_goto (t := 144) F_193_131 rfl ?_
        refine r_ireturn F_193_144 rt_193 ?_
        exact (l9 e1 e8 e9)
      · intro e10
        replace e10 : (iAnd (iShr h c) 1) = 1 := (Classical.not_not.mp e10)
        refine r_iconst F_194_9 ?_
        refine r_goto (t := 14) F_194_10 rfl ?_
        refine r_zreturn F_194_14 rt_194 (Or.inr rfl) ?_
        show Rn _ _ _ _ _ [vI 1] _ _
        refine r_ifT (t := 134) F_193_127 rfl (by decide) (by show ¬ (1 : Int) = 0; decide) ?_
        refine r_ldI (m := 4) F_193_134 rfl ?_
        refine r_if (t := 143) F_193_136 rfl (l10 e1 e8 e10) ?_ ?_
        · intro e11
          replace e11 : f = 0 := e11
          refine r_iconst F_193_143 ?_
          refine r_ireturn F_193_144 rt_193 ?_
          exact (l11 e1 e8 e10 e11)
        · intro e12
          replace e12 : ¬ f = 0 := e12
          refine r_iconst F_193_139 ?_
          refine r_goto (t := 144) F_193_140 rfl ?_
          refine r_ireturn F_193_144 rt_193 ?_
          exact (l12 e1 e8 e10 e12)
    · have e13 := hh
      refine r_tswI (t := 100) (z := 35) (i := 3) F_193_65 (l2 e1) rfl rfl (by omega) (by decide) ?_
      refine r_ldI (m := 4) F_193_100 rfl ?_
      refine r_if (t := 109) F_193_102 rfl (l13 e1 e13) ?_ ?_
      · intro e14
        replace e14 : f = 0 := e14
        refine r_iconst F_193_109 ?_
        refine r_ireturn F_193_110 rt_193 ?_
        exact (l14 e1 e13 e14)
      · intro e15
        replace e15 : ¬ f = 0 := e15
        refine r_iconst F_193_105 ?_
        refine r_goto (t := 110) F_193_106 rfl ?_
        refine r_ireturn F_193_110 rt_193 ?_
        exact (l15 e1 e13 e15)
    · have e16 := hh
      refine r_tswI (t := 111) (z := 46) (i := 4) F_193_65 (l2 e1) rfl rfl (by omega) (by decide) ?_
      refine r_ldI (m := 4) F_193_111 rfl ?_
      refine r_if (t := 120) F_193_113 rfl (l16 e1 e16) ?_ ?_
      · intro e17
        replace e17 : f = 0 := e17
        refine r_iconst F_193_120 ?_
        refine r_ireturn F_193_121 rt_193 ?_
        exact (l17 e1 e16 e17)
      · intro e18
        replace e18 : ¬ f = 0 := e18
        refine r_iconst F_193_116 ?_
        refine r_goto (t := 121) F_193_117 rfl ?_
        refine r_ireturn F_193_121 rt_193 ?_
        exact (l18 e1 e16 e18)
    · have e19 := hh
      refine r_tswD (t := 145) F_193_65 (l2 e1) rfl e19 ?_
      refine r_ldI (m := 4) F_193_145 rfl ?_
      refine r_if (t := 154) F_193_147 rfl (l19 e1 e19) ?_ ?_
      · intro e20
        replace e20 : f = 0 := e20
        refine r_iconst F_193_154 ?_
        refine r_ireturn F_193_155 rt_193 ?_
        exact (l20 e1 e19 e20)
      · intro e21
        replace e21 : ¬ f = 0 := e21
        refine r_iconst F_193_150 ?_
        refine r_goto (t := 155) F_193_151 rfl ?_
        refine r_ireturn F_193_155 rt_193 ?_
        exact (l21 e1 e19 e21)
  · intro e22
    replace e22 : i < 4 := (Int.not_le.mp e22)
    refine r_ldI (m := 4) F_193_12 rfl ?_
    refine r_if (t := 51) F_193_14 rfl (l22 e22) ?_ ?_
    · intro e23
      replace e23 : ¬ f = 0 := e23
      refine r_iconst F_193_51 ?_
      refine r_goto (t := 56) F_193_52 rfl ?_
      refine r_stI (m := 4) (L' := [some (vR 77), some (vI k), some (vI h), some (vI c), some (vI 1), some (vI i)]) F_193_56 rfl rfl ?_
      refine r_iinc (m := 5) (e := (i + 1)) (L' := [some (vR 77), some (vI k), some (vI h), some (vI c), some (vI 1), some (vI (i + 1))]) F_193_58 rfl rfl rfl rfl ?_
      refine r_goto (t := 6) F_193_61 rfl ?_
      exact (l23 e22 e23)
    · intro e24
      replace e24 : f = 0 := (Classical.not_not.mp e24)
      refine r_ldI (m := 5) F_193_17 rfl ?_
      refine r_ldI_n (m := 3) F_193_19 rfl ?_
      refine r_icmp (t := 55) F_193_20 rfl l1 (l24 e22 e24) ?_ ?_
      · intro e25
        replace e25 : i = c := e25
        refine r_iconst F_193_55 ?_
        refine r_stI (m := 4) (L' := [some (vR 77), some (vI k), some (vI h), some (vI c), some (vI 0), some (vI i)]) F_193_56 rfl rfl ?_
        refine r_iinc (m := 5) (e := (i + 1)) (L' := [some (vR 77), some (vI k), some (vI h), some (vI c), some (vI 0), some (vI (i + 1))]) F_193_58 rfl rfl rfl rfl ?_
        refine r_goto (t := 6) F_193_61 rfl ?_
        exact (l25 e22 e24 e25)
      · intro e26
        replace e26 : ¬ i = c := e26
        refine r_ldI_n (m := 2) F_193_23 rfl ?_
        refine r_ldI (m := 5) F_193_24 rfl ?_
        refine r_stat2 (A := [vI h, vI i]) (r := []) (n := 2) F_193_26 o_193 il_6_132 (by decide) rfl rfl rfl rfl (lay_le n_194 rfl) ?_
        refine Cl_of n_194 rfl ?_
        show Rn _ _ _ _ [some (vI h), some (vI i)] [] _ _
        refine r_ldI_n (m := 0) F_194_0 rfl ?_
        refine r_ldI_n (m := 1) F_194_1 rfl ?_
        refine r_ishr F_194_2 rfl ?_
        refine r_iconst F_194_3 ?_
        refine r_iand F_194_4 rfl ?_
        refine r_iconst F_194_5 ?_
        refine r_icmp (t := 13) F_194_6 rfl (inR_iAnd _ _) (by decide) ?_ ?_
        · intro e27
          replace e27 : ¬ (iAnd (iShr h i) 1) = 1 := e27
          refine r_iconst F_194_13 ?_
          refine r_zreturn F_194_14 rt_194 (Or.inl rfl) ?_
          show Rn _ _ _ _ _ [vI 0] _ _
          refine r_ifT (t := 55) F_193_29 rfl (by decide) (by show (0 : Int) = 0; decide) ?_
          refine r_iconst F_193_55 ?_
          refine r_stI (m := 4) (L' := [some (vR 77), some (vI k), some (vI h), some (vI c), some (vI 0), some (vI i)]) F_193_56 rfl rfl ?_
          refine r_iinc (m := 5) (e := (i + 1)) (L' := [some (vR 77), some (vI k), some (vI h), some (vI c), some (vI 0), some (vI (i + 1))]) F_193_58 rfl rfl rfl rfl ?_
          refine r_goto (t := 6) F_193_61 rfl ?_
          exact (l26 e22 e24 e26 e27)
        · intro e28
          replace e28 : (iAnd (iShr h i) 1) = 1 := (Classical.not_not.mp e28)
          refine r_iconst F_194_9 ?_
          refine r_goto (t := 14) F_194_10 rfl ?_
          refine r_zreturn F_194_14 rt_194 (Or.inr rfl) ?_
          show Rn _ _ _ _ _ [vI 1] _ _
          refine r_ifF (t := 55) F_193_29 rfl (by decide) (by show ¬ ((1 : Int) = 0); decide) ?_
          refine r_ldR_n (m := 0) F_193_32 rfl ?_
          refine r_getR (J := 5) F_193_33 o_193 fl_6_25 ty_77 (by decide) rfl (kd2 kd_77_5 (by decide)) (kd9 kd_77_5 (by decide)) rf_77_5 ?_
          refine r_bipush F_193_36 bi_7 ?_
          refine r_iald (e := (s 83 7)) F_193_38 ty_83 (by decide) (lt_ln ln_83 (by decide)) rfl ?_
          refine r_iconst F_193_39 ?_
          refine r_ldI (m := 5) F_193_40 rfl ?_
          refine r_imul F_193_42 rfl ?_
          refine r_ldI_n (m := 3) F_193_43 rfl ?_
          refine r_iadd F_193_44 rfl ?_
          refine r_stat2 (A := [vI (s 83 7), vI ((4 * i) + c)]) (r := []) (n := 2) F_193_45 o_193 il_6_132 (by decide) rfl rfl rfl rfl (lay_le n_194 rfl) ?_
          refine Cl_of n_194 rfl ?_
          show Rn _ _ _ _ [some (vI (s 83 7)), some (vI ((4 * i) + c))] [] _ _
          refine r_ldI_n (m := 0) F_194_0 rfl ?_
          refine r_ldI_n (m := 1) F_194_1 rfl ?_
          refine r_ishr F_194_2 rfl ?_
          refine r_iconst F_194_3 ?_
          refine r_iand F_194_4 rfl ?_
          refine r_iconst F_194_5 ?_
          refine r_icmp (t := 13) F_194_6 rfl (inR_iAnd _ _) (by decide) ?_ ?_
          · intro e29
            replace e29 : ¬ (iAnd (iShr (s 83 7) ((4 * i) + c)) 1) = 1 := e29
            refine r_iconst F_194_13 ?_
            refine r_zreturn F_194_14 rt_194 (Or.inl rfl) ?_
            show Rn _ _ _ _ _ [vI 0] _ _
            refine r_ifT (t := 55) F_193_48 rfl (by decide) (by show (0 : Int) = 0; decide) ?_
            refine r_iconst F_193_55 ?_
            refine r_stI (m := 4) (L' := [some (vR 77), some (vI k), some (vI h), some (vI c), some (vI 0), some (vI i)]) F_193_56 rfl rfl ?_
            refine r_iinc (m := 5) (e := (i + 1)) (L' := [some (vR 77), some (vI k), some (vI h), some (vI c), some (vI 0), some (vI (i + 1))]) F_193_58 rfl rfl rfl rfl ?_
            refine r_goto (t := 6) F_193_61 rfl ?_
            exact (l27 e22 e24 e26 e28 e29)
          · intro e30
            replace e30 : (iAnd (iShr (s 83 7) ((4 * i) + c)) 1) = 1 := (Classical.not_not.mp e30)
            refine r_iconst F_194_9 ?_
            refine r_goto (t := 14) F_194_10 rfl ?_
            refine r_zreturn F_194_14 rt_194 (Or.inr rfl) ?_
            show Rn _ _ _ _ _ [vI 1] _ _
            refine r_ifF (t := 55) F_193_48 rfl (by decide) (by show ¬ ((1 : Int) = 0); decide) ?_
            refine r_iconst F_193_51 ?_
            refine r_goto (t := 56) F_193_52 rfl ?_
            refine r_stI (m := 4) (L' := [some (vR 77), some (vI k), some (vI h), some (vI c), some (vI 1), some (vI i)]) F_193_56 rfl rfl ?_
            refine r_iinc (m := 5) (e := (i + 1)) (L' := [some (vR 77), some (vI k), some (vI h), some (vI c), some (vI 1), some (vI (i + 1))]) F_193_58 rfl rfl rfl rfl ?_
            refine r_goto (t := 6) F_193_61 rfl ?_
            exact (l28 e22 e24 e26 e28 e30)
theorem t_X6_closed {X : List Int32} {d : Nat} {s : m_St} {P : Option Value → m_St → Prop} {z : Int}
    (l1 : Rn X (d + 1) 196 4 [some (vR 77), some (vI z), some (vI z), some (vI 0), none] [] s P)
    : Cl X (d + 1) 196 [vR 77, vI z] s P := by
  refine Cl_of n_196 rfl ?_
  show Rn _ _ _ _ [some (vR 77), some (vI z), none, none, none] [] _ _
  refine r_ldI_n (m := 1) F_196_0 rfl ?_
  refine r_stI_n (m := 2) (L' := [some (vR 77), some (vI z), some (vI z), none, none]) F_196_1 rfl rfl ?_
  refine r_iconst F_196_2 ?_
  refine r_stI_n (m := 3) (L' := [some (vR 77), some (vI z), some (vI z), some (vI 0), none]) F_196_3 rfl rfl ?_
  exact l1
theorem t_X6_closed_4 {X : List Int32} {d : Nat} {s : m_St} {P : Option Value → m_St → Prop} {z a n : Int} {z4 : Option Value}
    (l1 : inR n)
    (l2 : 4 ≤ n → P (some (vI a)) s)
    (l3 : n < 4 → Rn X (d + 1) 196 12 [some (vR 77), some (vI z), some (vI a), some (vI n), some (vI 0)] [] s P)
    : Rn X (d + 1) 196 4 [some (vR 77), some (vI z), some (vI a), some (vI n), z4] [] s P := by
  refine r_ldI_n (m := 3) F_196_4 rfl ?_
  refine r_iconst F_196_5 ?_
  refine r_icmp (t := 70) F_196_6 rfl l1 (by decide) ?_ ?_
  · intro e1
    replace e1 : 4 ≤ n := e1
    refine r_ldI_n (m := 2) F_196_70 rfl ?_
    refine r_ireturn F_196_71 rt_196 ?_
    exact (l2 e1)
  · intro e2
    replace e2 : n < 4 := (Int.not_le.mp e2)
    refine r_iconst F_196_9 ?_
    refine r_stI (m := 4) (L' := [some (vR 77), some (vI z), some (vI a), some (vI n), some (vI 0)]) F_196_10 rfl rfl ?_
    exact (l3 e2)
theorem t_X6_closed_12 {X : List Int32} {d : Nat} {s : m_St} {P : Option Value → m_St → Prop} {z a n i : Int} (i0 : 0 ≤ i)
    (l1 : inR i)
    (l2 : 16 ≤ i → Rn X (d + 1) 196 4 [some (vR 77), some (vI z), some (vI a), some (vI (n + 1)), some (vI i)] [] s P)
    (l3 : i < 16 → ¬ (iAnd (iShr (s 83 7) i) 1) = 1 → Rn X (d + 1) 196 12 [some (vR 77), some (vI z), some (vI (iOr a 0)), some (vI n), some (vI (i + 1))] [] s P)
    (l4 : i < 16 → (iAnd (iShr (s 83 7) i) 1) = 1 → ¬ (iAnd (iShr a (i / 4)) 1) = 1 → Rn X (d + 1) 196 12 [some (vR 77), some (vI z), some (vI (iOr a 0)), some (vI n), some (vI (i + 1))] [] s P)
    (l5 : i < 16 → (iAnd (iShr (s 83 7) i) 1) = 1 → (iAnd (iShr a (i / 4)) 1) = 1 → Rn X (d + 1) 196 12 [some (vR 77), some (vI z), some (vI (iOr a (iShl 1 (i % 4)))), some (vI n), some (vI (i + 1))] [] s P)
    : Rn X (d + 1) 196 12 [some (vR 77), some (vI z), some (vI a), some (vI n), some (vI i)] [] s P := by
  refine r_ldI (m := 4) F_196_12 rfl ?_
  refine r_bipush F_196_14 bi_16 ?_
  refine r_icmp (t := 64) F_196_16 rfl l1 (by decide) ?_ ?_
  · intro e1
    replace e1 : 16 ≤ i := e1
    refine r_iinc (m := 3) (e := (n + 1)) (L' := [some (vR 77), some (vI z), some (vI a), some (vI (n + 1)), some (vI i)]) F_196_64 rfl rfl rfl rfl ?_
    refine r_goto (t := 4) F_196_67 rfl ?_
    exact (l2 e1)
  · intro e2
    replace e2 : i < 16 := (Int.not_le.mp e2)
    refine r_ldI_n (m := 2) F_196_19 rfl ?_
    refine r_ldR_n (m := 0) F_196_20 rfl ?_
    refine r_getR (J := 5) F_196_21 o_196 fl_6_25 ty_77 (by decide) rfl (kd2 kd_77_5 (by decide)) (kd9 kd_77_5 (by decide)) rf_77_5 ?_
    refine r_bipush F_196_24 bi_7 ?_
    refine r_iald (e := (s 83 7)) F_196_26 ty_83 (by decide) (lt_ln ln_83 (by decide)) rfl ?_
    refine r_ldI (m := 4) F_196_27 rfl ?_
    refine r_stat2 (A := [vI (s 83 7), vI i]) (r := [vI a]) (n := 2) F_196_29 o_196 il_6_132 (by decide) rfl rfl rfl rfl (lay_le n_194 rfl) ?_
    refine Cl_of n_194 rfl ?_
    show Rn _ _ _ _ [some (vI (s 83 7)), some (vI i)] [] _ _
    refine r_ldI_n (m := 0) F_194_0 rfl ?_
    refine r_ldI_n (m := 1) F_194_1 rfl ?_
    refine r_ishr F_194_2 rfl ?_
    refine r_iconst F_194_3 ?_
    refine r_iand F_194_4 rfl ?_
    refine r_iconst F_194_5 ?_
    refine r_icmp (t := 13) F_194_6 rfl (inR_iAnd _ _) (by decide) ?_ ?_
    · intro e3
      replace e3 : ¬ (iAnd (iShr (s 83 7) i) 1) = 1 := e3
      refine r_iconst F_194_13 ?_
      refine r_zreturn F_194_14 rt_194 (Or.inl rfl) ?_
      show Rn _ _ _ _ _ [vI 0, vI a] _ _
      refine r_ifT (t := 55) F_196_32 rfl (by decide) (by show (0 : Int) = 0; decide) ?_
      refine r_iconst F_196_55 ?_
      refine r_ior F_196_56 rfl ?_
      refine r_stI_n (m := 2) (L' := [some (vR 77), some (vI z), some (vI (iOr a 0)), some (vI n), some (vI i)]) F_196_57 rfl rfl ?_
      refine r_iinc (m := 4) (e := (i + 1)) (L' := [some (vR 77), some (vI z), some (vI (iOr a 0)), some (vI n), some (vI (i + 1))]) F_196_58 rfl rfl rfl rfl ?_
      refine r_goto (t := 12) F_196_61 rfl ?_
      exact (l3 e2 e3)
    · intro e4
      replace e4 : (iAnd (iShr (s 83 7) i) 1) = 1 := (Classical.not_not.mp e4)
      refine r_iconst F_194_9 ?_
      refine r_goto (t := 14) F_194_10 rfl ?_
      refine r_zreturn F_194_14 rt_194 (Or.inr rfl) ?_
      show Rn _ _ _ _ _ [vI 1, vI a] _ _
      refine r_ifF (t := 55) F_196_32 rfl (by decide) (by show ¬ ((1 : Int) = 0); decide) ?_
      refine r_ldI_n (m := 2) F_196_35 rfl ?_
      refine r_ldI (m := 4) F_196_36 rfl ?_
      refine r_iconst F_196_38 ?_
      refine r_idiv F_196_39 l1 i0 (by decide) (by decide) ?_
      refine r_stat2 (A := [vI a, vI (i / 4)]) (r := [vI a]) (n := 2) F_196_40 o_196 il_6_132 (by decide) rfl rfl rfl rfl (lay_le n_194 rfl) ?_
      refine Cl_of n_194 rfl ?_
      show Rn _ _ _ _ [some (vI a), some (vI (i / 4))] [] _ _
      refine r_ldI_n (m := 0) F_194_0 rfl ?_
      refine r_ldI_n (m := 1) F_194_1 rfl ?_
      refine r_ishr F_194_2 rfl ?_
      refine r_iconst F_194_3 ?_
      refine r_iand F_194_4 rfl ?_
      refine r_iconst F_194_5 ?_
      refine r_icmp (t := 13) F_194_6 rfl (inR_iAnd _ _) (by decide) ?_ ?_
      · intro e5
        replace e5 : ¬ (iAnd (iShr a (i / 4)) 1) = 1 := e5
        refine r_iconst F_194_13 ?_
        refine r_zreturn F_194_14 rt_194 (Or.inl rfl) ?_
        show Rn _ _ _ _ _ [vI 0, vI a] _ _
        refine r_ifT (t := 55) F_196_43 rfl (by decide) (by show (0 : Int) = 0; decide) ?_
        refine r_iconst F_196_55 ?_
        refine r_ior F_196_56 rfl ?_
        refine r_stI_n (m := 2) (L' := [some (vR 77), some (vI z), some (vI (iOr a 0)), some (vI n), some (vI i)]) F_196_57 rfl rfl ?_
        refine r_iinc (m := 4) (e := (i + 1)) (L' := [some (vR 77), some (vI z), some (vI (iOr a 0)), some (vI n), some (vI (i + 1))]) F_196_58 rfl rfl rfl rfl ?_
        refine r_goto (t := 12) F_196_61 rfl ?_
        exact (l4 e2 e4 e5)
      · intro e6
        replace e6 : (iAnd (iShr a (i / 4)) 1) = 1 := (Classical.not_not.mp e6)
        refine r_iconst F_194_9 ?_
        refine r_goto (t := 14) F_194_10 rfl ?_
        refine r_zreturn F_194_14 rt_194 (Or.inr rfl) ?_
        show Rn _ _ _ _ _ [vI 1, vI a] _ _
        refine r_ifF (t := 55) F_196_43 rfl (by decide) (by show ¬ ((1 : Int) = 0); decide) ?_
        refine r_iconst F_196_46 ?_
        refine r_ldI (m := 4) F_196_47 rfl ?_
        refine r_iconst F_196_49 ?_
        refine r_irem F_196_50 l1 i0 (by decide) (by decide) ?_
        refine r_ishl F_196_51 rfl ?_
        refine r_goto (t := 56) F_196_52 rfl ?_
        refine r_ior F_196_56 rfl ?_
        refine r_stI_n (m := 2) (L' := [some (vR 77), some (vI z), some (vI (iOr a (iShl 1 (i % 4)))), some (vI n), some (vI i)]) F_196_57 rfl rfl ?_
        refine r_iinc (m := 4) (e := (i + 1)) (L' := [some (vR 77), some (vI z), some (vI (iOr a (iShl 1 (i % 4)))), some (vI n), some (vI (i + 1))]) F_196_58 rfl rfl rfl rfl ?_
        refine r_goto (t := 12) F_196_61 rfl ?_
        exact (l5 e2 e4 e6)
theorem t_X6_ones {X : List Int32} {d : Nat} {s : m_St} {P : Option Value → m_St → Prop} {z : Int}
    (l1 : Rn X d 232 4 [some (vI z), some (vI 0), some (vI 0)] [] s P)
    : Cl X d 232 [vI z] s P := by
  refine Cl_of n_232 rfl ?_
  show Rn _ _ _ _ [some (vI z), none, none] [] _ _
  refine r_iconst F_232_0 ?_
  refine r_stI_n (m := 1) (L' := [some (vI z), some (vI 0), none]) F_232_1 rfl rfl ?_
  refine r_iconst F_232_2 ?_
  refine r_stI_n (m := 2) (L' := [some (vI z), some (vI 0), some (vI 0)]) F_232_3 rfl rfl ?_
  exact l1
theorem t_X6_ones_4 {X : List Int32} {d : Nat} {s : m_St} {P : Option Value → m_St → Prop} {z n i : Int} (i0 : 0 ≤ i)
    (l1 : inR i)
    (l2 : 16 ≤ i → P (some (vI n)) s)
    (l3 : i < 16 → Rn X d 232 4 [some (vI z), some (vI (n + (iAnd (iShr z i) 1))), some (vI (i + 1))] [] s P)
    : Rn X d 232 4 [some (vI z), some (vI n), some (vI i)] [] s P := by
  refine r_ldI_n (m := 2) F_232_4 rfl ?_
  refine r_bipush F_232_5 bi_16 ?_
  refine r_icmp (t := 24) F_232_7 rfl l1 (by decide) ?_ ?_
  · intro e1
    replace e1 : 16 ≤ i := e1
    refine r_ldI_n (m := 1) F_232_24 rfl ?_
    refine r_ireturn F_232_25 rt_232 ?_
    exact (l2 e1)
  · intro e2
    replace e2 : i < 16 := (Int.not_le.mp e2)
    refine r_ldI_n (m := 1) F_232_10 rfl ?_
    refine r_ldI_n (m := 0) F_232_11 rfl ?_
    refine r_ldI_n (m := 2) F_232_12 rfl ?_
    refine r_ishr F_232_13 rfl ?_
    refine r_iconst F_232_14 ?_
    refine r_iand F_232_15 rfl ?_
    refine r_iadd F_232_16 rfl ?_
    refine r_stI_n (m := 1) (L' := [some (vI z), some (vI (n + (iAnd (iShr z i) 1))), some (vI i)]) F_232_17 rfl rfl ?_
    refine r_iinc (m := 2) (e := (i + 1)) (L' := [some (vI z), some (vI (n + (iAnd (iShr z i) 1))), some (vI (i + 1))]) F_232_18 rfl rfl rfl rfl ?_
    refine r_goto (t := 4) F_232_21 rfl ?_
    exact (l3 e2)
