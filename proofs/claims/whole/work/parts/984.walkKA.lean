/-! walks: the reference, who one is -/
theorem n_234 : m_n 234 = 6 := by decide +kernel
theorem F_234_0 : F 234 0 (.aload_n 0) 1 := ⟨1, by decide +kernel, rfl, rfl⟩
theorem F_234_1 : F 234 1 (.iload_n 1) 2 := ⟨1, by decide +kernel, rfl, rfl⟩
theorem F_234_2 : F 234 2 (.invokevirtual 150) 5 := ⟨3, by decide +kernel, rfl, rfl⟩
theorem o_234 : m_o 234 = 6 := by decide +kernel
theorem F_234_5 : F 234 5 (.ifCond .eq 10) 8 := ⟨3, by decide +kernel, rfl, rfl⟩
theorem F_234_15 : F 234 15 (.iconst (-1)) 16 := ⟨1, by decide +kernel, rfl, rfl⟩
theorem F_234_16 : F 234 16 (.ireturn) 17 := ⟨1, by decide +kernel, rfl, rfl⟩
theorem rt_234 : m_r 234 = (some .int) := by decide +kernel
theorem F_234_8 : F 234 8 (.iload_n 2) 9 := ⟨1, by decide +kernel, rfl, rfl⟩
theorem F_234_9 : F 234 9 (.invokestatic 71) 12 := ⟨3, by decide +kernel, rfl, rfl⟩
theorem F_234_12 : F 234 12 (.ifCond .ne 5) 15 := ⟨3, by decide +kernel, rfl, rfl⟩
theorem F_234_17 : F 234 17 (.aload_n 0) 18 := ⟨1, by decide +kernel, rfl, rfl⟩
theorem F_234_18 : F 234 18 (.getfield 7) 21 := ⟨3, by decide +kernel, rfl, rfl⟩
theorem F_234_21 : F 234 21 (.iload_n 2) 22 := ⟨1, by decide +kernel, rfl, rfl⟩
theorem F_234_22 : F 234 22 (.iaload) 23 := ⟨1, by decide +kernel, rfl, rfl⟩
theorem F_234_23 : F 234 23 (.ifCond .ge 9) 26 := ⟨3, by decide +kernel, rfl, rfl⟩
theorem F_234_32 : F 234 32 (.aload_n 0) 33 := ⟨1, by decide +kernel, rfl, rfl⟩
theorem F_234_33 : F 234 33 (.getfield 7) 36 := ⟨3, by decide +kernel, rfl, rfl⟩
theorem F_234_36 : F 234 36 (.iload_n 2) 37 := ⟨1, by decide +kernel, rfl, rfl⟩
theorem F_234_37 : F 234 37 (.iaload) 38 := ⟨1, by decide +kernel, rfl, rfl⟩
theorem F_234_38 : F 234 38 (.iconst 3) 39 := ⟨1, by decide +kernel, rfl, rfl⟩
theorem F_234_39 : F 234 39 (.irem) 40 := ⟨1, by decide +kernel, rfl, rfl⟩
theorem F_234_40 : F 234 40 (.ifCond .eq 9) 43 := ⟨3, by decide +kernel, rfl, rfl⟩
theorem F_234_49 : F 234 49 (.iconst 1) 50 := ⟨1, by decide +kernel, rfl, rfl⟩
theorem F_234_50 : F 234 50 (.istore_n 3) 51 := ⟨1, by decide +kernel, rfl, rfl⟩
theorem F_234_51 : F 234 51 (.iconst 0) 52 := ⟨1, by decide +kernel, rfl, rfl⟩
theorem F_234_52 : F 234 52 (.istore 4) 54 := ⟨2, by decide +kernel, rfl, rfl⟩
theorem F_234_43 : F 234 43 (.aload_n 0) 44 := ⟨1, by decide +kernel, rfl, rfl⟩
theorem F_234_44 : F 234 44 (.iconst 5) 45 := ⟨1, by decide +kernel, rfl, rfl⟩
theorem F_234_45 : F 234 45 (.invokevirtual 75) 48 := ⟨3, by decide +kernel, rfl, rfl⟩
theorem F_234_48 : F 234 48 (.ireturn) 49 := ⟨1, by decide +kernel, rfl, rfl⟩
theorem F_234_26 : F 234 26 (.aload_n 0) 27 := ⟨1, by decide +kernel, rfl, rfl⟩
theorem F_234_27 : F 234 27 (.iconst 1) 28 := ⟨1, by decide +kernel, rfl, rfl⟩
theorem F_234_28 : F 234 28 (.invokevirtual 75) 31 := ⟨3, by decide +kernel, rfl, rfl⟩
theorem F_234_31 : F 234 31 (.ireturn) 32 := ⟨1, by decide +kernel, rfl, rfl⟩
theorem F_234_54 : F 234 54 (.iload 4) 56 := ⟨2, by decide +kernel, rfl, rfl⟩
theorem F_234_56 : F 234 56 (.aload_n 0) 57 := ⟨1, by decide +kernel, rfl, rfl⟩
theorem F_234_57 : F 234 57 (.getfield 7) 60 := ⟨3, by decide +kernel, rfl, rfl⟩
theorem F_234_60 : F 234 60 (.iload_n 2) 61 := ⟨1, by decide +kernel, rfl, rfl⟩
theorem F_234_61 : F 234 61 (.iaload) 62 := ⟨1, by decide +kernel, rfl, rfl⟩
theorem F_234_62 : F 234 62 (.if_icmp .ge 78) 65 := ⟨3, by decide +kernel, rfl, rfl⟩
theorem F_234_140 : F 234 140 (.iload_n 3) 141 := ⟨1, by decide +kernel, rfl, rfl⟩
theorem F_234_141 : F 234 141 (.ifCond .eq 7) 144 := ⟨3, by decide +kernel, rfl, rfl⟩
theorem F_234_148 : F 234 148 (.aload_n 0) 149 := ⟨1, by decide +kernel, rfl, rfl⟩
theorem F_234_149 : F 234 149 (.iconst 3) 150 := ⟨1, by decide +kernel, rfl, rfl⟩
theorem F_234_150 : F 234 150 (.invokevirtual 75) 153 := ⟨3, by decide +kernel, rfl, rfl⟩
theorem F_234_153 : F 234 153 (.ireturn) 154 := ⟨1, by decide +kernel, rfl, rfl⟩
theorem F_234_144 : F 234 144 (.iconst 0) 145 := ⟨1, by decide +kernel, rfl, rfl⟩
theorem F_234_145 : F 234 145 (.goto 8) 148 := ⟨3, by decide +kernel, rfl, rfl⟩
theorem F_234_65 : F 234 65 (.bipush 40) 67 := ⟨2, by decide +kernel, rfl, rfl⟩
theorem F_234_67 : F 234 67 (.iload_n 2) 68 := ⟨1, by decide +kernel, rfl, rfl⟩
theorem F_234_68 : F 234 68 (.imul) 69 := ⟨1, by decide +kernel, rfl, rfl⟩
theorem F_234_69 : F 234 69 (.iload 4) 71 := ⟨2, by decide +kernel, rfl, rfl⟩
theorem F_234_71 : F 234 71 (.iadd) 72 := ⟨1, by decide +kernel, rfl, rfl⟩
theorem F_234_72 : F 234 72 (.istore 5) 74 := ⟨2, by decide +kernel, rfl, rfl⟩
theorem F_234_74 : F 234 74 (.iload_n 3) 75 := ⟨1, by decide +kernel, rfl, rfl⟩
theorem F_234_75 : F 234 75 (.ifCond .eq 57) 78 := ⟨3, by decide +kernel, rfl, rfl⟩
theorem F_234_132 : F 234 132 (.iconst 0) 133 := ⟨1, by decide +kernel, rfl, rfl⟩
theorem F_234_133 : F 234 133 (.istore_n 3) 134 := ⟨1, by decide +kernel, rfl, rfl⟩
theorem F_234_134 : F 234 134 (.iinc 4 3) 137 := ⟨3, by decide +kernel, rfl, rfl⟩
theorem F_234_137 : F 234 137 (.goto (-83)) 140 := ⟨3, by decide +kernel, rfl, rfl⟩
theorem F_234_78 : F 234 78 (.aload_n 0) 79 := ⟨1, by decide +kernel, rfl, rfl⟩
theorem F_234_79 : F 234 79 (.getfield 13) 82 := ⟨3, by decide +kernel, rfl, rfl⟩
theorem F_234_82 : F 234 82 (.iload 5) 84 := ⟨2, by decide +kernel, rfl, rfl⟩
theorem F_234_84 : F 234 84 (.iaload) 85 := ⟨1, by decide +kernel, rfl, rfl⟩
theorem F_234_85 : F 234 85 (.invokestatic 165) 88 := ⟨3, by decide +kernel, rfl, rfl⟩
theorem F_234_88 : F 234 88 (.ifCond .eq 44) 91 := ⟨3, by decide +kernel, rfl, rfl⟩
theorem F_234_91 : F 234 91 (.aload_n 0) 92 := ⟨1, by decide +kernel, rfl, rfl⟩
theorem F_234_92 : F 234 92 (.getfield 13) 95 := ⟨3, by decide +kernel, rfl, rfl⟩
theorem F_234_95 : F 234 95 (.iload 5) 97 := ⟨2, by decide +kernel, rfl, rfl⟩
theorem F_234_97 : F 234 97 (.iconst 1) 98 := ⟨1, by decide +kernel, rfl, rfl⟩
theorem F_234_98 : F 234 98 (.iadd) 99 := ⟨1, by decide +kernel, rfl, rfl⟩
theorem F_234_99 : F 234 99 (.iaload) 100 := ⟨1, by decide +kernel, rfl, rfl⟩
theorem F_234_100 : F 234 100 (.iconst 0) 101 := ⟨1, by decide +kernel, rfl, rfl⟩
theorem F_234_101 : F 234 101 (.bipush 20) 103 := ⟨2, by decide +kernel, rfl, rfl⟩
theorem F_234_103 : F 234 103 (.invokestatic 67) 106 := ⟨3, by decide +kernel, rfl, rfl⟩
theorem F_234_106 : F 234 106 (.ifCond .eq 26) 109 := ⟨3, by decide +kernel, rfl, rfl⟩
theorem F_234_109 : F 234 109 (.aload_n 0) 110 := ⟨1, by decide +kernel, rfl, rfl⟩
theorem F_234_110 : F 234 110 (.getfield 13) 113 := ⟨3, by decide +kernel, rfl, rfl⟩
theorem F_234_113 : F 234 113 (.iload 5) 115 := ⟨2, by decide +kernel, rfl, rfl⟩
theorem F_234_115 : F 234 115 (.iconst 2) 116 := ⟨1, by decide +kernel, rfl, rfl⟩
theorem F_234_116 : F 234 116 (.iadd) 117 := ⟨1, by decide +kernel, rfl, rfl⟩
theorem F_234_117 : F 234 117 (.iaload) 118 := ⟨1, by decide +kernel, rfl, rfl⟩
theorem F_234_118 : F 234 118 (.bipush 9) 120 := ⟨2, by decide +kernel, rfl, rfl⟩
theorem F_234_120 : F 234 120 (.bipush 13) 122 := ⟨2, by decide +kernel, rfl, rfl⟩
theorem F_234_122 : F 234 122 (.invokestatic 67) 125 := ⟨3, by decide +kernel, rfl, rfl⟩
theorem F_234_125 : F 234 125 (.ifCond .eq 7) 128 := ⟨3, by decide +kernel, rfl, rfl⟩
theorem F_234_128 : F 234 128 (.iconst 1) 129 := ⟨1, by decide +kernel, rfl, rfl⟩
theorem F_234_129 : F 234 129 (.goto 4) 132 := ⟨3, by decide +kernel, rfl, rfl⟩
theorem n_235 : m_n 235 = 9 := by decide +kernel
theorem F_235_0 : F 235 0 (.iconst 0) 1 := ⟨1, by decide +kernel, rfl, rfl⟩
theorem F_235_1 : F 235 1 (.istore_n 3) 2 := ⟨1, by decide +kernel, rfl, rfl⟩
theorem F_235_2 : F 235 2 (.iconst 0) 3 := ⟨1, by decide +kernel, rfl, rfl⟩
theorem F_235_3 : F 235 3 (.istore 4) 5 := ⟨2, by decide +kernel, rfl, rfl⟩
theorem F_235_5 : F 235 5 (.iload 4) 7 := ⟨2, by decide +kernel, rfl, rfl⟩
theorem F_235_7 : F 235 7 (.bipush 6) 9 := ⟨2, by decide +kernel, rfl, rfl⟩
theorem F_235_9 : F 235 9 (.if_icmp .ge 169) 12 := ⟨3, by decide +kernel, rfl, rfl⟩
theorem F_235_178 : F 235 178 (.iload_n 3) 179 := ⟨1, by decide +kernel, rfl, rfl⟩
theorem F_235_179 : F 235 179 (.ireturn) 180 := ⟨1, by decide +kernel, rfl, rfl⟩
theorem rt_235 : m_r 235 = (some .int) := by decide +kernel
theorem F_235_12 : F 235 12 (.iconst 1) 13 := ⟨1, by decide +kernel, rfl, rfl⟩
theorem F_235_13 : F 235 13 (.istore 5) 15 := ⟨2, by decide +kernel, rfl, rfl⟩
theorem F_235_15 : F 235 15 (.iconst 0) 16 := ⟨1, by decide +kernel, rfl, rfl⟩
theorem F_235_16 : F 235 16 (.istore 6) 18 := ⟨2, by decide +kernel, rfl, rfl⟩
theorem F_235_18 : F 235 18 (.iload 6) 20 := ⟨2, by decide +kernel, rfl, rfl⟩
theorem F_235_20 : F 235 20 (.aload_n 0) 21 := ⟨1, by decide +kernel, rfl, rfl⟩
theorem F_235_21 : F 235 21 (.getfield 7) 24 := ⟨3, by decide +kernel, rfl, rfl⟩
theorem o_235 : m_o 235 = 6 := by decide +kernel
theorem F_235_24 : F 235 24 (.iload_n 2) 25 := ⟨1, by decide +kernel, rfl, rfl⟩
theorem F_235_25 : F 235 25 (.iaload) 26 := ⟨1, by decide +kernel, rfl, rfl⟩
theorem F_235_26 : F 235 26 (.if_icmp .ge 130) 29 := ⟨3, by decide +kernel, rfl, rfl⟩
theorem F_235_156 : F 235 156 (.iload_n 3) 157 := ⟨1, by decide +kernel, rfl, rfl⟩
theorem F_235_157 : F 235 157 (.iload 5) 159 := ⟨2, by decide +kernel, rfl, rfl⟩
theorem F_235_159 : F 235 159 (.ifCond .eq 10) 162 := ⟨3, by decide +kernel, rfl, rfl⟩
theorem F_235_169 : F 235 169 (.iconst 0) 170 := ⟨1, by decide +kernel, rfl, rfl⟩
theorem F_235_170 : F 235 170 (.ior) 171 := ⟨1, by decide +kernel, rfl, rfl⟩
theorem F_235_171 : F 235 171 (.istore_n 3) 172 := ⟨1, by decide +kernel, rfl, rfl⟩
theorem F_235_172 : F 235 172 (.iinc 4 1) 175 := ⟨3, by decide +kernel, rfl, rfl⟩
theorem F_235_175 : F 235 175 (.goto (-170)) 178 := ⟨3, by decide +kernel, rfl, rfl⟩
theorem F_235_162 : F 235 162 (.iconst 1) 163 := ⟨1, by decide +kernel, rfl, rfl⟩
theorem F_235_163 : F 235 163 (.iload 4) 165 := ⟨2, by decide +kernel, rfl, rfl⟩
theorem F_235_165 : F 235 165 (.ishl) 166 := ⟨1, by decide +kernel, rfl, rfl⟩
theorem F_235_166 : F 235 166 (.goto 4) 169 := ⟨3, by decide +kernel, rfl, rfl⟩
theorem F_235_29 : F 235 29 (.bipush 40) 31 := ⟨2, by decide +kernel, rfl, rfl⟩
theorem F_235_31 : F 235 31 (.iload_n 2) 32 := ⟨1, by decide +kernel, rfl, rfl⟩
theorem F_235_32 : F 235 32 (.imul) 33 := ⟨1, by decide +kernel, rfl, rfl⟩
theorem F_235_33 : F 235 33 (.iload 6) 35 := ⟨2, by decide +kernel, rfl, rfl⟩
theorem F_235_35 : F 235 35 (.iadd) 36 := ⟨1, by decide +kernel, rfl, rfl⟩
theorem F_235_36 : F 235 36 (.istore 7) 38 := ⟨2, by decide +kernel, rfl, rfl⟩
theorem F_235_38 : F 235 38 (.iconst 0) 39 := ⟨1, by decide +kernel, rfl, rfl⟩
theorem F_235_39 : F 235 39 (.istore 8) 41 := ⟨2, by decide +kernel, rfl, rfl⟩
theorem F_235_41 : F 235 41 (.iload 8) 43 := ⟨2, by decide +kernel, rfl, rfl⟩
theorem F_235_43 : F 235 43 (.iconst 4) 44 := ⟨1, by decide +kernel, rfl, rfl⟩
theorem F_235_44 : F 235 44 (.if_icmp .ge 56) 47 := ⟨3, by decide +kernel, rfl, rfl⟩
theorem F_235_100 : F 235 100 (.iload 5) 102 := ⟨2, by decide +kernel, rfl, rfl⟩
theorem F_235_102 : F 235 102 (.ifCond .eq 45) 105 := ⟨3, by decide +kernel, rfl, rfl⟩
theorem F_235_147 : F 235 147 (.iconst 0) 148 := ⟨1, by decide +kernel, rfl, rfl⟩
theorem F_235_148 : F 235 148 (.istore 5) 150 := ⟨2, by decide +kernel, rfl, rfl⟩
theorem F_235_150 : F 235 150 (.iinc 6 3) 153 := ⟨3, by decide +kernel, rfl, rfl⟩
theorem F_235_153 : F 235 153 (.goto (-135)) 156 := ⟨3, by decide +kernel, rfl, rfl⟩
theorem F_235_105 : F 235 105 (.aload_n 0) 106 := ⟨1, by decide +kernel, rfl, rfl⟩
theorem F_235_106 : F 235 106 (.iload 4) 108 := ⟨2, by decide +kernel, rfl, rfl⟩
theorem F_235_108 : F 235 108 (.iload 4) 110 := ⟨2, by decide +kernel, rfl, rfl⟩
theorem F_235_110 : F 235 110 (.aload_n 0) 111 := ⟨1, by decide +kernel, rfl, rfl⟩
theorem F_235_111 : F 235 111 (.getfield 16) 114 := ⟨3, by decide +kernel, rfl, rfl⟩
theorem F_235_114 : F 235 114 (.iconst 0) 115 := ⟨1, by decide +kernel, rfl, rfl⟩
theorem F_235_115 : F 235 115 (.invokestatic 139) 118 := ⟨3, by decide +kernel, rfl, rfl⟩
theorem F_235_118 : F 235 118 (.aload_n 0) 119 := ⟨1, by decide +kernel, rfl, rfl⟩
theorem F_235_119 : F 235 119 (.getfield 13) 122 := ⟨3, by decide +kernel, rfl, rfl⟩
theorem F_235_122 : F 235 122 (.iload 7) 124 := ⟨2, by decide +kernel, rfl, rfl⟩
theorem F_235_124 : F 235 124 (.iaload) 125 := ⟨1, by decide +kernel, rfl, rfl⟩
theorem F_235_125 : F 235 125 (.invokevirtual 146) 128 := ⟨3, by decide +kernel, rfl, rfl⟩
theorem F_235_128 : F 235 128 (.bipush 10) 130 := ⟨2, by decide +kernel, rfl, rfl⟩
theorem F_235_130 : F 235 130 (.iadd) 131 := ⟨1, by decide +kernel, rfl, rfl⟩
theorem F_235_131 : F 235 131 (.aload_n 0) 132 := ⟨1, by decide +kernel, rfl, rfl⟩
theorem F_235_132 : F 235 132 (.getfield 13) 135 := ⟨3, by decide +kernel, rfl, rfl⟩
theorem F_235_135 : F 235 135 (.iload 7) 137 := ⟨2, by decide +kernel, rfl, rfl⟩
theorem F_235_137 : F 235 137 (.iconst 2) 138 := ⟨1, by decide +kernel, rfl, rfl⟩
theorem F_235_138 : F 235 138 (.iadd) 139 := ⟨1, by decide +kernel, rfl, rfl⟩
theorem F_235_139 : F 235 139 (.iaload) 140 := ⟨1, by decide +kernel, rfl, rfl⟩
theorem F_235_140 : F 235 140 (.if_icmp .ne 7) 143 := ⟨3, by decide +kernel, rfl, rfl⟩
theorem F_235_143 : F 235 143 (.iconst 1) 144 := ⟨1, by decide +kernel, rfl, rfl⟩
theorem F_235_144 : F 235 144 (.goto 4) 147 := ⟨3, by decide +kernel, rfl, rfl⟩
theorem F_235_47 : F 235 47 (.aload_n 0) 48 := ⟨1, by decide +kernel, rfl, rfl⟩
theorem F_235_48 : F 235 48 (.getfield 16) 51 := ⟨3, by decide +kernel, rfl, rfl⟩
theorem F_235_51 : F 235 51 (.iload 8) 53 := ⟨2, by decide +kernel, rfl, rfl⟩
theorem F_235_53 : F 235 53 (.iload 8) 55 := ⟨2, by decide +kernel, rfl, rfl⟩
theorem F_235_55 : F 235 55 (.aload_n 0) 56 := ⟨1, by decide +kernel, rfl, rfl⟩
theorem F_235_56 : F 235 56 (.getfield 13) 59 := ⟨3, by decide +kernel, rfl, rfl⟩
theorem F_235_59 : F 235 59 (.iload 7) 61 := ⟨2, by decide +kernel, rfl, rfl⟩
theorem F_235_61 : F 235 61 (.iaload) 62 := ⟨1, by decide +kernel, rfl, rfl⟩
theorem F_235_62 : F 235 62 (.if_icmp .ne 15) 65 := ⟨3, by decide +kernel, rfl, rfl⟩
theorem F_235_77 : F 235 77 (.aload_n 0) 78 := ⟨1, by decide +kernel, rfl, rfl⟩
theorem F_235_78 : F 235 78 (.getfield 25) 81 := ⟨3, by decide +kernel, rfl, rfl⟩
theorem F_235_81 : F 235 81 (.bipush 8) 83 := ⟨2, by decide +kernel, rfl, rfl⟩
theorem F_235_83 : F 235 83 (.iconst 5) 84 := ⟨1, by decide +kernel, rfl, rfl⟩
theorem F_235_84 : F 235 84 (.iload_n 1) 85 := ⟨1, by decide +kernel, rfl, rfl⟩
theorem F_235_85 : F 235 85 (.imul) 86 := ⟨1, by decide +kernel, rfl, rfl⟩
theorem F_235_86 : F 235 86 (.iadd) 87 := ⟨1, by decide +kernel, rfl, rfl⟩
theorem F_235_87 : F 235 87 (.iconst 1) 88 := ⟨1, by decide +kernel, rfl, rfl⟩
theorem F_235_88 : F 235 88 (.iadd) 89 := ⟨1, by decide +kernel, rfl, rfl⟩
theorem F_235_89 : F 235 89 (.iload 8) 91 := ⟨2, by decide +kernel, rfl, rfl⟩
theorem F_235_91 : F 235 91 (.iadd) 92 := ⟨1, by decide +kernel, rfl, rfl⟩
theorem F_235_92 : F 235 92 (.iaload) 93 := ⟨1, by decide +kernel, rfl, rfl⟩
theorem F_235_93 : F 235 93 (.iastore) 94 := ⟨1, by decide +kernel, rfl, rfl⟩
theorem F_235_94 : F 235 94 (.iinc 8 1) 97 := ⟨3, by decide +kernel, rfl, rfl⟩
theorem F_235_97 : F 235 97 (.goto (-56)) 100 := ⟨3, by decide +kernel, rfl, rfl⟩
theorem F_235_65 : F 235 65 (.aload_n 0) 66 := ⟨1, by decide +kernel, rfl, rfl⟩
theorem F_235_66 : F 235 66 (.getfield 13) 69 := ⟨3, by decide +kernel, rfl, rfl⟩
theorem F_235_69 : F 235 69 (.iload 7) 71 := ⟨2, by decide +kernel, rfl, rfl⟩
theorem F_235_71 : F 235 71 (.iconst 1) 72 := ⟨1, by decide +kernel, rfl, rfl⟩
theorem F_235_72 : F 235 72 (.iadd) 73 := ⟨1, by decide +kernel, rfl, rfl⟩
theorem F_235_73 : F 235 73 (.iaload) 74 := ⟨1, by decide +kernel, rfl, rfl⟩
theorem F_235_74 : F 235 74 (.goto 19) 77 := ⟨3, by decide +kernel, rfl, rfl⟩
theorem n_237 : m_n 237 = 8 := by decide +kernel
theorem F_237_0 : F 237 0 (.iconst 0) 1 := ⟨1, by decide +kernel, rfl, rfl⟩
theorem F_237_1 : F 237 1 (.istore 4) 3 := ⟨2, by decide +kernel, rfl, rfl⟩
theorem F_237_3 : F 237 3 (.iconst (-1)) 4 := ⟨1, by decide +kernel, rfl, rfl⟩
theorem F_237_4 : F 237 4 (.istore 5) 6 := ⟨2, by decide +kernel, rfl, rfl⟩
theorem F_237_6 : F 237 6 (.iload 5) 8 := ⟨2, by decide +kernel, rfl, rfl⟩
theorem F_237_8 : F 237 8 (.iconst 4) 9 := ⟨1, by decide +kernel, rfl, rfl⟩
theorem F_237_9 : F 237 9 (.if_icmp .ge 92) 12 := ⟨3, by decide +kernel, rfl, rfl⟩
theorem F_237_101 : F 237 101 (.iload 4) 103 := ⟨2, by decide +kernel, rfl, rfl⟩
theorem F_237_103 : F 237 103 (.ireturn) 104 := ⟨1, by decide +kernel, rfl, rfl⟩
theorem rt_237 : m_r 237 = (some .int) := by decide +kernel
theorem F_237_12 : F 237 12 (.iconst 0) 13 := ⟨1, by decide +kernel, rfl, rfl⟩
theorem F_237_13 : F 237 13 (.istore 6) 15 := ⟨2, by decide +kernel, rfl, rfl⟩
theorem F_237_15 : F 237 15 (.iconst 0) 16 := ⟨1, by decide +kernel, rfl, rfl⟩
theorem F_237_16 : F 237 16 (.istore 7) 18 := ⟨2, by decide +kernel, rfl, rfl⟩
theorem F_237_18 : F 237 18 (.iload 7) 20 := ⟨2, by decide +kernel, rfl, rfl⟩
theorem F_237_20 : F 237 20 (.bipush 6) 22 := ⟨2, by decide +kernel, rfl, rfl⟩
theorem F_237_22 : F 237 22 (.if_icmp .ge 57) 25 := ⟨3, by decide +kernel, rfl, rfl⟩
theorem F_237_79 : F 237 79 (.iload 6) 81 := ⟨2, by decide +kernel, rfl, rfl⟩
theorem F_237_81 : F 237 81 (.iload 4) 83 := ⟨2, by decide +kernel, rfl, rfl⟩
theorem F_237_83 : F 237 83 (.if_icmp .le 8) 86 := ⟨3, by decide +kernel, rfl, rfl⟩
theorem F_237_91 : F 237 91 (.iload 4) 93 := ⟨2, by decide +kernel, rfl, rfl⟩
theorem F_237_93 : F 237 93 (.istore 4) 95 := ⟨2, by decide +kernel, rfl, rfl⟩
theorem F_237_95 : F 237 95 (.iinc 5 1) 98 := ⟨3, by decide +kernel, rfl, rfl⟩
theorem F_237_98 : F 237 98 (.goto (-92)) 101 := ⟨3, by decide +kernel, rfl, rfl⟩
theorem F_237_86 : F 237 86 (.iload 6) 88 := ⟨2, by decide +kernel, rfl, rfl⟩
theorem F_237_88 : F 237 88 (.goto 5) 91 := ⟨3, by decide +kernel, rfl, rfl⟩
theorem F_237_25 : F 237 25 (.iload 6) 27 := ⟨2, by decide +kernel, rfl, rfl⟩
theorem F_237_27 : F 237 27 (.iload_n 2) 28 := ⟨1, by decide +kernel, rfl, rfl⟩
theorem F_237_28 : F 237 28 (.iload 7) 30 := ⟨2, by decide +kernel, rfl, rfl⟩
theorem F_237_30 : F 237 30 (.invokestatic 132) 33 := ⟨3, by decide +kernel, rfl, rfl⟩
theorem o_237 : m_o 237 = 6 := by decide +kernel
theorem F_237_33 : F 237 33 (.ifCond .eq 36) 36 := ⟨3, by decide +kernel, rfl, rfl⟩
theorem F_237_69 : F 237 69 (.iconst 0) 70 := ⟨1, by decide +kernel, rfl, rfl⟩
theorem F_237_70 : F 237 70 (.iadd) 71 := ⟨1, by decide +kernel, rfl, rfl⟩
theorem F_237_71 : F 237 71 (.istore 6) 73 := ⟨2, by decide +kernel, rfl, rfl⟩
theorem F_237_73 : F 237 73 (.iinc 7 1) 76 := ⟨3, by decide +kernel, rfl, rfl⟩
theorem F_237_76 : F 237 76 (.goto (-58)) 79 := ⟨3, by decide +kernel, rfl, rfl⟩
theorem F_237_36 : F 237 36 (.aload_n 0) 37 := ⟨1, by decide +kernel, rfl, rfl⟩
theorem F_237_37 : F 237 37 (.iload 7) 39 := ⟨2, by decide +kernel, rfl, rfl⟩
theorem F_237_39 : F 237 39 (.iload 7) 41 := ⟨2, by decide +kernel, rfl, rfl⟩
theorem F_237_41 : F 237 41 (.aload_n 0) 42 := ⟨1, by decide +kernel, rfl, rfl⟩
theorem F_237_42 : F 237 42 (.getfield 25) 45 := ⟨3, by decide +kernel, rfl, rfl⟩
theorem F_237_45 : F 237 45 (.bipush 8) 47 := ⟨2, by decide +kernel, rfl, rfl⟩
theorem F_237_47 : F 237 47 (.iconst 5) 48 := ⟨1, by decide +kernel, rfl, rfl⟩
theorem F_237_48 : F 237 48 (.iload_n 1) 49 := ⟨1, by decide +kernel, rfl, rfl⟩
theorem F_237_49 : F 237 49 (.imul) 50 := ⟨1, by decide +kernel, rfl, rfl⟩
theorem F_237_50 : F 237 50 (.iadd) 51 := ⟨1, by decide +kernel, rfl, rfl⟩
theorem F_237_51 : F 237 51 (.iconst 1) 52 := ⟨1, by decide +kernel, rfl, rfl⟩
theorem F_237_52 : F 237 52 (.iadd) 53 := ⟨1, by decide +kernel, rfl, rfl⟩
theorem F_237_53 : F 237 53 (.invokestatic 139) 56 := ⟨3, by decide +kernel, rfl, rfl⟩
theorem F_237_56 : F 237 56 (.iload_n 3) 57 := ⟨1, by decide +kernel, rfl, rfl⟩
theorem F_237_57 : F 237 57 (.invokevirtual 146) 60 := ⟨3, by decide +kernel, rfl, rfl⟩
theorem F_237_60 : F 237 60 (.iload 5) 62 := ⟨2, by decide +kernel, rfl, rfl⟩
theorem F_237_62 : F 237 62 (.if_icmp .ne 7) 65 := ⟨3, by decide +kernel, rfl, rfl⟩
theorem F_237_65 : F 237 65 (.iconst 1) 66 := ⟨1, by decide +kernel, rfl, rfl⟩
theorem F_237_66 : F 237 66 (.goto 4) 69 := ⟨3, by decide +kernel, rfl, rfl⟩
theorem t_X6_barred {X : List Int32} {d : Nat} {s : m_St} {P : Option Value → m_St → Prop} {i r : Int}
    (l1 : inR i)
    (l2 : i < 0 → P (some (vI (-1))) s)
    (l3 : 0 ≤ i → inR ((s 83 0) - 1))
    (l4 : 0 ≤ i → ((s 83 0) - 1) < i → P (some (vI (-1))) s)
    (l5 : 0 ≤ i → i ≤ ((s 83 0) - 1) → inR r)
    (l6 : 0 ≤ i → i ≤ ((s 83 0) - 1) → r < 0 → P (some (vI (-1))) s)
    (l7 : 0 ≤ i → i ≤ ((s 83 0) - 1) → 0 ≤ r → 5 < r → P (some (vI (-1))) s)
    (l8 : 0 ≤ i → i ≤ ((s 83 0) - 1) → 0 ≤ r → r ≤ 5 → r < 6)
    (l9 : 0 ≤ i → i ≤ ((s 83 0) - 1) → 0 ≤ r → r ≤ 5 → inR (s 78 r))
    (l10 : 0 ≤ i → i ≤ ((s 83 0) - 1) → 0 ≤ r → r ≤ 5 → 0 ≤ (s 78 r) → inR ((s 78 r) % 3))
    (l11 : 0 ≤ i → i ≤ ((s 83 0) - 1) → 0 ≤ r → r ≤ 5 → 0 ≤ (s 78 r) → ((s 78 r) % 3) = 0 → Rn X (d + 2) 234 54 [some (vR 77), some (vI i), some (vI r), some (vI 1), some (vI 0), none] [] s P)
    (l12 : 0 ≤ i → i ≤ ((s 83 0) - 1) → 0 ≤ r → r ≤ 5 → 0 ≤ (s 78 r) → ¬ ((s 78 r) % 3) = 0 → P (some (vI (-3))) (m_upd (m_upd s 77 10 5) 87 5 ((s 87 5) + 1)))
    (l13 : 0 ≤ i → i ≤ ((s 83 0) - 1) → 0 ≤ r → r ≤ 5 → (s 78 r) < 0 → P (some (vI (-3))) (m_upd (m_upd s 77 10 1) 87 1 ((s 87 1) + 1)))
    : Cl X (d + 2) 234 [vR 77, vI i, vI r] s P := by
  refine Cl_of n_234 rfl ?_
  show Rn _ _ _ _ [some (vR 77), some (vI i), some (vI r), none, none, none] [] _ _
  refine r_ldR_n (m := 0) F_234_0 rfl ?_
  refine r_ldI_n (m := 1) F_234_1 rfl ?_
  refine r_virt2 (A := [vI i]) (r := []) (n := 1) F_234_2 o_234 il_6_150 rfl rfl rfl rfl ty_77 vy_184 (lay_le n_184 rfl) ?_
  refine Cl_of n_184 rfl ?_
  show Rn _ _ _ _ [some (vR 77), some (vI i)] [] _ _
  refine r_ldI_n (m := 1) F_184_0 rfl ?_
  refine r_iconst F_184_1 ?_
  refine r_ldR_n (m := 0) F_184_2 rfl ?_
  refine r_getR (J := 5) F_184_3 o_184 fl_6_25 ty_77 (by decide) rfl (kd2 kd_77_5 (by decide)) (kd9 kd_77_5 (by decide)) rf_77_5 ?_
  refine r_iconst F_184_6 ?_
  refine r_iald (e := (s 83 0)) F_184_7 ty_83 (by decide) (lt_ln ln_83 (by decide)) rfl ?_
  refine r_iconst F_184_8 ?_
  refine r_isub F_184_9 rfl ?_
  refine r_stat2 (A := [vI i, vI 0, vI ((s 83 0) - 1)]) (r := []) (n := 3) F_184_10 o_184 il_6_67 (by decide) rfl rfl rfl rfl (lay_le n_160 rfl) ?_
  refine Cl_of n_160 rfl ?_
  show Rn _ _ _ _ [some (vI i), some (vI 0), some (vI ((s 83 0) - 1))] [] _ _
  refine r_ldI_n (m := 0) F_160_0 rfl ?_
  refine r_ldI_n (m := 1) F_160_1 rfl ?_
  refine r_icmp (t := 14) F_160_2 rfl l1 (by decide) ?_ ?_
  · intro e1
    replace e1 : i < 0 := e1
    refine r_iconst F_160_14 ?_
    refine r_zreturn F_160_15 rt_160 (Or.inl rfl) ?_
    show Rn _ _ _ _ _ [vI 0] _ _
    refine r_zreturn F_184_13 rt_184 (Or.inl rfl) ?_
    show Rn _ _ _ _ _ [vI 0] _ _
    refine r_ifT (t := 15) F_234_5 rfl (by decide) (by show (0 : Int) = 0; decide) ?_
    refine r_iconst F_234_15 ?_
    refine r_ireturn F_234_16 rt_234 ?_
    exact (l2 e1)
  · intro e2
    replace e2 : 0 ≤ i := (Int.not_lt.mp e2)
    refine r_ldI_n (m := 0) F_160_5 rfl ?_
    refine r_ldI_n (m := 2) F_160_6 rfl ?_
    refine r_icmp (t := 14) F_160_7 rfl l1 (l3 e2) ?_ ?_
    · intro e3
      replace e3 : ((s 83 0) - 1) < i := e3
      refine r_iconst F_160_14 ?_
      refine r_zreturn F_160_15 rt_160 (Or.inl rfl) ?_
      show Rn _ _ _ _ _ [vI 0] _ _
      refine r_zreturn F_184_13 rt_184 (Or.inl rfl) ?_
      show Rn _ _ _ _ _ [vI 0] _ _
      refine r_ifT (t := 15) F_234_5 rfl (by decide) (by show (0 : Int) = 0; decide) ?_
      refine r_iconst F_234_15 ?_
      refine r_ireturn F_234_16 rt_234 ?_
      exact (l4 e2 e3)
    · intro e4
      replace e4 : i ≤ ((s 83 0) - 1) := (Int.not_lt.mp e4)
      refine r_iconst F_160_10 ?_
      refine r_goto (t := 15) F_160_11 rfl ?_
      refine r_zreturn F_160_15 rt_160 (Or.inr rfl) ?_
      show Rn _ _ _ _ _ [vI 1] _ _
      refine r_zreturn F_184_13 rt_184 (Or.inr rfl) ?_
      show Rn _ _ _ _ _ [vI 1] _ _
      refine r_ifF (t := 15) F_234_5 rfl (by decide) (by show ¬ ((1 : Int) = 0); decide) ?_
      refine r_ldI_n (m := 2) F_234_8 rfl ?_
      refine r_stat2 (A := [vI r]) (r := []) (n := 1) F_234_9 o_234 il_6_71 (by decide) rfl rfl rfl rfl (lay_le n_159 rfl) ?_
      refine Cl_of n_159 rfl ?_
      show Rn _ _ _ _ [some (vI r)] [] _ _
      refine r_ldI_n (m := 0) F_159_0 rfl ?_
      refine r_iconst F_159_1 ?_
      refine r_iconst F_159_2 ?_
      refine r_stat2 (A := [vI r, vI 0, vI 5]) (r := []) (n := 3) F_159_3 o_159 il_6_67 (by decide) rfl rfl rfl rfl (lay_le n_160 rfl) ?_
      refine Cl_of n_160 rfl ?_
      show Rn _ _ _ _ [some (vI r), some (vI 0), some (vI 5)] [] _ _
      refine r_ldI_n (m := 0) F_160_0 rfl ?_
      refine r_ldI_n (m := 1) F_160_1 rfl ?_
      refine r_icmp (t := 14) F_160_2 rfl (l5 e2 e4) (by decide) ?_ ?_
      · intro e5
        replace e5 : r < 0 := e5
        refine r_iconst F_160_14 ?_
        refine r_zreturn F_160_15 rt_160 (Or.inl rfl) ?_
        show Rn _ _ _ _ _ [vI 0] _ _
        refine r_zreturn F_159_6 rt_159 (Or.inl rfl) ?_
        show Rn _ _ _ _ _ [vI 0] _ _
        refine r_ifF (t := 17) F_234_12 rfl (by decide) (by show ¬ (¬ (0 : Int) = 0); decide) ?_
        refine r_iconst F_234_15 ?_
        refine r_ireturn F_234_16 rt_234 ?_
        exact (l6 e2 e4 e5)
      · intro e6
        replace e6 : 0 ≤ r := (Int.not_lt.mp e6)
        refine r_ldI_n (m := 0) F_160_5 rfl ?_
        refine r_ldI_n (m := 2) F_160_6 rfl ?_
        refine r_icmp (t := 14) F_160_7 rfl (l5 e2 e4) (by decide) ?_ ?_
        · intro e7
          replace e7 : 5 < r := e7
          refine r_iconst F_160_14 ?_
          refine r_zreturn F_160_15 rt_160 (Or.inl rfl) ?_
          show Rn _ _ _ _ _ [vI 0] _ _
          refine r_zreturn F_159_6 rt_159 (Or.inl rfl) ?_
          show Rn _ _ _ _ _ [vI 0] _ _
          refine r_ifF (t := 17) F_234_12 rfl (by decide) (by show ¬ (¬ (0 : Int) = 0); decide) ?_
          refine r_iconst F_234_15 ?_
          refine r_ireturn F_234_16 rt_234 ?_
          exact (l7 e2 e4 e6 e7)
        · intro e8
          replace e8 : r ≤ 5 := (Int.not_lt.mp e8)
          refine r_iconst F_160_10 ?_
          refine r_goto (t := 15) F_160_11 rfl ?_
          refine r_zreturn F_160_15 rt_160 (Or.inr rfl) ?_
          show Rn _ _ _ _ _ [vI 1] _ _
          refine r_zreturn F_159_6 rt_159 (Or.inr rfl) ?_
          show Rn _ _ _ _ _ [vI 1] _ _
          refine r_ifT (t := 17) F_234_12 rfl (by decide) (by show ¬ (1 : Int) = 0; decide) ?_
          refine r_ldR_n (m := 0) F_234_17 rfl ?_
          refine r_getR (J := 0) F_234_18 o_234 fl_6_7 ty_77 (by decide) rfl (kd2 kd_77_0 (by decide)) (kd9 kd_77_0 (by decide)) rf_77_0 ?_
          refine r_ldI_n (m := 2) F_234_21 rfl ?_
          refine r_iald (e := (s 78 r)) F_234_22 ty_78 e6 (lt_ln ln_78 (l8 e2 e4 e6 e8)) rfl ?_
          refine r_if (t := 32) F_234_23 rfl (l9 e2 e4 e6 e8) ?_ ?_
          · intro e9
            replace e9 : 0 ≤ (s 78 r) := e9
            refine r_ldR_n (m := 0) F_234_32 rfl ?_
            refine r_getR (J := 0) F_234_33 o_234 fl_6_7 ty_77 (by decide) rfl (kd2 kd_77_0 (by decide)) (kd9 kd_77_0 (by decide)) rf_77_0 ?_
            refine r_ldI_n (m := 2) F_234_36 rfl ?_
            refine r_iald (e := (s 78 r)) F_234_37 ty_78 e6 (lt_ln ln_78 (l8 e2 e4 e6 e8)) rfl ?_
            refine r_iconst F_234_38 ?_
            refine r_irem F_234_39 (l9 e2 e4 e6 e8) e9 (by decide) (by decide) ?_
            refine r_if (t := 49) F_234_40 rfl (l10 e2 e4 e6 e8 e9) ?_ ?_
            · intro e10
              replace e10 : ((s 78 r) % 3) = 0 := e10
              refine r_iconst F_234_49 ?_
              refine r_stI_n (m := 3) (L' := [some (vR 77), some (vI i), some (vI r), some (vI 1), none, none]) F_234_50 rfl rfl ?_
              refine r_iconst F_234_51 ?_
              refine r_stI (m := 4) (L' := [some (vR 77), some (vI i), some (vI r), some (vI 1), some (vI 0), none]) F_234_52 rfl rfl ?_
              exact (l11 e2 e4 e6 e8 e9 e10)
            · intro e11
              replace e11 : ¬ ((s 78 r) % 3) = 0 := e11
              refine r_ldR_n (m := 0) F_234_43 rfl ?_
              refine r_iconst F_234_44 ?_
              refine r_virt2 (A := [vI 5]) (r := []) (n := 1) F_234_45 o_234 il_6_75 rfl rfl rfl rfl ty_77 vy_161 (lay_le n_161 rfl) ?_
              refine Cl_of n_161 rfl ?_
              show Rn _ _ _ _ [some (vR 77), some (vI 5)] [] _ _
              refine r_ldR_n (m := 0) F_161_0 rfl ?_
              refine r_ldI_n (m := 1) F_161_1 rfl ?_
              refine r_putI (J := 10) F_161_2 o_161 fl_6_57 ty_77 (by decide) rfl kd_77_10 pf_6_10 ?_
              refine r_ldR_n (m := 0) F_161_5 rfl ?_
              refine r_getR (J := 9) F_161_6 o_161 fl_6_38 ty_77 (by decide) rfl (kd2 kd_77_9 (by decide)) (kd9 kd_77_9 (by decide)) rf_77_9 ?_
              refine r_ldI_n (m := 1) F_161_9 rfl ?_
              refine r_dup2 F_161_10 ?_
              refine r_iald (e := (s 87 5)) F_161_11 ty_87 (by decide) (lt_ln ln_87 (by decide)) (upd_nc (by decide)) ?_
              refine r_iconst F_161_12 ?_
              refine r_iadd F_161_13 rfl ?_
              refine r_iast F_161_14 ty_87 (by decide) (lt_ln ln_87 (by decide)) ?_
              refine r_bipush F_161_15 bi__3 ?_
              refine r_ireturn F_161_17 rt_161 ?_
              show Rn _ _ _ _ _ [vI (-3)] _ _
              refine r_ireturn F_234_48 rt_234 ?_
              exact (l12 e2 e4 e6 e8 e9 e11)
          · intro e12
            replace e12 : (s 78 r) < 0 := (Int.not_le.mp e12)
            refine r_ldR_n (m := 0) F_234_26 rfl ?_
            refine r_iconst F_234_27 ?_
            refine r_virt2 (A := [vI 1]) (r := []) (n := 1) F_234_28 o_234 il_6_75 rfl rfl rfl rfl ty_77 vy_161 (lay_le n_161 rfl) ?_
            refine Cl_of n_161 rfl ?_
            show Rn _ _ _ _ [some (vR 77), some (vI 1)] [] _ _
            refine r_ldR_n (m := 0) F_161_0 rfl ?_
            refine r_ldI_n (m := 1) F_161_1 rfl ?_
            refine r_putI (J := 10) F_161_2 o_161 fl_6_57 ty_77 (by decide) rfl kd_77_10 pf_6_10 ?_
            refine r_ldR_n (m := 0) F_161_5 rfl ?_
            refine r_getR (J := 9) F_161_6 o_161 fl_6_38 ty_77 (by decide) rfl (kd2 kd_77_9 (by decide)) (kd9 kd_77_9 (by decide)) rf_77_9 ?_
            refine r_ldI_n (m := 1) F_161_9 rfl ?_
            refine r_dup2 F_161_10 ?_
            refine r_iald (e := (s 87 1)) F_161_11 ty_87 (by decide) (lt_ln ln_87 (by decide)) (upd_nc (by decide)) ?_
            refine r_iconst F_161_12 ?_
            refine r_iadd F_161_13 rfl ?_
            refine r_iast F_161_14 ty_87 (by decide) (lt_ln ln_87 (by decide)) ?_
            refine r_bipush F_161_15 bi__3 ?_
            refine r_ireturn F_161_17 rt_161 ?_
            show Rn _ _ _ _ _ [vI (-3)] _ _
            refine r_ireturn F_234_31 rt_234 ?_
            exact (l13 e2 e4 e6 e8 e12)
theorem t_X6_barred_54 {X : List Int32} {d : Nat} {s : m_St} {P : Option Value → m_St → Prop} {i r b k : Int} {z5 : Option Value} (h0 : 0 ≤ r) (h6 : r < 6) (k0 : 0 ≤ k)
    (l1 : inR k)
    (l2 : inR (s 78 r))
    (l3 : (s 78 r) ≤ k → inR b)
    (l4 : (s 78 r) ≤ k → b = 0 → P (some (vI (-3))) (m_upd (m_upd s 77 10 3) 87 3 ((s 87 3) + 1)))
    (l5 : (s 78 r) ≤ k → ¬ b = 0 → P (some (vI 0)) s)
    (l6 : k < (s 78 r) → inR b)
    (l7 : k < (s 78 r) → b = 0 → Rn X (d + 2) 234 54 [some (vR 77), some (vI i), some (vI r), some (vI 0), some (vI (k + 3)), some (vI ((40 * r) + k))] [] s P)
    (l8 : k < (s 78 r) → ¬ b = 0 → 0 ≤ ((40 * r) + k))
    (l9 : k < (s 78 r) → ¬ b = 0 → ((40 * r) + k) < 240)
    (l10 : k < (s 78 r) → ¬ b = 0 → inR (s 79 ((40 * r) + k)))
    (l11 : k < (s 78 r) → ¬ b = 0 → (s 79 ((40 * r) + k)) < 0 → Rn X (d + 2) 234 54 [some (vR 77), some (vI i), some (vI r), some (vI 0), some (vI (k + 3)), some (vI ((40 * r) + k))] [] s P)
    (l12 : k < (s 78 r) → ¬ b = 0 → 0 ≤ (s 79 ((40 * r) + k)) → 3 < (s 79 ((40 * r) + k)) → Rn X (d + 2) 234 54 [some (vR 77), some (vI i), some (vI r), some (vI 0), some (vI (k + 3)), some (vI ((40 * r) + k))] [] s P)
    (l13 : k < (s 78 r) → ¬ b = 0 → 0 ≤ (s 79 ((40 * r) + k)) → (s 79 ((40 * r) + k)) ≤ 3 → 0 ≤ (((40 * r) + k) + 1))
    (l14 : k < (s 78 r) → ¬ b = 0 → 0 ≤ (s 79 ((40 * r) + k)) → (s 79 ((40 * r) + k)) ≤ 3 → (((40 * r) + k) + 1) < 240)
    (l15 : k < (s 78 r) → ¬ b = 0 → 0 ≤ (s 79 ((40 * r) + k)) → (s 79 ((40 * r) + k)) ≤ 3 → inR (s 79 (((40 * r) + k) + 1)))
    (l16 : k < (s 78 r) → ¬ b = 0 → 0 ≤ (s 79 ((40 * r) + k)) → (s 79 ((40 * r) + k)) ≤ 3 → (s 79 (((40 * r) + k) + 1)) < 0 → Rn X (d + 2) 234 54 [some (vR 77), some (vI i), some (vI r), some (vI 0), some (vI (k + 3)), some (vI ((40 * r) + k))] [] s P)
    (l17 : k < (s 78 r) → ¬ b = 0 → 0 ≤ (s 79 ((40 * r) + k)) → (s 79 ((40 * r) + k)) ≤ 3 → 0 ≤ (s 79 (((40 * r) + k) + 1)) → 20 < (s 79 (((40 * r) + k) + 1)) → Rn X (d + 2) 234 54 [some (vR 77), some (vI i), some (vI r), some (vI 0), some (vI (k + 3)), some (vI ((40 * r) + k))] [] s P)
    (l18 : k < (s 78 r) → ¬ b = 0 → 0 ≤ (s 79 ((40 * r) + k)) → (s 79 ((40 * r) + k)) ≤ 3 → 0 ≤ (s 79 (((40 * r) + k) + 1)) → (s 79 (((40 * r) + k) + 1)) ≤ 20 → 0 ≤ (((40 * r) + k) + 2))
    (l19 : k < (s 78 r) → ¬ b = 0 → 0 ≤ (s 79 ((40 * r) + k)) → (s 79 ((40 * r) + k)) ≤ 3 → 0 ≤ (s 79 (((40 * r) + k) + 1)) → (s 79 (((40 * r) + k) + 1)) ≤ 20 → (((40 * r) + k) + 2) < 240)
    (l20 : k < (s 78 r) → ¬ b = 0 → 0 ≤ (s 79 ((40 * r) + k)) → (s 79 ((40 * r) + k)) ≤ 3 → 0 ≤ (s 79 (((40 * r) + k) + 1)) → (s 79 (((40 * r) + k) + 1)) ≤ 20 → inR (s 79 (((40 * r) + k) + 2)))
    (l21 : k < (s 78 r) → ¬ b = 0 → 0 ≤ (s 79 ((40 * r) + k)) → (s 79 ((40 * r) + k)) ≤ 3 → 0 ≤ (s 79 (((40 * r) + k) + 1)) → (s 79 (((40 * r) + k) + 1)) ≤ 20 → (s 79 (((40 * r) + k) + 2)) < 9 → Rn X (d + 2) 234 54 [some (vR 77), some (vI i), some (vI r), some (vI 0), some (vI (k + 3)), some (vI ((40 * r) + k))] [] s P)
    (l22 : k < (s 78 r) → ¬ b = 0 → 0 ≤ (s 79 ((40 * r) + k)) → (s 79 ((40 * r) + k)) ≤ 3 → 0 ≤ (s 79 (((40 * r) + k) + 1)) → (s 79 (((40 * r) + k) + 1)) ≤ 20 → 9 ≤ (s 79 (((40 * r) + k) + 2)) → 13 < (s 79 (((40 * r) + k) + 2)) → Rn X (d + 2) 234 54 [some (vR 77), some (vI i), some (vI r), some (vI 0), some (vI (k + 3)), some (vI ((40 * r) + k))] [] s P)
    (l23 : k < (s 78 r) → ¬ b = 0 → 0 ≤ (s 79 ((40 * r) + k)) → (s 79 ((40 * r) + k)) ≤ 3 → 0 ≤ (s 79 (((40 * r) + k) + 1)) → (s 79 (((40 * r) + k) + 1)) ≤ 20 → 9 ≤ (s 79 (((40 * r) + k) + 2)) → (s 79 (((40 * r) + k) + 2)) ≤ 13 → Rn X (d + 2) 234 54 [some (vR 77), some (vI i), some (vI r), some (vI 1), some (vI (k + 3)), some (vI ((40 * r) + k))] [] s P)
    : Rn X (d + 2) 234 54 [some (vR 77), some (vI i), some (vI r), some (vI b), some (vI k), z5] [] s P := by
  refine r_ldI (m := 4) F_234_54 rfl ?_
  refine r_ldR_n (m := 0) F_234_56 rfl ?_
  refine r_getR (J := 0) F_234_57 o_234 fl_6_7 ty_77 (by decide) rfl (kd2 kd_77_0 (by decide)) (kd9 kd_77_0 (by decide)) rf_77_0 ?_
  refine r_ldI_n (m := 2) F_234_60 rfl ?_
  refine r_iald (e := (s 78 r)) F_234_61 ty_78 h0 (lt_ln ln_78 h6) rfl ?_
  refine r_icmp (t := 140) F_234_62 rfl l1 l2 ?_ ?_
  · intro e1
    replace e1 : (s 78 r) ≤ k := e1
    refine r_ldI_n (m := 3) F_234_140 rfl ?_
    refine r_if (t := 148) F_234_141 rfl (l3 e1) ?_ ?_
    · intro e2
      replace e2 : b = 0 := e2
      refine r_ldR_n (m := 0) F_234_148 rfl ?_
      refine r_iconst F_234_149 ?_
      refine r_virt2 (A := [vI 3]) (r := []) (n := 1) F_234_150 o_234 il_6_75 rfl rfl rfl rfl ty_77 vy_161 (lay_le n_161 rfl) ?_
      refine Cl_of n_161 rfl ?_
      show Rn _ _ _ _ [some (vR 77), some (vI 3)] [] _ _
      refine r_ldR_n (m := 0) F_161_0 rfl ?_
      refine r_ldI_n (m := 1) F_161_1 rfl ?_
      refine r_putI (J := 10) F_161_2 o_161 fl_6_57 ty_77 (by decide) rfl kd_77_10 pf_6_10 ?_
      refine r_ldR_n (m := 0) F_161_5 rfl ?_
      refine r_getR (J := 9) F_161_6 o_161 fl_6_38 ty_77 (by decide) rfl (kd2 kd_77_9 (by decide)) (kd9 kd_77_9 (by decide)) rf_77_9 ?_
      refine r_ldI_n (m := 1) F_161_9 rfl ?_
      refine r_dup2 F_161_10 ?_
      refine r_iald (e := (s 87 3)) F_161_11 ty_87 (by decide) (lt_ln ln_87 (by decide)) (upd_nc (by decide)) ?_
      refine r_iconst F_161_12 ?_
      refine r_iadd F_161_13 rfl ?_
      refine r_iast F_161_14 ty_87 (by decide) (lt_ln ln_87 (by decide)) ?_
      refine r_bipush F_161_15 bi__3 ?_
      refine r_ireturn F_161_17 rt_161 ?_
      show Rn _ _ _ _ _ [vI (-3)] _ _
      refine r_ireturn F_234_153 rt_234 ?_
      exact (l4 e1 e2)
    · intro e3
      replace e3 : ¬ b = 0 := e3
      refine r_iconst F_234_144 ?_
      refine r_goto (t := 153) F_234_145 rfl ?_
      refine r_ireturn F_234_153 rt_234 ?_
      exact (l5 e1 e3)
  · intro e4
    replace e4 : k < (s 78 r) := (Int.not_le.mp e4)
    refine r_bipush F_234_65 bi_40 ?_
    refine r_ldI_n (m := 2) F_234_67 rfl ?_
    refine r_imul F_234_68 rfl ?_
    refine r_ldI (m := 4) F_234_69 rfl ?_
    refine r_iadd F_234_71 rfl ?_
    refine r_stI (m := 5) (L' := [some (vR 77), some (vI i), some (vI r), some (vI b), some (vI k), some (vI ((40 * r) + k))]) F_234_72 rfl rfl ?_
    refine r_ldI_n (m := 3) F_234_74 rfl ?_
    refine r_if (t := 132) F_234_75 rfl (l6 e4) ?_ ?_
    · intro e5
      replace e5 : b = 0 := e5
      refine r_iconst F_234_132 ?_
      refine r_stI_n (m := 3) (L' := [some (vR 77), some (vI i), some (vI r), some (vI 0), some (vI k), some (vI ((40 * r) + k))]) F_234_133 rfl rfl ?_
      refine r_iinc (m := 4) (e := (k + 3)) (L' := [some (vR 77), some (vI i), some (vI r), some (vI 0), some (vI (k + 3)), some (vI ((40 * r) + k))]) F_234_134 rfl rfl rfl rfl ?_
      refine r_goto (t := 54) F_234_137 rfl ?_
      exact (l7 e4 e5)
    · intro e6
      replace e6 : ¬ b = 0 := e6
      refine r_ldR_n (m := 0) F_234_78 rfl ?_
      refine r_getR (J := 1) F_234_79 o_234 fl_6_13 ty_77 (by decide) rfl (kd2 kd_77_1 (by decide)) (kd9 kd_77_1 (by decide)) rf_77_1 ?_
      refine r_ldI (m := 5) F_234_82 rfl ?_
      refine r_iald (e := (s 79 ((40 * r) + k))) F_234_84 ty_79 (l8 e4 e6) (lt_ln ln_79 (l9 e4 e6)) rfl ?_
      refine r_stat2 (A := [vI (s 79 ((40 * r) + k))]) (r := []) (n := 1) F_234_85 o_234 il_6_165 (by decide) rfl rfl rfl rfl (lay_le n_198 rfl) ?_
      refine Cl_of n_198 rfl ?_
      show Rn _ _ _ _ [some (vI (s 79 ((40 * r) + k)))] [] _ _
      refine r_ldI_n (m := 0) F_198_0 rfl ?_
      refine r_iconst F_198_1 ?_
      refine r_iconst F_198_2 ?_
      refine r_stat2 (A := [vI (s 79 ((40 * r) + k)), vI 0, vI 3]) (r := []) (n := 3) F_198_3 o_198 il_6_67 (by decide) rfl rfl rfl rfl (lay_le n_160 rfl) ?_
      refine Cl_of n_160 rfl ?_
      show Rn _ _ _ _ [some (vI (s 79 ((40 * r) + k))), some (vI 0), some (vI 3)] [] _ _
      refine r_ldI_n (m := 0) F_160_0 rfl ?_
      refine r_ldI_n (m := 1) F_160_1 rfl ?_
      refine r_icmp (t := 14) F_160_2 rfl (l10 e4 e6) (by decide) ?_ ?_
      · intro e7
        replace e7 : (s 79 ((40 * r) + k)) < 0 := e7
        refine r_iconst F_160_14 ?_
        refine r_zreturn F_160_15 rt_160 (Or.inl rfl) ?_
        show Rn _ _ _ _ _ [vI 0] _ _
        refine r_zreturn F_198_6 rt_198 (Or.inl rfl) ?_
        show Rn _ _ _ _ _ [vI 0] _ _
        refine r_ifT (t := 132) F_234_88 rfl (by decide) (by show (0 : Int) = 0; decide) ?_
        refine r_iconst F_234_132 ?_
        refine r_stI_n (m := 3) (L' := [some (vR 77), some (vI i), some (vI r), some (vI 0), some (vI k), some (vI ((40 * r) + k))]) F_234_133 rfl rfl ?_
        refine r_iinc (m := 4) (e := (k + 3)) (L' := [some (vR 77), some (vI i), some (vI r), some (vI 0), some (vI (k + 3)), some (vI ((40 * r) + k))]) F_234_134 rfl rfl rfl rfl ?_
        refine r_goto (t := 54) F_234_137 rfl ?_
        exact (l11 e4 e6 e7)
      · intro e8
        replace e8 : 0 ≤ (s 79 ((40 * r) + k)) := (Int.not_lt.mp e8)
        refine r_ldI_n (m := 0) F_160_5 rfl ?_
        refine r_ldI_n (m := 2) F_160_6 rfl ?_
        refine r_icmp (t := 14) F_160_7 rfl (l10 e4 e6) (by decide) ?_ ?_
        · intro e9
          replace e9 : 3 < (s 79 ((40 * r) + k)) := e9
          refine r_iconst F_160_14 ?_
          refine r_zreturn F_160_15 rt_160 (Or.inl rfl) ?_
          show Rn _ _ _ _ _ [vI 0] _ _
          refine r_zreturn F_198_6 rt_198 (Or.inl rfl) ?_
          show Rn _ _ _ _ _ [vI 0] _ _
          refine r_ifT (t := 132) F_234_88 rfl (by decide) (by show (0 : Int) = 0; decide) ?_
          refine r_iconst F_234_132 ?_
          refine r_stI_n (m := 3) (L' := [some (vR 77), some (vI i), some (vI r), some (vI 0), some (vI k), some (vI ((40 * r) + k))]) F_234_133 rfl rfl ?_
          refine r_iinc (m := 4) (e := (k + 3)) (L' := [some (vR 77), some (vI i), some (vI r), some (vI 0), some (vI (k + 3)), some (vI ((40 * r) + k))]) F_234_134 rfl rfl rfl rfl ?_
          refine r_goto (t := 54) F_234_137 rfl ?_
          exact (l12 e4 e6 e8 e9)
        · intro e10
          replace e10 : (s 79 ((40 * r) + k)) ≤ 3 := (Int.not_lt.mp e10)
          refine r_iconst F_160_10 ?_
          refine r_goto (t := 15) F_160_11 rfl ?_
          refine r_zreturn F_160_15 rt_160 (Or.inr rfl) ?_
          show Rn _ _ _ _ _ [vI 1] _ _
          refine r_zreturn F_198_6 rt_198 (Or.inr rfl) ?_
          show Rn _ _ _ _ _ [vI 1] _ _
          refine r_ifF (t := 132) F_234_88 rfl (by decide) (by show ¬ ((1 : Int) = 0); decide) ?_
          refine r_ldR_n (m := 0) F_234_91 rfl ?_
          refine r_getR (J := 1) F_234_92 o_234 fl_6_13 ty_77 (by decide) rfl (kd2 kd_77_1 (by decide)) (kd9 kd_77_1 (by decide)) rf_77_1 ?_
          refine r_ldI (m := 5) F_234_95 rfl ?_
          refine r_iconst F_234_97 ?_
          refine r_iadd F_234_98 rfl ?_
          refine r_iald (e := (s 79 (((40 * r) + k) + 1))) F_234_99 ty_79 (l13 e4 e6 e8 e10) (lt_ln ln_79 (l14 e4 e6 e8 e10)) rfl ?_
          refine r_iconst F_234_100 ?_
          refine r_bipush F_234_101 bi_20 ?_
          refine r_stat2 (A := [vI (s 79 (((40 * r) + k) + 1)), vI 0, vI 20]) (r := []) (n := 3) F_234_103 o_234 il_6_67 (by decide) rfl rfl rfl rfl (lay_le n_160 rfl) ?_
          refine Cl_of n_160 rfl ?_
          show Rn _ _ _ _ [some (vI (s 79 (((40 * r) + k) + 1))), some (vI 0), some (vI 20)] [] _ _
          refine r_ldI_n (m := 0) F_160_0 rfl ?_
          refine r_ldI_n (m := 1) F_160_1 rfl ?_
          refine r_icmp (t := 14) F_160_2 rfl (l15 e4 e6 e8 e10) (by decide) ?_ ?_
          · intro e11
            replace e11 : (s 79 (((40 * r) + k) + 1)) < 0 := e11
            refine r_iconst F_160_14 ?_
            refine r_zreturn F_160_15 rt_160 (Or.inl rfl) ?_
            show Rn _ _ _ _ _ [vI 0] _ _
            refine r_ifT (t := 132) F_234_106 rfl (by decide) (by show (0 : Int) = 0; decide) ?_
            refine r_iconst F_234_132 ?_
            refine r_stI_n (m := 3) (L' := [some (vR 77), some (vI i), some (vI r), some (vI 0), some (vI k), some (vI ((40 * r) + k))]) F_234_133 rfl rfl ?_
            refine r_iinc (m := 4) (e := (k + 3)) (L' := [some (vR 77), some (vI i), some (vI r), some (vI 0), some (vI (k + 3)), some (vI ((40 * r) + k))]) F_234_134 rfl rfl rfl rfl ?_
            refine r_goto (t := 54) F_234_137 rfl ?_
            exact (l16 e4 e6 e8 e10 e11)
          · intro e12
            replace e12 : 0 ≤ (s 79 (((40 * r) + k) + 1)) := (Int.not_lt.mp e12)
            refine r_ldI_n (m := 0) F_160_5 rfl ?_
            refine r_ldI_n (m := 2) F_160_6 rfl ?_
            refine r_icmp (t := 14) F_160_7 rfl (l15 e4 e6 e8 e10) (by decide) ?_ ?_
            · intro e13
              replace e13 : 20 < (s 79 (((40 * r) + k) + 1)) := e13
              refine r_iconst F_160_14 ?_
              refine r_zreturn F_160_15 rt_160 (Or.inl rfl) ?_
              show Rn _ _ _ _ _ [vI 0] _ _
              refine r_ifT (t := 132) F_234_106 rfl (by decide) (by show (0 : Int) = 0; decide) ?_
              refine r_iconst F_234_132 ?_
              refine r_stI_n (m := 3) (L' := [some (vR 77), some (vI i), some (vI r), some (vI 0), some (vI k), some (vI ((40 * r) + k))]) F_234_133 rfl rfl ?_
              refine r_iinc (m := 4) (e := (k + 3)) (L' := [some (vR 77), some (vI i), some (vI r), some (vI 0), some (vI (k + 3)), some (vI ((40 * r) + k))]) F_234_134 rfl rfl rfl rfl ?_
              refine r_goto (t := 54) F_234_137 rfl ?_
              exact (l17 e4 e6 e8 e10 e12 e13)
            · intro e14
              replace e14 : (s 79 (((40 * r) + k) + 1)) ≤ 20 := (Int.not_lt.mp e14)
              refine r_iconst F_160_10 ?_
              refine r_goto (t := 15) F_160_11 rfl ?_
              refine r_zreturn F_160_15 rt_160 (Or.inr rfl) ?_
              show Rn _ _ _ _ _ [vI 1] _ _
              refine r_ifF (t := 132) F_234_106 rfl (by decide) (by show ¬ ((1 : Int) = 0); decide) ?_
              refine r_ldR_n (m := 0) F_234_109 rfl ?_
              refine r_getR (J := 1) F_234_110 o_234 fl_6_13 ty_77 (by decide) rfl (kd2 kd_77_1 (by decide)) (kd9 kd_77_1 (by decide)) rf_77_1 ?_
              refine r_ldI (m := 5) F_234_113 rfl ?_
              refine r_iconst F_234_115 ?_
              refine r_iadd F_234_116 rfl ?_
              refine r_iald (e := (s 79 (((40 * r) + k) + 2))) F_234_117 ty_79 (l18 e4 e6 e8 e10 e12 e14) (lt_ln ln_79 (l19 e4 e6 e8 e10 e12 e14)) rfl ?_
              refine r_bipush F_234_118 bi_9 ?_
              refine r_bipush F_234_120 bi_13 ?_
              refine r_stat2 (A := [vI (s 79 (((40 * r) + k) + 2)), vI 9, vI 13]) (r := []) (n := 3) F_234_122 o_234 il_6_67 (by decide) rfl rfl rfl rfl (lay_le n_160 rfl) ?_
              refine Cl_of n_160 rfl ?_
              show Rn _ _ _ _ [some (vI (s 79 (((40 * r) + k) + 2))), some (vI 9), some (vI 13)] [] _ _
              refine r_ldI_n (m := 0) F_160_0 rfl ?_
              refine r_ldI_n (m := 1) F_160_1 rfl ?_
              refine r_icmp (t := 14) F_160_2 rfl (l20 e4 e6 e8 e10 e12 e14) (by decide) ?_ ?_
              · intro e15
                replace e15 : (s 79 (((40 * r) + k) + 2)) < 9 := e15
                refine r_iconst F_160_14 ?_
                refine r_zreturn F_160_15 rt_160 (Or.inl rfl) ?_
                show Rn _ _ _ _ _ [vI 0] _ _
                refine r_ifT (t := 132) F_234_125 rfl (by decide) (by show (0 : Int) = 0; decide) ?_
                refine r_iconst F_234_132 ?_
                refine r_stI_n (m := 3) (L' := [some (vR 77), some (vI i), some (vI r), some (vI 0), some (vI k), some (vI ((40 * r) + k))]) F_234_133 rfl rfl ?_
                refine r_iinc (m := 4) (e := (k + 3)) (L' := [some (vR 77), some (vI i), some (vI r), some (vI 0), some (vI (k + 3)), some (vI ((40 * r) + k))]) F_234_134 rfl rfl rfl rfl ?_
                refine r_goto (t := 54) F_234_137 rfl ?_
                exact (l21 e4 e6 e8 e10 e12 e14 e15)
              · intro e16
                replace e16 : 9 ≤ (s 79 (((40 * r) + k) + 2)) := (Int.not_lt.mp e16)
                refine r_ldI_n (m := 0) F_160_5 rfl ?_
                refine r_ldI_n (m := 2) F_160_6 rfl ?_
                refine r_icmp (t := 14) F_160_7 rfl (l20 e4 e6 e8 e10 e12 e14) (by decide) ?_ ?_
                · intro e17
                  replace e17 : 13 < (s 79 (((40 * r) + k) + 2)) := e17
                  refine r_iconst F_160_14 ?_
                  refine r_zreturn F_160_15 rt_160 (Or.inl rfl) ?_
                  show Rn _ _ _ _ _ [vI 0] _ _
                  refine r_ifT (t := 132) F_234_125 rfl (by decide) (by show (0 : Int) = 0; decide) ?_
                  refine r_iconst F_234_132 ?_
                  refine r_stI_n (m := 3) (L' := [some (vR 77), some (vI i), some (vI r), some (vI 0), some (vI k), some (vI ((40 * r) + k))]) F_234_133 rfl rfl ?_
                  refine r_iinc (m := 4) (e := (k + 3)) (L' := [some (vR 77), some (vI i), some (vI r), some (vI 0), some (vI (k + 3)), some (vI ((40 * r) + k))]) F_234_134 rfl rfl rfl rfl ?_
                  refine r_goto (t := 54) F_234_137 rfl ?_
                  exact (l22 e4 e6 e8 e10 e12 e14 e16 e17)
                · intro e18
                  replace e18 : (s 79 (((40 * r) + k) + 2)) ≤ 13 := (Int.not_lt.mp e18)
                  refine r_iconst F_160_10 ?_
                  refine r_goto (t := 15) F_160_11 rfl ?_
                  refine r_zreturn F_160_15 rt_160 (Or.inr rfl) ?_
                  show Rn _ _ _ _ _ [vI 1] _ _
                  refine r_ifF (t := 132) F_234_125 rfl (by decide) (by show ¬ ((1 : Int) = 0); decide) ?_
                  refine r_iconst F_234_128 ?_
                  refine r_goto (t := 133) F_234_129 rfl ?_
                  refine r_stI_n (m := 3) (L' := [some (vR 77), some (vI i), some (vI r), some (vI 1), some (vI k), some (vI ((40 * r) + k))]) F_234_133 rfl rfl ?_
                  refine r_iinc (m := 4) (e := (k + 3)) (L' := [some (vR 77), some (vI i), some (vI r), some (vI 1), some (vI (k + 3)), some (vI ((40 * r) + k))]) F_234_134 rfl rfl rfl rfl ?_
                  refine r_goto (t := 54) F_234_137 rfl ?_
                  exact (l23 e4 e6 e8 e10 e12 e14 e16 e18)
theorem t_X6_kindsBy {X : List Int32} {d : Nat} {s : m_St} {P : Option Value → m_St → Prop} {i r : Int} (h0 : 0 ≤ r) (h6 : r < 6) (i0 : 0 ≤ i) (i6 : i < 6)
    (l1 : Rn X (d + 2) 235 5 [some (vR 77), some (vI i), some (vI r), some (vI 0), some (vI 0), none, none, none, none] [] s P)
    : Cl X (d + 2) 235 [vR 77, vI i, vI r] s P := by
  refine Cl_of n_235 rfl ?_
  show Rn _ _ _ _ [some (vR 77), some (vI i), some (vI r), none, none, none, none, none, none] [] _ _
  refine r_iconst F_235_0 ?_
  refine r_stI_n (m := 3) (L' := [some (vR 77), some (vI i), some (vI r), some (vI 0), none, none, none, none, none]) F_235_1 rfl rfl ?_
  refine r_iconst F_235_2 ?_
  refine r_stI (m := 4) (L' := [some (vR 77), some (vI i), some (vI r), some (vI 0), some (vI 0), none, none, none, none]) F_235_3 rfl rfl ?_
  exact l1
theorem t_X6_kindsBy_5 {X : List Int32} {d : Nat} {s : m_St} {P : Option Value → m_St → Prop} {i r z q : Int} {z5 z6 z7 z8 : Option Value} (h0 : 0 ≤ r) (h6 : r < 6) (i0 : 0 ≤ i) (i6 : i < 6) (q0 : 0 ≤ q)
    (l1 : inR q)
    (l2 : 6 ≤ q → P (some (vI z)) s)
    (l3 : q < 6 → Rn X (d + 2) 235 18 [some (vR 77), some (vI i), some (vI r), some (vI z), some (vI q), some (vI 1), some (vI 0), z7, z8] [] s P)
    : Rn X (d + 2) 235 5 [some (vR 77), some (vI i), some (vI r), some (vI z), some (vI q), z5, z6, z7, z8] [] s P := by
  refine r_ldI (m := 4) F_235_5 rfl ?_
  refine r_bipush F_235_7 bi_6 ?_
  refine r_icmp (t := 178) F_235_9 rfl l1 (by decide) ?_ ?_
  · intro e1
    replace e1 : 6 ≤ q := e1
    refine r_ldI_n (m := 3) F_235_178 rfl ?_
    refine r_ireturn F_235_179 rt_235 ?_
    exact (l2 e1)
  · intro e2
    replace e2 : q < 6 := (Int.not_le.mp e2)
    refine r_iconst F_235_12 ?_
    refine r_stI (m := 5) (L' := [some (vR 77), some (vI i), some (vI r), some (vI z), some (vI q), some (vI 1), z6, z7, z8]) F_235_13 rfl rfl ?_
    refine r_iconst F_235_15 ?_
    refine r_stI (m := 6) (L' := [some (vR 77), some (vI i), some (vI r), some (vI z), some (vI q), some (vI 1), some (vI 0), z7, z8]) F_235_16 rfl rfl ?_
    exact (l3 e2)
theorem t_X6_kindsBy_18 {X : List Int32} {d : Nat} {s : m_St} {P : Option Value → m_St → Prop} {i r z q b k : Int} {z7 z8 : Option Value} (h0 : 0 ≤ r) (h6 : r < 6) (i0 : 0 ≤ i) (i6 : i < 6) (q0 : 0 ≤ q) (k0 : 0 ≤ k)
    (l1 : inR k)
    (l2 : inR (s 78 r))
    (l3 : (s 78 r) ≤ k → inR b)
    (l4 : (s 78 r) ≤ k → b = 0 → Rn X (d + 2) 235 5 [some (vR 77), some (vI i), some (vI r), some (vI (iOr z 0)), some (vI (q + 1)), some (vI b), some (vI k), z7, z8] [] s P)
    (l5 : (s 78 r) ≤ k → ¬ b = 0 → Rn X (d + 2) 235 5 [some (vR 77), some (vI i), some (vI r), some (vI (iOr z (iShl 1 q))), some (vI (q + 1)), some (vI b), some (vI k), z7, z8] [] s P)
    (l6 : k < (s 78 r) → Rn X (d + 2) 235 41 [some (vR 77), some (vI i), some (vI r), some (vI z), some (vI q), some (vI b), some (vI k), some (vI ((40 * r) + k)), some (vI 0)] [] s P)
    : Rn X (d + 2) 235 18 [some (vR 77), some (vI i), some (vI r), some (vI z), some (vI q), some (vI b), some (vI k), z7, z8] [] s P := by
  refine r_ldI (m := 6) F_235_18 rfl ?_
  refine r_ldR_n (m := 0) F_235_20 rfl ?_
  refine r_getR (J := 0) F_235_21 o_235 fl_6_7 ty_77 (by decide) rfl (kd2 kd_77_0 (by decide)) (kd9 kd_77_0 (by decide)) rf_77_0 ?_
  refine r_ldI_n (m := 2) F_235_24 rfl ?_
  refine r_iald (e := (s 78 r)) F_235_25 ty_78 h0 (lt_ln ln_78 h6) rfl ?_
  refine r_icmp (t := 156) F_235_26 rfl l1 l2 ?_ ?_
  · intro e1
    replace e1 : (s 78 r) ≤ k := e1
    refine r_ldI_n (m := 3) F_235_156 rfl ?_
    refine r_ldI (m := 5) F_235_157 rfl ?_
    refine r_if (t := 169) F_235_159 rfl (l3 e1) ?_ ?_
    · intro e2
      replace e2 : b = 0 := e2
      refine r_iconst F_235_169 ?_
      refine r_ior F_235_170 rfl ?_
      refine r_stI_n (m := 3) (L' := [some (vR 77), some (vI i), some (vI r), some (vI (iOr z 0)), some (vI q), some (vI b), some (vI k), z7, z8]) F_235_171 rfl rfl ?_
      refine r_iinc (m := 4) (e := (q + 1)) (L' := [some (vR 77), some (vI i), some (vI r), some (vI (iOr z 0)), some (vI (q + 1)), some (vI b), some (vI k), z7, z8]) F_235_172 rfl rfl rfl rfl ?_
      refine r_goto (t := 5) F_235_175 rfl ?_
      exact (l4 e1 e2)
    · intro e3
      replace e3 : ¬ b = 0 := e3
      refine r_iconst F_235_162 ?_
      refine r_ldI (m := 4) F_235_163 rfl ?_
      refine r_ishl F_235_165 rfl ?_
      refine r_goto (t := 170) F_235_166 rfl ?_
      refine r_ior F_235_170 rfl ?_
      refine r_stI_n (m := 3) (L' := [some (vR 77), some (vI i), some (vI r), some (vI (iOr z (iShl 1 q))), some (vI q), some (vI b), some (vI k), z7, z8]) F_235_171 rfl rfl ?_
      refine r_iinc (m := 4) (e := (q + 1)) (L' := [some (vR 77), some (vI i), some (vI r), some (vI (iOr z (iShl 1 q))), some (vI (q + 1)), some (vI b), some (vI k), z7, z8]) F_235_172 rfl rfl rfl rfl ?_
      refine r_goto (t := 5) F_235_175 rfl ?_
      exact (l5 e1 e3)
  · intro e4
    replace e4 : k < (s 78 r) := (Int.not_le.mp e4)
    refine r_bipush F_235_29 bi_40 ?_
    refine r_ldI_n (m := 2) F_235_31 rfl ?_
    refine r_imul F_235_32 rfl ?_
    refine r_ldI (m := 6) F_235_33 rfl ?_
    refine r_iadd F_235_35 rfl ?_
    refine r_stI (m := 7) (L' := [some (vR 77), some (vI i), some (vI r), some (vI z), some (vI q), some (vI b), some (vI k), some (vI ((40 * r) + k)), z8]) F_235_36 rfl rfl ?_
    refine r_iconst F_235_38 ?_
    refine r_stI (m := 8) (L' := [some (vR 77), some (vI i), some (vI r), some (vI z), some (vI q), some (vI b), some (vI k), some (vI ((40 * r) + k)), some (vI 0)]) F_235_39 rfl rfl ?_
    exact (l6 e4)
theorem t_X6_kindsBy_41 {X : List Int32} {d : Nat} {s : m_St} {P : Option Value → m_St → Prop} {i r z q b k p c : Int} (h0 : 0 ≤ r) (h6 : r < 6) (i0 : 0 ≤ i) (i6 : i < 6) (q0 : 0 ≤ q) (k0 : 0 ≤ k)
    (l1 : inR c)
    (l2 : 4 ≤ c → inR b)
    (l3 : 4 ≤ c → b = 0 → Rn X (d + 2) 235 18 [some (vR 77), some (vI i), some (vI r), some (vI z), some (vI q), some (vI 0), some (vI (k + 3)), some (vI p), some (vI c)] [] s P)
    (l4 : 4 ≤ c → ¬ b = 0 → inR q)
    (l5 : 4 ≤ c → ¬ b = 0 → (0 : Int) + 3 < 40)
    (l6 : 4 ≤ c → ¬ b = 0 → wr (fun c => s 80 (0 + c)))
    (l7 : 4 ≤ c → ¬ b = 0 → 0 ≤ p)
    (l8 : 4 ≤ c → ¬ b = 0 → p < 240)
    (l9 : 4 ≤ c → ¬ b = 0 → tr (s 38 5) (s 83 7))
    (l10 : 4 ≤ c → ¬ b = 0 → q < 6)
    (l11 : 4 ≤ c → ¬ b = 0 → 0 ≤ (hset (fun c => s 80 (0 + c)) (hf q)))
    (l12 : 4 ≤ c → ¬ b = 0 → (hset (fun c => s 80 (0 + c)) (hf q)) < 16)
    (l13 : 4 ≤ c → ¬ b = 0 → 0 ≤ (s 79 p))
    (l14 : 4 ≤ c → ¬ b = 0 → (s 79 p) < 4)
    (l15 : 4 ≤ c → ¬ b = 0 → 0 ≤ (p + 2))
    (l16 : 4 ≤ c → ¬ b = 0 → (p + 2) < 240)
    (l17 : 4 ≤ c → ¬ b = 0 → inR ((mv q (hset (fun c => s 80 (0 + c)) (hf q)) (s 38 5) (s 79 p)) + 10))
    (l18 : 4 ≤ c → ¬ b = 0 → inR (s 79 (p + 2)))
    (l19 : 4 ≤ c → ¬ b = 0 → ¬ ((mv q (hset (fun c => s 80 (0 + c)) (hf q)) (s 38 5) (s 79 p)) + 10) = (s 79 (p + 2)) → Rn X (d + 2) 235 18 [some (vR 77), some (vI i), some (vI r), some (vI z), some (vI q), some (vI 0), some (vI (k + 3)), some (vI p), some (vI c)] [] s P)
    (l20 : 4 ≤ c → ¬ b = 0 → ((mv q (hset (fun c => s 80 (0 + c)) (hf q)) (s 38 5) (s 79 p)) + 10) = (s 79 (p + 2)) → Rn X (d + 2) 235 18 [some (vR 77), some (vI i), some (vI r), some (vI z), some (vI q), some (vI 1), some (vI (k + 3)), some (vI p), some (vI c)] [] s P)
    (l21 : c < 4 → 0 ≤ p)
    (l22 : c < 4 → p < 240)
    (l23 : c < 4 → inR (s 79 p))
    (l24 : c < 4 → ¬ c = (s 79 p) → 0 ≤ (((8 + (5 * i)) + 1) + c))
    (l25 : c < 4 → ¬ c = (s 79 p) → (((8 + (5 * i)) + 1) + c) < 198)
    (l26 : c < 4 → ¬ c = (s 79 p) → 0 ≤ c)
    (l27 : c < 4 → ¬ c = (s 79 p) → c < 40)
    (l28 : c < 4 → ¬ c = (s 79 p) → Rn X (d + 2) 235 41 [some (vR 77), some (vI i), some (vI r), some (vI z), some (vI q), some (vI b), some (vI k), some (vI p), some (vI (c + 1))] [] (m_upd s 80 c (s 83 (((8 + (5 * i)) + 1) + c))) P)
    (l29 : c < 4 → c = (s 79 p) → 0 ≤ (p + 1))
    (l30 : c < 4 → c = (s 79 p) → (p + 1) < 240)
    (l31 : c < 4 → c = (s 79 p) → 0 ≤ c)
    (l32 : c < 4 → c = (s 79 p) → c < 40)
    (l33 : c < 4 → c = (s 79 p) → Rn X (d + 2) 235 41 [some (vR 77), some (vI i), some (vI r), some (vI z), some (vI q), some (vI b), some (vI k), some (vI p), some (vI (c + 1))] [] (m_upd s 80 c (s 79 (p + 1))) P)
    : Rn X (d + 2) 235 41 [some (vR 77), some (vI i), some (vI r), some (vI z), some (vI q), some (vI b), some (vI k), some (vI p), some (vI c)] [] s P := by
  refine r_ldI (m := 8) F_235_41 rfl ?_
  refine r_iconst F_235_43 ?_
  refine r_icmp (t := 100) F_235_44 rfl l1 (by decide) ?_ ?_
  · intro e1
    replace e1 : 4 ≤ c := e1
    refine r_ldI (m := 5) F_235_100 rfl ?_
    refine r_if (t := 147) F_235_102 rfl (l2 e1) ?_ ?_
    · intro e2
      replace e2 : b = 0 := e2
      refine r_iconst F_235_147 ?_
      refine r_stI (m := 5) (L' := [some (vR 77), some (vI i), some (vI r), some (vI z), some (vI q), some (vI 0), some (vI k), some (vI p), some (vI c)]) F_235_148 rfl rfl ?_
      refine r_iinc (m := 6) (e := (k + 3)) (L' := [some (vR 77), some (vI i), some (vI r), some (vI z), some (vI q), some (vI 0), some (vI (k + 3)), some (vI p), some (vI c)]) F_235_150 rfl rfl rfl rfl ?_
      refine r_goto (t := 18) F_235_153 rfl ?_
      exact (l3 e1 e2)
    · intro e3
      replace e3 : ¬ b = 0 := e3
      refine r_ldR_n (m := 0) F_235_105 rfl ?_
      refine r_ldI (m := 4) F_235_106 rfl ?_
      refine r_ldI (m := 4) F_235_108 rfl ?_
      refine r_ldR_n (m := 0) F_235_110 rfl ?_
      refine r_getR (J := 2) F_235_111 o_235 fl_6_16 ty_77 (by decide) rfl (kd2 kd_77_2 (by decide)) (kd9 kd_77_2 (by decide)) rf_77_2 ?_
      refine r_iconst F_235_114 ?_
      refine r_stat2 (A := [vI q, vR 80, vI 0]) (r := [vI q, vR 77]) (n := 3) F_235_115 o_235 il_6_139 (by decide) rfl rfl rfl rfl (lay_le n_188 rfl) ?_
      refine sp_held80 (l4 e1 e3) (by decide) (l5 e1 e3) (l6 e1 e3) ?_
      show Rn _ _ _ _ _ [vI (hset (fun c => s 80 (0 + c)) (hf q)), vI q, vR 77] _ _
      refine r_ldR_n (m := 0) F_235_118 rfl ?_
      refine r_getR (J := 1) F_235_119 o_235 fl_6_13 ty_77 (by decide) rfl (kd2 kd_77_1 (by decide)) (kd9 kd_77_1 (by decide)) rf_77_1 ?_
      refine r_ldI (m := 7) F_235_122 rfl ?_
      refine r_iald (e := (s 79 p)) F_235_124 ty_79 (l7 e1 e3) (lt_ln ln_79 (l8 e1 e3)) rfl ?_
      refine r_virt2 (A := [vI q, vI (hset (fun c => s 80 (0 + c)) (hf q)), vI (s 79 p)]) (r := []) (n := 3) F_235_125 o_235 il_6_146 rfl rfl rfl rfl ty_77 vy_193 (lay_le n_193 rfl) ?_
      refine sp_movedBy (l9 e1 e3) q0 (l10 e1 e3) (l11 e1 e3) (l12 e1 e3) (l13 e1 e3) (l14 e1 e3) ?_
      show Rn _ _ _ _ _ [vI (mv q (hset (fun c => s 80 (0 + c)) (hf q)) (s 38 5) (s 79 p))] _ _
      refine r_bipush F_235_128 bi_10 ?_
      refine r_iadd F_235_130 rfl ?_
      refine r_ldR_n (m := 0) F_235_131 rfl ?_
      refine r_getR (J := 1) F_235_132 o_235 fl_6_13 ty_77 (by decide) rfl (kd2 kd_77_1 (by decide)) (kd9 kd_77_1 (by decide)) rf_77_1 ?_
      refine r_ldI (m := 7) F_235_135 rfl ?_
      refine r_iconst F_235_137 ?_
      refine r_iadd F_235_138 rfl ?_
      refine r_iald (e := (s 79 (p + 2))) F_235_139 ty_79 (l15 e1 e3) (lt_ln ln_79 (l16 e1 e3)) rfl ?_
      refine r_icmp (t := 147) F_235_140 rfl (l17 e1 e3) (l18 e1 e3) ?_ ?_
      · intro e4
        replace e4 : ¬ ((mv q (hset (fun c => s 80 (0 + c)) (hf q)) (s 38 5) (s 79 p)) + 10) = (s 79 (p + 2)) := e4
        refine r_iconst F_235_147 ?_
        refine r_stI (m := 5) (L' := [some (vR 77), some (vI i), some (vI r), some (vI z), some (vI q), some (vI 0), some (vI k), some (vI p), some (vI c)]) F_235_148 rfl rfl ?_
        refine r_iinc (m := 6) (e := (k + 3)) (L' := [some (vR 77), some (vI i), some (vI r), some (vI z), some (vI q), some (vI 0), some (vI (k + 3)), some (vI p), some (vI c)]) F_235_150 rfl rfl rfl rfl ?_
        refine r_goto (t := 18) F_235_153 rfl ?_
        exact (l19 e1 e3 e4)
      · intro e5
        replace e5 : ((mv q (hset (fun c => s 80 (0 + c)) (hf q)) (s 38 5) (s 79 p)) + 10) = (s 79 (p + 2)) := (Classical.not_not.mp e5)
        refine r_iconst F_235_143 ?_
        refine r_goto (t := 148) F_235_144 rfl ?_
        refine r_stI (m := 5) (L' := [some (vR 77), some (vI i), some (vI r), some (vI z), some (vI q), some (vI 1), some (vI k), some (vI p), some (vI c)]) F_235_148 rfl rfl ?_
        refine r_iinc (m := 6) (e := (k + 3)) (L' := [some (vR 77), some (vI i), some (vI r), some (vI z), some (vI q), some (vI 1), some (vI (k + 3)), some (vI p), some (vI c)]) F_235_150 rfl rfl rfl rfl ?_
        refine r_goto (t := 18) F_235_153 rfl ?_
        exact (l20 e1 e3 e5)
  · intro e6
    replace e6 : c < 4 := (Int.not_le.mp e6)
    refine r_ldR_n (m := 0) F_235_47 rfl ?_
    refine r_getR (J := 2) F_235_48 o_235 fl_6_16 ty_77 (by decide) rfl (kd2 kd_77_2 (by decide)) (kd9 kd_77_2 (by decide)) rf_77_2 ?_
    refine r_ldI (m := 8) F_235_51 rfl ?_
    refine r_ldI (m := 8) F_235_53 rfl ?_
    refine r_ldR_n (m := 0) F_235_55 rfl ?_
    refine r_getR (J := 1) F_235_56 o_235 fl_6_13 ty_77 (by decide) rfl (kd2 kd_77_1 (by decide)) (kd9 kd_77_1 (by decide)) rf_77_1 ?_
    refine r_ldI (m := 7) F_235_59 rfl ?_
    refine r_iald (e := (s 79 p)) F_235_61 ty_79 (l21 e6) (lt_ln ln_79 (l22 e6)) rfl ?_
    refine r_icmp (t := 77) F_235_62 rfl l1 (l23 e6) ?_ ?_
    · intro e7
      replace e7 : ¬ c = (s 79 p) := e7
      refine r_ldR_n (m := 0) F_235_77 rfl ?_
      refine r_getR (J := 5) F_235_78 o_235 fl_6_25 ty_77 (by decide) rfl (kd2 kd_77_5 (by decide)) (kd9 kd_77_5 (by decide)) rf_77_5 ?_
      refine r_bipush F_235_81 bi_8 ?_
      refine r_iconst F_235_83 ?_
      refine r_ldI_n (m := 1) F_235_84 rfl ?_
      refine r_imul F_235_85 rfl ?_
      refine r_iadd F_235_86 rfl ?_
      refine r_iconst F_235_87 ?_
      refine r_iadd F_235_88 rfl ?_
      refine r_ldI (m := 8) F_235_89 rfl ?_
      refine r_iadd F_235_91 rfl ?_
      refine r_iald (e := (s 83 (((8 + (5 * i)) + 1) + c))) F_235_92 ty_83 (l24 e6 e7) (lt_ln ln_83 (l25 e6 e7)) rfl ?_
      refine r_iast F_235_93 ty_80 (l26 e6 e7) (lt_ln ln_80 (l27 e6 e7)) ?_
      refine r_iinc (m := 8) (e := (c + 1)) (L' := [some (vR 77), some (vI i), some (vI r), some (vI z), some (vI q), some (vI b), some (vI k), some (vI p), some (vI (c + 1))]) F_235_94 rfl rfl rfl rfl ?_
      refine r_goto (t := 41) F_235_97 rfl ?_
      exact (l28 e6 e7)
    · intro e8
      replace e8 : c = (s 79 p) := (Classical.not_not.mp e8)
      refine r_ldR_n (m := 0) F_235_65 rfl ?_
      refine r_getR (J := 1) F_235_66 o_235 fl_6_13 ty_77 (by decide) rfl (kd2 kd_77_1 (by decide)) (kd9 kd_77_1 (by decide)) rf_77_1 ?_
      refine r_ldI (m := 7) F_235_69 rfl ?_
      refine r_iconst F_235_71 ?_
      refine r_iadd F_235_72 rfl ?_
      refine r_iald (e := (s 79 (p + 1))) F_235_73 ty_79 (l29 e6 e8) (lt_ln ln_79 (l30 e6 e8)) rfl ?_
      refine r_goto (t := 93) F_235_74 rfl ?_
      refine r_iast F_235_93 ty_80 (l31 e6 e8) (lt_ln ln_80 (l32 e6 e8)) ?_
      refine r_iinc (m := 8) (e := (c + 1)) (L' := [some (vR 77), some (vI i), some (vI r), some (vI z), some (vI q), some (vI b), some (vI k), some (vI p), some (vI (c + 1))]) F_235_94 rfl rfl rfl rfl ?_
      refine r_goto (t := 41) F_235_97 rfl ?_
      exact (l33 e6 e8)
theorem t_X6_alike {X : List Int32} {d : Nat} {s : m_St} {P : Option Value → m_St → Prop} {i b c : Int} (i0 : 0 ≤ i) (i6 : i < 6)
    (l1 : Rn X (d + 2) 237 6 [some (vR 77), some (vI i), some (vI b), some (vI c), some (vI 0), some (vI (-1)), none, none] [] s P)
    : Cl X (d + 2) 237 [vR 77, vI i, vI b, vI c] s P := by
  refine Cl_of n_237 rfl ?_
  show Rn _ _ _ _ [some (vR 77), some (vI i), some (vI b), some (vI c), none, none, none, none] [] _ _
  refine r_iconst F_237_0 ?_
  refine r_stI (m := 4) (L' := [some (vR 77), some (vI i), some (vI b), some (vI c), some (vI 0), none, none, none]) F_237_1 rfl rfl ?_
  refine r_iconst F_237_3 ?_
  refine r_stI (m := 5) (L' := [some (vR 77), some (vI i), some (vI b), some (vI c), some (vI 0), some (vI (-1)), none, none]) F_237_4 rfl rfl ?_
  exact l1
theorem t_X6_alike_6 {X : List Int32} {d : Nat} {s : m_St} {P : Option Value → m_St → Prop} {i b c m y : Int} {z6 z7 : Option Value} (i0 : 0 ≤ i) (i6 : i < 6)
    (l1 : inR y)
    (l2 : 4 ≤ y → P (some (vI m)) s)
    (l3 : y < 4 → Rn X (d + 2) 237 18 [some (vR 77), some (vI i), some (vI b), some (vI c), some (vI m), some (vI y), some (vI 0), some (vI 0)] [] s P)
    : Rn X (d + 2) 237 6 [some (vR 77), some (vI i), some (vI b), some (vI c), some (vI m), some (vI y), z6, z7] [] s P := by
  refine r_ldI (m := 5) F_237_6 rfl ?_
  refine r_iconst F_237_8 ?_
  refine r_icmp (t := 101) F_237_9 rfl l1 (by decide) ?_ ?_
  · intro e1
    replace e1 : 4 ≤ y := e1
    refine r_ldI (m := 4) F_237_101 rfl ?_
    refine r_ireturn F_237_103 rt_237 ?_
    exact (l2 e1)
  · intro e2
    replace e2 : y < 4 := (Int.not_le.mp e2)
    refine r_iconst F_237_12 ?_
    refine r_stI (m := 6) (L' := [some (vR 77), some (vI i), some (vI b), some (vI c), some (vI m), some (vI y), some (vI 0), z7]) F_237_13 rfl rfl ?_
    refine r_iconst F_237_15 ?_
    refine r_stI (m := 7) (L' := [some (vR 77), some (vI i), some (vI b), some (vI c), some (vI m), some (vI y), some (vI 0), some (vI 0)]) F_237_16 rfl rfl ?_
    exact (l3 e2)
theorem t_X6_alike_18 {X : List Int32} {d : Nat} {s : m_St} {P : Option Value → m_St → Prop} {i b c m y n q : Int} (i0 : 0 ≤ i) (i6 : i < 6) (q0 : 0 ≤ q)
    (l1 : inR q)
    (l2 : 6 ≤ q → inR n)
    (l3 : 6 ≤ q → inR m)
    (l4 : 6 ≤ q → n ≤ m → Rn X (d + 2) 237 6 [some (vR 77), some (vI i), some (vI b), some (vI c), some (vI m), some (vI (y + 1)), some (vI n), some (vI q)] [] s P)
    (l5 : 6 ≤ q → m < n → Rn X (d + 2) 237 6 [some (vR 77), some (vI i), some (vI b), some (vI c), some (vI n), some (vI (y + 1)), some (vI n), some (vI q)] [] s P)
    (l6 : q < 6 → ¬ (iAnd (iShr b q) 1) = 1 → Rn X (d + 2) 237 18 [some (vR 77), some (vI i), some (vI b), some (vI c), some (vI m), some (vI y), some (vI n), some (vI (q + 1))] [] s P)
    (l7 : q < 6 → (iAnd (iShr b q) 1) = 1 → 0 ≤ ((8 + (5 * i)) + 1))
    (l8 : q < 6 → (iAnd (iShr b q) 1) = 1 → (((8 + (5 * i)) + 1) : Int) + 3 < 198)
    (l9 : q < 6 → (iAnd (iShr b q) 1) = 1 → wr (fun c => s 83 (((8 + (5 * i)) + 1) + c)))
    (l10 : q < 6 → (iAnd (iShr b q) 1) = 1 → tr (s 38 5) (s 83 7))
    (l11 : q < 6 → (iAnd (iShr b q) 1) = 1 → 0 ≤ (hset (fun c => s 83 (((8 + (5 * i)) + 1) + c)) (hf q)))
    (l12 : q < 6 → (iAnd (iShr b q) 1) = 1 → (hset (fun c => s 83 (((8 + (5 * i)) + 1) + c)) (hf q)) < 16)
    (l13 : q < 6 → (iAnd (iShr b q) 1) = 1 → 0 ≤ c)
    (l14 : q < 6 → (iAnd (iShr b q) 1) = 1 → c < 4)
    (l15 : q < 6 → (iAnd (iShr b q) 1) = 1 → inR y)
    (l16 : q < 6 → (iAnd (iShr b q) 1) = 1 → ¬ (mv q (hset (fun c => s 83 (((8 + (5 * i)) + 1) + c)) (hf q)) (s 38 5) c) = y → Rn X (d + 2) 237 18 [some (vR 77), some (vI i), some (vI b), some (vI c), some (vI m), some (vI y), some (vI n), some (vI (q + 1))] [] s P)
    (l17 : q < 6 → (iAnd (iShr b q) 1) = 1 → (mv q (hset (fun c => s 83 (((8 + (5 * i)) + 1) + c)) (hf q)) (s 38 5) c) = y → Rn X (d + 2) 237 18 [some (vR 77), some (vI i), some (vI b), some (vI c), some (vI m), some (vI y), some (vI (n + 1)), some (vI (q + 1))] [] s P)
    : Rn X (d + 2) 237 18 [some (vR 77), some (vI i), some (vI b), some (vI c), some (vI m), some (vI y), some (vI n), some (vI q)] [] s P := by
  refine r_ldI (m := 7) F_237_18 rfl ?_
  refine r_bipush F_237_20 bi_6 ?_
  refine r_icmp (t := 79) F_237_22 rfl l1 (by decide) ?_ ?_
  · intro e1
    replace e1 : 6 ≤ q := e1
    refine r_ldI (m := 6) F_237_79 rfl ?_
    refine r_ldI (m := 4) F_237_81 rfl ?_
    refine r_icmp (t := 91) F_237_83 rfl (l2 e1) (l3 e1) ?_ ?_
    · intro e2
      replace e2 : n ≤ m := e2
      refine r_ldI (m := 4) F_237_91 rfl ?_
      refine r_stI (m := 4) (L' := [some (vR 77), some (vI i), some (vI b), some (vI c), some (vI m), some (vI y), some (vI n), some (vI q)]) F_237_93 rfl rfl ?_
      refine r_iinc (m := 5) (e := (y + 1)) (L' := [some (vR 77), some (vI i), some (vI b), some (vI c), some (vI m), some (vI (y + 1)), some (vI n), some (vI q)]) F_237_95 rfl rfl rfl rfl ?_
      refine r_goto (t := 6) F_237_98 rfl ?_
      exact (l4 e1 e2)
    · intro e3
      replace e3 : m < n := (Int.not_le.mp e3)
      refine r_ldI (m := 6) F_237_86 rfl ?_
      refine r_goto (t := 93) F_237_88 rfl ?_
      refine r_stI (m := 4) (L' := [some (vR 77), some (vI i), some (vI b), some (vI c), some (vI n), some (vI y), some (vI n), some (vI q)]) F_237_93 rfl rfl ?_
      refine r_iinc (m := 5) (e := (y + 1)) (L' := [some (vR 77), some (vI i), some (vI b), some (vI c), some (vI n), some (vI (y + 1)), some (vI n), some (vI q)]) F_237_95 rfl rfl rfl rfl ?_
      refine r_goto (t := 6) F_237_98 rfl ?_
      exact (l5 e1 e3)
  · intro e4
    replace e4 : q < 6 := (Int.not_le.mp e4)
    refine r_ldI (m := 6) F_237_25 rfl ?_
    refine r_ldI_n (m := 2) F_237_27 rfl ?_
    refine r_ldI (m := 7) F_237_28 rfl ?_
    refine r_stat2 (A := [vI b, vI q]) (r := [vI n]) (n := 2) F_237_30 o_237 il_6_132 (by decide) rfl rfl rfl rfl (lay_le n_194 rfl) ?_
    refine Cl_of n_194 rfl ?_
    show Rn _ _ _ _ [some (vI b), some (vI q)] [] _ _
    refine r_ldI_n (m := 0) F_194_0 rfl ?_
    refine r_ldI_n (m := 1) F_194_1 rfl ?_
    refine r_ishr F_194_2 rfl ?_
    refine r_iconst F_194_3 ?_
    refine r_iand F_194_4 rfl ?_
    refine r_iconst F_194_5 ?_
    refine r_icmp (t := 13) F_194_6 rfl (inR_iAnd _ _) (by decide) ?_ ?_
    · intro e5
      replace e5 : ¬ (iAnd (iShr b q) 1) = 1 := e5
      refine r_iconst F_194_13 ?_
      refine r_zreturn F_194_14 rt_194 (Or.inl rfl) ?_
      show Rn _ _ _ _ _ [vI 0, vI n] _ _
      refine r_ifT (t := 69) F_237_33 rfl (by decide) (by show (0 : Int) = 0; decide) ?_
      refine r_iconst F_237_69 ?_
      refine r_iadd (e := n) F_237_70 (Int.add_zero _) ?_
      refine r_stI (m := 6) (L' := [some (vR 77), some (vI i), some (vI b), some (vI c), some (vI m), some (vI y), some (vI n), some (vI q)]) F_237_71 rfl rfl ?_
      refine r_iinc (m := 7) (e := (q + 1)) (L' := [some (vR 77), some (vI i), some (vI b), some (vI c), some (vI m), some (vI y), some (vI n), some (vI (q + 1))]) F_237_73 rfl rfl rfl rfl ?_
      refine r_goto (t := 18) F_237_76 rfl ?_
      exact (l6 e4 e5)
    · intro e6
      replace e6 : (iAnd (iShr b q) 1) = 1 := (Classical.not_not.mp e6)
      refine r_iconst F_194_9 ?_
      refine r_goto (t := 14) F_194_10 rfl ?_
      refine r_zreturn F_194_14 rt_194 (Or.inr rfl) ?_
      show Rn _ _ _ _ _ [vI 1, vI n] _ _
      refine r_ifF (t := 69) F_237_33 rfl (by decide) (by show ¬ ((1 : Int) = 0); decide) ?_
      refine r_ldR_n (m := 0) F_237_36 rfl ?_
      refine r_ldI (m := 7) F_237_37 rfl ?_
      refine r_ldI (m := 7) F_237_39 rfl ?_
      refine r_ldR_n (m := 0) F_237_41 rfl ?_
      refine r_getR (J := 5) F_237_42 o_237 fl_6_25 ty_77 (by decide) rfl (kd2 kd_77_5 (by decide)) (kd9 kd_77_5 (by decide)) rf_77_5 ?_
      refine r_bipush F_237_45 bi_8 ?_
      refine r_iconst F_237_47 ?_
      refine r_ldI_n (m := 1) F_237_48 rfl ?_
      refine r_imul F_237_49 rfl ?_
      refine r_iadd F_237_50 rfl ?_
      refine r_iconst F_237_51 ?_
      refine r_iadd F_237_52 rfl ?_
      refine r_stat2 (A := [vI q, vR 83, vI ((8 + (5 * i)) + 1)]) (r := [vI q, vR 77, vI n]) (n := 3) F_237_53 o_237 il_6_139 (by decide) rfl rfl rfl rfl (lay_le n_188 rfl) ?_
      refine sp_held83 l1 (l7 e4 e6) (l8 e4 e6) (l9 e4 e6) ?_
      show Rn _ _ _ _ _ [vI (hset (fun c => s 83 (((8 + (5 * i)) + 1) + c)) (hf q)), vI q, vR 77, vI n] _ _
      refine r_ldI_n (m := 3) F_237_56 rfl ?_
      refine r_virt2 (A := [vI q, vI (hset (fun c => s 83 (((8 + (5 * i)) + 1) + c)) (hf q)), vI c]) (r := [vI n]) (n := 3) F_237_57 o_237 il_6_146 rfl rfl rfl rfl ty_77 vy_193 (lay_le n_193 rfl) ?_
      refine sp_movedBy (l10 e4 e6) q0 e4 (l11 e4 e6) (l12 e4 e6) (l13 e4 e6) (l14 e4 e6) ?_
      show Rn _ _ _ _ _ [vI (mv q (hset (fun c => s 83 (((8 + (5 * i)) + 1) + c)) (hf q)) (s 38 5) c), vI n] _ _
      refine r_ldI (m := 5) F_237_60 rfl ?_
      refine r_icmp (t := 69) F_237_62 rfl (inR_mv _ _ _ _) (l15 e4 e6) ?_ ?_
      · intro e7
        replace e7 : ¬ (mv q (hset (fun c => s 83 (((8 + (5 * i)) + 1) + c)) (hf q)) (s 38 5) c) = y := e7
        refine r_iconst F_237_69 ?_
        refine r_iadd (e := n) F_237_70 (Int.add_zero _) ?_
        refine r_stI (m := 6) (L' := [some (vR 77), some (vI i), some (vI b), some (vI c), some (vI m), some (vI y), some (vI n), some (vI q)]) F_237_71 rfl rfl ?_
        refine r_iinc (m := 7) (e := (q + 1)) (L' := [some (vR 77), some (vI i), some (vI b), some (vI c), some (vI m), some (vI y), some (vI n), some (vI (q + 1))]) F_237_73 rfl rfl rfl rfl ?_
        refine r_goto (t := 18) F_237_76 rfl ?_
        exact (l16 e4 e6 e7)
      · intro e8
        replace e8 : (mv q (hset (fun c => s 83 (((8 + (5 * i)) + 1) + c)) (hf q)) (s 38 5) c) = y := (Classical.not_not.mp e8)
        refine r_iconst F_237_65 ?_
        refine r_goto (t := 70) F_237_66 rfl ?_
        refine r_iadd F_237_70 rfl ?_
        refine r_stI (m := 6) (L' := [some (vR 77), some (vI i), some (vI b), some (vI c), some (vI m), some (vI y), some (vI (n + 1)), some (vI q)]) F_237_71 rfl rfl ?_
        refine r_iinc (m := 7) (e := (q + 1)) (L' := [some (vR 77), some (vI i), some (vI b), some (vI c), some (vI m), some (vI y), some (vI (n + 1)), some (vI (q + 1))]) F_237_73 rfl rfl rfl rfl ?_
        refine r_goto (t := 18) F_237_76 rfl ?_
        exact (l17 e4 e6 e8)
