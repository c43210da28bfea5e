/-! walks: the calls of the reference, counts -/
theorem n_250 : m_n 250 = 4 := by decide +kernel
theorem F_250_0 : F 250 0 (.iconst 0) 1 := ⟨1, by decide +kernel, rfl, rfl⟩
theorem F_250_1 : F 250 1 (.istore_n 2) 2 := ⟨1, by decide +kernel, rfl, rfl⟩
theorem F_250_2 : F 250 2 (.iload_n 1) 3 := ⟨1, by decide +kernel, rfl, rfl⟩
theorem F_250_3 : F 250 3 (.tableswitch 271 0 10 #[57, 64, 71, 78, 85, 118, 129, 134, 174, 207, 239]) 60 := ⟨57, by decide +kernel, rfl, rfl⟩
theorem F_250_60 : F 250 60 (.aload_n 0) 61 := ⟨1, by decide +kernel, rfl, rfl⟩
theorem F_250_61 : F 250 61 (.getfield 25) 64 := ⟨3, by decide +kernel, rfl, rfl⟩
theorem o_250 : m_o 250 = 6 := by decide +kernel
theorem F_250_64 : F 250 64 (.iconst 0) 65 := ⟨1, by decide +kernel, rfl, rfl⟩
theorem F_250_65 : F 250 65 (.iaload) 66 := ⟨1, by decide +kernel, rfl, rfl⟩
theorem F_250_66 : F 250 66 (.ireturn) 67 := ⟨1, by decide +kernel, rfl, rfl⟩
theorem rt_250 : m_r 250 = (some .int) := by decide +kernel
theorem F_250_67 : F 250 67 (.aload_n 0) 68 := ⟨1, by decide +kernel, rfl, rfl⟩
theorem F_250_68 : F 250 68 (.getfield 25) 71 := ⟨3, by decide +kernel, rfl, rfl⟩
theorem F_250_71 : F 250 71 (.iconst 1) 72 := ⟨1, by decide +kernel, rfl, rfl⟩
theorem F_250_72 : F 250 72 (.iaload) 73 := ⟨1, by decide +kernel, rfl, rfl⟩
theorem F_250_73 : F 250 73 (.ireturn) 74 := ⟨1, by decide +kernel, rfl, rfl⟩
theorem F_250_74 : F 250 74 (.aload_n 0) 75 := ⟨1, by decide +kernel, rfl, rfl⟩
theorem F_250_75 : F 250 75 (.getfield 25) 78 := ⟨3, by decide +kernel, rfl, rfl⟩
theorem F_250_78 : F 250 78 (.iconst 3) 79 := ⟨1, by decide +kernel, rfl, rfl⟩
theorem F_250_79 : F 250 79 (.iaload) 80 := ⟨1, by decide +kernel, rfl, rfl⟩
theorem F_250_80 : F 250 80 (.ireturn) 81 := ⟨1, by decide +kernel, rfl, rfl⟩
theorem F_250_81 : F 250 81 (.aload_n 0) 82 := ⟨1, by decide +kernel, rfl, rfl⟩
theorem F_250_82 : F 250 82 (.getfield 25) 85 := ⟨3, by decide +kernel, rfl, rfl⟩
theorem F_250_85 : F 250 85 (.iconst 4) 86 := ⟨1, by decide +kernel, rfl, rfl⟩
theorem F_250_86 : F 250 86 (.iaload) 87 := ⟨1, by decide +kernel, rfl, rfl⟩
theorem F_250_87 : F 250 87 (.ireturn) 88 := ⟨1, by decide +kernel, rfl, rfl⟩
theorem F_250_88 : F 250 88 (.aload_n 0) 89 := ⟨1, by decide +kernel, rfl, rfl⟩
theorem F_250_89 : F 250 89 (.invokevirtual 182) 92 := ⟨3, by decide +kernel, rfl, rfl⟩
theorem F_250_92 : F 250 92 (.ifCond .eq 27) 95 := ⟨3, by decide +kernel, rfl, rfl⟩
theorem F_250_119 : F 250 119 (.iconst 0) 120 := ⟨1, by decide +kernel, rfl, rfl⟩
theorem F_250_120 : F 250 120 (.ireturn) 121 := ⟨1, by decide +kernel, rfl, rfl⟩
theorem F_250_95 : F 250 95 (.bipush 10) 97 := ⟨2, by decide +kernel, rfl, rfl⟩
theorem F_250_97 : F 250 97 (.aload_n 0) 98 := ⟨1, by decide +kernel, rfl, rfl⟩
theorem F_250_98 : F 250 98 (.getfield 25) 101 := ⟨3, by decide +kernel, rfl, rfl⟩
theorem F_250_101 : F 250 101 (.iconst 5) 102 := ⟨1, by decide +kernel, rfl, rfl⟩
theorem F_250_102 : F 250 102 (.iaload) 103 := ⟨1, by decide +kernel, rfl, rfl⟩
theorem F_250_103 : F 250 103 (.iconst 1) 104 := ⟨1, by decide +kernel, rfl, rfl⟩
theorem F_250_104 : F 250 104 (.isub) 105 := ⟨1, by decide +kernel, rfl, rfl⟩
theorem F_250_105 : F 250 105 (.imul) 106 := ⟨1, by decide +kernel, rfl, rfl⟩
theorem F_250_106 : F 250 106 (.aload_n 0) 107 := ⟨1, by decide +kernel, rfl, rfl⟩
theorem F_250_107 : F 250 107 (.getfield 25) 110 := ⟨3, by decide +kernel, rfl, rfl⟩
theorem F_250_110 : F 250 110 (.bipush 6) 112 := ⟨2, by decide +kernel, rfl, rfl⟩
theorem F_250_112 : F 250 112 (.iaload) 113 := ⟨1, by decide +kernel, rfl, rfl⟩
theorem F_250_113 : F 250 113 (.iadd) 114 := ⟨1, by decide +kernel, rfl, rfl⟩
theorem F_250_114 : F 250 114 (.iconst 1) 115 := ⟨1, by decide +kernel, rfl, rfl⟩
theorem F_250_115 : F 250 115 (.isub) 116 := ⟨1, by decide +kernel, rfl, rfl⟩
theorem F_250_116 : F 250 116 (.goto 4) 119 := ⟨3, by decide +kernel, rfl, rfl⟩
theorem F_250_121 : F 250 121 (.aload_n 0) 122 := ⟨1, by decide +kernel, rfl, rfl⟩
theorem F_250_122 : F 250 122 (.getfield 25) 125 := ⟨3, by decide +kernel, rfl, rfl⟩
theorem F_250_125 : F 250 125 (.bipush 7) 127 := ⟨2, by decide +kernel, rfl, rfl⟩
theorem F_250_127 : F 250 127 (.iaload) 128 := ⟨1, by decide +kernel, rfl, rfl⟩
theorem F_250_128 : F 250 128 (.invokestatic 230) 131 := ⟨3, by decide +kernel, rfl, rfl⟩
theorem F_250_131 : F 250 131 (.ireturn) 132 := ⟨1, by decide +kernel, rfl, rfl⟩
theorem F_250_132 : F 250 132 (.aload_n 0) 133 := ⟨1, by decide +kernel, rfl, rfl⟩
theorem F_250_133 : F 250 133 (.invokevirtual 267) 136 := ⟨3, by decide +kernel, rfl, rfl⟩
theorem il_6_267 : ilq 6 267 0 251 0 = true := by decide +kernel
theorem vy_251 : (m_cls 6).1 = (m_y 251).cls ∧ 6 < m_cl.length := by decide +kernel
theorem F_250_136 : F 250 136 (.ireturn) 137 := ⟨1, by decide +kernel, rfl, rfl⟩
theorem F_250_137 : F 250 137 (.iconst 0) 138 := ⟨1, by decide +kernel, rfl, rfl⟩
theorem F_250_138 : F 250 138 (.istore_n 3) 139 := ⟨1, by decide +kernel, rfl, rfl⟩
theorem F_250_177 : F 250 177 (.iconst 0) 178 := ⟨1, by decide +kernel, rfl, rfl⟩
theorem F_250_178 : F 250 178 (.istore_n 3) 179 := ⟨1, by decide +kernel, rfl, rfl⟩
theorem F_250_210 : F 250 210 (.iconst 0) 211 := ⟨1, by decide +kernel, rfl, rfl⟩
theorem F_250_211 : F 250 211 (.istore_n 3) 212 := ⟨1, by decide +kernel, rfl, rfl⟩
theorem F_250_242 : F 250 242 (.iconst 0) 243 := ⟨1, by decide +kernel, rfl, rfl⟩
theorem F_250_243 : F 250 243 (.istore_n 3) 244 := ⟨1, by decide +kernel, rfl, rfl⟩
theorem F_250_274 : F 250 274 (.iconst (-1)) 275 := ⟨1, by decide +kernel, rfl, rfl⟩
theorem F_250_275 : F 250 275 (.ireturn) 276 := ⟨1, by decide +kernel, rfl, rfl⟩
theorem F_250_139 : F 250 139 (.iload_n 3) 140 := ⟨1, by decide +kernel, rfl, rfl⟩
theorem F_250_140 : F 250 140 (.aload_n 0) 141 := ⟨1, by decide +kernel, rfl, rfl⟩
theorem F_250_141 : F 250 141 (.getfield 25) 144 := ⟨3, by decide +kernel, rfl, rfl⟩
theorem F_250_144 : F 250 144 (.iconst 0) 145 := ⟨1, by decide +kernel, rfl, rfl⟩
theorem F_250_145 : F 250 145 (.iaload) 146 := ⟨1, by decide +kernel, rfl, rfl⟩
theorem F_250_146 : F 250 146 (.if_icmp .ge 29) 149 := ⟨3, by decide +kernel, rfl, rfl⟩
theorem F_250_175 : F 250 175 (.iload_n 2) 176 := ⟨1, by decide +kernel, rfl, rfl⟩
theorem F_250_176 : F 250 176 (.ireturn) 177 := ⟨1, by decide +kernel, rfl, rfl⟩
theorem F_250_149 : F 250 149 (.iload_n 2) 150 := ⟨1, by decide +kernel, rfl, rfl⟩
theorem F_250_150 : F 250 150 (.aload_n 0) 151 := ⟨1, by decide +kernel, rfl, rfl⟩
theorem F_250_151 : F 250 151 (.iload_n 3) 152 := ⟨1, by decide +kernel, rfl, rfl⟩
theorem F_250_152 : F 250 152 (.invokevirtual 136) 155 := ⟨3, by decide +kernel, rfl, rfl⟩
theorem F_250_155 : F 250 155 (.iconst 1) 156 := ⟨1, by decide +kernel, rfl, rfl⟩
theorem F_250_156 : F 250 156 (.invokestatic 156) 159 := ⟨3, by decide +kernel, rfl, rfl⟩
theorem F_250_159 : F 250 159 (.ifCond .eq 7) 162 := ⟨3, by decide +kernel, rfl, rfl⟩
theorem F_250_162 : F 250 162 (.iconst 1) 163 := ⟨1, by decide +kernel, rfl, rfl⟩
theorem F_250_163 : F 250 163 (.goto 4) 166 := ⟨3, by decide +kernel, rfl, rfl⟩
theorem F_250_167 : F 250 167 (.iadd) 168 := ⟨1, by decide +kernel, rfl, rfl⟩
theorem F_250_168 : F 250 168 (.istore_n 2) 169 := ⟨1, by decide +kernel, rfl, rfl⟩
theorem F_250_169 : F 250 169 (.iinc 3 1) 172 := ⟨3, by decide +kernel, rfl, rfl⟩
theorem F_250_172 : F 250 172 (.goto (-33)) 175 := ⟨3, by decide +kernel, rfl, rfl⟩
theorem F_250_166 : F 250 166 (.iconst 0) 167 := ⟨1, by decide +kernel, rfl, rfl⟩
theorem F_250_179 : F 250 179 (.iload_n 3) 180 := ⟨1, by decide +kernel, rfl, rfl⟩
theorem F_250_180 : F 250 180 (.bipush 6) 182 := ⟨2, by decide +kernel, rfl, rfl⟩
theorem F_250_182 : F 250 182 (.if_icmp .ge 26) 185 := ⟨3, by decide +kernel, rfl, rfl⟩
theorem F_250_208 : F 250 208 (.iload_n 2) 209 := ⟨1, by decide +kernel, rfl, rfl⟩
theorem F_250_209 : F 250 209 (.ireturn) 210 := ⟨1, by decide +kernel, rfl, rfl⟩
theorem F_250_185 : F 250 185 (.iload_n 2) 186 := ⟨1, by decide +kernel, rfl, rfl⟩
theorem F_250_186 : F 250 186 (.aload_n 0) 187 := ⟨1, by decide +kernel, rfl, rfl⟩
theorem F_250_187 : F 250 187 (.getfield 7) 190 := ⟨3, by decide +kernel, rfl, rfl⟩
theorem F_250_190 : F 250 190 (.iload_n 3) 191 := ⟨1, by decide +kernel, rfl, rfl⟩
theorem F_250_191 : F 250 191 (.iaload) 192 := ⟨1, by decide +kernel, rfl, rfl⟩
theorem F_250_192 : F 250 192 (.ifCond .ge 7) 195 := ⟨3, by decide +kernel, rfl, rfl⟩
theorem F_250_199 : F 250 199 (.iconst 1) 200 := ⟨1, by decide +kernel, rfl, rfl⟩
theorem F_250_200 : F 250 200 (.iadd) 201 := ⟨1, by decide +kernel, rfl, rfl⟩
theorem F_250_201 : F 250 201 (.istore_n 2) 202 := ⟨1, by decide +kernel, rfl, rfl⟩
theorem F_250_202 : F 250 202 (.iinc 3 1) 205 := ⟨3, by decide +kernel, rfl, rfl⟩
theorem F_250_205 : F 250 205 (.goto (-26)) 208 := ⟨3, by decide +kernel, rfl, rfl⟩
theorem F_250_195 : F 250 195 (.iconst 0) 196 := ⟨1, by decide +kernel, rfl, rfl⟩
theorem F_250_196 : F 250 196 (.goto 4) 199 := ⟨3, by decide +kernel, rfl, rfl⟩
theorem F_250_212 : F 250 212 (.iload_n 3) 213 := ⟨1, by decide +kernel, rfl, rfl⟩
theorem F_250_213 : F 250 213 (.iconst 4) 214 := ⟨1, by decide +kernel, rfl, rfl⟩
theorem F_250_214 : F 250 214 (.if_icmp .ge 26) 217 := ⟨3, by decide +kernel, rfl, rfl⟩
theorem F_250_240 : F 250 240 (.iload_n 2) 241 := ⟨1, by decide +kernel, rfl, rfl⟩
theorem F_250_241 : F 250 241 (.ireturn) 242 := ⟨1, by decide +kernel, rfl, rfl⟩
theorem F_250_217 : F 250 217 (.iload_n 2) 218 := ⟨1, by decide +kernel, rfl, rfl⟩
theorem F_250_218 : F 250 218 (.aload_n 0) 219 := ⟨1, by decide +kernel, rfl, rfl⟩
theorem F_250_219 : F 250 219 (.getfield 19) 222 := ⟨3, by decide +kernel, rfl, rfl⟩
theorem F_250_222 : F 250 222 (.iload_n 3) 223 := ⟨1, by decide +kernel, rfl, rfl⟩
theorem F_250_223 : F 250 223 (.iaload) 224 := ⟨1, by decide +kernel, rfl, rfl⟩
theorem F_250_224 : F 250 224 (.ifCond .ge 7) 227 := ⟨3, by decide +kernel, rfl, rfl⟩
theorem F_250_231 : F 250 231 (.iconst 1) 232 := ⟨1, by decide +kernel, rfl, rfl⟩
theorem F_250_232 : F 250 232 (.iadd) 233 := ⟨1, by decide +kernel, rfl, rfl⟩
theorem F_250_233 : F 250 233 (.istore_n 2) 234 := ⟨1, by decide +kernel, rfl, rfl⟩
theorem F_250_234 : F 250 234 (.iinc 3 1) 237 := ⟨3, by decide +kernel, rfl, rfl⟩
theorem F_250_237 : F 250 237 (.goto (-25)) 240 := ⟨3, by decide +kernel, rfl, rfl⟩
theorem F_250_227 : F 250 227 (.iconst 0) 228 := ⟨1, by decide +kernel, rfl, rfl⟩
theorem F_250_228 : F 250 228 (.goto 4) 231 := ⟨3, by decide +kernel, rfl, rfl⟩
theorem F_250_244 : F 250 244 (.iload_n 3) 245 := ⟨1, by decide +kernel, rfl, rfl⟩
theorem F_250_245 : F 250 245 (.iconst 3) 246 := ⟨1, by decide +kernel, rfl, rfl⟩
theorem F_250_246 : F 250 246 (.if_icmp .ge 26) 249 := ⟨3, by decide +kernel, rfl, rfl⟩
theorem F_250_272 : F 250 272 (.iload_n 2) 273 := ⟨1, by decide +kernel, rfl, rfl⟩
theorem F_250_273 : F 250 273 (.ireturn) 274 := ⟨1, by decide +kernel, rfl, rfl⟩
theorem F_250_249 : F 250 249 (.iload_n 2) 250 := ⟨1, by decide +kernel, rfl, rfl⟩
theorem F_250_250 : F 250 250 (.aload_n 0) 251 := ⟨1, by decide +kernel, rfl, rfl⟩
theorem F_250_251 : F 250 251 (.getfield 34) 254 := ⟨3, by decide +kernel, rfl, rfl⟩
theorem F_250_254 : F 250 254 (.iload_n 3) 255 := ⟨1, by decide +kernel, rfl, rfl⟩
theorem F_250_255 : F 250 255 (.baload) 256 := ⟨1, by decide +kernel, rfl, rfl⟩
theorem F_250_256 : F 250 256 (.ifCond .eq 7) 259 := ⟨3, by decide +kernel, rfl, rfl⟩
theorem F_250_263 : F 250 263 (.iconst 0) 264 := ⟨1, by decide +kernel, rfl, rfl⟩
theorem F_250_264 : F 250 264 (.iadd) 265 := ⟨1, by decide +kernel, rfl, rfl⟩
theorem F_250_265 : F 250 265 (.istore_n 2) 266 := ⟨1, by decide +kernel, rfl, rfl⟩
theorem F_250_266 : F 250 266 (.iinc 3 1) 269 := ⟨3, by decide +kernel, rfl, rfl⟩
theorem F_250_269 : F 250 269 (.goto (-25)) 272 := ⟨3, by decide +kernel, rfl, rfl⟩
theorem F_250_259 : F 250 259 (.iconst 1) 260 := ⟨1, by decide +kernel, rfl, rfl⟩
theorem F_250_260 : F 250 260 (.goto 4) 263 := ⟨3, by decide +kernel, rfl, rfl⟩
theorem t_X6_count {X : List Int32} {d : Nat} {s : m_St} {P : Option Value → m_St → Prop} {w : Int}
    (l1 : inR w)
    (l2 : w = 0 → P (some (vI (s 83 0))) s)
    (l3 : w = 1 → P (some (vI (s 83 1))) s)
    (l4 : w = 2 → P (some (vI (s 83 3))) s)
    (l5 : w = 3 → P (some (vI (s 83 4))) s)
    (l6 : w = 4 → inR (s 83 5))
    (l7 : w = 4 → (s 83 5) ≤ 0 → P (some (vI 0)) s)
    (l8 : w = 4 → 0 < (s 83 5) → P (some (vI (((10 * ((s 83 5) - 1)) + (s 83 6)) - 1))) s)
    (l9 : w = 5 → P (some (vI (on16 (s 83 7)))) s)
    (l10 : w = 6 → mok s)
    (l11 : w = 6 → P (some (vI (ahM s))) s)
    (l12 : w = 7 → Rn X (d + 4) 250 139 [some (vR 77), some (vI w), some (vI 0), some (vI 0)] [] s P)
    (l13 : w = 8 → Rn X (d + 4) 250 179 [some (vR 77), some (vI w), some (vI 0), some (vI 0)] [] s P)
    (l14 : w = 9 → Rn X (d + 4) 250 212 [some (vR 77), some (vI w), some (vI 0), some (vI 0)] [] s P)
    (l15 : w = 10 → Rn X (d + 4) 250 244 [some (vR 77), some (vI w), some (vI 0), some (vI 0)] [] s P)
    (l16 : (w < 0 ∨ 10 < w) → P (some (vI (-1))) s)
    : Cl X (d + 4) 250 [vR 77, vI w] s P := by
  refine Cl_of n_250 rfl ?_
  show Rn _ _ _ _ [some (vR 77), some (vI w), none, none] [] _ _
  refine r_iconst F_250_0 ?_
  refine r_stI_n (m := 2) (L' := [some (vR 77), some (vI w), some (vI 0), none]) F_250_1 rfl rfl ?_
  refine r_ldI_n (m := 1) F_250_2 rfl ?_
  rcases (show w = 0 ∨ w = 1 ∨ w = 2 ∨ w = 3 ∨ w = 4 ∨ w = 5 ∨ w = 6 ∨ w = 7 ∨ w = 8 ∨ w = 9 ∨ w = 10 ∨ (w < 0 ∨ 10 < w) by omega) with hh | hh | hh | hh | hh | hh | hh | hh | hh | hh | hh | hh
  · have e1 := hh
    refine r_tswI (t := 60) (z := 57) (i := 0) F_250_3 l1 rfl rfl (by omega) (by decide) ?_
    refine r_ldR_n (m := 0) F_250_60 rfl ?_
    refine r_getR (J := 5) F_250_61 o_250 fl_6_25 ty_77 (by decide) rfl (kd2 kd_77_5 (by decide)) (kd9 kd_77_5 (by decide)) rf_77_5 ?_
    refine r_iconst F_250_64 ?_
    refine r_iald (e := (s 83 0)) F_250_65 ty_83 (by decide) (lt_ln ln_83 (by decide)) rfl ?_
    refine r_ireturn F_250_66 rt_250 ?_
    exact (l2 e1)
  · have e2 := hh
    refine r_tswI (t := 67) (z := 64) (i := 1) F_250_3 l1 rfl rfl (by omega) (by decide) ?_
    refine r_ldR_n (m := 0) F_250_67 rfl ?_
    refine r_getR (J := 5) F_250_68 o_250 fl_6_25 ty_77 (by decide) rfl (kd2 kd_77_5 (by decide)) (kd9 kd_77_5 (by decide)) rf_77_5 ?_
    refine r_iconst F_250_71 ?_
    refine r_iald (e := (s 83 1)) F_250_72 ty_83 (by decide) (lt_ln ln_83 (by decide)) rfl ?_
    refine r_ireturn F_250_73 rt_250 ?_
    exact (l3 e2)
  · have e3 := hh
    refine r_tswI (t := 74) (z := 71) (i := 2) F_250_3 l1 rfl rfl (by omega) (by decide) ?_
    refine r_ldR_n (m := 0) F_250_74 rfl ?_
    refine r_getR (J := 5) F_250_75 o_250 fl_6_25 ty_77 (by decide) rfl (kd2 kd_77_5 (by decide)) (kd9 kd_77_5 (by decide)) rf_77_5 ?_
    refine r_iconst F_250_78 ?_
    refine r_iald (e := (s 83 3)) F_250_79 ty_83 (by decide) (lt_ln ln_83 (by decide)) rfl ?_
    refine r_ireturn F_250_80 rt_250 ?_
    exact (l4 e3)
  · have e4 := hh
    refine r_tswI (t := 81) (z := 78) (i := 3) F_250_3 l1 rfl rfl (by omega) (by decide) ?_
    refine r_ldR_n (m := 0) F_250_81 rfl ?_
    refine r_getR (J := 5) F_250_82 o_250 fl_6_25 ty_77 (by decide) rfl (kd2 kd_77_5 (by decide)) (kd9 kd_77_5 (by decide)) rf_77_5 ?_
    refine r_iconst F_250_85 ?_
    refine r_iald (e := (s 83 4)) F_250_86 ty_83 (by decide) (lt_ln ln_83 (by decide)) rfl ?_
    refine r_ireturn F_250_87 rt_250 ?_
    exact (l5 e4)
  · have e5 := hh
    refine r_tswI (t := 88) (z := 85) (i := 4) F_250_3 l1 rfl rfl (by omega) (by decide) ?_
    refine r_ldR_n (m := 0) F_250_88 rfl ?_
    refine r_virt2 (A := []) (r := []) (n := 0) F_250_89 o_250 il_6_182 rfl rfl rfl rfl ty_77 vy_204 (lay_le n_204 rfl) ?_
    refine Cl_of n_204 rfl ?_
    show Rn _ _ _ _ [some (vR 77)] [] _ _
    refine r_ldR_n (m := 0) F_204_0 rfl ?_
    refine r_getR (J := 5) F_204_1 o_204 fl_6_25 ty_77 (by decide) rfl (kd2 kd_77_5 (by decide)) (kd9 kd_77_5 (by decide)) rf_77_5 ?_
    refine r_iconst F_204_4 ?_
    refine r_iald (e := (s 83 5)) F_204_5 ty_83 (by decide) (lt_ln ln_83 (by decide)) rfl ?_
    refine r_if (t := 13) F_204_6 rfl (l6 e5) ?_ ?_
    · intro e6
      replace e6 : (s 83 5) ≤ 0 := e6
      refine r_iconst F_204_13 ?_
      refine r_zreturn F_204_14 rt_204 (Or.inl rfl) ?_
      show Rn _ _ _ _ _ [vI 0] _ _
      refine r_ifT (t := 119) F_250_92 rfl (by decide) (by show (0 : Int) = 0; decide) ?_
      refine r_iconst F_250_119 ?_
      refine r_ireturn F_250_120 rt_250 ?_
      exact (l7 e5 e6)
    · intro e7
      replace e7 : 0 < (s 83 5) := (Int.not_le.mp e7)
      refine r_iconst F_204_9 ?_
      refine r_goto (t := 14) F_204_10 rfl ?_
      refine r_zreturn F_204_14 rt_204 (Or.inr rfl) ?_
      show Rn _ _ _ _ _ [vI 1] _ _
      refine r_ifF (t := 119) F_250_92 rfl (by decide) (by show ¬ ((1 : Int) = 0); decide) ?_
      refine r_bipush F_250_95 bi_10 ?_
      refine r_ldR_n (m := 0) F_250_97 rfl ?_
      refine r_getR (J := 5) F_250_98 o_250 fl_6_25 ty_77 (by decide) rfl (kd2 kd_77_5 (by decide)) (kd9 kd_77_5 (by decide)) rf_77_5 ?_
      refine r_iconst F_250_101 ?_
      refine r_iald (e := (s 83 5)) F_250_102 ty_83 (by decide) (lt_ln ln_83 (by decide)) rfl ?_
      refine r_iconst F_250_103 ?_
      refine r_isub F_250_104 rfl ?_
      refine r_imul F_250_105 rfl ?_
      refine r_ldR_n (m := 0) F_250_106 rfl ?_
      refine r_getR (J := 5) F_250_107 o_250 fl_6_25 ty_77 (by decide) rfl (kd2 kd_77_5 (by decide)) (kd9 kd_77_5 (by decide)) rf_77_5 ?_
      refine r_bipush F_250_110 bi_6 ?_
      refine r_iald (e := (s 83 6)) F_250_112 ty_83 (by decide) (lt_ln ln_83 (by decide)) rfl ?_
      refine r_iadd F_250_113 rfl ?_
      refine r_iconst F_250_114 ?_
      refine r_isub F_250_115 rfl ?_
      refine r_goto (t := 120) F_250_116 rfl ?_
      refine r_ireturn F_250_120 rt_250 ?_
      exact (l8 e5 e7)
  · have e8 := hh
    refine r_tswI (t := 121) (z := 118) (i := 5) F_250_3 l1 rfl rfl (by omega) (by decide) ?_
    refine r_ldR_n (m := 0) F_250_121 rfl ?_
    refine r_getR (J := 5) F_250_122 o_250 fl_6_25 ty_77 (by decide) rfl (kd2 kd_77_5 (by decide)) (kd9 kd_77_5 (by decide)) rf_77_5 ?_
    refine r_bipush F_250_125 bi_7 ?_
    refine r_iald (e := (s 83 7)) F_250_127 ty_83 (by decide) (lt_ln ln_83 (by decide)) rfl ?_
    refine r_stat2 (A := [vI (s 83 7)]) (r := []) (n := 1) F_250_128 o_250 il_6_230 (by decide) rfl rfl rfl rfl (lay_le n_232 rfl) ?_
    refine sp_ones  ?_
    show Rn _ _ _ _ _ [vI (on16 (s 83 7))] _ _
    refine r_ireturn F_250_131 rt_250 ?_
    exact (l9 e8)
  · have e9 := hh
    refine r_tswI (t := 132) (z := 129) (i := 6) F_250_3 l1 rfl rfl (by omega) (by decide) ?_
    refine r_ldR_n (m := 0) F_250_132 rfl ?_
    refine r_virt2 (A := []) (r := []) (n := 0) F_250_133 o_250 il_6_267 rfl rfl rfl rfl ty_77 vy_251 (lay_le n_251 rfl) ?_
    refine sp_allHold (l10 e9) ?_
    show Rn _ _ _ _ _ [vI (ahM s)] _ _
    refine r_ireturn F_250_136 rt_250 ?_
    exact (l11 e9)
  · have e10 := hh
    refine r_tswI (t := 137) (z := 134) (i := 7) F_250_3 l1 rfl rfl (by omega) (by decide) ?_
    refine r_iconst F_250_137 ?_
    refine r_stI_n (m := 3) (L' := [some (vR 77), some (vI w), some (vI 0), some (vI 0)]) F_250_138 rfl rfl ?_
    exact (l12 e10)
  · have e11 := hh
    refine r_tswI (t := 177) (z := 174) (i := 8) F_250_3 l1 rfl rfl (by omega) (by decide) ?_
    refine r_iconst F_250_177 ?_
    refine r_stI_n (m := 3) (L' := [some (vR 77), some (vI w), some (vI 0), some (vI 0)]) F_250_178 rfl rfl ?_
    exact (l13 e11)
  · have e12 := hh
    refine r_tswI (t := 210) (z := 207) (i := 9) F_250_3 l1 rfl rfl (by omega) (by decide) ?_
    refine r_iconst F_250_210 ?_
    refine r_stI_n (m := 3) (L' := [some (vR 77), some (vI w), some (vI 0), some (vI 0)]) F_250_211 rfl rfl ?_
    exact (l14 e12)
  · have e13 := hh
    refine r_tswI (t := 242) (z := 239) (i := 10) F_250_3 l1 rfl rfl (by omega) (by decide) ?_
    refine r_iconst F_250_242 ?_
    refine r_stI_n (m := 3) (L' := [some (vR 77), some (vI w), some (vI 0), some (vI 0)]) F_250_243 rfl rfl ?_
    exact (l15 e13)
  · have e14 := hh
    refine r_tswD (t := 274) F_250_3 l1 rfl e14 ?_
    refine r_iconst F_250_274 ?_
    refine r_ireturn F_250_275 rt_250 ?_
    exact (l16 e14)
theorem t_X6_count_139 {X : List Int32} {d : Nat} {s : m_St} {P : Option Value → m_St → Prop} {w n i : Int} (i0 : 0 ≤ i)
    (l1 : inR i)
    (l2 : inR (s 83 0))
    (l3 : (s 83 0) ≤ i → P (some (vI n)) s)
    (l4 : i < (s 83 0) → 0 ≤ (8 + (5 * i)))
    (l5 : i < (s 83 0) → (8 + (5 * i)) < 198)
    (l6 : i < (s 83 0) → inR (s 83 (8 + (5 * i))))
    (l7 : i < (s 83 0) → (s 83 (8 + (5 * i))) = 1 → Rn X (d + 4) 250 139 [some (vR 77), some (vI w), some (vI (n + 1)), some (vI (i + 1))] [] s P)
    (l8 : i < (s 83 0) → ¬ (s 83 (8 + (5 * i))) = 1 → ¬ (s 83 (8 + (5 * i))) = 4 → ¬ (s 83 (8 + (5 * i))) = 5 → Rn X (d + 4) 250 139 [some (vR 77), some (vI w), some (vI n), some (vI (i + 1))] [] s P)
    (l9 : i < (s 83 0) → ¬ (s 83 (8 + (5 * i))) = 1 → ¬ (s 83 (8 + (5 * i))) = 4 → (s 83 (8 + (5 * i))) = 5 → Rn X (d + 4) 250 139 [some (vR 77), some (vI w), some (vI n), some (vI (i + 1))] [] s P)
    (l10 : i < (s 83 0) → ¬ (s 83 (8 + (5 * i))) = 1 → (s 83 (8 + (5 * i))) = 4 → Rn X (d + 4) 250 139 [some (vR 77), some (vI w), some (vI (n + 1)), some (vI (i + 1))] [] s P)
    : Rn X (d + 4) 250 139 [some (vR 77), some (vI w), some (vI n), some (vI i)] [] s P := by
  refine r_ldI_n (m := 3) F_250_139 rfl ?_
  refine r_ldR_n (m := 0) F_250_140 rfl ?_
  refine r_getR (J := 5) F_250_141 o_250 fl_6_25 ty_77 (by decide) rfl (kd2 kd_77_5 (by decide)) (kd9 kd_77_5 (by decide)) rf_77_5 ?_
  refine r_iconst F_250_144 ?_
  refine r_iald (e := (s 83 0)) F_250_145 ty_83 (by decide) (lt_ln ln_83 (by decide)) rfl ?_
  refine r_icmp (t := 175) F_250_146 rfl l1 l2 ?_ ?_
  · intro e1
    replace e1 : (s 83 0) ≤ i := e1
    refine r_ldI_n (m := 2) F_250_175 rfl ?_
    refine r_ireturn F_250_176 rt_250 ?_
    exact (l3 e1)
  · intro e2
    replace e2 : i < (s 83 0) := (Int.not_le.mp e2)
    refine r_ldI_n (m := 2) F_250_149 rfl ?_
    refine r_ldR_n (m := 0) F_250_150 rfl ?_
    refine r_ldI_n (m := 3) F_250_151 rfl ?_
    refine r_virt2 (A := [vI i]) (r := [vI n]) (n := 1) F_250_152 o_250 il_6_136 rfl rfl rfl rfl ty_77 vy_187 (lay_le n_187 rfl) ?_
    refine Cl_of n_187 rfl ?_
    show Rn _ _ _ _ [some (vR 77), some (vI i)] [] _ _
    refine r_ldR_n (m := 0) F_187_0 rfl ?_
    refine r_getR (J := 5) F_187_1 o_187 fl_6_25 ty_77 (by decide) rfl (kd2 kd_77_5 (by decide)) (kd9 kd_77_5 (by decide)) rf_77_5 ?_
    refine r_bipush F_187_4 bi_8 ?_
    refine r_iconst F_187_6 ?_
    refine r_ldI_n (m := 1) F_187_7 rfl ?_
    refine r_imul F_187_8 rfl ?_
    refine r_iadd F_187_9 rfl ?_
    refine r_iald (e := (s 83 (8 + (5 * i)))) F_187_10 ty_83 (l4 e2) (lt_ln ln_83 (l5 e2)) rfl ?_
    refine r_ireturn F_187_11 rt_187 ?_
    show Rn _ _ _ _ _ [vI (s 83 (8 + (5 * i))), vI n] _ _
    refine r_iconst F_250_155 ?_
    refine r_stat2 (A := [vI (s 83 (8 + (5 * i))), vI 1]) (r := [vI n]) (n := 2) F_250_156 o_250 il_6_156 (by decide) rfl rfl rfl rfl (lay_le n_191 rfl) ?_
    refine Cl_of n_191 rfl ?_
    show Rn _ _ _ _ [some (vI (s 83 (8 + (5 * i)))), some (vI 1)] [] _ _
    refine r_ldI_n (m := 0) F_191_0 rfl ?_
    refine r_ldI_n (m := 1) F_191_1 rfl ?_
    refine r_icmp (t := 25) F_191_2 rfl (l6 e2) (by decide) ?_ ?_
    · intro e3
      replace e3 : (s 83 (8 + (5 * i))) = 1 := e3
      refine r_iconst F_191_25 ?_
      refine r_goto (t := 30) F_191_26 rfl ?_
      refine r_zreturn F_191_30 rt_191 (Or.inr rfl) ?_
      show Rn _ _ _ _ _ [vI 1, vI n] _ _
      refine r_ifF (t := 166) F_250_159 rfl (by decide) (by show ¬ ((1 : Int) = 0); decide) ?_
      refine r_iconst F_250_162 ?_
      refine r_goto (t := 167) F_250_163 rfl ?_
      refine r_iadd F_250_167 rfl ?_
      refine r_stI_n (m := 2) (L' := [some (vR 77), some (vI w), some (vI (n + 1)), some (vI i)]) F_250_168 rfl rfl ?_
      refine r_iinc (m := 3) (e := (i + 1)) (L' := [some (vR 77), some (vI w), some (vI (n + 1)), some (vI (i + 1))]) F_250_169 rfl rfl rfl rfl ?_
      refine r_goto (t := 139) F_250_172 rfl ?_
      exact (l7 e2 e3)
    · intro e4
      replace e4 : ¬ (s 83 (8 + (5 * i))) = 1 := e4
      refine r_ldI_n (m := 0) F_191_5 rfl ?_
      refine r_iconst F_191_6 ?_
      refine r_icmp (t := 15) F_191_7 rfl (l6 e2) (by decide) ?_ ?_
      · intro e5
        replace e5 : ¬ (s 83 (8 + (5 * i))) = 4 := e5
        refine r_ldI_n (m := 0) F_191_15 rfl ?_
        refine r_iconst F_191_16 ?_
        refine r_icmp (t := 29) F_191_17 rfl (l6 e2) (by decide) ?_ ?_
        · intro e6
          replace e6 : ¬ (s 83 (8 + (5 * i))) = 5 := e6
          refine r_iconst F_191_29 ?_
          refine r_zreturn F_191_30 rt_191 (Or.inl rfl) ?_
          show Rn _ _ _ _ _ [vI 0, vI n] _ _
          refine r_ifT (t := 166) F_250_159 rfl (by decide) (by show (0 : Int) = 0; decide) ?_
          refine r_iconst F_250_166 ?_
          refine r_iadd (e := n) F_250_167 (Int.add_zero _) ?_
          refine r_stI_n (m := 2) (L' := [some (vR 77), some (vI w), some (vI n), some (vI i)]) F_250_168 rfl rfl ?_
          refine r_iinc (m := 3) (e := (i + 1)) (L' := [some (vR 77), some (vI w), some (vI n), some (vI (i + 1))]) F_250_169 rfl rfl rfl rfl ?_
          refine r_goto (t := 139) F_250_172 rfl ?_
          exact (l8 e2 e4 e5 e6)
        · intro e7
          replace e7 : (s 83 (8 + (5 * i))) = 5 := (Classical.not_not.mp e7)
          refine r_ldI_n (m := 1) F_191_20 rfl ?_
          refine r_iconst F_191_21 ?_
          refine r_icmpT (t := 29) F_191_22 rfl (by decide) (by decide) (by show ¬ (1 : Int) = 2; decide) ?_
          refine r_iconst F_191_29 ?_
          refine r_zreturn F_191_30 rt_191 (Or.inl rfl) ?_
          show Rn _ _ _ _ _ [vI 0, vI n] _ _
          refine r_ifT (t := 166) F_250_159 rfl (by decide) (by show (0 : Int) = 0; decide) ?_
          refine r_iconst F_250_166 ?_
          refine r_iadd (e := n) F_250_167 (Int.add_zero _) ?_
          refine r_stI_n (m := 2) (L' := [some (vR 77), some (vI w), some (vI n), some (vI i)]) F_250_168 rfl rfl ?_
          refine r_iinc (m := 3) (e := (i + 1)) (L' := [some (vR 77), some (vI w), some (vI n), some (vI (i + 1))]) F_250_169 rfl rfl rfl rfl ?_
          refine r_goto (t := 139) F_250_172 rfl ?_
          exact (l9 e2 e4 e5 e7)
      · intro e8
        replace e8 : (s 83 (8 + (5 * i))) = 4 := (Classical.not_not.mp e8)
        refine r_ldI_n (m := 1) F_191_10 rfl ?_
        refine r_iconst F_191_11 ?_
        refine r_icmpT (t := 25) F_191_12 rfl (by decide) (by decide) (by show (1 : Int) = 1; decide) ?_
        refine r_iconst F_191_25 ?_
        refine r_goto (t := 30) F_191_26 rfl ?_
        refine r_zreturn F_191_30 rt_191 (Or.inr rfl) ?_
        show Rn _ _ _ _ _ [vI 1, vI n] _ _
        refine r_ifF (t := 166) F_250_159 rfl (by decide) (by show ¬ ((1 : Int) = 0); decide) ?_
        refine r_iconst F_250_162 ?_
        refine r_goto (t := 167) F_250_163 rfl ?_
        refine r_iadd F_250_167 rfl ?_
        refine r_stI_n (m := 2) (L' := [some (vR 77), some (vI w), some (vI (n + 1)), some (vI i)]) F_250_168 rfl rfl ?_
        refine r_iinc (m := 3) (e := (i + 1)) (L' := [some (vR 77), some (vI w), some (vI (n + 1)), some (vI (i + 1))]) F_250_169 rfl rfl rfl rfl ?_
        refine r_goto (t := 139) F_250_172 rfl ?_
        exact (l10 e2 e4 e8)
theorem t_X6_count_179 {X : List Int32} {d : Nat} {s : m_St} {P : Option Value → m_St → Prop} {w n i : Int} (i0 : 0 ≤ i)
    (l1 : inR i)
    (l2 : 6 ≤ i → P (some (vI n)) s)
    (l3 : i < 6 → inR (s 78 i))
    (l4 : i < 6 → 0 ≤ (s 78 i) → Rn X (d + 4) 250 179 [some (vR 77), some (vI w), some (vI (n + 1)), some (vI (i + 1))] [] s P)
    (l5 : i < 6 → (s 78 i) < 0 → Rn X (d + 4) 250 179 [some (vR 77), some (vI w), some (vI n), some (vI (i + 1))] [] s P)
    : Rn X (d + 4) 250 179 [some (vR 77), some (vI w), some (vI n), some (vI i)] [] s P := by
  refine r_ldI_n (m := 3) F_250_179 rfl ?_
  refine r_bipush F_250_180 bi_6 ?_
  refine r_icmp (t := 208) F_250_182 rfl l1 (by decide) ?_ ?_
  · intro e1
    replace e1 : 6 ≤ i := e1
    refine r_ldI_n (m := 2) F_250_208 rfl ?_
    refine r_ireturn F_250_209 rt_250 ?_
    exact (l2 e1)
  · intro e2
    replace e2 : i < 6 := (Int.not_le.mp e2)
    refine r_ldI_n (m := 2) F_250_185 rfl ?_
    refine r_ldR_n (m := 0) F_250_186 rfl ?_
    refine r_getR (J := 0) F_250_187 o_250 fl_6_7 ty_77 (by decide) rfl (kd2 kd_77_0 (by decide)) (kd9 kd_77_0 (by decide)) rf_77_0 ?_
    refine r_ldI_n (m := 3) F_250_190 rfl ?_
    refine r_iald (e := (s 78 i)) F_250_191 ty_78 i0 (lt_ln ln_78 e2) rfl ?_
    refine r_if (t := 199) F_250_192 rfl (l3 e2) ?_ ?_
    · intro e3
      replace e3 : 0 ≤ (s 78 i) := e3
      refine r_iconst F_250_199 ?_
      refine r_iadd F_250_200 rfl ?_
      refine r_stI_n (m := 2) (L' := [some (vR 77), some (vI w), some (vI (n + 1)), some (vI i)]) F_250_201 rfl rfl ?_
      refine r_iinc (m := 3) (e := (i + 1)) (L' := [some (vR 77), some (vI w), some (vI (n + 1)), some (vI (i + 1))]) F_250_202 rfl rfl rfl rfl ?_
      refine r_goto (t := 179) F_250_205 rfl ?_
      exact (l4 e2 e3)
    · intro e4
      replace e4 : (s 78 i) < 0 := (Int.not_le.mp e4)
      refine r_iconst F_250_195 ?_
      refine r_goto (t := 200) F_250_196 rfl ?_
      refine r_iadd (e := n) F_250_200 (Int.add_zero _) ?_
      refine r_stI_n (m := 2) (L' := [some (vR 77), some (vI w), some (vI n), some (vI i)]) F_250_201 rfl rfl ?_
      refine r_iinc (m := 3) (e := (i + 1)) (L' := [some (vR 77), some (vI w), some (vI n), some (vI (i + 1))]) F_250_202 rfl rfl rfl rfl ?_
      refine r_goto (t := 179) F_250_205 rfl ?_
      exact (l5 e2 e4)
theorem t_X6_count_212 {X : List Int32} {d : Nat} {s : m_St} {P : Option Value → m_St → Prop} {w n i : Int} (i0 : 0 ≤ i)
    (l1 : inR i)
    (l2 : 4 ≤ i → P (some (vI n)) s)
    (l3 : i < 4 → inR (s 81 i))
    (l4 : i < 4 → 0 ≤ (s 81 i) → Rn X (d + 4) 250 212 [some (vR 77), some (vI w), some (vI (n + 1)), some (vI (i + 1))] [] s P)
    (l5 : i < 4 → (s 81 i) < 0 → Rn X (d + 4) 250 212 [some (vR 77), some (vI w), some (vI n), some (vI (i + 1))] [] s P)
    : Rn X (d + 4) 250 212 [some (vR 77), some (vI w), some (vI n), some (vI i)] [] s P := by
  refine r_ldI_n (m := 3) F_250_212 rfl ?_
  refine r_iconst F_250_213 ?_
  refine r_icmp (t := 240) F_250_214 rfl l1 (by decide) ?_ ?_
  · intro e1
    replace e1 : 4 ≤ i := e1
    refine r_ldI_n (m := 2) F_250_240 rfl ?_
    refine r_ireturn F_250_241 rt_250 ?_
    exact (l2 e1)
  · intro e2
    replace e2 : i < 4 := (Int.not_le.mp e2)
    refine r_ldI_n (m := 2) F_250_217 rfl ?_
    refine r_ldR_n (m := 0) F_250_218 rfl ?_
    refine r_getR (J := 3) F_250_219 o_250 fl_6_19 ty_77 (by decide) rfl (kd2 kd_77_3 (by decide)) (kd9 kd_77_3 (by decide)) rf_77_3 ?_
    refine r_ldI_n (m := 3) F_250_222 rfl ?_
    refine r_iald (e := (s 81 i)) F_250_223 ty_81 i0 (lt_ln ln_81 e2) rfl ?_
    refine r_if (t := 231) F_250_224 rfl (l3 e2) ?_ ?_
    · intro e3
      replace e3 : 0 ≤ (s 81 i) := e3
      refine r_iconst F_250_231 ?_
      refine r_iadd F_250_232 rfl ?_
      refine r_stI_n (m := 2) (L' := [some (vR 77), some (vI w), some (vI (n + 1)), some (vI i)]) F_250_233 rfl rfl ?_
      refine r_iinc (m := 3) (e := (i + 1)) (L' := [some (vR 77), some (vI w), some (vI (n + 1)), some (vI (i + 1))]) F_250_234 rfl rfl rfl rfl ?_
      refine r_goto (t := 212) F_250_237 rfl ?_
      exact (l4 e2 e3)
    · intro e4
      replace e4 : (s 81 i) < 0 := (Int.not_le.mp e4)
      refine r_iconst F_250_227 ?_
      refine r_goto (t := 232) F_250_228 rfl ?_
      refine r_iadd (e := n) F_250_232 (Int.add_zero _) ?_
      refine r_stI_n (m := 2) (L' := [some (vR 77), some (vI w), some (vI n), some (vI i)]) F_250_233 rfl rfl ?_
      refine r_iinc (m := 3) (e := (i + 1)) (L' := [some (vR 77), some (vI w), some (vI n), some (vI (i + 1))]) F_250_234 rfl rfl rfl rfl ?_
      refine r_goto (t := 212) F_250_237 rfl ?_
      exact (l5 e2 e4)
theorem t_X6_count_244 {X : List Int32} {d : Nat} {s : m_St} {P : Option Value → m_St → Prop} {w n i : Int} (i0 : 0 ≤ i)
    (l1 : inR i)
    (l2 : 3 ≤ i → P (some (vI n)) s)
    (l3 : i < 3 → inR (s 86 i))
    (l4 : i < 3 → (s 86 i) = 0 → Rn X (d + 4) 250 244 [some (vR 77), some (vI w), some (vI n), some (vI (i + 1))] [] s P)
    (l5 : i < 3 → ¬ (s 86 i) = 0 → Rn X (d + 4) 250 244 [some (vR 77), some (vI w), some (vI (n + 1)), some (vI (i + 1))] [] s P)
    : Rn X (d + 4) 250 244 [some (vR 77), some (vI w), some (vI n), some (vI i)] [] s P := by
  refine r_ldI_n (m := 3) F_250_244 rfl ?_
  refine r_iconst F_250_245 ?_
  refine r_icmp (t := 272) F_250_246 rfl l1 (by decide) ?_ ?_
  · intro e1
    replace e1 : 3 ≤ i := e1
    refine r_ldI_n (m := 2) F_250_272 rfl ?_
    refine r_ireturn F_250_273 rt_250 ?_
    exact (l2 e1)
  · intro e2
    replace e2 : i < 3 := (Int.not_le.mp e2)
    refine r_ldI_n (m := 2) F_250_249 rfl ?_
    refine r_ldR_n (m := 0) F_250_250 rfl ?_
    refine r_getR (J := 8) F_250_251 o_250 fl_6_34 ty_77 (by decide) rfl (kd2 kd_77_8 (by decide)) (kd9 kd_77_8 (by decide)) rf_77_8 ?_
    refine r_ldI_n (m := 3) F_250_254 rfl ?_
    refine r_bald (e := (s 86 i)) F_250_255 ty_86 i0 (lt_ln ln_86 e2) rfl ?_
    refine r_if (t := 263) F_250_256 rfl (l3 e2) ?_ ?_
    · intro e3
      replace e3 : (s 86 i) = 0 := e3
      refine r_iconst F_250_263 ?_
      refine r_iadd (e := n) F_250_264 (Int.add_zero _) ?_
      refine r_stI_n (m := 2) (L' := [some (vR 77), some (vI w), some (vI n), some (vI i)]) F_250_265 rfl rfl ?_
      refine r_iinc (m := 3) (e := (i + 1)) (L' := [some (vR 77), some (vI w), some (vI n), some (vI (i + 1))]) F_250_266 rfl rfl rfl rfl ?_
      refine r_goto (t := 244) F_250_269 rfl ?_
      exact (l4 e2 e3)
    · intro e4
      replace e4 : ¬ (s 86 i) = 0 := e4
      refine r_iconst F_250_259 ?_
      refine r_goto (t := 264) F_250_260 rfl ?_
      refine r_iadd F_250_264 rfl ?_
      refine r_stI_n (m := 2) (L' := [some (vR 77), some (vI w), some (vI (n + 1)), some (vI i)]) F_250_265 rfl rfl ?_
      refine r_iinc (m := 3) (e := (i + 1)) (L' := [some (vR 77), some (vI w), some (vI (n + 1)), some (vI (i + 1))]) F_250_266 rfl rfl rfl rfl ?_
      refine r_goto (t := 244) F_250_269 rfl ?_
      exact (l5 e2 e4)
