/-! walks: the law itself -/
theorem F_170_8 : F 170 8 (.aload_n 0) 9 := ⟨1, by decide +kernel, rfl, rfl⟩
theorem F_170_9 : F 170 9 (.iconst 0) 10 := ⟨1, by decide +kernel, rfl, rfl⟩
theorem F_170_10 : F 170 10 (.invokestatic 15) 13 := ⟨3, by decide +kernel, rfl, rfl⟩
theorem o_170 : m_o 170 = 6 := by decide +kernel
theorem F_170_13 : F 170 13 (.aload_n 0) 14 := ⟨1, by decide +kernel, rfl, rfl⟩
theorem F_170_14 : F 170 14 (.iconst 0) 15 := ⟨1, by decide +kernel, rfl, rfl⟩
theorem F_170_15 : F 170 15 (.invokestatic 15) 18 := ⟨3, by decide +kernel, rfl, rfl⟩
theorem F_170_18 : F 170 18 (.bipush 9) 20 := ⟨2, by decide +kernel, rfl, rfl⟩
theorem F_170_20 : F 170 20 (.ishr) 21 := ⟨1, by decide +kernel, rfl, rfl⟩
theorem F_170_21 : F 170 21 (.iconst 2) 22 := ⟨1, by decide +kernel, rfl, rfl⟩
theorem F_170_22 : F 170 22 (.invokestatic 21) 25 := ⟨3, by decide +kernel, rfl, rfl⟩
theorem F_170_25 : F 170 25 (.ifCond .ne 8) 28 := ⟨3, by decide +kernel, rfl, rfl⟩
theorem F_170_33 : F 170 33 (.bipush 9) 35 := ⟨2, by decide +kernel, rfl, rfl⟩
theorem F_170_35 : F 170 35 (.invokestatic 21) 38 := ⟨3, by decide +kernel, rfl, rfl⟩
theorem F_170_38 : F 170 38 (.istore_n 2) 39 := ⟨1, by decide +kernel, rfl, rfl⟩
theorem F_170_39 : F 170 39 (.aload_n 0) 40 := ⟨1, by decide +kernel, rfl, rfl⟩
theorem F_170_40 : F 170 40 (.iconst 1) 41 := ⟨1, by decide +kernel, rfl, rfl⟩
theorem F_170_41 : F 170 41 (.invokestatic 15) 44 := ⟨3, by decide +kernel, rfl, rfl⟩
theorem F_170_44 : F 170 44 (.bipush 6) 46 := ⟨2, by decide +kernel, rfl, rfl⟩
theorem F_170_46 : F 170 46 (.invokestatic 21) 49 := ⟨3, by decide +kernel, rfl, rfl⟩
theorem F_170_49 : F 170 49 (.istore_n 3) 50 := ⟨1, by decide +kernel, rfl, rfl⟩
theorem F_170_50 : F 170 50 (.iconst 2) 51 := ⟨1, by decide +kernel, rfl, rfl⟩
theorem F_170_51 : F 170 51 (.aload_n 0) 52 := ⟨1, by decide +kernel, rfl, rfl⟩
theorem F_170_52 : F 170 52 (.iconst 2) 53 := ⟨1, by decide +kernel, rfl, rfl⟩
theorem F_170_53 : F 170 53 (.invokestatic 15) 56 := ⟨3, by decide +kernel, rfl, rfl⟩
theorem F_170_56 : F 170 56 (.iconst 5) 57 := ⟨1, by decide +kernel, rfl, rfl⟩
theorem F_170_57 : F 170 57 (.invokestatic 21) 60 := ⟨3, by decide +kernel, rfl, rfl⟩
theorem F_170_60 : F 170 60 (.iadd) 61 := ⟨1, by decide +kernel, rfl, rfl⟩
theorem F_170_61 : F 170 61 (.istore 4) 63 := ⟨2, by decide +kernel, rfl, rfl⟩
theorem F_170_63 : F 170 63 (.bipush 12) 65 := ⟨2, by decide +kernel, rfl, rfl⟩
theorem bi_12 : (Int8.ofInt 12).toInt32 = Int32.ofInt 12 := by decide +kernel
theorem F_170_65 : F 170 65 (.newarray .int) 67 := ⟨2, by decide +kernel, rfl, rfl⟩
theorem F_170_28 : F 170 28 (.bipush 41) 30 := ⟨2, by decide +kernel, rfl, rfl⟩
theorem bi_41 : (Int8.ofInt 41).toInt32 = Int32.ofInt 41 := by decide +kernel
theorem F_170_30 : F 170 30 (.goto 5) 33 := ⟨3, by decide +kernel, rfl, rfl⟩
theorem F_170_67 : F 170 67 (.astore 5) 69 := ⟨2, by decide +kernel, rfl, rfl⟩
theorem F_170_69 : F 170 69 (.bipush 30) 71 := ⟨2, by decide +kernel, rfl, rfl⟩
theorem bi_30 : (Int8.ofInt 30).toInt32 = Int32.ofInt 30 := by decide +kernel
theorem F_170_71 : F 170 71 (.newarray .int) 73 := ⟨2, by decide +kernel, rfl, rfl⟩
theorem F_170_73 : F 170 73 (.astore 6) 75 := ⟨2, by decide +kernel, rfl, rfl⟩
theorem F_170_75 : F 170 75 (.aload_n 0) 76 := ⟨1, by decide +kernel, rfl, rfl⟩
theorem F_170_76 : F 170 76 (.iconst 3) 77 := ⟨1, by decide +kernel, rfl, rfl⟩
theorem F_170_77 : F 170 77 (.iload_n 3) 78 := ⟨1, by decide +kernel, rfl, rfl⟩
theorem F_170_78 : F 170 78 (.aload 5) 80 := ⟨2, by decide +kernel, rfl, rfl⟩
theorem F_170_80 : F 170 80 (.iload 4) 82 := ⟨2, by decide +kernel, rfl, rfl⟩
theorem F_170_82 : F 170 82 (.aload 6) 84 := ⟨2, by decide +kernel, rfl, rfl⟩
theorem F_170_84 : F 170 84 (.invokestatic 58) 87 := ⟨3, by decide +kernel, rfl, rfl⟩
theorem il_6_58 : ilq 6 58 1 159 6 = true := by decide +kernel
theorem F_170_87 : F 170 87 (.aload_n 1) 88 := ⟨1, by decide +kernel, rfl, rfl⟩
theorem F_170_88 : F 170 88 (.iload_n 2) 89 := ⟨1, by decide +kernel, rfl, rfl⟩
theorem F_170_89 : F 170 89 (.iload_n 3) 90 := ⟨1, by decide +kernel, rfl, rfl⟩
theorem F_170_90 : F 170 90 (.aload 5) 92 := ⟨2, by decide +kernel, rfl, rfl⟩
theorem F_170_92 : F 170 92 (.iload 4) 94 := ⟨2, by decide +kernel, rfl, rfl⟩
theorem F_170_94 : F 170 94 (.aload 6) 96 := ⟨2, by decide +kernel, rfl, rfl⟩
theorem F_170_96 : F 170 96 (.aload_n 0) 97 := ⟨1, by decide +kernel, rfl, rfl⟩
theorem F_170_97 : F 170 97 (.bipush 10) 99 := ⟨2, by decide +kernel, rfl, rfl⟩
theorem F_170_99 : F 170 99 (.invokestatic 15) 102 := ⟨3, by decide +kernel, rfl, rfl⟩
theorem F_170_102 : F 170 102 (.invokestatic 62) 105 := ⟨3, by decide +kernel, rfl, rfl⟩
theorem il_6_62 : ilq 6 62 1 160 7 = true := by decide +kernel
theorem F_170_105 : F 170 105 (.istore 7) 107 := ⟨2, by decide +kernel, rfl, rfl⟩
theorem F_170_107 : F 170 107 (.iconst 2) 108 := ⟨1, by decide +kernel, rfl, rfl⟩
theorem F_170_108 : F 170 108 (.newarray .int) 110 := ⟨2, by decide +kernel, rfl, rfl⟩
theorem F_170_110 : F 170 110 (.astore 8) 112 := ⟨2, by decide +kernel, rfl, rfl⟩
theorem F_170_112 : F 170 112 (.bipush 30) 114 := ⟨2, by decide +kernel, rfl, rfl⟩
theorem F_170_114 : F 170 114 (.newarray .int) 116 := ⟨2, by decide +kernel, rfl, rfl⟩
theorem F_170_116 : F 170 116 (.astore 9) 118 := ⟨2, by decide +kernel, rfl, rfl⟩
theorem F_170_118 : F 170 118 (.iload_n 2) 119 := ⟨1, by decide +kernel, rfl, rfl⟩
theorem F_170_119 : F 170 119 (.istore 10) 121 := ⟨2, by decide +kernel, rfl, rfl⟩
theorem F_170_121 : F 170 121 (.iconst 0) 122 := ⟨1, by decide +kernel, rfl, rfl⟩
theorem F_170_122 : F 170 122 (.istore 11) 124 := ⟨2, by decide +kernel, rfl, rfl⟩
theorem F_170_124 : F 170 124 (.iconst 0) 125 := ⟨1, by decide +kernel, rfl, rfl⟩
theorem F_170_125 : F 170 125 (.istore 12) 127 := ⟨2, by decide +kernel, rfl, rfl⟩
theorem F_170_127 : F 170 127 (.iconst 0) 128 := ⟨1, by decide +kernel, rfl, rfl⟩
theorem F_170_128 : F 170 128 (.istore 13) 130 := ⟨2, by decide +kernel, rfl, rfl⟩
theorem F_170_130 : F 170 130 (.iconst 0) 131 := ⟨1, by decide +kernel, rfl, rfl⟩
theorem F_170_131 : F 170 131 (.istore 14) 133 := ⟨2, by decide +kernel, rfl, rfl⟩
theorem F_170_133 : F 170 133 (.iload 14) 135 := ⟨2, by decide +kernel, rfl, rfl⟩
theorem F_170_135 : F 170 135 (.bipush 36) 137 := ⟨2, by decide +kernel, rfl, rfl⟩
theorem bi_36 : (Int8.ofInt 36).toInt32 = Int32.ofInt 36 := by decide +kernel
theorem F_170_137 : F 170 137 (.if_icmp .ge 759) 140 := ⟨3, by decide +kernel, rfl, rfl⟩
theorem F_170_896 : F 170 896 (.iload 7) 898 := ⟨2, by decide +kernel, rfl, rfl⟩
theorem F_170_898 : F 170 898 (.ireturn) 899 := ⟨1, by decide +kernel, rfl, rfl⟩
theorem rt_170 : m_r 170 = (some .boolean) := by decide +kernel
theorem F_170_140 : F 170 140 (.iload 7) 142 := ⟨2, by decide +kernel, rfl, rfl⟩
theorem F_170_142 : F 170 142 (.ifCond .eq 754) 145 := ⟨3, by decide +kernel, rfl, rfl⟩
theorem F_170_145 : F 170 145 (.aload_n 0) 146 := ⟨1, by decide +kernel, rfl, rfl⟩
theorem F_170_146 : F 170 146 (.bipush 11) 148 := ⟨2, by decide +kernel, rfl, rfl⟩
theorem bi_11 : (Int8.ofInt 11).toInt32 = Int32.ofInt 11 := by decide +kernel
theorem F_170_148 : F 170 148 (.iload 14) 150 := ⟨2, by decide +kernel, rfl, rfl⟩
theorem F_170_150 : F 170 150 (.bipush 18) 152 := ⟨2, by decide +kernel, rfl, rfl⟩
theorem bi_18 : (Int8.ofInt 18).toInt32 = Int32.ofInt 18 := by decide +kernel
theorem F_170_152 : F 170 152 (.irem) 153 := ⟨1, by decide +kernel, rfl, rfl⟩
theorem F_170_153 : F 170 153 (.iadd) 154 := ⟨1, by decide +kernel, rfl, rfl⟩
theorem F_170_154 : F 170 154 (.invokestatic 15) 157 := ⟨3, by decide +kernel, rfl, rfl⟩
theorem F_170_157 : F 170 157 (.iload 14) 159 := ⟨2, by decide +kernel, rfl, rfl⟩
theorem F_170_159 : F 170 159 (.bipush 18) 161 := ⟨2, by decide +kernel, rfl, rfl⟩
theorem F_170_161 : F 170 161 (.idiv) 162 := ⟨1, by decide +kernel, rfl, rfl⟩
theorem F_170_162 : F 170 162 (.ishr) 163 := ⟨1, by decide +kernel, rfl, rfl⟩
theorem F_170_163 : F 170 163 (.istore 15) 165 := ⟨2, by decide +kernel, rfl, rfl⟩
theorem F_170_165 : F 170 165 (.iload 15) 167 := ⟨2, by decide +kernel, rfl, rfl⟩
theorem F_170_167 : F 170 167 (.bipush 8) 169 := ⟨2, by decide +kernel, rfl, rfl⟩
theorem F_170_169 : F 170 169 (.invokestatic 21) 172 := ⟨3, by decide +kernel, rfl, rfl⟩
theorem F_170_172 : F 170 172 (.istore 16) 174 := ⟨2, by decide +kernel, rfl, rfl⟩
theorem F_170_174 : F 170 174 (.iload 16) 176 := ⟨2, by decide +kernel, rfl, rfl⟩
theorem F_170_176 : F 170 176 (.ifCond .eq 8) 179 := ⟨3, by decide +kernel, rfl, rfl⟩
theorem F_170_179 : F 170 179 (.iload 13) 181 := ⟨2, by decide +kernel, rfl, rfl⟩
theorem F_170_181 : F 170 181 (.ifCond .ne 188) 184 := ⟨3, by decide +kernel, rfl, rfl⟩
theorem F_170_369 : F 170 369 (.iload 16) 371 := ⟨2, by decide +kernel, rfl, rfl⟩
theorem F_170_371 : F 170 371 (.iconst 1) 372 := ⟨1, by decide +kernel, rfl, rfl⟩
theorem F_170_372 : F 170 372 (.if_icmp .ne 63) 375 := ⟨3, by decide +kernel, rfl, rfl⟩
theorem F_170_435 : F 170 435 (.iload 15) 437 := ⟨2, by decide +kernel, rfl, rfl⟩
theorem F_170_437 : F 170 437 (.iconst 3) 438 := ⟨1, by decide +kernel, rfl, rfl⟩
theorem F_170_438 : F 170 438 (.ishr) 439 := ⟨1, by decide +kernel, rfl, rfl⟩
theorem F_170_439 : F 170 439 (.bipush 8) 441 := ⟨2, by decide +kernel, rfl, rfl⟩
theorem F_170_441 : F 170 441 (.invokestatic 21) 444 := ⟨3, by decide +kernel, rfl, rfl⟩
theorem F_170_444 : F 170 444 (.istore 17) 446 := ⟨2, by decide +kernel, rfl, rfl⟩
theorem F_170_446 : F 170 446 (.iconst 0) 447 := ⟨1, by decide +kernel, rfl, rfl⟩
theorem F_170_447 : F 170 447 (.istore 18) 449 := ⟨2, by decide +kernel, rfl, rfl⟩
theorem F_170_375 : F 170 375 (.iload 10) 377 := ⟨2, by decide +kernel, rfl, rfl⟩
theorem F_170_377 : F 170 377 (.iload_n 2) 378 := ⟨1, by decide +kernel, rfl, rfl⟩
theorem F_170_378 : F 170 378 (.if_icmp .ge 7) 381 := ⟨3, by decide +kernel, rfl, rfl⟩
theorem F_170_385 : F 170 385 (.iconst 0) 386 := ⟨1, by decide +kernel, rfl, rfl⟩
theorem F_170_386 : F 170 386 (.istore 17) 388 := ⟨2, by decide +kernel, rfl, rfl⟩
theorem F_170_388 : F 170 388 (.aload_n 1) 389 := ⟨1, by decide +kernel, rfl, rfl⟩
theorem F_170_389 : F 170 389 (.invokevirtual 72) 392 := ⟨3, by decide +kernel, rfl, rfl⟩
theorem il_6_72 : ilq 6 72 0 89 0 = true := by decide +kernel
theorem vy_89 : (m_cls 5).1 = (m_y 89).cls ∧ 5 < m_cl.length := by decide +kernel
theorem F_170_381 : F 170 381 (.iconst 1) 382 := ⟨1, by decide +kernel, rfl, rfl⟩
theorem F_170_382 : F 170 382 (.goto 4) 385 := ⟨3, by decide +kernel, rfl, rfl⟩
theorem F_170_184 : F 170 184 (.iload 15) 186 := ⟨2, by decide +kernel, rfl, rfl⟩
theorem F_170_186 : F 170 186 (.iconst 3) 187 := ⟨1, by decide +kernel, rfl, rfl⟩
theorem F_170_187 : F 170 187 (.ishr) 188 := ⟨1, by decide +kernel, rfl, rfl⟩
theorem F_170_188 : F 170 188 (.iload 4) 190 := ⟨2, by decide +kernel, rfl, rfl⟩
theorem F_170_190 : F 170 190 (.invokestatic 21) 193 := ⟨3, by decide +kernel, rfl, rfl⟩
theorem F_170_193 : F 170 193 (.istore 17) 195 := ⟨2, by decide +kernel, rfl, rfl⟩
theorem F_170_195 : F 170 195 (.iload 15) 197 := ⟨2, by decide +kernel, rfl, rfl⟩
theorem F_170_197 : F 170 197 (.bipush 6) 199 := ⟨2, by decide +kernel, rfl, rfl⟩
theorem F_170_199 : F 170 199 (.ishr) 200 := ⟨1, by decide +kernel, rfl, rfl⟩
theorem F_170_200 : F 170 200 (.iload 4) 202 := ⟨2, by decide +kernel, rfl, rfl⟩
theorem F_170_202 : F 170 202 (.invokestatic 21) 205 := ⟨3, by decide +kernel, rfl, rfl⟩
theorem F_170_205 : F 170 205 (.istore 18) 207 := ⟨2, by decide +kernel, rfl, rfl⟩
theorem F_170_207 : F 170 207 (.iload 17) 209 := ⟨2, by decide +kernel, rfl, rfl⟩
theorem F_170_209 : F 170 209 (.iload 18) 211 := ⟨2, by decide +kernel, rfl, rfl⟩
theorem F_170_211 : F 170 211 (.if_icmp .eq 30) 214 := ⟨3, by decide +kernel, rfl, rfl⟩
theorem F_170_241 : F 170 241 (.iconst 0) 242 := ⟨1, by decide +kernel, rfl, rfl⟩
theorem F_170_242 : F 170 242 (.istore 19) 244 := ⟨2, by decide +kernel, rfl, rfl⟩
theorem F_170_214 : F 170 214 (.iload 13) 216 := ⟨2, by decide +kernel, rfl, rfl⟩
theorem F_170_216 : F 170 216 (.ifCond .eq 21) 219 := ⟨3, by decide +kernel, rfl, rfl⟩
theorem F_170_237 : F 170 237 (.iconst 1) 238 := ⟨1, by decide +kernel, rfl, rfl⟩
theorem F_170_238 : F 170 238 (.goto 4) 241 := ⟨3, by decide +kernel, rfl, rfl⟩
theorem F_170_219 : F 170 219 (.aload 8) 221 := ⟨2, by decide +kernel, rfl, rfl⟩
theorem F_170_221 : F 170 221 (.iconst 0) 222 := ⟨1, by decide +kernel, rfl, rfl⟩
theorem F_170_222 : F 170 222 (.iaload) 223 := ⟨1, by decide +kernel, rfl, rfl⟩
theorem F_170_223 : F 170 223 (.iload 17) 225 := ⟨2, by decide +kernel, rfl, rfl⟩
theorem F_170_225 : F 170 225 (.if_icmp .ne 12) 228 := ⟨3, by decide +kernel, rfl, rfl⟩
theorem F_170_228 : F 170 228 (.aload 8) 230 := ⟨2, by decide +kernel, rfl, rfl⟩
theorem F_170_230 : F 170 230 (.iconst 1) 231 := ⟨1, by decide +kernel, rfl, rfl⟩
theorem F_170_231 : F 170 231 (.iaload) 232 := ⟨1, by decide +kernel, rfl, rfl⟩
theorem F_170_232 : F 170 232 (.iload 18) 234 := ⟨2, by decide +kernel, rfl, rfl⟩
theorem F_170_234 : F 170 234 (.if_icmp .eq 7) 237 := ⟨3, by decide +kernel, rfl, rfl⟩
theorem F_170_449 : F 170 449 (.iload 18) 451 := ⟨2, by decide +kernel, rfl, rfl⟩
theorem F_170_451 : F 170 451 (.bipush 8) 453 := ⟨2, by decide +kernel, rfl, rfl⟩
theorem F_170_453 : F 170 453 (.if_icmp .ge 47) 456 := ⟨3, by decide +kernel, rfl, rfl⟩
theorem F_170_456 : F 170 456 (.iload 15) 458 := ⟨2, by decide +kernel, rfl, rfl⟩
theorem F_170_458 : F 170 458 (.bipush 6) 460 := ⟨2, by decide +kernel, rfl, rfl⟩
theorem F_170_460 : F 170 460 (.ishr) 461 := ⟨1, by decide +kernel, rfl, rfl⟩
theorem F_170_461 : F 170 461 (.iconst 4) 462 := ⟨1, by decide +kernel, rfl, rfl⟩
theorem F_170_462 : F 170 462 (.invokestatic 21) 465 := ⟨3, by decide +kernel, rfl, rfl⟩
theorem F_170_465 : F 170 465 (.ifCond .le 35) 468 := ⟨3, by decide +kernel, rfl, rfl⟩
theorem F_170_468 : F 170 468 (.aload 6) 470 := ⟨2, by decide +kernel, rfl, rfl⟩
theorem F_170_470 : F 170 470 (.aload 8) 472 := ⟨2, by decide +kernel, rfl, rfl⟩
theorem F_170_472 : F 170 472 (.iload 17) 474 := ⟨2, by decide +kernel, rfl, rfl⟩
theorem F_170_474 : F 170 474 (.invokestatic 76) 477 := ⟨3, by decide +kernel, rfl, rfl⟩
theorem il_6_76 : ilq 6 76 1 163 3 = true := by decide +kernel
theorem F_170_477 : F 170 477 (.ifCond .eq 8) 480 := ⟨3, by decide +kernel, rfl, rfl⟩
theorem F_170_485 : F 170 485 (.iload 17) 487 := ⟨2, by decide +kernel, rfl, rfl⟩
theorem F_170_487 : F 170 487 (.iconst 1) 488 := ⟨1, by decide +kernel, rfl, rfl⟩
theorem F_170_488 : F 170 488 (.iadd) 489 := ⟨1, by decide +kernel, rfl, rfl⟩
theorem F_170_489 : F 170 489 (.bipush 8) 491 := ⟨2, by decide +kernel, rfl, rfl⟩
theorem F_170_491 : F 170 491 (.irem) 492 := ⟨1, by decide +kernel, rfl, rfl⟩
theorem F_170_492 : F 170 492 (.istore 17) 494 := ⟨2, by decide +kernel, rfl, rfl⟩
theorem F_170_494 : F 170 494 (.iinc 18 1) 497 := ⟨3, by decide +kernel, rfl, rfl⟩
theorem F_170_497 : F 170 497 (.goto (-48)) 500 := ⟨3, by decide +kernel, rfl, rfl⟩
theorem F_170_480 : F 170 480 (.iload 17) 482 := ⟨2, by decide +kernel, rfl, rfl⟩
theorem F_170_482 : F 170 482 (.goto 10) 485 := ⟨3, by decide +kernel, rfl, rfl⟩
theorem F_170_392 : F 170 392 (.iload 17) 394 := ⟨2, by decide +kernel, rfl, rfl⟩
theorem F_170_394 : F 170 394 (.ifCond .eq 8) 397 := ⟨3, by decide +kernel, rfl, rfl⟩
theorem F_170_402 : F 170 402 (.bipush (-4)) 404 := ⟨2, by decide +kernel, rfl, rfl⟩
theorem F_170_404 : F 170 404 (.if_icmp .ne 7) 407 := ⟨3, by decide +kernel, rfl, rfl⟩
theorem F_170_411 : F 170 411 (.iconst 0) 412 := ⟨1, by decide +kernel, rfl, rfl⟩
theorem F_170_412 : F 170 412 (.istore 7) 414 := ⟨2, by decide +kernel, rfl, rfl⟩
theorem F_170_414 : F 170 414 (.iload_n 2) 415 := ⟨1, by decide +kernel, rfl, rfl⟩
theorem F_170_415 : F 170 415 (.istore 10) 417 := ⟨2, by decide +kernel, rfl, rfl⟩
theorem F_170_417 : F 170 417 (.iload 11) 419 := ⟨2, by decide +kernel, rfl, rfl⟩
theorem F_170_419 : F 170 419 (.iload 17) 421 := ⟨2, by decide +kernel, rfl, rfl⟩
theorem F_170_421 : F 170 421 (.ifCond .eq 7) 424 := ⟨3, by decide +kernel, rfl, rfl⟩
theorem F_170_428 : F 170 428 (.iconst 0) 429 := ⟨1, by decide +kernel, rfl, rfl⟩
theorem F_170_429 : F 170 429 (.iadd) 430 := ⟨1, by decide +kernel, rfl, rfl⟩
theorem F_170_430 : F 170 430 (.istore 11) 432 := ⟨2, by decide +kernel, rfl, rfl⟩
theorem F_170_432 : F 170 432 (.goto 179) 435 := ⟨3, by decide +kernel, rfl, rfl⟩
theorem F_170_407 : F 170 407 (.iconst 1) 408 := ⟨1, by decide +kernel, rfl, rfl⟩
theorem F_170_408 : F 170 408 (.goto 4) 411 := ⟨3, by decide +kernel, rfl, rfl⟩
theorem F_170_397 : F 170 397 (.iload 10) 399 := ⟨2, by decide +kernel, rfl, rfl⟩
theorem F_170_399 : F 170 399 (.goto 5) 402 := ⟨3, by decide +kernel, rfl, rfl⟩
theorem F_170_424 : F 170 424 (.iconst 1) 425 := ⟨1, by decide +kernel, rfl, rfl⟩
theorem F_170_425 : F 170 425 (.goto 4) 428 := ⟨3, by decide +kernel, rfl, rfl⟩
theorem F_170_244 : F 170 244 (.aload 8) 246 := ⟨2, by decide +kernel, rfl, rfl⟩
theorem F_170_246 : F 170 246 (.iconst 0) 247 := ⟨1, by decide +kernel, rfl, rfl⟩
theorem F_170_247 : F 170 247 (.iload 19) 249 := ⟨2, by decide +kernel, rfl, rfl⟩
theorem F_170_249 : F 170 249 (.ifCond .eq 8) 252 := ⟨3, by decide +kernel, rfl, rfl⟩
theorem F_170_257 : F 170 257 (.aload 8) 259 := ⟨2, by decide +kernel, rfl, rfl⟩
theorem F_170_259 : F 170 259 (.iconst 0) 260 := ⟨1, by decide +kernel, rfl, rfl⟩
theorem F_170_260 : F 170 260 (.iaload) 261 := ⟨1, by decide +kernel, rfl, rfl⟩
theorem F_170_261 : F 170 261 (.iastore) 262 := ⟨1, by decide +kernel, rfl, rfl⟩
theorem F_170_262 : F 170 262 (.aload 8) 264 := ⟨2, by decide +kernel, rfl, rfl⟩
theorem F_170_264 : F 170 264 (.iconst 1) 265 := ⟨1, by decide +kernel, rfl, rfl⟩
theorem F_170_265 : F 170 265 (.iload 19) 267 := ⟨2, by decide +kernel, rfl, rfl⟩
theorem F_170_267 : F 170 267 (.ifCond .eq 8) 270 := ⟨3, by decide +kernel, rfl, rfl⟩
theorem F_170_275 : F 170 275 (.aload 8) 277 := ⟨2, by decide +kernel, rfl, rfl⟩
theorem F_170_277 : F 170 277 (.iconst 1) 278 := ⟨1, by decide +kernel, rfl, rfl⟩
theorem F_170_278 : F 170 278 (.iaload) 279 := ⟨1, by decide +kernel, rfl, rfl⟩
theorem F_170_279 : F 170 279 (.iastore) 280 := ⟨1, by decide +kernel, rfl, rfl⟩
theorem F_170_280 : F 170 280 (.iload 11) 282 := ⟨2, by decide +kernel, rfl, rfl⟩
theorem F_170_282 : F 170 282 (.iload 19) 284 := ⟨2, by decide +kernel, rfl, rfl⟩
theorem F_170_284 : F 170 284 (.ifCond .eq 7) 287 := ⟨3, by decide +kernel, rfl, rfl⟩
theorem F_170_291 : F 170 291 (.iconst 0) 292 := ⟨1, by decide +kernel, rfl, rfl⟩
theorem F_170_292 : F 170 292 (.iadd) 293 := ⟨1, by decide +kernel, rfl, rfl⟩
theorem F_170_293 : F 170 293 (.istore 11) 295 := ⟨2, by decide +kernel, rfl, rfl⟩
theorem F_170_295 : F 170 295 (.aload_n 1) 296 := ⟨1, by decide +kernel, rfl, rfl⟩
theorem F_170_296 : F 170 296 (.iload 17) 298 := ⟨2, by decide +kernel, rfl, rfl⟩
theorem F_170_298 : F 170 298 (.iload 18) 300 := ⟨2, by decide +kernel, rfl, rfl⟩
theorem F_170_300 : F 170 300 (.invokevirtual 66) 303 := ⟨3, by decide +kernel, rfl, rfl⟩
theorem il_6_66 : ilq 6 66 0 79 2 = true := by decide +kernel
theorem vy_79 : (m_cls 5).1 = (m_y 79).cls ∧ 5 < m_cl.length := by decide +kernel
theorem F_170_252 : F 170 252 (.iload 17) 254 := ⟨2, by decide +kernel, rfl, rfl⟩
theorem F_170_254 : F 170 254 (.goto 7) 257 := ⟨3, by decide +kernel, rfl, rfl⟩
theorem F_170_270 : F 170 270 (.iload 18) 272 := ⟨2, by decide +kernel, rfl, rfl⟩
theorem F_170_272 : F 170 272 (.goto 7) 275 := ⟨3, by decide +kernel, rfl, rfl⟩
theorem F_170_287 : F 170 287 (.iconst 1) 288 := ⟨1, by decide +kernel, rfl, rfl⟩
theorem F_170_288 : F 170 288 (.goto 4) 291 := ⟨3, by decide +kernel, rfl, rfl⟩
theorem F_170_500 : F 170 500 (.aload 6) 502 := ⟨2, by decide +kernel, rfl, rfl⟩
theorem F_170_502 : F 170 502 (.aload 8) 504 := ⟨2, by decide +kernel, rfl, rfl⟩
theorem F_170_504 : F 170 504 (.iload 17) 506 := ⟨2, by decide +kernel, rfl, rfl⟩
theorem F_170_506 : F 170 506 (.invokestatic 76) 509 := ⟨3, by decide +kernel, rfl, rfl⟩
theorem F_170_509 : F 170 509 (.istore 18) 511 := ⟨2, by decide +kernel, rfl, rfl⟩
theorem F_170_511 : F 170 511 (.iload 18) 513 := ⟨2, by decide +kernel, rfl, rfl⟩
theorem F_170_513 : F 170 513 (.ifCond .eq 12) 516 := ⟨3, by decide +kernel, rfl, rfl⟩
theorem F_170_525 : F 170 525 (.iconst 0) 526 := ⟨1, by decide +kernel, rfl, rfl⟩
theorem F_170_526 : F 170 526 (.istore 19) 528 := ⟨2, by decide +kernel, rfl, rfl⟩
theorem F_170_516 : F 170 516 (.iload 10) 518 := ⟨2, by decide +kernel, rfl, rfl⟩
theorem F_170_518 : F 170 518 (.ifCond .le 7) 521 := ⟨3, by decide +kernel, rfl, rfl⟩
theorem F_170_521 : F 170 521 (.iconst 1) 522 := ⟨1, by decide +kernel, rfl, rfl⟩
theorem F_170_522 : F 170 522 (.goto 4) 525 := ⟨3, by decide +kernel, rfl, rfl⟩
theorem F_170_611 : F 170 611 (.iload 13) 613 := ⟨2, by decide +kernel, rfl, rfl⟩
theorem F_170_613 : F 170 613 (.ifCond .eq 25) 616 := ⟨3, by decide +kernel, rfl, rfl⟩
theorem F_170_638 : F 170 638 (.bipush (-4)) 640 := ⟨2, by decide +kernel, rfl, rfl⟩
theorem F_170_640 : F 170 640 (.istore 17) 642 := ⟨2, by decide +kernel, rfl, rfl⟩
theorem F_170_616 : F 170 616 (.aload 6) 618 := ⟨2, by decide +kernel, rfl, rfl⟩
theorem F_170_618 : F 170 618 (.aload 8) 620 := ⟨2, by decide +kernel, rfl, rfl⟩
theorem F_170_620 : F 170 620 (.iconst 0) 621 := ⟨1, by decide +kernel, rfl, rfl⟩
theorem F_170_621 : F 170 621 (.iaload) 622 := ⟨1, by decide +kernel, rfl, rfl⟩
theorem F_170_622 : F 170 622 (.invokestatic 69) 625 := ⟨3, by decide +kernel, rfl, rfl⟩
theorem il_6_69 : ilq 6 69 1 169 2 = true := by decide +kernel
theorem F_170_625 : F 170 625 (.aload 6) 627 := ⟨2, by decide +kernel, rfl, rfl⟩
theorem F_170_627 : F 170 627 (.aload 8) 629 := ⟨2, by decide +kernel, rfl, rfl⟩
theorem F_170_629 : F 170 629 (.iconst 1) 630 := ⟨1, by decide +kernel, rfl, rfl⟩
theorem F_170_630 : F 170 630 (.iaload) 631 := ⟨1, by decide +kernel, rfl, rfl⟩
theorem F_170_631 : F 170 631 (.invokestatic 69) 634 := ⟨3, by decide +kernel, rfl, rfl⟩
theorem F_170_634 : F 170 634 (.iand) 635 := ⟨1, by decide +kernel, rfl, rfl⟩
theorem F_170_635 : F 170 635 (.goto 5) 638 := ⟨3, by decide +kernel, rfl, rfl⟩
theorem F_170_303 : F 170 303 (.iload 17) 305 := ⟨2, by decide +kernel, rfl, rfl⟩
theorem F_170_305 : F 170 305 (.iload 18) 307 := ⟨2, by decide +kernel, rfl, rfl⟩
theorem F_170_307 : F 170 307 (.if_icmp .ne 7) 310 := ⟨3, by decide +kernel, rfl, rfl⟩
theorem F_170_314 : F 170 314 (.iload 19) 316 := ⟨2, by decide +kernel, rfl, rfl⟩
theorem F_170_316 : F 170 316 (.ifCond .eq 21) 319 := ⟨3, by decide +kernel, rfl, rfl⟩
theorem F_170_337 : F 170 337 (.bipush (-4)) 339 := ⟨2, by decide +kernel, rfl, rfl⟩
theorem F_170_339 : F 170 339 (.if_icmp .ne 7) 342 := ⟨3, by decide +kernel, rfl, rfl⟩
theorem F_170_346 : F 170 346 (.iconst 0) 347 := ⟨1, by decide +kernel, rfl, rfl⟩
theorem F_170_347 : F 170 347 (.istore 7) 349 := ⟨2, by decide +kernel, rfl, rfl⟩
theorem F_170_342 : F 170 342 (.iconst 1) 343 := ⟨1, by decide +kernel, rfl, rfl⟩
theorem F_170_343 : F 170 343 (.goto 4) 346 := ⟨3, by decide +kernel, rfl, rfl⟩
theorem F_170_319 : F 170 319 (.aload 6) 321 := ⟨2, by decide +kernel, rfl, rfl⟩
theorem F_170_321 : F 170 321 (.iload 17) 323 := ⟨2, by decide +kernel, rfl, rfl⟩
theorem F_170_323 : F 170 323 (.invokestatic 69) 326 := ⟨3, by decide +kernel, rfl, rfl⟩
theorem F_170_326 : F 170 326 (.aload 6) 328 := ⟨2, by decide +kernel, rfl, rfl⟩
theorem F_170_328 : F 170 328 (.iload 18) 330 := ⟨2, by decide +kernel, rfl, rfl⟩
theorem F_170_330 : F 170 330 (.invokestatic 69) 333 := ⟨3, by decide +kernel, rfl, rfl⟩
theorem F_170_333 : F 170 333 (.iand) 334 := ⟨1, by decide +kernel, rfl, rfl⟩
theorem F_170_334 : F 170 334 (.goto 5) 337 := ⟨3, by decide +kernel, rfl, rfl⟩
theorem F_170_310 : F 170 310 (.iconst (-1)) 311 := ⟨1, by decide +kernel, rfl, rfl⟩
theorem F_170_311 : F 170 311 (.goto 28) 314 := ⟨3, by decide +kernel, rfl, rfl⟩
theorem F_170_528 : F 170 528 (.iload 19) 530 := ⟨2, by decide +kernel, rfl, rfl⟩
theorem F_170_530 : F 170 530 (.ifCond .eq 24) 533 := ⟨3, by decide +kernel, rfl, rfl⟩
theorem F_170_533 : F 170 533 (.iload_n 3) 534 := ⟨1, by decide +kernel, rfl, rfl⟩
theorem F_170_534 : F 170 534 (.aload 5) 536 := ⟨2, by decide +kernel, rfl, rfl⟩
theorem F_170_536 : F 170 536 (.aload 6) 538 := ⟨2, by decide +kernel, rfl, rfl⟩
theorem F_170_538 : F 170 538 (.aload 8) 540 := ⟨2, by decide +kernel, rfl, rfl⟩
theorem F_170_540 : F 170 540 (.iload 17) 542 := ⟨2, by decide +kernel, rfl, rfl⟩
theorem F_170_542 : F 170 542 (.invokestatic 80) 545 := ⟨3, by decide +kernel, rfl, rfl⟩
theorem il_6_80 : ilq 6 80 1 165 5 = true := by decide +kernel
theorem F_170_545 : F 170 545 (.iinc 10 (-1)) 548 := ⟨3, by decide +kernel, rfl, rfl⟩
theorem F_170_548 : F 170 548 (.iinc 12 1) 551 := ⟨3, by decide +kernel, rfl, rfl⟩
theorem F_170_551 : F 170 551 (.iinc 11 1) 554 := ⟨3, by decide +kernel, rfl, rfl⟩
theorem F_170_642 : F 170 642 (.iload 7) 644 := ⟨2, by decide +kernel, rfl, rfl⟩
theorem F_170_644 : F 170 644 (.ifCond .eq 75) 647 := ⟨3, by decide +kernel, rfl, rfl⟩
theorem F_170_719 : F 170 719 (.iconst 0) 720 := ⟨1, by decide +kernel, rfl, rfl⟩
theorem F_170_720 : F 170 720 (.istore 7) 722 := ⟨2, by decide +kernel, rfl, rfl⟩
theorem F_170_722 : F 170 722 (.iconst 0) 723 := ⟨1, by decide +kernel, rfl, rfl⟩
theorem F_170_723 : F 170 723 (.istore 18) 725 := ⟨2, by decide +kernel, rfl, rfl⟩
theorem F_170_647 : F 170 647 (.aload_n 1) 648 := ⟨1, by decide +kernel, rfl, rfl⟩
theorem F_170_648 : F 170 648 (.invokevirtual 87) 651 := ⟨3, by decide +kernel, rfl, rfl⟩
theorem il_6_87 : ilq 6 87 0 97 0 = true := by decide +kernel
theorem vy_97 : (m_cls 5).1 = (m_y 97).cls ∧ 5 < m_cl.length := by decide +kernel
theorem F_170_349 : F 170 349 (.iload 13) 351 := ⟨2, by decide +kernel, rfl, rfl⟩
theorem F_170_351 : F 170 351 (.ifCond .ne 8) 354 := ⟨3, by decide +kernel, rfl, rfl⟩
theorem F_170_359 : F 170 359 (.iconst 1) 360 := ⟨1, by decide +kernel, rfl, rfl⟩
theorem F_170_360 : F 170 360 (.goto 4) 363 := ⟨3, by decide +kernel, rfl, rfl⟩
theorem F_170_364 : F 170 364 (.istore 13) 366 := ⟨2, by decide +kernel, rfl, rfl⟩
theorem F_170_366 : F 170 366 (.goto 245) 369 := ⟨3, by decide +kernel, rfl, rfl⟩
theorem F_170_354 : F 170 354 (.iload 19) 356 := ⟨2, by decide +kernel, rfl, rfl⟩
theorem F_170_356 : F 170 356 (.ifCond .eq 7) 359 := ⟨3, by decide +kernel, rfl, rfl⟩
theorem F_170_363 : F 170 363 (.iconst 0) 364 := ⟨1, by decide +kernel, rfl, rfl⟩
theorem F_170_554 : F 170 554 (.aload_n 1) 555 := ⟨1, by decide +kernel, rfl, rfl⟩
theorem F_170_555 : F 170 555 (.iload 17) 557 := ⟨2, by decide +kernel, rfl, rfl⟩
theorem F_170_557 : F 170 557 (.invokevirtual 84) 560 := ⟨3, by decide +kernel, rfl, rfl⟩
theorem il_6_84 : ilq 6 84 0 85 1 = true := by decide +kernel
theorem vy_85 : (m_cls 5).1 = (m_y 85).cls ∧ 5 < m_cl.length := by decide +kernel
theorem F_170_725 : F 170 725 (.iload 18) 727 := ⟨2, by decide +kernel, rfl, rfl⟩
theorem F_170_727 : F 170 727 (.iload 4) 729 := ⟨2, by decide +kernel, rfl, rfl⟩
theorem F_170_729 : F 170 729 (.if_icmp .ge 161) 732 := ⟨3, by decide +kernel, rfl, rfl⟩
theorem F_170_890 : F 170 890 (.iinc 14 1) 893 := ⟨3, by decide +kernel, rfl, rfl⟩
theorem F_170_893 : F 170 893 (.goto (-760)) 896 := ⟨3, by decide +kernel, rfl, rfl⟩
theorem F_170_732 : F 170 732 (.iload 7) 734 := ⟨2, by decide +kernel, rfl, rfl⟩
theorem F_170_734 : F 170 734 (.ifCond .eq 156) 737 := ⟨3, by decide +kernel, rfl, rfl⟩
theorem F_170_737 : F 170 737 (.aload_n 1) 738 := ⟨1, by decide +kernel, rfl, rfl⟩
theorem F_170_738 : F 170 738 (.iload 18) 740 := ⟨2, by decide +kernel, rfl, rfl⟩
theorem F_170_740 : F 170 740 (.iconst 5) 741 := ⟨1, by decide +kernel, rfl, rfl⟩
theorem F_170_741 : F 170 741 (.invokevirtual 93) 744 := ⟨3, by decide +kernel, rfl, rfl⟩
theorem il_6_93 : ilq 6 93 0 65 2 = true := by decide +kernel
theorem vy_65 : (m_cls 5).1 = (m_y 65).cls ∧ 5 < m_cl.length := by decide +kernel
theorem F_170_651 : F 170 651 (.iload 17) 653 := ⟨2, by decide +kernel, rfl, rfl⟩
theorem F_170_653 : F 170 653 (.if_icmp .ne 66) 656 := ⟨3, by decide +kernel, rfl, rfl⟩
theorem F_170_656 : F 170 656 (.aload_n 1) 657 := ⟨1, by decide +kernel, rfl, rfl⟩
theorem F_170_657 : F 170 657 (.iconst 1) 658 := ⟨1, by decide +kernel, rfl, rfl⟩
theorem F_170_658 : F 170 658 (.invokevirtual 90) 661 := ⟨3, by decide +kernel, rfl, rfl⟩
theorem il_6_90 : ilq 6 90 0 147 1 = true := by decide +kernel
theorem vy_147 : (m_cls 5).1 = (m_y 147).cls ∧ 5 < m_cl.length := by decide +kernel
theorem F_170_560 : F 170 560 (.iload 19) 562 := ⟨2, by decide +kernel, rfl, rfl⟩
theorem F_170_562 : F 170 562 (.ifCond .eq 27) 565 := ⟨3, by decide +kernel, rfl, rfl⟩
theorem F_170_589 : F 170 589 (.iload 18) 591 := ⟨2, by decide +kernel, rfl, rfl⟩
theorem F_170_591 : F 170 591 (.ifCond .eq 8) 594 := ⟨3, by decide +kernel, rfl, rfl⟩
theorem F_170_599 : F 170 599 (.bipush (-4)) 601 := ⟨2, by decide +kernel, rfl, rfl⟩
theorem F_170_601 : F 170 601 (.if_icmp .ne 7) 604 := ⟨3, by decide +kernel, rfl, rfl⟩
theorem F_170_608 : F 170 608 (.iconst 0) 609 := ⟨1, by decide +kernel, rfl, rfl⟩
theorem F_170_609 : F 170 609 (.istore 7) 611 := ⟨2, by decide +kernel, rfl, rfl⟩
theorem F_170_604 : F 170 604 (.iconst 1) 605 := ⟨1, by decide +kernel, rfl, rfl⟩
theorem F_170_605 : F 170 605 (.goto 4) 608 := ⟨3, by decide +kernel, rfl, rfl⟩
theorem F_170_594 : F 170 594 (.bipush (-6)) 596 := ⟨2, by decide +kernel, rfl, rfl⟩
theorem F_170_596 : F 170 596 (.goto 5) 599 := ⟨3, by decide +kernel, rfl, rfl⟩
theorem F_170_565 : F 170 565 (.aload 6) 567 := ⟨2, by decide +kernel, rfl, rfl⟩
theorem F_170_567 : F 170 567 (.iconst 5) 568 := ⟨1, by decide +kernel, rfl, rfl⟩
theorem F_170_568 : F 170 568 (.aload 8) 570 := ⟨2, by decide +kernel, rfl, rfl⟩
theorem F_170_570 : F 170 570 (.iconst 1) 571 := ⟨1, by decide +kernel, rfl, rfl⟩
theorem F_170_571 : F 170 571 (.iload 17) 573 := ⟨2, by decide +kernel, rfl, rfl⟩
theorem F_170_573 : F 170 573 (.iconst 4) 574 := ⟨1, by decide +kernel, rfl, rfl⟩
theorem F_170_574 : F 170 574 (.idiv) 575 := ⟨1, by decide +kernel, rfl, rfl⟩
theorem F_170_575 : F 170 575 (.isub) 576 := ⟨1, by decide +kernel, rfl, rfl⟩
theorem F_170_576 : F 170 576 (.iaload) 577 := ⟨1, by decide +kernel, rfl, rfl⟩
theorem F_170_577 : F 170 577 (.imul) 578 := ⟨1, by decide +kernel, rfl, rfl⟩
theorem F_170_578 : F 170 578 (.iconst 1) 579 := ⟨1, by decide +kernel, rfl, rfl⟩
theorem F_170_579 : F 170 579 (.iadd) 580 := ⟨1, by decide +kernel, rfl, rfl⟩
theorem F_170_580 : F 170 580 (.iload 17) 582 := ⟨2, by decide +kernel, rfl, rfl⟩
theorem F_170_582 : F 170 582 (.iconst 4) 583 := ⟨1, by decide +kernel, rfl, rfl⟩
theorem F_170_583 : F 170 583 (.irem) 584 := ⟨1, by decide +kernel, rfl, rfl⟩
theorem F_170_584 : F 170 584 (.iadd) 585 := ⟨1, by decide +kernel, rfl, rfl⟩
theorem F_170_585 : F 170 585 (.iaload) 586 := ⟨1, by decide +kernel, rfl, rfl⟩
theorem F_170_586 : F 170 586 (.goto 15) 589 := ⟨3, by decide +kernel, rfl, rfl⟩
theorem F_170_744 : F 170 744 (.iconst 1) 745 := ⟨1, by decide +kernel, rfl, rfl⟩
theorem F_170_745 : F 170 745 (.if_icmp .ne 76) 748 := ⟨3, by decide +kernel, rfl, rfl⟩
theorem F_170_821 : F 170 821 (.iconst 0) 822 := ⟨1, by decide +kernel, rfl, rfl⟩
theorem F_170_822 : F 170 822 (.istore 7) 824 := ⟨2, by decide +kernel, rfl, rfl⟩
theorem F_170_748 : F 170 748 (.aload_n 1) 749 := ⟨1, by decide +kernel, rfl, rfl⟩
theorem F_170_749 : F 170 749 (.invokevirtual 96) 752 := ⟨3, by decide +kernel, rfl, rfl⟩
theorem il_6_96 : ilq 6 96 0 144 0 = true := by decide +kernel
theorem vy_144 : (m_cls 5).1 = (m_y 144).cls ∧ 5 < m_cl.length := by decide +kernel
theorem F_170_661 : F 170 661 (.iload 10) 663 := ⟨2, by decide +kernel, rfl, rfl⟩
theorem F_170_663 : F 170 663 (.if_icmp .ne 56) 666 := ⟨3, by decide +kernel, rfl, rfl⟩
theorem F_170_666 : F 170 666 (.aload_n 1) 667 := ⟨1, by decide +kernel, rfl, rfl⟩
theorem F_170_667 : F 170 667 (.iconst 2) 668 := ⟨1, by decide +kernel, rfl, rfl⟩
theorem F_170_668 : F 170 668 (.invokevirtual 90) 671 := ⟨3, by decide +kernel, rfl, rfl⟩
theorem F_170_824 : F 170 824 (.iconst 0) 825 := ⟨1, by decide +kernel, rfl, rfl⟩
theorem F_170_825 : F 170 825 (.istore 19) 827 := ⟨2, by decide +kernel, rfl, rfl⟩
theorem F_170_752 : F 170 752 (.aload 6) 754 := ⟨2, by decide +kernel, rfl, rfl⟩
theorem F_170_754 : F 170 754 (.iload 18) 756 := ⟨2, by decide +kernel, rfl, rfl⟩
theorem F_170_756 : F 170 756 (.invokestatic 69) 759 := ⟨3, by decide +kernel, rfl, rfl⟩
theorem F_170_759 : F 170 759 (.if_icmp .ne 62) 762 := ⟨3, by decide +kernel, rfl, rfl⟩
theorem F_170_762 : F 170 762 (.aload_n 1) 763 := ⟨1, by decide +kernel, rfl, rfl⟩
theorem F_170_763 : F 170 763 (.iload 18) 765 := ⟨2, by decide +kernel, rfl, rfl⟩
theorem F_170_765 : F 170 765 (.bipush 6) 767 := ⟨2, by decide +kernel, rfl, rfl⟩
theorem F_170_767 : F 170 767 (.invokevirtual 93) 770 := ⟨3, by decide +kernel, rfl, rfl⟩
theorem F_170_671 : F 170 671 (.iload 11) 673 := ⟨2, by decide +kernel, rfl, rfl⟩
theorem F_170_673 : F 170 673 (.if_icmp .ne 46) 676 := ⟨3, by decide +kernel, rfl, rfl⟩
theorem F_170_676 : F 170 676 (.aload_n 1) 677 := ⟨1, by decide +kernel, rfl, rfl⟩
theorem F_170_677 : F 170 677 (.iconst 3) 678 := ⟨1, by decide +kernel, rfl, rfl⟩
theorem F_170_678 : F 170 678 (.invokevirtual 90) 681 := ⟨3, by decide +kernel, rfl, rfl⟩
theorem F_170_827 : F 170 827 (.iload 19) 829 := ⟨2, by decide +kernel, rfl, rfl⟩
theorem F_170_829 : F 170 829 (.iconst 4) 830 := ⟨1, by decide +kernel, rfl, rfl⟩
theorem F_170_830 : F 170 830 (.if_icmp .ge 54) 833 := ⟨3, by decide +kernel, rfl, rfl⟩
theorem F_170_884 : F 170 884 (.iinc 18 1) 887 := ⟨3, by decide +kernel, rfl, rfl⟩
theorem F_170_887 : F 170 887 (.goto (-162)) 890 := ⟨3, by decide +kernel, rfl, rfl⟩
theorem F_170_833 : F 170 833 (.iload 7) 835 := ⟨2, by decide +kernel, rfl, rfl⟩
theorem F_170_835 : F 170 835 (.ifCond .eq 49) 838 := ⟨3, by decide +kernel, rfl, rfl⟩
theorem F_170_838 : F 170 838 (.aload_n 1) 839 := ⟨1, by decide +kernel, rfl, rfl⟩
theorem F_170_839 : F 170 839 (.iload 18) 841 := ⟨2, by decide +kernel, rfl, rfl⟩
theorem F_170_841 : F 170 841 (.iconst 1) 842 := ⟨1, by decide +kernel, rfl, rfl⟩
theorem F_170_842 : F 170 842 (.iload 19) 844 := ⟨2, by decide +kernel, rfl, rfl⟩
theorem F_170_844 : F 170 844 (.iadd) 845 := ⟨1, by decide +kernel, rfl, rfl⟩
theorem F_170_845 : F 170 845 (.invokevirtual 93) 848 := ⟨3, by decide +kernel, rfl, rfl⟩
theorem F_170_770 : F 170 770 (.iconst 1) 771 := ⟨1, by decide +kernel, rfl, rfl⟩
theorem F_170_771 : F 170 771 (.if_icmp .ne 50) 774 := ⟨3, by decide +kernel, rfl, rfl⟩
theorem F_170_774 : F 170 774 (.aload_n 1) 775 := ⟨1, by decide +kernel, rfl, rfl⟩
theorem F_170_775 : F 170 775 (.invokevirtual 96) 778 := ⟨3, by decide +kernel, rfl, rfl⟩
theorem F_170_681 : F 170 681 (.iload 12) 683 := ⟨2, by decide +kernel, rfl, rfl⟩
theorem F_170_683 : F 170 683 (.if_icmp .ne 36) 686 := ⟨3, by decide +kernel, rfl, rfl⟩
theorem F_170_686 : F 170 686 (.aload_n 1) 687 := ⟨1, by decide +kernel, rfl, rfl⟩
theorem F_170_687 : F 170 687 (.iconst 4) 688 := ⟨1, by decide +kernel, rfl, rfl⟩
theorem F_170_688 : F 170 688 (.invokevirtual 90) 691 := ⟨3, by decide +kernel, rfl, rfl⟩
theorem F_170_848 : F 170 848 (.iconst 1) 849 := ⟨1, by decide +kernel, rfl, rfl⟩
theorem F_170_849 : F 170 849 (.if_icmp .ne 26) 852 := ⟨3, by decide +kernel, rfl, rfl⟩
theorem F_170_875 : F 170 875 (.iconst 0) 876 := ⟨1, by decide +kernel, rfl, rfl⟩
theorem F_170_876 : F 170 876 (.istore 7) 878 := ⟨2, by decide +kernel, rfl, rfl⟩
theorem F_170_878 : F 170 878 (.iinc 19 1) 881 := ⟨3, by decide +kernel, rfl, rfl⟩
theorem F_170_881 : F 170 881 (.goto (-54)) 884 := ⟨3, by decide +kernel, rfl, rfl⟩
theorem F_170_852 : F 170 852 (.aload_n 1) 853 := ⟨1, by decide +kernel, rfl, rfl⟩
theorem F_170_853 : F 170 853 (.invokevirtual 96) 856 := ⟨3, by decide +kernel, rfl, rfl⟩
theorem F_170_778 : F 170 778 (.iload 13) 780 := ⟨2, by decide +kernel, rfl, rfl⟩
theorem F_170_780 : F 170 780 (.ifCond .ne 7) 783 := ⟨3, by decide +kernel, rfl, rfl⟩
theorem F_170_787 : F 170 787 (.aload 8) 789 := ⟨2, by decide +kernel, rfl, rfl⟩
theorem F_170_789 : F 170 789 (.iconst 0) 790 := ⟨1, by decide +kernel, rfl, rfl⟩
theorem F_170_790 : F 170 790 (.iaload) 791 := ⟨1, by decide +kernel, rfl, rfl⟩
theorem F_170_791 : F 170 791 (.iload 18) 793 := ⟨2, by decide +kernel, rfl, rfl⟩
theorem F_170_793 : F 170 793 (.if_icmp .ne 7) 796 := ⟨3, by decide +kernel, rfl, rfl⟩
theorem F_170_800 : F 170 800 (.aload 8) 802 := ⟨2, by decide +kernel, rfl, rfl⟩
theorem F_170_802 : F 170 802 (.iconst 1) 803 := ⟨1, by decide +kernel, rfl, rfl⟩
theorem F_170_803 : F 170 803 (.iaload) 804 := ⟨1, by decide +kernel, rfl, rfl⟩
theorem F_170_804 : F 170 804 (.iload 18) 806 := ⟨2, by decide +kernel, rfl, rfl⟩
theorem F_170_806 : F 170 806 (.if_icmp .ne 7) 809 := ⟨3, by decide +kernel, rfl, rfl⟩
theorem F_170_813 : F 170 813 (.iconst 0) 814 := ⟨1, by decide +kernel, rfl, rfl⟩
theorem F_170_814 : F 170 814 (.if_icmp .ne 7) 817 := ⟨3, by decide +kernel, rfl, rfl⟩
theorem F_170_817 : F 170 817 (.iconst 1) 818 := ⟨1, by decide +kernel, rfl, rfl⟩
theorem F_170_818 : F 170 818 (.goto 4) 821 := ⟨3, by decide +kernel, rfl, rfl⟩
theorem F_170_809 : F 170 809 (.iconst 2) 810 := ⟨1, by decide +kernel, rfl, rfl⟩
theorem F_170_810 : F 170 810 (.goto 4) 813 := ⟨3, by decide +kernel, rfl, rfl⟩
theorem F_170_796 : F 170 796 (.iconst 1) 797 := ⟨1, by decide +kernel, rfl, rfl⟩
theorem F_170_797 : F 170 797 (.goto 17) 800 := ⟨3, by decide +kernel, rfl, rfl⟩
theorem F_170_783 : F 170 783 (.iconst 0) 784 := ⟨1, by decide +kernel, rfl, rfl⟩
theorem F_170_784 : F 170 784 (.goto 30) 787 := ⟨3, by decide +kernel, rfl, rfl⟩
theorem F_170_691 : F 170 691 (.iload 13) 693 := ⟨2, by decide +kernel, rfl, rfl⟩
theorem F_170_693 : F 170 693 (.ifCond .eq 18) 696 := ⟨3, by decide +kernel, rfl, rfl⟩
theorem F_170_711 : F 170 711 (.iconst 0) 712 := ⟨1, by decide +kernel, rfl, rfl⟩
theorem F_170_712 : F 170 712 (.if_icmp .ne 7) 715 := ⟨3, by decide +kernel, rfl, rfl⟩
theorem F_170_715 : F 170 715 (.iconst 1) 716 := ⟨1, by decide +kernel, rfl, rfl⟩
theorem F_170_716 : F 170 716 (.goto 4) 719 := ⟨3, by decide +kernel, rfl, rfl⟩
theorem F_170_696 : F 170 696 (.bipush 10) 698 := ⟨2, by decide +kernel, rfl, rfl⟩
theorem F_170_698 : F 170 698 (.aload 8) 700 := ⟨2, by decide +kernel, rfl, rfl⟩
theorem F_170_700 : F 170 700 (.iconst 0) 701 := ⟨1, by decide +kernel, rfl, rfl⟩
theorem F_170_701 : F 170 701 (.iaload) 702 := ⟨1, by decide +kernel, rfl, rfl⟩
theorem F_170_702 : F 170 702 (.imul) 703 := ⟨1, by decide +kernel, rfl, rfl⟩
theorem F_170_703 : F 170 703 (.aload 8) 705 := ⟨2, by decide +kernel, rfl, rfl⟩
theorem F_170_705 : F 170 705 (.iconst 1) 706 := ⟨1, by decide +kernel, rfl, rfl⟩
theorem F_170_706 : F 170 706 (.iaload) 707 := ⟨1, by decide +kernel, rfl, rfl⟩
theorem F_170_707 : F 170 707 (.iadd) 708 := ⟨1, by decide +kernel, rfl, rfl⟩
theorem F_170_708 : F 170 708 (.goto 4) 711 := ⟨3, by decide +kernel, rfl, rfl⟩
theorem F_170_856 : F 170 856 (.aload 6) 858 := ⟨2, by decide +kernel, rfl, rfl⟩
theorem F_170_858 : F 170 858 (.iconst 5) 859 := ⟨1, by decide +kernel, rfl, rfl⟩
theorem F_170_859 : F 170 859 (.iload 18) 861 := ⟨2, by decide +kernel, rfl, rfl⟩
theorem F_170_861 : F 170 861 (.imul) 862 := ⟨1, by decide +kernel, rfl, rfl⟩
theorem F_170_862 : F 170 862 (.iconst 1) 863 := ⟨1, by decide +kernel, rfl, rfl⟩
theorem F_170_863 : F 170 863 (.iadd) 864 := ⟨1, by decide +kernel, rfl, rfl⟩
theorem F_170_864 : F 170 864 (.iload 19) 866 := ⟨2, by decide +kernel, rfl, rfl⟩
theorem F_170_866 : F 170 866 (.iadd) 867 := ⟨1, by decide +kernel, rfl, rfl⟩
theorem F_170_867 : F 170 867 (.iaload) 868 := ⟨1, by decide +kernel, rfl, rfl⟩
theorem F_170_868 : F 170 868 (.if_icmp .ne 7) 871 := ⟨3, by decide +kernel, rfl, rfl⟩
theorem F_170_871 : F 170 871 (.iconst 1) 872 := ⟨1, by decide +kernel, rfl, rfl⟩
theorem F_170_872 : F 170 872 (.goto 4) 875 := ⟨3, by decide +kernel, rfl, rfl⟩
theorem t_L_law_8 {X : m_X} {d : Nat} {s : m_St} {P : Option Value → m_St → Prop} (hU : 0 ≤ X.2)
    (l1 : X.1.length < 2147483648)
    (l2 : ∀ (v1 : Int), inR v1 → ∀ (v2 : Int), inR v2 → ∀ (v3 : Int), 0 ≤ v3 → v3 < 2 → v3 = lss (iShr v2 9) 2 → inR v3)
    (l3 : ∀ (v1 : Int), inR v1 → ∀ (v2 : Int), inR v2 → ∀ (v3 : Int), 0 ≤ v3 → v3 < 2 → v3 = lss (iShr v2 9) 2 → ¬ v3 = 0 → ∀ (v5 : Int), 0 ≤ v5 → v5 < 9 → v5 = lss v1 9 → ∀ (v6 : Int), inR v6 → ∀ (v7 : Int), 0 ≤ v7 → v7 < 6 → v7 = lss v6 6 → ∀ (v8 : Int), inR v8 → ∀ (v9 : Int), 0 ≤ v9 → v9 < 5 → v9 = lss v8 5 → Rn X (d + 9) 170 65 [some (vR 1000), some (vR 0), some (vI v5), some (vI v7), some (vI (2 + v9)), none, none, none, none, none, none, none, none, none, none, none, none, none, none, none] [vI 12] s P)
    (l4 : ∀ (v1 : Int), inR v1 → ∀ (v2 : Int), inR v2 → ∀ (v3 : Int), 0 ≤ v3 → v3 < 2 → v3 = lss (iShr v2 9) 2 → v3 = 0 → ∀ (v11 : Int), 0 ≤ v11 → v11 < 41 → v11 = lss v1 41 → ∀ (v12 : Int), inR v12 → ∀ (v13 : Int), 0 ≤ v13 → v13 < 6 → v13 = lss v12 6 → ∀ (v14 : Int), inR v14 → ∀ (v15 : Int), 0 ≤ v15 → v15 < 5 → v15 = lss v14 5 → Rn X (d + 9) 170 65 [some (vR 1000), some (vR 0), some (vI v11), some (vI v13), some (vI (2 + v15)), none, none, none, none, none, none, none, none, none, none, none, none, none, none, none] [vI 12] s P)
    : Rn X (d + 9) 170 8 [some (vR 1000), some (vR 0), none, none, none, none, none, none, none, none, none, none, none, none, none, none, none, none, none, none] [] s P := by
  refine r_ldR_n (m := 0) F_170_8 rfl ?_
  refine r_iconst F_170_9 ?_
  refine r_stat2 (A := [vR 1000, vI 0]) (r := []) (n := 2) F_170_10 o_170 il_6_15 (by decide) rfl rfl rfl rfl (lay_le n_157 rfl) ?_
  refine sp_cell (by decide) (by decide) l1 ?_
  intro v1 q1a
  show Rn _ _ _ _ _ [vI v1] _ _
  refine r_ldR_n (m := 0) F_170_13 rfl ?_
  refine r_iconst F_170_14 ?_
  refine r_stat2 (A := [vR 1000, vI 0]) (r := [vI v1]) (n := 2) F_170_15 o_170 il_6_15 (by decide) rfl rfl rfl rfl (lay_le n_157 rfl) ?_
  refine sp_cell (by decide) (by decide) l1 ?_
  intro v2 q2a
  show Rn _ _ _ _ _ [vI v2, vI v1] _ _
  refine r_bipush F_170_18 bi_9 ?_
  refine r_ishr F_170_20 rfl ?_
  refine r_iconst F_170_21 ?_
  refine r_stat2 (A := [vI (iShr v2 9), vI 2]) (r := [vI v1]) (n := 2) F_170_22 o_170 il_6_21 (by decide) rfl rfl rfl rfl (lay_le n_158 rfl) ?_
  refine sp_less (by decide) (by decide) ?_
  intro v3 q3a q3b q3c
  show Rn _ _ _ _ _ [vI v3, vI v1] _ _
  refine r_if (t := 33) F_170_25 rfl (l2 v1 q1a v2 q2a v3 q3a q3b q3c) ?_ ?_
  · intro e4
    replace e4 : ¬ v3 = 0 := e4
    refine r_bipush F_170_33 bi_9 ?_
    refine r_stat2 (A := [vI v1, vI 9]) (r := []) (n := 2) F_170_35 o_170 il_6_21 (by decide) rfl rfl rfl rfl (lay_le n_158 rfl) ?_
    refine sp_less (by decide) (by decide) ?_
    intro v5 q5a q5b q5c
    show Rn _ _ _ _ _ [vI v5] _ _
    refine r_stI_n (m := 2) (L' := [some (vR 1000), some (vR 0), some (vI v5), none, none, none, none, none, none, none, none, none, none, none, none, none, none, none, none, none]) F_170_38 rfl rfl ?_
    refine r_ldR_n (m := 0) F_170_39 rfl ?_
    refine r_iconst F_170_40 ?_
    refine r_stat2 (A := [vR 1000, vI 1]) (r := []) (n := 2) F_170_41 o_170 il_6_15 (by decide) rfl rfl rfl rfl (lay_le n_157 rfl) ?_
    refine sp_cell (by decide) (by decide) l1 ?_
    intro v6 q6a
    show Rn _ _ _ _ _ [vI v6] _ _
    refine r_bipush F_170_44 bi_6 ?_
    refine r_stat2 (A := [vI v6, vI 6]) (r := []) (n := 2) F_170_46 o_170 il_6_21 (by decide) rfl rfl rfl rfl (lay_le n_158 rfl) ?_
    refine sp_less (by decide) (by decide) ?_
    intro v7 q7a q7b q7c
    show Rn _ _ _ _ _ [vI v7] _ _
    refine r_stI_n (m := 3) (L' := [some (vR 1000), some (vR 0), some (vI v5), some (vI v7), none, none, none, none, none, none, none, none, none, none, none, none, none, none, none, none]) F_170_49 rfl rfl ?_
    refine r_iconst F_170_50 ?_
    refine r_ldR_n (m := 0) F_170_51 rfl ?_
    refine r_iconst F_170_52 ?_
    refine r_stat2 (A := [vR 1000, vI 2]) (r := [vI 2]) (n := 2) F_170_53 o_170 il_6_15 (by decide) rfl rfl rfl rfl (lay_le n_157 rfl) ?_
    refine sp_cell (by decide) (by decide) l1 ?_
    intro v8 q8a
    show Rn _ _ _ _ _ [vI v8, vI 2] _ _
    refine r_iconst F_170_56 ?_
    refine r_stat2 (A := [vI v8, vI 5]) (r := [vI 2]) (n := 2) F_170_57 o_170 il_6_21 (by decide) rfl rfl rfl rfl (lay_le n_158 rfl) ?_
    refine sp_less (by decide) (by decide) ?_
    intro v9 q9a q9b q9c
    show Rn _ _ _ _ _ [vI v9, vI 2] _ _
    refine r_iadd F_170_60 rfl ?_
    refine r_stI (m := 4) (L' := [some (vR 1000), some (vR 0), some (vI v5), some (vI v7), some (vI (2 + v9)), none, none, none, none, none, none, none, none, none, none, none, none, none, none, none]) F_170_61 rfl rfl ?_
    refine r_bipush F_170_63 bi_12 ?_
    exact (l3 v1 q1a v2 q2a v3 q3a q3b q3c e4 v5 q5a q5b q5c v6 q6a v7 q7a q7b q7c v8 q8a v9 q9a q9b q9c)
  · intro e10
    replace e10 : v3 = 0 := (Classical.not_not.mp e10)
    refine r_bipush F_170_28 bi_41 ?_
    refine r_goto (t := 35) F_170_30 rfl ?_
    refine r_stat2 (A := [vI v1, vI 41]) (r := []) (n := 2) F_170_35 o_170 il_6_21 (by decide) rfl rfl rfl rfl (lay_le n_158 rfl) ?_
    refine sp_less (by decide) (by decide) ?_
    intro v11 q11a q11b q11c
    show Rn _ _ _ _ _ [vI v11] _ _
    refine r_stI_n (m := 2) (L' := [some (vR 1000), some (vR 0), some (vI v11), none, none, none, none, none, none, none, none, none, none, none, none, none, none, none, none, none]) F_170_38 rfl rfl ?_
    refine r_ldR_n (m := 0) F_170_39 rfl ?_
    refine r_iconst F_170_40 ?_
    refine r_stat2 (A := [vR 1000, vI 1]) (r := []) (n := 2) F_170_41 o_170 il_6_15 (by decide) rfl rfl rfl rfl (lay_le n_157 rfl) ?_
    refine sp_cell (by decide) (by decide) l1 ?_
    intro v12 q12a
    show Rn _ _ _ _ _ [vI v12] _ _
    refine r_bipush F_170_44 bi_6 ?_
    refine r_stat2 (A := [vI v12, vI 6]) (r := []) (n := 2) F_170_46 o_170 il_6_21 (by decide) rfl rfl rfl rfl (lay_le n_158 rfl) ?_
    refine sp_less (by decide) (by decide) ?_
    intro v13 q13a q13b q13c
    show Rn _ _ _ _ _ [vI v13] _ _
    refine r_stI_n (m := 3) (L' := [some (vR 1000), some (vR 0), some (vI v11), some (vI v13), none, none, none, none, none, none, none, none, none, none, none, none, none, none, none, none]) F_170_49 rfl rfl ?_
    refine r_iconst F_170_50 ?_
    refine r_ldR_n (m := 0) F_170_51 rfl ?_
    refine r_iconst F_170_52 ?_
    refine r_stat2 (A := [vR 1000, vI 2]) (r := [vI 2]) (n := 2) F_170_53 o_170 il_6_15 (by decide) rfl rfl rfl rfl (lay_le n_157 rfl) ?_
    refine sp_cell (by decide) (by decide) l1 ?_
    intro v14 q14a
    show Rn _ _ _ _ _ [vI v14, vI 2] _ _
    refine r_iconst F_170_56 ?_
    refine r_stat2 (A := [vI v14, vI 5]) (r := [vI 2]) (n := 2) F_170_57 o_170 il_6_21 (by decide) rfl rfl rfl rfl (lay_le n_158 rfl) ?_
    refine sp_less (by decide) (by decide) ?_
    intro v15 q15a q15b q15c
    show Rn _ _ _ _ _ [vI v15, vI 2] _ _
    refine r_iadd F_170_60 rfl ?_
    refine r_stI (m := 4) (L' := [some (vR 1000), some (vR 0), some (vI v11), some (vI v13), some (vI (2 + v15)), none, none, none, none, none, none, none, none, none, none, none, none, none, none, none]) F_170_61 rfl rfl ?_
    refine r_bipush F_170_63 bi_12 ?_
    exact (l4 v1 q1a v2 q2a v3 q3a q3b q3c e10 v11 q11a q11b q11c v12 q12a v13 q13a q13b q13c v14 q14a v15 q15a q15b q15c)
theorem t_L_law_67 {X : m_X} {d : Nat} {s : m_St} {P : Option Value → m_St → Prop} {w m n : Int} (hU : 1 ≤ X.2)
    (l1 : Rn X (d + 9) 170 71 [some (vR 1000), some (vR 0), some (vI w), some (vI m), some (vI n), some (vR 77), none, none, none, none, none, none, none, none, none, none, none, none, none, none] [vI 30] s P)
    : Rn X (d + 9) 170 67 [some (vR 1000), some (vR 0), some (vI w), some (vI m), some (vI n), none, none, none, none, none, none, none, none, none, none, none, none, none, none, none] [vR 77] s P := by
  refine r_stR (m := 5) (L' := [some (vR 1000), some (vR 0), some (vI w), some (vI m), some (vI n), some (vR 77), none, none, none, none, none, none, none, none, none, none, none, none, none, none]) F_170_67 rfl rfl ?_
  refine r_bipush F_170_69 bi_30 ?_
  exact l1
theorem t_L_law_73 {X : m_X} {d : Nat} {s : m_St} {P : Option Value → m_St → Prop} {w m n : Int} (hU : 2 ≤ X.2)
    (l1 : Cl X (d + 8) 159 [vR 1000, vI 3, vI m, vR 77, vI n, vR 78] s (fun v s' => Rn X (d + 9) 170 87 [some (vR 1000), some (vR 0), some (vI w), some (vI m), some (vI n), some (vR 77), some (vR 78), none, none, none, none, none, none, none, none, none, none, none, none, none] (m_push v []) s' P))
    : Rn X (d + 9) 170 73 [some (vR 1000), some (vR 0), some (vI w), some (vI m), some (vI n), some (vR 77), none, none, none, none, none, none, none, none, none, none, none, none, none, none] [vR 78] s P := by
  refine r_stR (m := 6) (L' := [some (vR 1000), some (vR 0), some (vI w), some (vI m), some (vI n), some (vR 77), some (vR 78), none, none, none, none, none, none, none, none, none, none, none, none, none]) F_170_73 rfl rfl ?_
  refine r_ldR_n (m := 0) F_170_75 rfl ?_
  refine r_iconst F_170_76 ?_
  refine r_ldI_n (m := 3) F_170_77 rfl ?_
  refine r_ldR (m := 5) F_170_78 rfl ?_
  refine r_ldI (m := 4) F_170_80 rfl ?_
  refine r_ldR (m := 6) F_170_82 rfl ?_
  refine r_stat2 (A := [vR 1000, vI 3, vI m, vR 77, vI n, vR 78]) (r := []) (n := 6) F_170_84 o_170 il_6_58 (by decide) rfl rfl rfl rfl (lay_le n_159 rfl) ?_
  exact l1
theorem t_L_law_87 {X : m_X} {d : Nat} {s : m_St} {P : Option Value → m_St → Prop} {w m n : Int} (hU : 2 ≤ X.2)
    (l1 : X.1.length < 2147483648)
    (l2 : ∀ (v1 : Int), inR v1 → Cl X (d + 8) 160 [vR 0, vI w, vI m, vR 77, vI n, vR 78, vI v1] s (fun v s' => Rn X (d + 9) 170 105 [some (vR 1000), some (vR 0), some (vI w), some (vI m), some (vI n), some (vR 77), some (vR 78), none, none, none, none, none, none, none, none, none, none, none, none, none] (m_push v []) s' P))
    : Rn X (d + 9) 170 87 [some (vR 1000), some (vR 0), some (vI w), some (vI m), some (vI n), some (vR 77), some (vR 78), none, none, none, none, none, none, none, none, none, none, none, none, none] [] s P := by
  refine r_ldR_n (m := 1) F_170_87 rfl ?_
  refine r_ldI_n (m := 2) F_170_88 rfl ?_
  refine r_ldI_n (m := 3) F_170_89 rfl ?_
  refine r_ldR (m := 5) F_170_90 rfl ?_
  refine r_ldI (m := 4) F_170_92 rfl ?_
  refine r_ldR (m := 6) F_170_94 rfl ?_
  refine r_ldR_n (m := 0) F_170_96 rfl ?_
  refine r_bipush F_170_97 bi_10 ?_
  refine r_stat2 (A := [vR 1000, vI 10]) (r := [vR 78, vI n, vR 77, vI m, vI w, vR 0]) (n := 2) F_170_99 o_170 il_6_15 (by decide) rfl rfl rfl rfl (lay_le n_157 rfl) ?_
  refine sp_cell (by decide) (by decide) l1 ?_
  intro v1 q1a
  show Rn _ _ _ _ _ [vI v1, vR 78, vI n, vR 77, vI m, vI w, vR 0] _ _
  refine r_stat2 (A := [vR 0, vI w, vI m, vR 77, vI n, vR 78, vI v1]) (r := []) (n := 7) F_170_102 o_170 il_6_62 (by decide) rfl rfl rfl rfl (lay_le n_160 rfl) ?_
  exact (l2 v1 q1a)
theorem t_L_law_105 {X : m_X} {d : Nat} {s : m_St} {P : Option Value → m_St → Prop} {w m n rv : Int} (hU : 2 ≤ X.2)
    (l1 : Rn X (d + 9) 170 108 [some (vR 1000), some (vR 0), some (vI w), some (vI m), some (vI n), some (vR 77), some (vR 78), some (vI rv), none, none, none, none, none, none, none, none, none, none, none, none] [vI 2] s P)
    : Rn X (d + 9) 170 105 [some (vR 1000), some (vR 0), some (vI w), some (vI m), some (vI n), some (vR 77), some (vR 78), none, none, none, none, none, none, none, none, none, none, none, none, none] [vI rv] s P := by
  refine r_stI (m := 7) (L' := [some (vR 1000), some (vR 0), some (vI w), some (vI m), some (vI n), some (vR 77), some (vR 78), some (vI rv), none, none, none, none, none, none, none, none, none, none, none, none]) F_170_105 rfl rfl ?_
  refine r_iconst F_170_107 ?_
  exact l1
theorem t_L_law_110 {X : m_X} {d : Nat} {s : m_St} {P : Option Value → m_St → Prop} {w m n o : Int} (hU : 3 ≤ X.2)
    (l1 : Rn X (d + 9) 170 114 [some (vR 1000), some (vR 0), some (vI w), some (vI m), some (vI n), some (vR 77), some (vR 78), some (vI o), some (vR 79), none, none, none, none, none, none, none, none, none, none, none] [vI 30] s P)
    : Rn X (d + 9) 170 110 [some (vR 1000), some (vR 0), some (vI w), some (vI m), some (vI n), some (vR 77), some (vR 78), some (vI o), none, none, none, none, none, none, none, none, none, none, none, none] [vR 79] s P := by
  refine r_stR (m := 8) (L' := [some (vR 1000), some (vR 0), some (vI w), some (vI m), some (vI n), some (vR 77), some (vR 78), some (vI o), some (vR 79), none, none, none, none, none, none, none, none, none, none, none]) F_170_110 rfl rfl ?_
  refine r_bipush F_170_112 bi_30 ?_
  exact l1
theorem t_L_law_116 {X : m_X} {d : Nat} {s : m_St} {P : Option Value → m_St → Prop} {w m n o : Int} (hU : 4 ≤ X.2)
    (l1 : Rn X (d + 9) 170 133 [some (vR 1000), some (vR 0), some (vI w), some (vI m), some (vI n), some (vR 77), some (vR 78), some (vI o), some (vR 79), some (vR 80), some (vI w), some (vI 0), some (vI 0), some (vI 0), some (vI 0), none, none, none, none, none] [] s P)
    : Rn X (d + 9) 170 116 [some (vR 1000), some (vR 0), some (vI w), some (vI m), some (vI n), some (vR 77), some (vR 78), some (vI o), some (vR 79), none, none, none, none, none, none, none, none, none, none, none] [vR 80] s P := by
  refine r_stR (m := 9) (L' := [some (vR 1000), some (vR 0), some (vI w), some (vI m), some (vI n), some (vR 77), some (vR 78), some (vI o), some (vR 79), some (vR 80), none, none, none, none, none, none, none, none, none, none]) F_170_116 rfl rfl ?_
  refine r_ldI_n (m := 2) F_170_118 rfl ?_
  refine r_stI (m := 10) (L' := [some (vR 1000), some (vR 0), some (vI w), some (vI m), some (vI n), some (vR 77), some (vR 78), some (vI o), some (vR 79), some (vR 80), some (vI w), none, none, none, none, none, none, none, none, none]) F_170_119 rfl rfl ?_
  refine r_iconst F_170_121 ?_
  refine r_stI (m := 11) (L' := [some (vR 1000), some (vR 0), some (vI w), some (vI m), some (vI n), some (vR 77), some (vR 78), some (vI o), some (vR 79), some (vR 80), some (vI w), some (vI 0), none, none, none, none, none, none, none, none]) F_170_122 rfl rfl ?_
  refine r_iconst F_170_124 ?_
  refine r_stI (m := 12) (L' := [some (vR 1000), some (vR 0), some (vI w), some (vI m), some (vI n), some (vR 77), some (vR 78), some (vI o), some (vR 79), some (vR 80), some (vI w), some (vI 0), some (vI 0), none, none, none, none, none, none, none]) F_170_125 rfl rfl ?_
  refine r_iconst F_170_127 ?_
  refine r_stI (m := 13) (L' := [some (vR 1000), some (vR 0), some (vI w), some (vI m), some (vI n), some (vR 77), some (vR 78), some (vI o), some (vR 79), some (vR 80), some (vI w), some (vI 0), some (vI 0), some (vI 0), none, none, none, none, none, none]) F_170_128 rfl rfl ?_
  refine r_iconst F_170_130 ?_
  refine r_stI (m := 14) (L' := [some (vR 1000), some (vR 0), some (vI w), some (vI m), some (vI n), some (vR 77), some (vR 78), some (vI o), some (vR 79), some (vR 80), some (vI w), some (vI 0), some (vI 0), some (vI 0), some (vI 0), none, none, none, none, none]) F_170_131 rfl rfl ?_
  exact l1
theorem t_L_law_133 {X : m_X} {d : Nat} {s : m_St} {P : Option Value → m_St → Prop} {w m n o l e f a t : Int} {z15 z16 z17 z18 z19 : Option Value} (hU : 4 ≤ X.2)
    (l1 : inR t)
    (l2 : 36 ≤ t → (o = 0 ∨ o = 1))
    (l3 : 36 ≤ t → P (some (vI o)) s)
    (l4 : t < 36 → inR o)
    (l5 : t < 36 → o = 0 → (o = 0 ∨ o = 1))
    (l6 : t < 36 → o = 0 → P (some (vI o)) s)
    (l7 : t < 36 → ¬ o = 0 → 0 ≤ t)
    (l8 : t < 36 → ¬ o = 0 → inR (11 + (t % 18)))
    (l9 : t < 36 → ¬ o = 0 → 0 ≤ (11 + (t % 18)))
    (l10 : t < 36 → ¬ o = 0 → X.1.length < 2147483648)
    (l11 : t < 36 → ¬ o = 0 → ∀ (v5 : Int), inR v5 → ∀ (v6 : Int), 0 ≤ v6 → v6 < 8 → v6 = lss (iShr v5 (t / 18)) 8 → inR v6)
    (l12 : t < 36 → ¬ o = 0 → ∀ (v5 : Int), inR v5 → ∀ (v6 : Int), 0 ≤ v6 → v6 < 8 → v6 = lss (iShr v5 (t / 18)) 8 → v6 = 0 → Rn X (d + 9) 170 184 [some (vR 1000), some (vR 0), some (vI w), some (vI m), some (vI n), some (vR 77), some (vR 78), some (vI o), some (vR 79), some (vR 80), some (vI l), some (vI e), some (vI f), some (vI a), some (vI t), some (vI (iShr v5 (t / 18))), some (vI v6), z17, z18, z19] [] s P)
    (l13 : t < 36 → ¬ o = 0 → ∀ (v5 : Int), inR v5 → ∀ (v6 : Int), 0 ≤ v6 → v6 < 8 → v6 = lss (iShr v5 (t / 18)) 8 → ¬ v6 = 0 → inR a)
    (l14 : t < 36 → ¬ o = 0 → ∀ (v5 : Int), inR v5 → ∀ (v6 : Int), 0 ≤ v6 → v6 < 8 → v6 = lss (iShr v5 (t / 18)) 8 → ¬ v6 = 0 → ¬ a = 0 → ¬ v6 = 1 → ∀ (v11 : Int), 0 ≤ v11 → v11 < 8 → v11 = lss (iShr (iShr v5 (t / 18)) 3) 8 → Rn X (d + 9) 170 449 [some (vR 1000), some (vR 0), some (vI w), some (vI m), some (vI n), some (vR 77), some (vR 78), some (vI o), some (vR 79), some (vR 80), some (vI l), some (vI e), some (vI f), some (vI a), some (vI t), some (vI (iShr v5 (t / 18))), some (vI v6), some (vI v11), some (vI 0), z19] [] s P)
    (l15 : t < 36 → ¬ o = 0 → ∀ (v5 : Int), inR v5 → ∀ (v6 : Int), 0 ≤ v6 → v6 < 8 → v6 = lss (iShr v5 (t / 18)) 8 → ¬ v6 = 0 → ¬ a = 0 → v6 = 1 → inR l)
    (l16 : t < 36 → ¬ o = 0 → ∀ (v5 : Int), inR v5 → ∀ (v6 : Int), 0 ≤ v6 → v6 < 8 → v6 = lss (iShr v5 (t / 18)) 8 → ¬ v6 = 0 → ¬ a = 0 → v6 = 1 → inR w)
    (l17 : t < 36 → ¬ o = 0 → ∀ (v5 : Int), inR v5 → ∀ (v6 : Int), 0 ≤ v6 → v6 < 8 → v6 = lss (iShr v5 (t / 18)) 8 → ¬ v6 = 0 → ¬ a = 0 → v6 = 1 → w ≤ l → Cl X (d + 8) 89 [vR 0] s (fun v s' => Rn X (d + 9) 170 392 [some (vR 1000), some (vR 0), some (vI w), some (vI m), some (vI n), some (vR 77), some (vR 78), some (vI o), some (vR 79), some (vR 80), some (vI l), some (vI e), some (vI f), some (vI a), some (vI t), some (vI (iShr v5 (t / 18))), some (vI v6), some (vI 0), z18, z19] (m_push v []) s' P))
    (l18 : t < 36 → ¬ o = 0 → ∀ (v5 : Int), inR v5 → ∀ (v6 : Int), 0 ≤ v6 → v6 < 8 → v6 = lss (iShr v5 (t / 18)) 8 → ¬ v6 = 0 → ¬ a = 0 → v6 = 1 → l < w → Cl X (d + 8) 89 [vR 0] s (fun v s' => Rn X (d + 9) 170 392 [some (vR 1000), some (vR 0), some (vI w), some (vI m), some (vI n), some (vR 77), some (vR 78), some (vI o), some (vR 79), some (vR 80), some (vI l), some (vI e), some (vI f), some (vI a), some (vI t), some (vI (iShr v5 (t / 18))), some (vI v6), some (vI 1), z18, z19] (m_push v []) s' P))
    (l19 : t < 36 → ¬ o = 0 → ∀ (v5 : Int), inR v5 → ∀ (v6 : Int), 0 ≤ v6 → v6 < 8 → v6 = lss (iShr v5 (t / 18)) 8 → ¬ v6 = 0 → a = 0 → Rn X (d + 9) 170 184 [some (vR 1000), some (vR 0), some (vI w), some (vI m), some (vI n), some (vR 77), some (vR 78), some (vI o), some (vR 79), some (vR 80), some (vI l), some (vI e), some (vI f), some (vI a), some (vI t), some (vI (iShr v5 (t / 18))), some (vI v6), z17, z18, z19] [] s P)
    : Rn X (d + 9) 170 133 [some (vR 1000), some (vR 0), some (vI w), some (vI m), some (vI n), some (vR 77), some (vR 78), some (vI o), some (vR 79), some (vR 80), some (vI l), some (vI e), some (vI f), some (vI a), some (vI t), z15, z16, z17, z18, z19] [] s P := by
  refine r_ldI (m := 14) F_170_133 rfl ?_
  refine r_bipush F_170_135 bi_36 ?_
  refine r_icmp (t := 896) F_170_137 rfl l1 (by decide) ?_ ?_
  · intro e1
    replace e1 : 36 ≤ t := e1
    refine r_ldI (m := 7) F_170_896 rfl ?_
    refine r_zreturn F_170_898 rt_170 (l2 e1) ?_
    exact (l3 e1)
  · intro e2
    replace e2 : t < 36 := (Int.not_le.mp e2)
    refine r_ldI (m := 7) F_170_140 rfl ?_
    refine r_if (t := 896) F_170_142 rfl (l4 e2) ?_ ?_
    · intro e3
      replace e3 : o = 0 := e3
      refine r_ldI (m := 7) F_170_896 rfl ?_
      refine r_zreturn F_170_898 rt_170 (l5 e2 e3) ?_
      exact (l6 e2 e3)
    · intro e4
      replace e4 : ¬ o = 0 := e4
      refine r_ldR_n (m := 0) F_170_145 rfl ?_
      refine r_bipush F_170_146 bi_11 ?_
      refine r_ldI (m := 14) F_170_148 rfl ?_
      refine r_bipush F_170_150 bi_18 ?_
      refine r_irem F_170_152 l1 (l7 e2 e4) (by decide) (by decide) ?_
      refine r_iadd F_170_153 rfl ?_
      refine r_stat2 (A := [vR 1000, vI (11 + (t % 18))]) (r := []) (n := 2) F_170_154 o_170 il_6_15 (by decide) rfl rfl rfl rfl (lay_le n_157 rfl) ?_
      refine sp_cell (l8 e2 e4) (l9 e2 e4) (l10 e2 e4) ?_
      intro v5 q5a
      show Rn _ _ _ _ _ [vI v5] _ _
      refine r_ldI (m := 14) F_170_157 rfl ?_
      refine r_bipush F_170_159 bi_18 ?_
      refine r_idiv F_170_161 l1 (l7 e2 e4) (by decide) (by decide) ?_
      refine r_ishr F_170_162 rfl ?_
      refine r_stI (m := 15) (L' := [some (vR 1000), some (vR 0), some (vI w), some (vI m), some (vI n), some (vR 77), some (vR 78), some (vI o), some (vR 79), some (vR 80), some (vI l), some (vI e), some (vI f), some (vI a), some (vI t), some (vI (iShr v5 (t / 18))), z16, z17, z18, z19]) F_170_163 rfl rfl ?_
      refine r_ldI (m := 15) F_170_165 rfl ?_
      refine r_bipush F_170_167 bi_8 ?_
      refine r_stat2 (A := [vI (iShr v5 (t / 18)), vI 8]) (r := []) (n := 2) F_170_169 o_170 il_6_21 (by decide) rfl rfl rfl rfl (lay_le n_158 rfl) ?_
      refine sp_less (by decide) (by decide) ?_
      intro v6 q6a q6b q6c
      show Rn _ _ _ _ _ [vI v6] _ _
      refine r_stI (m := 16) (L' := [some (vR 1000), some (vR 0), some (vI w), some (vI m), some (vI n), some (vR 77), some (vR 78), some (vI o), some (vR 79), some (vR 80), some (vI l), some (vI e), some (vI f), some (vI a), some (vI t), some (vI (iShr v5 (t / 18))), some (vI v6), z17, z18, z19]) F_170_172 rfl rfl ?_
      refine r_ldI (m := 16) F_170_174 rfl ?_
      refine r_if (t := 184) F_170_176 rfl (l11 e2 e4 v5 q5a v6 q6a q6b q6c) ?_ ?_
      · intro e7
        replace e7 : v6 = 0 := e7
        exact (l12 e2 e4 v5 q5a v6 q6a q6b q6c e7)
      · intro e8
        replace e8 : ¬ v6 = 0 := e8
        refine r_ldI (m := 13) F_170_179 rfl ?_
        refine r_if (t := 369) F_170_181 rfl (l13 e2 e4 v5 q5a v6 q6a q6b q6c e8) ?_ ?_
        · intro e9
          replace e9 : ¬ a = 0 := e9
          refine r_ldI (m := 16) F_170_369 rfl ?_
          refine r_iconst F_170_371 ?_
          refine r_icmp (t := 435) F_170_372 rfl (l11 e2 e4 v5 q5a v6 q6a q6b q6c) (by decide) ?_ ?_
          · intro e10
            replace e10 : ¬ v6 = 1 := e10
            refine r_ldI (m := 15) F_170_435 rfl ?_
            refine r_iconst F_170_437 ?_
            refine r_ishr F_170_438 rfl ?_
            refine r_bipush F_170_439 bi_8 ?_
            refine r_stat2 (A := [vI (iShr (iShr v5 (t / 18)) 3), vI 8]) (r := []) (n := 2) F_170_441 o_170 il_6_21 (by decide) rfl rfl rfl rfl (lay_le n_158 rfl) ?_
            refine sp_less (by decide) (by decide) ?_
            intro v11 q11a q11b q11c
            show Rn _ _ _ _ _ [vI v11] _ _
            refine r_stI (m := 17) (L' := [some (vR 1000), some (vR 0), some (vI w), some (vI m), some (vI n), some (vR 77), some (vR 78), some (vI o), some (vR 79), some (vR 80), some (vI l), some (vI e), some (vI f), some (vI a), some (vI t), some (vI (iShr v5 (t / 18))), some (vI v6), some (vI v11), z18, z19]) F_170_444 rfl rfl ?_
            refine r_iconst F_170_446 ?_
            refine r_stI (m := 18) (L' := [some (vR 1000), some (vR 0), some (vI w), some (vI m), some (vI n), some (vR 77), some (vR 78), some (vI o), some (vR 79), some (vR 80), some (vI l), some (vI e), some (vI f), some (vI a), some (vI t), some (vI (iShr v5 (t / 18))), some (vI v6), some (vI v11), some (vI 0), z19]) F_170_447 rfl rfl ?_
            exact (l14 e2 e4 v5 q5a v6 q6a q6b q6c e8 e9 e10 v11 q11a q11b q11c)
          · intro e12
            replace e12 : v6 = 1 := (Classical.not_not.mp e12)
            refine r_ldI (m := 10) F_170_375 rfl ?_
            refine r_ldI_n (m := 2) F_170_377 rfl ?_
            refine r_icmp (t := 385) F_170_378 rfl (l15 e2 e4 v5 q5a v6 q6a q6b q6c e8 e9 e12) (l16 e2 e4 v5 q5a v6 q6a q6b q6c e8 e9 e12) ?_ ?_
            · intro e13
              replace e13 : w ≤ l := e13
              refine r_iconst F_170_385 ?_
              refine r_stI (m := 17) (L' := [some (vR 1000), some (vR 0), some (vI w), some (vI m), some (vI n), some (vR 77), some (vR 78), some (vI o), some (vR 79), some (vR 80), some (vI l), some (vI e), some (vI f), some (vI a), some (vI t), some (vI (iShr v5 (t / 18))), some (vI v6), some (vI 0), z18, z19]) F_170_386 rfl rfl ?_
              refine r_ldR_n (m := 1) F_170_388 rfl ?_
              refine r_virt2 (A := []) (r := []) (n := 0) F_170_389 o_170 il_6_72 rfl rfl rfl rfl ty_0 vy_89 (lay_le n_89 rfl) ?_
              exact (l17 e2 e4 v5 q5a v6 q6a q6b q6c e8 e9 e12 e13)
            · intro e14
              replace e14 : l < w := (Int.not_le.mp e14)
              refine r_iconst F_170_381 ?_
              refine r_goto (t := 386) F_170_382 rfl ?_
              refine r_stI (m := 17) (L' := [some (vR 1000), some (vR 0), some (vI w), some (vI m), some (vI n), some (vR 77), some (vR 78), some (vI o), some (vR 79), some (vR 80), some (vI l), some (vI e), some (vI f), some (vI a), some (vI t), some (vI (iShr v5 (t / 18))), some (vI v6), some (vI 1), z18, z19]) F_170_386 rfl rfl ?_
              refine r_ldR_n (m := 1) F_170_388 rfl ?_
              refine r_virt2 (A := []) (r := []) (n := 0) F_170_389 o_170 il_6_72 rfl rfl rfl rfl ty_0 vy_89 (lay_le n_89 rfl) ?_
              exact (l18 e2 e4 v5 q5a v6 q6a q6b q6c e8 e9 e12 e14)
        · intro e15
          replace e15 : a = 0 := (Classical.not_not.mp e15)
          exact (l19 e2 e4 v5 q5a v6 q6a q6b q6c e8 e15)
theorem t_L_law_184 {X : m_X} {d : Nat} {s : m_St} {P : Option Value → m_St → Prop} {w m n o l e f a t u y : Int} {z17 z18 z19 : Option Value} (hU : 4 ≤ X.2)
    (l1 : inR n)
    (l2 : 0 < n)
    (l3 : ∀ (v1 : Int), 0 ≤ v1 → v1 < n → v1 = lss (iShr u 3) n → ∀ (v2 : Int), 0 ≤ v2 → v2 < n → v2 = lss (iShr u 6) n → inR v1)
    (l4 : ∀ (v1 : Int), 0 ≤ v1 → v1 < n → v1 = lss (iShr u 3) n → ∀ (v2 : Int), 0 ≤ v2 → v2 < n → v2 = lss (iShr u 6) n → inR v2)
    (l5 : ∀ (v1 : Int), 0 ≤ v1 → v1 < n → v1 = lss (iShr u 3) n → ∀ (v2 : Int), 0 ≤ v2 → v2 < n → v2 = lss (iShr u 6) n → v1 = v2 → Rn X (d + 9) 170 244 [some (vR 1000), some (vR 0), some (vI w), some (vI m), some (vI n), some (vR 77), some (vR 78), some (vI o), some (vR 79), some (vR 80), some (vI l), some (vI e), some (vI f), some (vI a), some (vI t), some (vI u), some (vI y), some (vI v1), some (vI v2), some (vI 0)] [] s P)
    (l6 : ∀ (v1 : Int), 0 ≤ v1 → v1 < n → v1 = lss (iShr u 3) n → ∀ (v2 : Int), 0 ≤ v2 → v2 < n → v2 = lss (iShr u 6) n → ¬ v1 = v2 → inR a)
    (l7 : ∀ (v1 : Int), 0 ≤ v1 → v1 < n → v1 = lss (iShr u 3) n → ∀ (v2 : Int), 0 ≤ v2 → v2 < n → v2 = lss (iShr u 6) n → ¬ v1 = v2 → a = 0 → Rn X (d + 9) 170 244 [some (vR 1000), some (vR 0), some (vI w), some (vI m), some (vI n), some (vR 77), some (vR 78), some (vI o), some (vR 79), some (vR 80), some (vI l), some (vI e), some (vI f), some (vI a), some (vI t), some (vI u), some (vI y), some (vI v1), some (vI v2), some (vI 1)] [] s P)
    (l8 : ∀ (v1 : Int), 0 ≤ v1 → v1 < n → v1 = lss (iShr u 3) n → ∀ (v2 : Int), 0 ≤ v2 → v2 < n → v2 = lss (iShr u 6) n → ¬ v1 = v2 → ¬ a = 0 → inR (s 79 0))
    (l9 : ∀ (v1 : Int), 0 ≤ v1 → v1 < n → v1 = lss (iShr u 3) n → ∀ (v2 : Int), 0 ≤ v2 → v2 < n → v2 = lss (iShr u 6) n → ¬ v1 = v2 → ¬ a = 0 → ¬ (s 79 0) = v1 → Rn X (d + 9) 170 244 [some (vR 1000), some (vR 0), some (vI w), some (vI m), some (vI n), some (vR 77), some (vR 78), some (vI o), some (vR 79), some (vR 80), some (vI l), some (vI e), some (vI f), some (vI a), some (vI t), some (vI u), some (vI y), some (vI v1), some (vI v2), some (vI 1)] [] s P)
    (l10 : ∀ (v1 : Int), 0 ≤ v1 → v1 < n → v1 = lss (iShr u 3) n → ∀ (v2 : Int), 0 ≤ v2 → v2 < n → v2 = lss (iShr u 6) n → ¬ v1 = v2 → ¬ a = 0 → (s 79 0) = v1 → inR (s 79 1))
    (l11 : ∀ (v1 : Int), 0 ≤ v1 → v1 < n → v1 = lss (iShr u 3) n → ∀ (v2 : Int), 0 ≤ v2 → v2 < n → v2 = lss (iShr u 6) n → ¬ v1 = v2 → ¬ a = 0 → (s 79 0) = v1 → (s 79 1) = v2 → Rn X (d + 9) 170 244 [some (vR 1000), some (vR 0), some (vI w), some (vI m), some (vI n), some (vR 77), some (vR 78), some (vI o), some (vR 79), some (vR 80), some (vI l), some (vI e), some (vI f), some (vI a), some (vI t), some (vI u), some (vI y), some (vI v1), some (vI v2), some (vI 0)] [] s P)
    (l12 : ∀ (v1 : Int), 0 ≤ v1 → v1 < n → v1 = lss (iShr u 3) n → ∀ (v2 : Int), 0 ≤ v2 → v2 < n → v2 = lss (iShr u 6) n → ¬ v1 = v2 → ¬ a = 0 → (s 79 0) = v1 → ¬ (s 79 1) = v2 → Rn X (d + 9) 170 244 [some (vR 1000), some (vR 0), some (vI w), some (vI m), some (vI n), some (vR 77), some (vR 78), some (vI o), some (vR 79), some (vR 80), some (vI l), some (vI e), some (vI f), some (vI a), some (vI t), some (vI u), some (vI y), some (vI v1), some (vI v2), some (vI 1)] [] s P)
    : Rn X (d + 9) 170 184 [some (vR 1000), some (vR 0), some (vI w), some (vI m), some (vI n), some (vR 77), some (vR 78), some (vI o), some (vR 79), some (vR 80), some (vI l), some (vI e), some (vI f), some (vI a), some (vI t), some (vI u), some (vI y), z17, z18, z19] [] s P := by
  refine r_ldI (m := 15) F_170_184 rfl ?_
  refine r_iconst F_170_186 ?_
  refine r_ishr F_170_187 rfl ?_
  refine r_ldI (m := 4) F_170_188 rfl ?_
  refine r_stat2 (A := [vI (iShr u 3), vI n]) (r := []) (n := 2) F_170_190 o_170 il_6_21 (by decide) rfl rfl rfl rfl (lay_le n_158 rfl) ?_
  refine sp_less l1 l2 ?_
  intro v1 q1a q1b q1c
  show Rn _ _ _ _ _ [vI v1] _ _
  refine r_stI (m := 17) (L' := [some (vR 1000), some (vR 0), some (vI w), some (vI m), some (vI n), some (vR 77), some (vR 78), some (vI o), some (vR 79), some (vR 80), some (vI l), some (vI e), some (vI f), some (vI a), some (vI t), some (vI u), some (vI y), some (vI v1), z18, z19]) F_170_193 rfl rfl ?_
  refine r_ldI (m := 15) F_170_195 rfl ?_
  refine r_bipush F_170_197 bi_6 ?_
  refine r_ishr F_170_199 rfl ?_
  refine r_ldI (m := 4) F_170_200 rfl ?_
  refine r_stat2 (A := [vI (iShr u 6), vI n]) (r := []) (n := 2) F_170_202 o_170 il_6_21 (by decide) rfl rfl rfl rfl (lay_le n_158 rfl) ?_
  refine sp_less l1 l2 ?_
  intro v2 q2a q2b q2c
  show Rn _ _ _ _ _ [vI v2] _ _
  refine r_stI (m := 18) (L' := [some (vR 1000), some (vR 0), some (vI w), some (vI m), some (vI n), some (vR 77), some (vR 78), some (vI o), some (vR 79), some (vR 80), some (vI l), some (vI e), some (vI f), some (vI a), some (vI t), some (vI u), some (vI y), some (vI v1), some (vI v2), z19]) F_170_205 rfl rfl ?_
  refine r_ldI (m := 17) F_170_207 rfl ?_
  refine r_ldI (m := 18) F_170_209 rfl ?_
  refine r_icmp (t := 241) F_170_211 rfl (l3 v1 q1a q1b q1c v2 q2a q2b q2c) (l4 v1 q1a q1b q1c v2 q2a q2b q2c) ?_ ?_
  · intro e3
    replace e3 : v1 = v2 := e3
    refine r_iconst F_170_241 ?_
    refine r_stI (m := 19) (L' := [some (vR 1000), some (vR 0), some (vI w), some (vI m), some (vI n), some (vR 77), some (vR 78), some (vI o), some (vR 79), some (vR 80), some (vI l), some (vI e), some (vI f), some (vI a), some (vI t), some (vI u), some (vI y), some (vI v1), some (vI v2), some (vI 0)]) F_170_242 rfl rfl ?_
    exact (l5 v1 q1a q1b q1c v2 q2a q2b q2c e3)
  · intro e4
    replace e4 : ¬ v1 = v2 := e4
    refine r_ldI (m := 13) F_170_214 rfl ?_
    refine r_if (t := 237) F_170_216 rfl (l6 v1 q1a q1b q1c v2 q2a q2b q2c e4) ?_ ?_
    · intro e5
      replace e5 : a = 0 := e5
      refine r_iconst F_170_237 ?_
      refine r_goto (t := 242) F_170_238 rfl ?_
      refine r_stI (m := 19) (L' := [some (vR 1000), some (vR 0), some (vI w), some (vI m), some (vI n), some (vR 77), some (vR 78), some (vI o), some (vR 79), some (vR 80), some (vI l), some (vI e), some (vI f), some (vI a), some (vI t), some (vI u), some (vI y), some (vI v1), some (vI v2), some (vI 1)]) F_170_242 rfl rfl ?_
      exact (l7 v1 q1a q1b q1c v2 q2a q2b q2c e4 e5)
    · intro e6
      replace e6 : ¬ a = 0 := e6
      refine r_ldR (m := 8) F_170_219 rfl ?_
      refine r_iconst F_170_221 ?_
      refine r_ialdU (c := 2) (len := 2) (e := (s 79 0)) F_170_222 rfl rfl (Nat.lt_of_lt_of_le (by decide) hU) (by decide) (by decide) (by decide) (by decide) rfl ?_
      refine r_ldI (m := 17) F_170_223 rfl ?_
      refine r_icmp (t := 237) F_170_225 rfl (l8 v1 q1a q1b q1c v2 q2a q2b q2c e4 e6) (l3 v1 q1a q1b q1c v2 q2a q2b q2c) ?_ ?_
      · intro e7
        replace e7 : ¬ (s 79 0) = v1 := e7
        refine r_iconst F_170_237 ?_
        refine r_goto (t := 242) F_170_238 rfl ?_
        refine r_stI (m := 19) (L' := [some (vR 1000), some (vR 0), some (vI w), some (vI m), some (vI n), some (vR 77), some (vR 78), some (vI o), some (vR 79), some (vR 80), some (vI l), some (vI e), some (vI f), some (vI a), some (vI t), some (vI u), some (vI y), some (vI v1), some (vI v2), some (vI 1)]) F_170_242 rfl rfl ?_
        exact (l9 v1 q1a q1b q1c v2 q2a q2b q2c e4 e6 e7)
      · intro e8
        replace e8 : (s 79 0) = v1 := (Classical.not_not.mp e8)
        refine r_ldR (m := 8) F_170_228 rfl ?_
        refine r_iconst F_170_230 ?_
        refine r_ialdU (c := 2) (len := 2) (e := (s 79 1)) F_170_231 rfl rfl (Nat.lt_of_lt_of_le (by decide) hU) (by decide) (by decide) (by decide) (by decide) rfl ?_
        refine r_ldI (m := 18) F_170_232 rfl ?_
        refine r_icmp (t := 241) F_170_234 rfl (l10 v1 q1a q1b q1c v2 q2a q2b q2c e4 e6 e8) (l4 v1 q1a q1b q1c v2 q2a q2b q2c) ?_ ?_
        · intro e9
          replace e9 : (s 79 1) = v2 := e9
          refine r_iconst F_170_241 ?_
          refine r_stI (m := 19) (L' := [some (vR 1000), some (vR 0), some (vI w), some (vI m), some (vI n), some (vR 77), some (vR 78), some (vI o), some (vR 79), some (vR 80), some (vI l), some (vI e), some (vI f), some (vI a), some (vI t), some (vI u), some (vI y), some (vI v1), some (vI v2), some (vI 0)]) F_170_242 rfl rfl ?_
          exact (l11 v1 q1a q1b q1c v2 q2a q2b q2c e4 e6 e8 e9)
        · intro e10
          replace e10 : ¬ (s 79 1) = v2 := e10
          refine r_iconst F_170_237 ?_
          refine r_goto (t := 242) F_170_238 rfl ?_
          refine r_stI (m := 19) (L' := [some (vR 1000), some (vR 0), some (vI w), some (vI m), some (vI n), some (vR 77), some (vR 78), some (vI o), some (vR 79), some (vR 80), some (vI l), some (vI e), some (vI f), some (vI a), some (vI t), some (vI u), some (vI y), some (vI v1), some (vI v2), some (vI 1)]) F_170_242 rfl rfl ?_
          exact (l12 v1 q1a q1b q1c v2 q2a q2b q2c e4 e6 e8 e10)
theorem t_L_law_449 {X : m_X} {d : Nat} {s : m_St} {P : Option Value → m_St → Prop} {w m n o l e f a t u y p q : Int} {z19 : Option Value} (hU : 4 ≤ X.2)
    (l1 : inR q)
    (l2 : 8 ≤ q → Rn X (d + 9) 170 500 [some (vR 1000), some (vR 0), some (vI w), some (vI m), some (vI n), some (vR 77), some (vR 78), some (vI o), some (vR 79), some (vR 80), some (vI l), some (vI e), some (vI f), some (vI a), some (vI t), some (vI u), some (vI y), some (vI p), some (vI q), z19] [] s P)
    (l3 : q < 8 → ∀ (v3 : Int), 0 ≤ v3 → v3 < 4 → v3 = lss (iShr u 6) 4 → inR v3)
    (l4 : q < 8 → ∀ (v3 : Int), 0 ≤ v3 → v3 < 4 → v3 = lss (iShr u 6) 4 → v3 ≤ 0 → Rn X (d + 9) 170 500 [some (vR 1000), some (vR 0), some (vI w), some (vI m), some (vI n), some (vR 77), some (vR 78), some (vI o), some (vR 79), some (vR 80), some (vI l), some (vI e), some (vI f), some (vI a), some (vI t), some (vI u), some (vI y), some (vI p), some (vI q), z19] [] s P)
    (l5 : q < 8 → ∀ (v3 : Int), 0 ≤ v3 → v3 < 4 → v3 = lss (iShr u 6) 4 → 0 < v3 → 0 ≤ p)
    (l6 : q < 8 → ∀ (v3 : Int), 0 ≤ v3 → v3 < 4 → v3 = lss (iShr u 6) 4 → 0 < v3 → p < 8)
    (l7 : q < 8 → ∀ (v3 : Int), 0 ≤ v3 → v3 < 4 → v3 = lss (iShr u 6) 4 → 0 < v3 → n ≤ 6)
    (l8 : q < 8 → ∀ (v3 : Int), 0 ≤ v3 → v3 < 4 → v3 = lss (iShr u 6) 4 → 0 < v3 → gL s n)
    (l9 : q < 8 → ∀ (v3 : Int), 0 ≤ v3 → v3 < 4 → v3 = lss (iShr u 6) 4 → 0 < v3 → 0 ≤ s 79 0)
    (l10 : q < 8 → ∀ (v3 : Int), 0 ≤ v3 → v3 < 4 → v3 = lss (iShr u 6) 4 → 0 < v3 → s 79 0 < n)
    (l11 : q < 8 → ∀ (v3 : Int), 0 ≤ v3 → v3 < 4 → v3 = lss (iShr u 6) 4 → 0 < v3 → 0 ≤ s 79 1)
    (l12 : q < 8 → ∀ (v3 : Int), 0 ≤ v3 → v3 < 4 → v3 = lss (iShr u 6) 4 → 0 < v3 → s 79 1 < n)
    (l13 : q < 8 → ∀ (v3 : Int), 0 ≤ v3 → v3 < 4 → v3 = lss (iShr u 6) 4 → 0 < v3 → (cnA s p) = 0 → 0 ≤ (p + 1))
    (l14 : q < 8 → ∀ (v3 : Int), 0 ≤ v3 → v3 < 4 → v3 = lss (iShr u 6) 4 → 0 < v3 → (cnA s p) = 0 → inR (p + 1))
    (l15 : q < 8 → ∀ (v3 : Int), 0 ≤ v3 → v3 < 4 → v3 = lss (iShr u 6) 4 → 0 < v3 → (cnA s p) = 0 → Rn X (d + 9) 170 449 [some (vR 1000), some (vR 0), some (vI w), some (vI m), some (vI n), some (vR 77), some (vR 78), some (vI o), some (vR 79), some (vR 80), some (vI l), some (vI e), some (vI f), some (vI a), some (vI t), some (vI u), some (vI y), some (vI ((p + 1) % 8)), some (vI (q + 1)), z19] [] s P)
    (l16 : q < 8 → ∀ (v3 : Int), 0 ≤ v3 → v3 < 4 → v3 = lss (iShr u 6) 4 → 0 < v3 → ¬ (cnA s p) = 0 → Rn X (d + 9) 170 449 [some (vR 1000), some (vR 0), some (vI w), some (vI m), some (vI n), some (vR 77), some (vR 78), some (vI o), some (vR 79), some (vR 80), some (vI l), some (vI e), some (vI f), some (vI a), some (vI t), some (vI u), some (vI y), some (vI p), some (vI (q + 1)), z19] [] s P)
    : Rn X (d + 9) 170 449 [some (vR 1000), some (vR 0), some (vI w), some (vI m), some (vI n), some (vR 77), some (vR 78), some (vI o), some (vR 79), some (vR 80), some (vI l), some (vI e), some (vI f), some (vI a), some (vI t), some (vI u), some (vI y), some (vI p), some (vI q), z19] [] s P := by
  refine r_ldI (m := 18) F_170_449 rfl ?_
  refine r_bipush F_170_451 bi_8 ?_
  refine r_icmp (t := 500) F_170_453 rfl l1 (by decide) ?_ ?_
  · intro e1
    replace e1 : 8 ≤ q := e1
    exact (l2 e1)
  · intro e2
    replace e2 : q < 8 := (Int.not_le.mp e2)
    refine r_ldI (m := 15) F_170_456 rfl ?_
    refine r_bipush F_170_458 bi_6 ?_
    refine r_ishr F_170_460 rfl ?_
    refine r_iconst F_170_461 ?_
    refine r_stat2 (A := [vI (iShr u 6), vI 4]) (r := []) (n := 2) F_170_462 o_170 il_6_21 (by decide) rfl rfl rfl rfl (lay_le n_158 rfl) ?_
    refine sp_less (by decide) (by decide) ?_
    intro v3 q3a q3b q3c
    show Rn _ _ _ _ _ [vI v3] _ _
    refine r_if (t := 500) F_170_465 rfl (l3 e2 v3 q3a q3b q3c) ?_ ?_
    · intro e4
      replace e4 : v3 ≤ 0 := e4
      exact (l4 e2 v3 q3a q3b q3c e4)
    · intro e5
      replace e5 : 0 < v3 := (Int.not_le.mp e5)
      refine r_ldR (m := 6) F_170_468 rfl ?_
      refine r_ldR (m := 8) F_170_470 rfl ?_
      refine r_ldI (m := 17) F_170_472 rfl ?_
      refine r_stat2 (A := [vR 78, vR 79, vI p]) (r := []) (n := 3) F_170_474 o_170 il_6_76 (by decide) rfl rfl rfl rfl (lay_le n_163 rfl) ?_
      refine sp_canL hU (l5 e2 v3 q3a q3b q3c e5) (l6 e2 v3 q3a q3b q3c e5) (l7 e2 v3 q3a q3b q3c e5) (l8 e2 v3 q3a q3b q3c e5) (l9 e2 v3 q3a q3b q3c e5) (l10 e2 v3 q3a q3b q3c e5) (l11 e2 v3 q3a q3b q3c e5) (l12 e2 v3 q3a q3b q3c e5) ?_
      show Rn _ _ _ _ _ [vI (cnA s p)] _ _
      refine r_if (t := 485) F_170_477 rfl (inR_cnA _ _) ?_ ?_
      · intro e6
        replace e6 : (cnA s p) = 0 := e6
        refine r_ldI (m := 17) F_170_485 rfl ?_
        refine r_iconst F_170_487 ?_
        refine r_iadd F_170_488 rfl ?_
        refine r_bipush F_170_489 bi_8 ?_
        refine r_irem F_170_491 (l14 e2 v3 q3a q3b q3c e5 e6) (l13 e2 v3 q3a q3b q3c e5 e6) (by decide) (by decide) ?_
        refine r_stI (m := 17) (L' := [some (vR 1000), some (vR 0), some (vI w), some (vI m), some (vI n), some (vR 77), some (vR 78), some (vI o), some (vR 79), some (vR 80), some (vI l), some (vI e), some (vI f), some (vI a), some (vI t), some (vI u), some (vI y), some (vI ((p + 1) % 8)), some (vI q), z19]) F_170_492 rfl rfl ?_
        refine r_iinc (m := 18) (e := (q + 1)) (L' := [some (vR 1000), some (vR 0), some (vI w), some (vI m), some (vI n), some (vR 77), some (vR 78), some (vI o), some (vR 79), some (vR 80), some (vI l), some (vI e), some (vI f), some (vI a), some (vI t), some (vI u), some (vI y), some (vI ((p + 1) % 8)), some (vI (q + 1)), z19]) F_170_494 rfl rfl rfl rfl ?_
        refine r_goto (t := 449) F_170_497 rfl ?_
        exact (l15 e2 v3 q3a q3b q3c e5 e6)
      · intro e7
        replace e7 : ¬ (cnA s p) = 0 := e7
        refine r_ldI (m := 17) F_170_480 rfl ?_
        refine r_goto (t := 492) F_170_482 rfl ?_
        refine r_stI (m := 17) (L' := [some (vR 1000), some (vR 0), some (vI w), some (vI m), some (vI n), some (vR 77), some (vR 78), some (vI o), some (vR 79), some (vR 80), some (vI l), some (vI e), some (vI f), some (vI a), some (vI t), some (vI u), some (vI y), some (vI p), some (vI q), z19]) F_170_492 rfl rfl ?_
        refine r_iinc (m := 18) (e := (q + 1)) (L' := [some (vR 1000), some (vR 0), some (vI w), some (vI m), some (vI n), some (vR 77), some (vR 78), some (vI o), some (vR 79), some (vR 80), some (vI l), some (vI e), some (vI f), some (vI a), some (vI t), some (vI u), some (vI y), some (vI p), some (vI (q + 1)), z19]) F_170_494 rfl rfl rfl rfl ?_
        refine r_goto (t := 449) F_170_497 rfl ?_
        exact (l16 e2 v3 q3a q3b q3c e5 e7)
theorem t_L_law_392 {X : m_X} {d : Nat} {s : m_St} {P : Option Value → m_St → Prop} {w m n o l e f a t u y p rv : Int} {z18 z19 : Option Value} (hU : 4 ≤ X.2)
    (l1 : inR p)
    (l2 : p = 0 → inR rv)
    (l3 : p = 0 → ¬ rv = (-4) → Rn X (d + 9) 170 611 [some (vR 1000), some (vR 0), some (vI w), some (vI m), some (vI n), some (vR 77), some (vR 78), some (vI 0), some (vR 79), some (vR 80), some (vI w), some (vI e), some (vI f), some (vI a), some (vI t), some (vI u), some (vI y), some (vI p), z18, z19] [] s P)
    (l4 : p = 0 → rv = (-4) → Rn X (d + 9) 170 611 [some (vR 1000), some (vR 0), some (vI w), some (vI m), some (vI n), some (vR 77), some (vR 78), some (vI 1), some (vR 79), some (vR 80), some (vI w), some (vI e), some (vI f), some (vI a), some (vI t), some (vI u), some (vI y), some (vI p), z18, z19] [] s P)
    (l5 : ¬ p = 0 → inR rv)
    (l6 : ¬ p = 0 → inR l)
    (l7 : ¬ p = 0 → ¬ rv = l → Rn X (d + 9) 170 611 [some (vR 1000), some (vR 0), some (vI w), some (vI m), some (vI n), some (vR 77), some (vR 78), some (vI 0), some (vR 79), some (vR 80), some (vI w), some (vI (e + 1)), some (vI f), some (vI a), some (vI t), some (vI u), some (vI y), some (vI p), z18, z19] [] s P)
    (l8 : ¬ p = 0 → rv = l → Rn X (d + 9) 170 611 [some (vR 1000), some (vR 0), some (vI w), some (vI m), some (vI n), some (vR 77), some (vR 78), some (vI 1), some (vR 79), some (vR 80), some (vI w), some (vI (e + 1)), some (vI f), some (vI a), some (vI t), some (vI u), some (vI y), some (vI p), z18, z19] [] s P)
    : Rn X (d + 9) 170 392 [some (vR 1000), some (vR 0), some (vI w), some (vI m), some (vI n), some (vR 77), some (vR 78), some (vI o), some (vR 79), some (vR 80), some (vI l), some (vI e), some (vI f), some (vI a), some (vI t), some (vI u), some (vI y), some (vI p), z18, z19] [vI rv] s P := by
  refine r_ldI (m := 17) F_170_392 rfl ?_
  refine r_if (t := 402) F_170_394 rfl l1 ?_ ?_
  · intro e1
    replace e1 : p = 0 := e1
    refine r_bipush F_170_402 bi__4 ?_
    refine r_icmp (t := 411) F_170_404 rfl (l2 e1) (by decide) ?_ ?_
    · intro e2
      replace e2 : ¬ rv = (-4) := e2
      refine r_iconst F_170_411 ?_
      refine r_stI (m := 7) (L' := [some (vR 1000), some (vR 0), some (vI w), some (vI m), some (vI n), some (vR 77), some (vR 78), some (vI 0), some (vR 79), some (vR 80), some (vI l), some (vI e), some (vI f), some (vI a), some (vI t), some (vI u), some (vI y), some (vI p), z18, z19]) F_170_412 rfl rfl ?_
      refine r_ldI_n (m := 2) F_170_414 rfl ?_
      refine r_stI (m := 10) (L' := [some (vR 1000), some (vR 0), some (vI w), some (vI m), some (vI n), some (vR 77), some (vR 78), some (vI 0), some (vR 79), some (vR 80), some (vI w), some (vI e), some (vI f), some (vI a), some (vI t), some (vI u), some (vI y), some (vI p), z18, z19]) F_170_415 rfl rfl ?_
      refine r_ldI (m := 11) F_170_417 rfl ?_
      refine r_ldI (m := 17) F_170_419 rfl ?_
      refine r_ifT (t := 428) F_170_421 rfl l1 e1 ?_
      refine r_iconst F_170_428 ?_
      refine r_iadd (e := e) F_170_429 (Int.add_zero _) ?_
      refine r_stI (m := 11) (L' := [some (vR 1000), some (vR 0), some (vI w), some (vI m), some (vI n), some (vR 77), some (vR 78), some (vI 0), some (vR 79), some (vR 80), some (vI w), some (vI e), some (vI f), some (vI a), some (vI t), some (vI u), some (vI y), some (vI p), z18, z19]) F_170_430 rfl rfl ?_
      refine r_goto (t := 611) F_170_432 rfl ?_
      exact (l3 e1 e2)
    · intro e3
      replace e3 : rv = (-4) := (Classical.not_not.mp e3)
      refine r_iconst F_170_407 ?_
      refine r_goto (t := 412) F_170_408 rfl ?_
      refine r_stI (m := 7) (L' := [some (vR 1000), some (vR 0), some (vI w), some (vI m), some (vI n), some (vR 77), some (vR 78), some (vI 1), some (vR 79), some (vR 80), some (vI l), some (vI e), some (vI f), some (vI a), some (vI t), some (vI u), some (vI y), some (vI p), z18, z19]) F_170_412 rfl rfl ?_
      refine r_ldI_n (m := 2) F_170_414 rfl ?_
      refine r_stI (m := 10) (L' := [some (vR 1000), some (vR 0), some (vI w), some (vI m), some (vI n), some (vR 77), some (vR 78), some (vI 1), some (vR 79), some (vR 80), some (vI w), some (vI e), some (vI f), some (vI a), some (vI t), some (vI u), some (vI y), some (vI p), z18, z19]) F_170_415 rfl rfl ?_
      refine r_ldI (m := 11) F_170_417 rfl ?_
      refine r_ldI (m := 17) F_170_419 rfl ?_
      refine r_ifT (t := 428) F_170_421 rfl l1 e1 ?_
      refine r_iconst F_170_428 ?_
      refine r_iadd (e := e) F_170_429 (Int.add_zero _) ?_
      refine r_stI (m := 11) (L' := [some (vR 1000), some (vR 0), some (vI w), some (vI m), some (vI n), some (vR 77), some (vR 78), some (vI 1), some (vR 79), some (vR 80), some (vI w), some (vI e), some (vI f), some (vI a), some (vI t), some (vI u), some (vI y), some (vI p), z18, z19]) F_170_430 rfl rfl ?_
      refine r_goto (t := 611) F_170_432 rfl ?_
      exact (l4 e1 e3)
  · intro e4
    replace e4 : ¬ p = 0 := e4
    refine r_ldI (m := 10) F_170_397 rfl ?_
    refine r_goto (t := 404) F_170_399 rfl ?_
    refine r_icmp (t := 411) F_170_404 rfl (l5 e4) (l6 e4) ?_ ?_
    · intro e5
      replace e5 : ¬ rv = l := e5
      refine r_iconst F_170_411 ?_
      refine r_stI (m := 7) (L' := [some (vR 1000), some (vR 0), some (vI w), some (vI m), some (vI n), some (vR 77), some (vR 78), some (vI 0), some (vR 79), some (vR 80), some (vI l), some (vI e), some (vI f), some (vI a), some (vI t), some (vI u), some (vI y), some (vI p), z18, z19]) F_170_412 rfl rfl ?_
      refine r_ldI_n (m := 2) F_170_414 rfl ?_
      refine r_stI (m := 10) (L' := [some (vR 1000), some (vR 0), some (vI w), some (vI m), some (vI n), some (vR 77), some (vR 78), some (vI 0), some (vR 79), some (vR 80), some (vI w), some (vI e), some (vI f), some (vI a), some (vI t), some (vI u), some (vI y), some (vI p), z18, z19]) F_170_415 rfl rfl ?_
      refine r_ldI (m := 11) F_170_417 rfl ?_
      refine r_ldI (m := 17) F_170_419 rfl ?_
      refine r_ifF (t := 428) F_170_421 rfl l1 e4 ?_
      refine r_iconst F_170_424 ?_
      refine r_goto (t := 429) F_170_425 rfl ?_
      refine r_iadd F_170_429 rfl ?_
      refine r_stI (m := 11) (L' := [some (vR 1000), some (vR 0), some (vI w), some (vI m), some (vI n), some (vR 77), some (vR 78), some (vI 0), some (vR 79), some (vR 80), some (vI w), some (vI (e + 1)), some (vI f), some (vI a), some (vI t), some (vI u), some (vI y), some (vI p), z18, z19]) F_170_430 rfl rfl ?_
      refine r_goto (t := 611) F_170_432 rfl ?_
      exact (l7 e4 e5)
    · intro e6
      replace e6 : rv = l := (Classical.not_not.mp e6)
      refine r_iconst F_170_407 ?_
      refine r_goto (t := 412) F_170_408 rfl ?_
      refine r_stI (m := 7) (L' := [some (vR 1000), some (vR 0), some (vI w), some (vI m), some (vI n), some (vR 77), some (vR 78), some (vI 1), some (vR 79), some (vR 80), some (vI l), some (vI e), some (vI f), some (vI a), some (vI t), some (vI u), some (vI y), some (vI p), z18, z19]) F_170_412 rfl rfl ?_
      refine r_ldI_n (m := 2) F_170_414 rfl ?_
      refine r_stI (m := 10) (L' := [some (vR 1000), some (vR 0), some (vI w), some (vI m), some (vI n), some (vR 77), some (vR 78), some (vI 1), some (vR 79), some (vR 80), some (vI w), some (vI e), some (vI f), some (vI a), some (vI t), some (vI u), some (vI y), some (vI p), z18, z19]) F_170_415 rfl rfl ?_
      refine r_ldI (m := 11) F_170_417 rfl ?_
      refine r_ldI (m := 17) F_170_419 rfl ?_
      refine r_ifF (t := 428) F_170_421 rfl l1 e4 ?_
      refine r_iconst F_170_424 ?_
      refine r_goto (t := 429) F_170_425 rfl ?_
      refine r_iadd F_170_429 rfl ?_
      refine r_stI (m := 11) (L' := [some (vR 1000), some (vR 0), some (vI w), some (vI m), some (vI n), some (vR 77), some (vR 78), some (vI 1), some (vR 79), some (vR 80), some (vI w), some (vI (e + 1)), some (vI f), some (vI a), some (vI t), some (vI u), some (vI y), some (vI p), z18, z19]) F_170_430 rfl rfl ?_
      refine r_goto (t := 611) F_170_432 rfl ?_
      exact (l8 e4 e6)
theorem t_L_law_244 {X : m_X} {d : Nat} {s : m_St} {P : Option Value → m_St → Prop} {w m n o l e f a t u y p q r : Int} (hU : 4 ≤ X.2)
    (l1 : inR r)
    (l2 : r = 0 → Cl X (d + 8) 79 [vR 0, vI p, vI q] (m_upd (m_upd s 79 0 (s 79 0)) 79 1 (s 79 1)) (fun v s' => Rn X (d + 9) 170 303 [some (vR 1000), some (vR 0), some (vI w), some (vI m), some (vI n), some (vR 77), some (vR 78), some (vI o), some (vR 79), some (vR 80), some (vI l), some (vI e), some (vI f), some (vI a), some (vI t), some (vI u), some (vI y), some (vI p), some (vI q), some (vI r)] (m_push v []) s' P))
    (l3 : ¬ r = 0 → Cl X (d + 8) 79 [vR 0, vI p, vI q] (m_upd (m_upd s 79 0 p) 79 1 q) (fun v s' => Rn X (d + 9) 170 303 [some (vR 1000), some (vR 0), some (vI w), some (vI m), some (vI n), some (vR 77), some (vR 78), some (vI o), some (vR 79), some (vR 80), some (vI l), some (vI (e + 1)), some (vI f), some (vI a), some (vI t), some (vI u), some (vI y), some (vI p), some (vI q), some (vI r)] (m_push v []) s' P))
    : Rn X (d + 9) 170 244 [some (vR 1000), some (vR 0), some (vI w), some (vI m), some (vI n), some (vR 77), some (vR 78), some (vI o), some (vR 79), some (vR 80), some (vI l), some (vI e), some (vI f), some (vI a), some (vI t), some (vI u), some (vI y), some (vI p), some (vI q), some (vI r)] [] s P := by
  refine r_ldR (m := 8) F_170_244 rfl ?_
  refine r_iconst F_170_246 ?_
  refine r_ldI (m := 19) F_170_247 rfl ?_
  refine r_if (t := 257) F_170_249 rfl l1 ?_ ?_
  · intro e1
    replace e1 : r = 0 := e1
    refine r_ldR (m := 8) F_170_257 rfl ?_
    refine r_iconst F_170_259 ?_
    refine r_ialdU (c := 2) (len := 2) (e := (s 79 0)) F_170_260 rfl rfl (Nat.lt_of_lt_of_le (by decide) hU) (by decide) (by decide) (by decide) (by decide) rfl ?_
    refine r_iastU (c := 2) (len := 2) F_170_261 rfl rfl (Nat.lt_of_lt_of_le (by decide) hU) (by decide) (by decide) (by decide) (by decide) ?_
    refine r_ldR (m := 8) F_170_262 rfl ?_
    refine r_iconst F_170_264 ?_
    refine r_ldI (m := 19) F_170_265 rfl ?_
    refine r_ifT (t := 275) F_170_267 rfl l1 e1 ?_
    refine r_ldR (m := 8) F_170_275 rfl ?_
    refine r_iconst F_170_277 ?_
    refine r_ialdU (c := 2) (len := 2) (e := (s 79 1)) F_170_278 rfl rfl (Nat.lt_of_lt_of_le (by decide) hU) (by decide) (by decide) (by decide) (by decide) (upd_nj (by decide)) ?_
    refine r_iastU (c := 2) (len := 2) F_170_279 rfl rfl (Nat.lt_of_lt_of_le (by decide) hU) (by decide) (by decide) (by decide) (by decide) ?_
    refine r_ldI (m := 11) F_170_280 rfl ?_
    refine r_ldI (m := 19) F_170_282 rfl ?_
    refine r_ifT (t := 291) F_170_284 rfl l1 e1 ?_
    refine r_iconst F_170_291 ?_
    refine r_iadd (e := e) F_170_292 (Int.add_zero _) ?_
    refine r_stI (m := 11) (L' := [some (vR 1000), some (vR 0), some (vI w), some (vI m), some (vI n), some (vR 77), some (vR 78), some (vI o), some (vR 79), some (vR 80), some (vI l), some (vI e), some (vI f), some (vI a), some (vI t), some (vI u), some (vI y), some (vI p), some (vI q), some (vI r)]) F_170_293 rfl rfl ?_
    refine r_ldR_n (m := 1) F_170_295 rfl ?_
    refine r_ldI (m := 17) F_170_296 rfl ?_
    refine r_ldI (m := 18) F_170_298 rfl ?_
    refine r_virt2 (A := [vI p, vI q]) (r := []) (n := 2) F_170_300 o_170 il_6_66 rfl rfl rfl rfl ty_0 vy_79 (lay_le n_79 rfl) ?_
    exact (l2 e1)
  · intro e2
    replace e2 : ¬ r = 0 := e2
    refine r_ldI (m := 17) F_170_252 rfl ?_
    refine r_goto (t := 261) F_170_254 rfl ?_
    refine r_iastU (c := 2) (len := 2) F_170_261 rfl rfl (Nat.lt_of_lt_of_le (by decide) hU) (by decide) (by decide) (by decide) (by decide) ?_
    refine r_ldR (m := 8) F_170_262 rfl ?_
    refine r_iconst F_170_264 ?_
    refine r_ldI (m := 19) F_170_265 rfl ?_
    refine r_ifF (t := 275) F_170_267 rfl l1 e2 ?_
    refine r_ldI (m := 18) F_170_270 rfl ?_
    refine r_goto (t := 279) F_170_272 rfl ?_
    refine r_iastU (c := 2) (len := 2) F_170_279 rfl rfl (Nat.lt_of_lt_of_le (by decide) hU) (by decide) (by decide) (by decide) (by decide) ?_
    refine r_ldI (m := 11) F_170_280 rfl ?_
    refine r_ldI (m := 19) F_170_282 rfl ?_
    refine r_ifF (t := 291) F_170_284 rfl l1 e2 ?_
    refine r_iconst F_170_287 ?_
    refine r_goto (t := 292) F_170_288 rfl ?_
    refine r_iadd F_170_292 rfl ?_
    refine r_stI (m := 11) (L' := [some (vR 1000), some (vR 0), some (vI w), some (vI m), some (vI n), some (vR 77), some (vR 78), some (vI o), some (vR 79), some (vR 80), some (vI l), some (vI (e + 1)), some (vI f), some (vI a), some (vI t), some (vI u), some (vI y), some (vI p), some (vI q), some (vI r)]) F_170_293 rfl rfl ?_
    refine r_ldR_n (m := 1) F_170_295 rfl ?_
    refine r_ldI (m := 17) F_170_296 rfl ?_
    refine r_ldI (m := 18) F_170_298 rfl ?_
    refine r_virt2 (A := [vI p, vI q]) (r := []) (n := 2) F_170_300 o_170 il_6_66 rfl rfl rfl rfl ty_0 vy_79 (lay_le n_79 rfl) ?_
    exact (l3 e2)
theorem t_L_law_500 {X : m_X} {d : Nat} {s : m_St} {P : Option Value → m_St → Prop} {w m n o l e f a t u y p q : Int} {z19 : Option Value} (hU : 4 ≤ X.2)
    (l1 : 0 ≤ p)
    (l2 : p < 8)
    (l3 : n ≤ 6)
    (l4 : gL s n)
    (l5 : 0 ≤ s 79 0)
    (l6 : s 79 0 < n)
    (l7 : 0 ≤ s 79 1)
    (l8 : s 79 1 < n)
    (l9 : (cnA s p) = 0 → Rn X (d + 9) 170 528 [some (vR 1000), some (vR 0), some (vI w), some (vI m), some (vI n), some (vR 77), some (vR 78), some (vI o), some (vR 79), some (vR 80), some (vI l), some (vI e), some (vI f), some (vI a), some (vI t), some (vI u), some (vI y), some (vI p), some (vI (cnA s p)), some (vI 0)] [] s P)
    (l10 : ¬ (cnA s p) = 0 → inR l)
    (l11 : ¬ (cnA s p) = 0 → l ≤ 0 → Rn X (d + 9) 170 528 [some (vR 1000), some (vR 0), some (vI w), some (vI m), some (vI n), some (vR 77), some (vR 78), some (vI o), some (vR 79), some (vR 80), some (vI l), some (vI e), some (vI f), some (vI a), some (vI t), some (vI u), some (vI y), some (vI p), some (vI (cnA s p)), some (vI 0)] [] s P)
    (l12 : ¬ (cnA s p) = 0 → 0 < l → Rn X (d + 9) 170 528 [some (vR 1000), some (vR 0), some (vI w), some (vI m), some (vI n), some (vR 77), some (vR 78), some (vI o), some (vR 79), some (vR 80), some (vI l), some (vI e), some (vI f), some (vI a), some (vI t), some (vI u), some (vI y), some (vI p), some (vI (cnA s p)), some (vI 1)] [] s P)
    : Rn X (d + 9) 170 500 [some (vR 1000), some (vR 0), some (vI w), some (vI m), some (vI n), some (vR 77), some (vR 78), some (vI o), some (vR 79), some (vR 80), some (vI l), some (vI e), some (vI f), some (vI a), some (vI t), some (vI u), some (vI y), some (vI p), some (vI q), z19] [] s P := by
  refine r_ldR (m := 6) F_170_500 rfl ?_
  refine r_ldR (m := 8) F_170_502 rfl ?_
  refine r_ldI (m := 17) F_170_504 rfl ?_
  refine r_stat2 (A := [vR 78, vR 79, vI p]) (r := []) (n := 3) F_170_506 o_170 il_6_76 (by decide) rfl rfl rfl rfl (lay_le n_163 rfl) ?_
  refine sp_canL hU l1 l2 l3 l4 l5 l6 l7 l8 ?_
  show Rn _ _ _ _ _ [vI (cnA s p)] _ _
  refine r_stI (m := 18) (L' := [some (vR 1000), some (vR 0), some (vI w), some (vI m), some (vI n), some (vR 77), some (vR 78), some (vI o), some (vR 79), some (vR 80), some (vI l), some (vI e), some (vI f), some (vI a), some (vI t), some (vI u), some (vI y), some (vI p), some (vI (cnA s p)), z19]) F_170_509 rfl rfl ?_
  refine r_ldI (m := 18) F_170_511 rfl ?_
  refine r_if (t := 525) F_170_513 rfl (inR_cnA _ _) ?_ ?_
  · intro e1
    replace e1 : (cnA s p) = 0 := e1
    refine r_iconst F_170_525 ?_
    refine r_stI (m := 19) (L' := [some (vR 1000), some (vR 0), some (vI w), some (vI m), some (vI n), some (vR 77), some (vR 78), some (vI o), some (vR 79), some (vR 80), some (vI l), some (vI e), some (vI f), some (vI a), some (vI t), some (vI u), some (vI y), some (vI p), some (vI (cnA s p)), some (vI 0)]) F_170_526 rfl rfl ?_
    exact (l9 e1)
  · intro e2
    replace e2 : ¬ (cnA s p) = 0 := e2
    refine r_ldI (m := 10) F_170_516 rfl ?_
    refine r_if (t := 525) F_170_518 rfl (l10 e2) ?_ ?_
    · intro e3
      replace e3 : l ≤ 0 := e3
      refine r_iconst F_170_525 ?_
      refine r_stI (m := 19) (L' := [some (vR 1000), some (vR 0), some (vI w), some (vI m), some (vI n), some (vR 77), some (vR 78), some (vI o), some (vR 79), some (vR 80), some (vI l), some (vI e), some (vI f), some (vI a), some (vI t), some (vI u), some (vI y), some (vI p), some (vI (cnA s p)), some (vI 0)]) F_170_526 rfl rfl ?_
      exact (l11 e2 e3)
    · intro e4
      replace e4 : 0 < l := (Int.not_le.mp e4)
      refine r_iconst F_170_521 ?_
      refine r_goto (t := 526) F_170_522 rfl ?_
      refine r_stI (m := 19) (L' := [some (vR 1000), some (vR 0), some (vI w), some (vI m), some (vI n), some (vR 77), some (vR 78), some (vI o), some (vR 79), some (vR 80), some (vI l), some (vI e), some (vI f), some (vI a), some (vI t), some (vI u), some (vI y), some (vI p), some (vI (cnA s p)), some (vI 1)]) F_170_526 rfl rfl ?_
      exact (l12 e2 e4)
theorem t_L_law_611 {X : m_X} {d : Nat} {s : m_St} {P : Option Value → m_St → Prop} {w m n o l e f a t u y p : Int} {z18 z19 : Option Value} (hU : 4 ≤ X.2)
    (l1 : inR a)
    (l2 : a = 0 → Rn X (d + 9) 170 642 [some (vR 1000), some (vR 0), some (vI w), some (vI m), some (vI n), some (vR 77), some (vR 78), some (vI o), some (vR 79), some (vR 80), some (vI l), some (vI e), some (vI f), some (vI a), some (vI t), some (vI u), some (vI y), some (vI (-4)), z18, z19] [] s P)
    (l3 : ¬ a = 0 → 2 ≤ X.2)
    (l4 : ¬ a = 0 → 0 ≤ (s 79 0))
    (l5 : ¬ a = 0 → (s 79 0) < n)
    (l6 : ¬ a = 0 → n ≤ 6)
    (l7 : ¬ a = 0 → gL s n)
    (l8 : ¬ a = 0 → 0 ≤ (s 79 1))
    (l9 : ¬ a = 0 → (s 79 1) < n)
    (l10 : ¬ a = 0 → Rn X (d + 9) 170 642 [some (vR 1000), some (vR 0), some (vI w), some (vI m), some (vI n), some (vR 77), some (vR 78), some (vI o), some (vR 79), some (vR 80), some (vI l), some (vI e), some (vI f), some (vI a), some (vI t), some (vI u), some (vI y), some (vI (iAnd (hA s (s 79 0)) (hA s (s 79 1)))), z18, z19] [] s P)
    : Rn X (d + 9) 170 611 [some (vR 1000), some (vR 0), some (vI w), some (vI m), some (vI n), some (vR 77), some (vR 78), some (vI o), some (vR 79), some (vR 80), some (vI l), some (vI e), some (vI f), some (vI a), some (vI t), some (vI u), some (vI y), some (vI p), z18, z19] [] s P := by
  refine r_ldI (m := 13) F_170_611 rfl ?_
  refine r_if (t := 638) F_170_613 rfl l1 ?_ ?_
  · intro e1
    replace e1 : a = 0 := e1
    refine r_bipush F_170_638 bi__4 ?_
    refine r_stI (m := 17) (L' := [some (vR 1000), some (vR 0), some (vI w), some (vI m), some (vI n), some (vR 77), some (vR 78), some (vI o), some (vR 79), some (vR 80), some (vI l), some (vI e), some (vI f), some (vI a), some (vI t), some (vI u), some (vI y), some (vI (-4)), z18, z19]) F_170_640 rfl rfl ?_
    exact (l2 e1)
  · intro e2
    replace e2 : ¬ a = 0 := e2
    refine r_ldR (m := 6) F_170_616 rfl ?_
    refine r_ldR (m := 8) F_170_618 rfl ?_
    refine r_iconst F_170_620 ?_
    refine r_ialdU (c := 2) (len := 2) (e := (s 79 0)) F_170_621 rfl rfl (Nat.lt_of_lt_of_le (by decide) hU) (by decide) (by decide) (by decide) (by decide) rfl ?_
    refine r_stat2 (A := [vR 78, vI (s 79 0)]) (r := []) (n := 2) F_170_622 o_170 il_6_69 (by decide) rfl rfl rfl rfl (lay_le n_169 rfl) ?_
    refine sp_heldL (l3 e2) (l4 e2) (l5 e2) (l6 e2) (l7 e2) ?_
    show Rn _ _ _ _ _ [vI (hA s (s 79 0))] _ _
    refine r_ldR (m := 6) F_170_625 rfl ?_
    refine r_ldR (m := 8) F_170_627 rfl ?_
    refine r_iconst F_170_629 ?_
    refine r_ialdU (c := 2) (len := 2) (e := (s 79 1)) F_170_630 rfl rfl (Nat.lt_of_lt_of_le (by decide) hU) (by decide) (by decide) (by decide) (by decide) rfl ?_
    refine r_stat2 (A := [vR 78, vI (s 79 1)]) (r := [vI (hA s (s 79 0))]) (n := 2) F_170_631 o_170 il_6_69 (by decide) rfl rfl rfl rfl (lay_le n_169 rfl) ?_
    refine sp_heldL (l3 e2) (l8 e2) (l9 e2) (l6 e2) (l7 e2) ?_
    show Rn _ _ _ _ _ [vI (hA s (s 79 1)), vI (hA s (s 79 0))] _ _
    refine r_iand F_170_634 rfl ?_
    refine r_goto (t := 640) F_170_635 rfl ?_
    refine r_stI (m := 17) (L' := [some (vR 1000), some (vR 0), some (vI w), some (vI m), some (vI n), some (vR 77), some (vR 78), some (vI o), some (vR 79), some (vR 80), some (vI l), some (vI e), some (vI f), some (vI a), some (vI t), some (vI u), some (vI y), some (vI (iAnd (hA s (s 79 0)) (hA s (s 79 1)))), z18, z19]) F_170_640 rfl rfl ?_
    exact (l10 e2)
theorem t_L_law_303 {X : m_X} {d : Nat} {s : m_St} {P : Option Value → m_St → Prop} {w m n o l e f a t u y p q r rv : Int} (hU : 4 ≤ X.2)
    (l1 : inR p)
    (l2 : inR q)
    (l3 : ¬ p = q → inR r)
    (l4 : ¬ p = q → r = 0 → inR rv)
    (l5 : ¬ p = q → r = 0 → ¬ rv = (-4) → Rn X (d + 9) 170 349 [some (vR 1000), some (vR 0), some (vI w), some (vI m), some (vI n), some (vR 77), some (vR 78), some (vI 0), some (vR 79), some (vR 80), some (vI l), some (vI e), some (vI f), some (vI a), some (vI t), some (vI u), some (vI y), some (vI p), some (vI q), some (vI r)] [] s P)
    (l6 : ¬ p = q → r = 0 → rv = (-4) → Rn X (d + 9) 170 349 [some (vR 1000), some (vR 0), some (vI w), some (vI m), some (vI n), some (vR 77), some (vR 78), some (vI 1), some (vR 79), some (vR 80), some (vI l), some (vI e), some (vI f), some (vI a), some (vI t), some (vI u), some (vI y), some (vI p), some (vI q), some (vI r)] [] s P)
    (l7 : ¬ p = q → ¬ r = 0 → 2 ≤ X.2)
    (l8 : ¬ p = q → ¬ r = 0 → 0 ≤ p)
    (l9 : ¬ p = q → ¬ r = 0 → p < n)
    (l10 : ¬ p = q → ¬ r = 0 → n ≤ 6)
    (l11 : ¬ p = q → ¬ r = 0 → gL s n)
    (l12 : ¬ p = q → ¬ r = 0 → 0 ≤ q)
    (l13 : ¬ p = q → ¬ r = 0 → q < n)
    (l14 : ¬ p = q → ¬ r = 0 → inR rv)
    (l15 : ¬ p = q → ¬ r = 0 → ¬ rv = (iAnd (hA s p) (hA s q)) → Rn X (d + 9) 170 349 [some (vR 1000), some (vR 0), some (vI w), some (vI m), some (vI n), some (vR 77), some (vR 78), some (vI 0), some (vR 79), some (vR 80), some (vI l), some (vI e), some (vI f), some (vI a), some (vI t), some (vI u), some (vI y), some (vI p), some (vI q), some (vI r)] [] s P)
    (l16 : ¬ p = q → ¬ r = 0 → rv = (iAnd (hA s p) (hA s q)) → Rn X (d + 9) 170 349 [some (vR 1000), some (vR 0), some (vI w), some (vI m), some (vI n), some (vR 77), some (vR 78), some (vI 1), some (vR 79), some (vR 80), some (vI l), some (vI e), some (vI f), some (vI a), some (vI t), some (vI u), some (vI y), some (vI p), some (vI q), some (vI r)] [] s P)
    (l17 : p = q → inR rv)
    (l18 : p = q → ¬ rv = (-1) → Rn X (d + 9) 170 349 [some (vR 1000), some (vR 0), some (vI w), some (vI m), some (vI n), some (vR 77), some (vR 78), some (vI 0), some (vR 79), some (vR 80), some (vI l), some (vI e), some (vI f), some (vI a), some (vI t), some (vI u), some (vI y), some (vI p), some (vI q), some (vI r)] [] s P)
    (l19 : p = q → rv = (-1) → Rn X (d + 9) 170 349 [some (vR 1000), some (vR 0), some (vI w), some (vI m), some (vI n), some (vR 77), some (vR 78), some (vI 1), some (vR 79), some (vR 80), some (vI l), some (vI e), some (vI f), some (vI a), some (vI t), some (vI u), some (vI y), some (vI p), some (vI q), some (vI r)] [] s P)
    : Rn X (d + 9) 170 303 [some (vR 1000), some (vR 0), some (vI w), some (vI m), some (vI n), some (vR 77), some (vR 78), some (vI o), some (vR 79), some (vR 80), some (vI l), some (vI e), some (vI f), some (vI a), some (vI t), some (vI u), some (vI y), some (vI p), some (vI q), some (vI r)] [vI rv] s P := by
  refine r_ldI (m := 17) F_170_303 rfl ?_
  refine r_ldI (m := 18) F_170_305 rfl ?_
  refine r_icmp (t := 314) F_170_307 rfl l1 l2 ?_ ?_
  · intro e1
    replace e1 : ¬ p = q := e1
    refine r_ldI (m := 19) F_170_314 rfl ?_
    refine r_if (t := 337) F_170_316 rfl (l3 e1) ?_ ?_
    · intro e2
      replace e2 : r = 0 := e2
      refine r_bipush F_170_337 bi__4 ?_
      refine r_icmp (t := 346) F_170_339 rfl (l4 e1 e2) (by decide) ?_ ?_
      · intro e3
        replace e3 : ¬ rv = (-4) := e3
        refine r_iconst F_170_346 ?_
        refine r_stI (m := 7) (L' := [some (vR 1000), some (vR 0), some (vI w), some (vI m), some (vI n), some (vR 77), some (vR 78), some (vI 0), some (vR 79), some (vR 80), some (vI l), some (vI e), some (vI f), some (vI a), some (vI t), some (vI u), some (vI y), some (vI p), some (vI q), some (vI r)]) F_170_347 rfl rfl ?_
        exact (l5 e1 e2 e3)
      · intro e4
        replace e4 : rv = (-4) := (Classical.not_not.mp e4)
        refine r_iconst F_170_342 ?_
        refine r_goto (t := 347) F_170_343 rfl ?_
        refine r_stI (m := 7) (L' := [some (vR 1000), some (vR 0), some (vI w), some (vI m), some (vI n), some (vR 77), some (vR 78), some (vI 1), some (vR 79), some (vR 80), some (vI l), some (vI e), some (vI f), some (vI a), some (vI t), some (vI u), some (vI y), some (vI p), some (vI q), some (vI r)]) F_170_347 rfl rfl ?_
        exact (l6 e1 e2 e4)
    · intro e5
      replace e5 : ¬ r = 0 := e5
      refine r_ldR (m := 6) F_170_319 rfl ?_
      refine r_ldI (m := 17) F_170_321 rfl ?_
      refine r_stat2 (A := [vR 78, vI p]) (r := [vI rv]) (n := 2) F_170_323 o_170 il_6_69 (by decide) rfl rfl rfl rfl (lay_le n_169 rfl) ?_
      refine sp_heldL (l7 e1 e5) (l8 e1 e5) (l9 e1 e5) (l10 e1 e5) (l11 e1 e5) ?_
      show Rn _ _ _ _ _ [vI (hA s p), vI rv] _ _
      refine r_ldR (m := 6) F_170_326 rfl ?_
      refine r_ldI (m := 18) F_170_328 rfl ?_
      refine r_stat2 (A := [vR 78, vI q]) (r := [vI (hA s p), vI rv]) (n := 2) F_170_330 o_170 il_6_69 (by decide) rfl rfl rfl rfl (lay_le n_169 rfl) ?_
      refine sp_heldL (l7 e1 e5) (l12 e1 e5) (l13 e1 e5) (l10 e1 e5) (l11 e1 e5) ?_
      show Rn _ _ _ _ _ [vI (hA s q), vI (hA s p), vI rv] _ _
      refine r_iand F_170_333 rfl ?_
      refine r_goto (t := 339) F_170_334 rfl ?_
      refine r_icmp (t := 346) F_170_339 rfl (l14 e1 e5) (inR_iAnd _ _) ?_ ?_
      · intro e6
        replace e6 : ¬ rv = (iAnd (hA s p) (hA s q)) := e6
        refine r_iconst F_170_346 ?_
        refine r_stI (m := 7) (L' := [some (vR 1000), some (vR 0), some (vI w), some (vI m), some (vI n), some (vR 77), some (vR 78), some (vI 0), some (vR 79), some (vR 80), some (vI l), some (vI e), some (vI f), some (vI a), some (vI t), some (vI u), some (vI y), some (vI p), some (vI q), some (vI r)]) F_170_347 rfl rfl ?_
        exact (l15 e1 e5 e6)
      · intro e7
        replace e7 : rv = (iAnd (hA s p) (hA s q)) := (Classical.not_not.mp e7)
        refine r_iconst F_170_342 ?_
        refine r_goto (t := 347) F_170_343 rfl ?_
        refine r_stI (m := 7) (L' := [some (vR 1000), some (vR 0), some (vI w), some (vI m), some (vI n), some (vR 77), some (vR 78), some (vI 1), some (vR 79), some (vR 80), some (vI l), some (vI e), some (vI f), some (vI a), some (vI t), some (vI u), some (vI y), some (vI p), some (vI q), some (vI r)]) F_170_347 rfl rfl ?_
        exact (l16 e1 e5 e7)
  · intro e8
    replace e8 : p = q := (Classical.not_not.mp e8)
    refine r_iconst F_170_310 ?_
    refine r_goto (t := 339) F_170_311 rfl ?_
    refine r_icmp (t := 346) F_170_339 rfl (l17 e8) (by decide) ?_ ?_
    · intro e9
      replace e9 : ¬ rv = (-1) := e9
      refine r_iconst F_170_346 ?_
      refine r_stI (m := 7) (L' := [some (vR 1000), some (vR 0), some (vI w), some (vI m), some (vI n), some (vR 77), some (vR 78), some (vI 0), some (vR 79), some (vR 80), some (vI l), some (vI e), some (vI f), some (vI a), some (vI t), some (vI u), some (vI y), some (vI p), some (vI q), some (vI r)]) F_170_347 rfl rfl ?_
      exact (l18 e8 e9)
    · intro e10
      replace e10 : rv = (-1) := (Classical.not_not.mp e10)
      refine r_iconst F_170_342 ?_
      refine r_goto (t := 347) F_170_343 rfl ?_
      refine r_stI (m := 7) (L' := [some (vR 1000), some (vR 0), some (vI w), some (vI m), some (vI n), some (vR 77), some (vR 78), some (vI 1), some (vR 79), some (vR 80), some (vI l), some (vI e), some (vI f), some (vI a), some (vI t), some (vI u), some (vI y), some (vI p), some (vI q), some (vI r)]) F_170_347 rfl rfl ?_
      exact (l19 e8 e10)
theorem t_L_law_528 {X : m_X} {d : Nat} {s : m_St} {P : Option Value → m_St → Prop} {w m n o l e f a t u y p q r : Int} (hU : 4 ≤ X.2)
    (l1 : inR r)
    (l2 : r = 0 → Rn X (d + 9) 170 554 [some (vR 1000), some (vR 0), some (vI w), some (vI m), some (vI n), some (vR 77), some (vR 78), some (vI o), some (vR 79), some (vR 80), some (vI l), some (vI e), some (vI f), some (vI a), some (vI t), some (vI u), some (vI y), some (vI p), some (vI q), some (vI r)] [] s P)
    (l3 : ¬ r = 0 → trL (s 38 5) (s 77) (Int.toNat m))
    (l4 : ¬ r = 0 → 0 ≤ m)
    (l5 : ¬ r = 0 → m ≤ 5)
    (l6 : ¬ r = 0 → ∀ j, 0 ≤ j → j < 2 * m → inR (s 77 j))
    (l7 : ¬ r = 0 → n ≤ 6)
    (l8 : ¬ r = 0 → gL s n)
    (l9 : ¬ r = 0 → 0 ≤ p)
    (l10 : ¬ r = 0 → p < 8)
    (l11 : ¬ r = 0 → 0 ≤ s 79 0)
    (l12 : ¬ r = 0 → s 79 0 < n)
    (l13 : ¬ r = 0 → 0 ≤ s 79 1)
    (l14 : ¬ r = 0 → s 79 1 < n)
    (l15 : ¬ r = 0 → Rn X (d + 9) 170 554 [some (vR 1000), some (vR 0), some (vI w), some (vI m), some (vI n), some (vR 77), some (vR 78), some (vI o), some (vR 79), some (vR 80), some (vI (l + (-1))), some (vI (e + 1)), some (vI (f + 1)), some (vI a), some (vI t), some (vI u), some (vI y), some (vI p), some (vI q), some (vI r)] [] (sgL s p) P)
    : Rn X (d + 9) 170 528 [some (vR 1000), some (vR 0), some (vI w), some (vI m), some (vI n), some (vR 77), some (vR 78), some (vI o), some (vR 79), some (vR 80), some (vI l), some (vI e), some (vI f), some (vI a), some (vI t), some (vI u), some (vI y), some (vI p), some (vI q), some (vI r)] [] s P := by
  refine r_ldI (m := 19) F_170_528 rfl ?_
  refine r_if (t := 554) F_170_530 rfl l1 ?_ ?_
  · intro e1
    replace e1 : r = 0 := e1
    exact (l2 e1)
  · intro e2
    replace e2 : ¬ r = 0 := e2
    refine r_ldI_n (m := 3) F_170_533 rfl ?_
    refine r_ldR (m := 5) F_170_534 rfl ?_
    refine r_ldR (m := 6) F_170_536 rfl ?_
    refine r_ldR (m := 8) F_170_538 rfl ?_
    refine r_ldI (m := 17) F_170_540 rfl ?_
    refine r_stat2 (A := [vI m, vR 77, vR 78, vR 79, vI p]) (r := []) (n := 5) F_170_542 o_170 il_6_80 (by decide) rfl rfl rfl rfl (lay_le n_165 rfl) ?_
    refine sp_saysL hU (l3 e2) (l4 e2) (l5 e2) (l6 e2) (l7 e2) (l8 e2) (l9 e2) (l10 e2) (l11 e2) (l12 e2) (l13 e2) (l14 e2) ?_
    show Rn _ _ _ _ _ [] _ _
    refine r_iinc (m := 10) (e := (l + (-1))) (L' := [some (vR 1000), some (vR 0), some (vI w), some (vI m), some (vI n), some (vR 77), some (vR 78), some (vI o), some (vR 79), some (vR 80), some (vI (l + (-1))), some (vI e), some (vI f), some (vI a), some (vI t), some (vI u), some (vI y), some (vI p), some (vI q), some (vI r)]) F_170_545 rfl rfl rfl rfl ?_
    refine r_iinc (m := 12) (e := (f + 1)) (L' := [some (vR 1000), some (vR 0), some (vI w), some (vI m), some (vI n), some (vR 77), some (vR 78), some (vI o), some (vR 79), some (vR 80), some (vI (l + (-1))), some (vI e), some (vI (f + 1)), some (vI a), some (vI t), some (vI u), some (vI y), some (vI p), some (vI q), some (vI r)]) F_170_548 rfl rfl rfl rfl ?_
    refine r_iinc (m := 11) (e := (e + 1)) (L' := [some (vR 1000), some (vR 0), some (vI w), some (vI m), some (vI n), some (vR 77), some (vR 78), some (vI o), some (vR 79), some (vR 80), some (vI (l + (-1))), some (vI (e + 1)), some (vI (f + 1)), some (vI a), some (vI t), some (vI u), some (vI y), some (vI p), some (vI q), some (vI r)]) F_170_551 rfl rfl rfl rfl ?_
    exact (l15 e2)
theorem t_L_law_642 {X : m_X} {d : Nat} {s : m_St} {P : Option Value → m_St → Prop} {w m n o l e f a t u y p : Int} {z18 z19 : Option Value} (hU : 4 ≤ X.2)
    (l1 : inR o)
    (l2 : o = 0 → Rn X (d + 9) 170 725 [some (vR 1000), some (vR 0), some (vI w), some (vI m), some (vI n), some (vR 77), some (vR 78), some (vI 0), some (vR 79), some (vR 80), some (vI l), some (vI e), some (vI f), some (vI a), some (vI t), some (vI u), some (vI y), some (vI p), some (vI 0), z19] [] s P)
    (l3 : ¬ o = 0 → Cl X (d + 8) 97 [vR 0] s (fun v s' => Rn X (d + 9) 170 651 [some (vR 1000), some (vR 0), some (vI w), some (vI m), some (vI n), some (vR 77), some (vR 78), some (vI o), some (vR 79), some (vR 80), some (vI l), some (vI e), some (vI f), some (vI a), some (vI t), some (vI u), some (vI y), some (vI p), z18, z19] (m_push v []) s' P))
    : Rn X (d + 9) 170 642 [some (vR 1000), some (vR 0), some (vI w), some (vI m), some (vI n), some (vR 77), some (vR 78), some (vI o), some (vR 79), some (vR 80), some (vI l), some (vI e), some (vI f), some (vI a), some (vI t), some (vI u), some (vI y), some (vI p), z18, z19] [] s P := by
  refine r_ldI (m := 7) F_170_642 rfl ?_
  refine r_if (t := 719) F_170_644 rfl l1 ?_ ?_
  · intro e1
    replace e1 : o = 0 := e1
    refine r_iconst F_170_719 ?_
    refine r_stI (m := 7) (L' := [some (vR 1000), some (vR 0), some (vI w), some (vI m), some (vI n), some (vR 77), some (vR 78), some (vI 0), some (vR 79), some (vR 80), some (vI l), some (vI e), some (vI f), some (vI a), some (vI t), some (vI u), some (vI y), some (vI p), z18, z19]) F_170_720 rfl rfl ?_
    refine r_iconst F_170_722 ?_
    refine r_stI (m := 18) (L' := [some (vR 1000), some (vR 0), some (vI w), some (vI m), some (vI n), some (vR 77), some (vR 78), some (vI 0), some (vR 79), some (vR 80), some (vI l), some (vI e), some (vI f), some (vI a), some (vI t), some (vI u), some (vI y), some (vI p), some (vI 0), z19]) F_170_723 rfl rfl ?_
    exact (l2 e1)
  · intro e2
    replace e2 : ¬ o = 0 := e2
    refine r_ldR_n (m := 1) F_170_647 rfl ?_
    refine r_virt2 (A := []) (r := []) (n := 0) F_170_648 o_170 il_6_87 rfl rfl rfl rfl ty_0 vy_97 (lay_le n_97 rfl) ?_
    exact (l3 e2)
theorem t_L_law_349 {X : m_X} {d : Nat} {s : m_St} {P : Option Value → m_St → Prop} {w m n o l e f a t u y p q r : Int} (hU : 4 ≤ X.2)
    (l1 : inR a)
    (l2 : ¬ a = 0 → Rn X (d + 9) 170 611 [some (vR 1000), some (vR 0), some (vI w), some (vI m), some (vI n), some (vR 77), some (vR 78), some (vI o), some (vR 79), some (vR 80), some (vI l), some (vI e), some (vI f), some (vI 1), some (vI t), some (vI u), some (vI y), some (vI p), some (vI q), some (vI r)] [] s P)
    (l3 : a = 0 → inR r)
    (l4 : a = 0 → r = 0 → Rn X (d + 9) 170 611 [some (vR 1000), some (vR 0), some (vI w), some (vI m), some (vI n), some (vR 77), some (vR 78), some (vI o), some (vR 79), some (vR 80), some (vI l), some (vI e), some (vI f), some (vI 0), some (vI t), some (vI u), some (vI y), some (vI p), some (vI q), some (vI r)] [] s P)
    (l5 : a = 0 → ¬ r = 0 → Rn X (d + 9) 170 611 [some (vR 1000), some (vR 0), some (vI w), some (vI m), some (vI n), some (vR 77), some (vR 78), some (vI o), some (vR 79), some (vR 80), some (vI l), some (vI e), some (vI f), some (vI 1), some (vI t), some (vI u), some (vI y), some (vI p), some (vI q), some (vI r)] [] s P)
    : Rn X (d + 9) 170 349 [some (vR 1000), some (vR 0), some (vI w), some (vI m), some (vI n), some (vR 77), some (vR 78), some (vI o), some (vR 79), some (vR 80), some (vI l), some (vI e), some (vI f), some (vI a), some (vI t), some (vI u), some (vI y), some (vI p), some (vI q), some (vI r)] [] s P := by
  refine r_ldI (m := 13) F_170_349 rfl ?_
  refine r_if (t := 359) F_170_351 rfl l1 ?_ ?_
  · intro e1
    replace e1 : ¬ a = 0 := e1
    refine r_iconst F_170_359 ?_
    refine r_goto (t := 364) F_170_360 rfl ?_
    refine r_stI (m := 13) (L' := [some (vR 1000), some (vR 0), some (vI w), some (vI m), some (vI n), some (vR 77), some (vR 78), some (vI o), some (vR 79), some (vR 80), some (vI l), some (vI e), some (vI f), some (vI 1), some (vI t), some (vI u), some (vI y), some (vI p), some (vI q), some (vI r)]) F_170_364 rfl rfl ?_
    refine r_goto (t := 611) F_170_366 rfl ?_
    exact (l2 e1)
  · intro e2
    replace e2 : a = 0 := (Classical.not_not.mp e2)
    refine r_ldI (m := 19) F_170_354 rfl ?_
    refine r_if (t := 363) F_170_356 rfl (l3 e2) ?_ ?_
    · intro e3
      replace e3 : r = 0 := e3
      refine r_iconst F_170_363 ?_
      refine r_stI (m := 13) (L' := [some (vR 1000), some (vR 0), some (vI w), some (vI m), some (vI n), some (vR 77), some (vR 78), some (vI o), some (vR 79), some (vR 80), some (vI l), some (vI e), some (vI f), some (vI 0), some (vI t), some (vI u), some (vI y), some (vI p), some (vI q), some (vI r)]) F_170_364 rfl rfl ?_
      refine r_goto (t := 611) F_170_366 rfl ?_
      exact (l4 e2 e3)
    · intro e4
      replace e4 : ¬ r = 0 := e4
      refine r_iconst F_170_359 ?_
      refine r_goto (t := 364) F_170_360 rfl ?_
      refine r_stI (m := 13) (L' := [some (vR 1000), some (vR 0), some (vI w), some (vI m), some (vI n), some (vR 77), some (vR 78), some (vI o), some (vR 79), some (vR 80), some (vI l), some (vI e), some (vI f), some (vI 1), some (vI t), some (vI u), some (vI y), some (vI p), some (vI q), some (vI r)]) F_170_364 rfl rfl ?_
      refine r_goto (t := 611) F_170_366 rfl ?_
      exact (l5 e2 e4)
theorem t_L_law_554 {X : m_X} {d : Nat} {s : m_St} {P : Option Value → m_St → Prop} {w m n o l e f a t u y p q r : Int} (hU : 4 ≤ X.2)
    (l1 : Cl X (d + 8) 85 [vR 0, vI p] s (fun v s' => Rn X (d + 9) 170 560 [some (vR 1000), some (vR 0), some (vI w), some (vI m), some (vI n), some (vR 77), some (vR 78), some (vI o), some (vR 79), some (vR 80), some (vI l), some (vI e), some (vI f), some (vI a), some (vI t), some (vI u), some (vI y), some (vI p), some (vI q), some (vI r)] (m_push v []) s' P))
    : Rn X (d + 9) 170 554 [some (vR 1000), some (vR 0), some (vI w), some (vI m), some (vI n), some (vR 77), some (vR 78), some (vI o), some (vR 79), some (vR 80), some (vI l), some (vI e), some (vI f), some (vI a), some (vI t), some (vI u), some (vI y), some (vI p), some (vI q), some (vI r)] [] s P := by
  refine r_ldR_n (m := 1) F_170_554 rfl ?_
  refine r_ldI (m := 17) F_170_555 rfl ?_
  refine r_virt2 (A := [vI p]) (r := []) (n := 1) F_170_557 o_170 il_6_84 rfl rfl rfl rfl ty_0 vy_85 (lay_le n_85 rfl) ?_
  exact l1
theorem t_L_law_725 {X : m_X} {d : Nat} {s : m_St} {P : Option Value → m_St → Prop} {w m n o l e f a t u y p q : Int} {z19 : Option Value} (hU : 4 ≤ X.2)
    (l1 : inR q)
    (l2 : inR n)
    (l3 : n ≤ q → Rn X (d + 9) 170 133 [some (vR 1000), some (vR 0), some (vI w), some (vI m), some (vI n), some (vR 77), some (vR 78), some (vI o), some (vR 79), some (vR 80), some (vI l), some (vI e), some (vI f), some (vI a), some (vI (t + 1)), some (vI u), some (vI y), some (vI p), some (vI q), z19] [] s P)
    (l4 : q < n → inR o)
    (l5 : q < n → o = 0 → Rn X (d + 9) 170 133 [some (vR 1000), some (vR 0), some (vI w), some (vI m), some (vI n), some (vR 77), some (vR 78), some (vI o), some (vR 79), some (vR 80), some (vI l), some (vI e), some (vI f), some (vI a), some (vI (t + 1)), some (vI u), some (vI y), some (vI p), some (vI q), z19] [] s P)
    (l6 : q < n → ¬ o = 0 → Cl X (d + 8) 65 [vR 0, vI q, vI 5] s (fun v s' => Rn X (d + 9) 170 744 [some (vR 1000), some (vR 0), some (vI w), some (vI m), some (vI n), some (vR 77), some (vR 78), some (vI o), some (vR 79), some (vR 80), some (vI l), some (vI e), some (vI f), some (vI a), some (vI t), some (vI u), some (vI y), some (vI p), some (vI q), z19] (m_push v []) s' P))
    : Rn X (d + 9) 170 725 [some (vR 1000), some (vR 0), some (vI w), some (vI m), some (vI n), some (vR 77), some (vR 78), some (vI o), some (vR 79), some (vR 80), some (vI l), some (vI e), some (vI f), some (vI a), some (vI t), some (vI u), some (vI y), some (vI p), some (vI q), z19] [] s P := by
  refine r_ldI (m := 18) F_170_725 rfl ?_
  refine r_ldI (m := 4) F_170_727 rfl ?_
  refine r_icmp (t := 890) F_170_729 rfl l1 l2 ?_ ?_
  · intro e1
    replace e1 : n ≤ q := e1
    refine r_iinc (m := 14) (e := (t + 1)) (L' := [some (vR 1000), some (vR 0), some (vI w), some (vI m), some (vI n), some (vR 77), some (vR 78), some (vI o), some (vR 79), some (vR 80), some (vI l), some (vI e), some (vI f), some (vI a), some (vI (t + 1)), some (vI u), some (vI y), some (vI p), some (vI q), z19]) F_170_890 rfl rfl rfl rfl ?_
    refine r_goto (t := 133) F_170_893 rfl ?_
    exact (l3 e1)
  · intro e2
    replace e2 : q < n := (Int.not_le.mp e2)
    refine r_ldI (m := 7) F_170_732 rfl ?_
    refine r_if (t := 890) F_170_734 rfl (l4 e2) ?_ ?_
    · intro e3
      replace e3 : o = 0 := e3
      refine r_iinc (m := 14) (e := (t + 1)) (L' := [some (vR 1000), some (vR 0), some (vI w), some (vI m), some (vI n), some (vR 77), some (vR 78), some (vI o), some (vR 79), some (vR 80), some (vI l), some (vI e), some (vI f), some (vI a), some (vI (t + 1)), some (vI u), some (vI y), some (vI p), some (vI q), z19]) F_170_890 rfl rfl rfl rfl ?_
      refine r_goto (t := 133) F_170_893 rfl ?_
      exact (l5 e2 e3)
    · intro e4
      replace e4 : ¬ o = 0 := e4
      refine r_ldR_n (m := 1) F_170_737 rfl ?_
      refine r_ldI (m := 18) F_170_738 rfl ?_
      refine r_iconst F_170_740 ?_
      refine r_virt2 (A := [vI q, vI 5]) (r := []) (n := 2) F_170_741 o_170 il_6_93 rfl rfl rfl rfl ty_0 vy_65 (lay_le n_65 rfl) ?_
      exact (l6 e2 e4)
theorem t_L_law_651 {X : m_X} {d : Nat} {s : m_St} {P : Option Value → m_St → Prop} {w m n o l e f a t u y p rv : Int} {z18 z19 : Option Value} (hU : 4 ≤ X.2)
    (l1 : inR rv)
    (l2 : inR p)
    (l3 : ¬ rv = p → Rn X (d + 9) 170 725 [some (vR 1000), some (vR 0), some (vI w), some (vI m), some (vI n), some (vR 77), some (vR 78), some (vI 0), some (vR 79), some (vR 80), some (vI l), some (vI e), some (vI f), some (vI a), some (vI t), some (vI u), some (vI y), some (vI p), some (vI 0), z19] [] s P)
    (l4 : rv = p → Cl X (d + 8) 147 [vR 0, vI 1] s (fun v s' => Rn X (d + 9) 170 661 [some (vR 1000), some (vR 0), some (vI w), some (vI m), some (vI n), some (vR 77), some (vR 78), some (vI o), some (vR 79), some (vR 80), some (vI l), some (vI e), some (vI f), some (vI a), some (vI t), some (vI u), some (vI y), some (vI p), z18, z19] (m_push v []) s' P))
    : Rn X (d + 9) 170 651 [some (vR 1000), some (vR 0), some (vI w), some (vI m), some (vI n), some (vR 77), some (vR 78), some (vI o), some (vR 79), some (vR 80), some (vI l), some (vI e), some (vI f), some (vI a), some (vI t), some (vI u), some (vI y), some (vI p), z18, z19] [vI rv] s P := by
  refine r_ldI (m := 17) F_170_651 rfl ?_
  refine r_icmp (t := 719) F_170_653 rfl l1 l2 ?_ ?_
  · intro e1
    replace e1 : ¬ rv = p := e1
    refine r_iconst F_170_719 ?_
    refine r_stI (m := 7) (L' := [some (vR 1000), some (vR 0), some (vI w), some (vI m), some (vI n), some (vR 77), some (vR 78), some (vI 0), some (vR 79), some (vR 80), some (vI l), some (vI e), some (vI f), some (vI a), some (vI t), some (vI u), some (vI y), some (vI p), z18, z19]) F_170_720 rfl rfl ?_
    refine r_iconst F_170_722 ?_
    refine r_stI (m := 18) (L' := [some (vR 1000), some (vR 0), some (vI w), some (vI m), some (vI n), some (vR 77), some (vR 78), some (vI 0), some (vR 79), some (vR 80), some (vI l), some (vI e), some (vI f), some (vI a), some (vI t), some (vI u), some (vI y), some (vI p), some (vI 0), z19]) F_170_723 rfl rfl ?_
    exact (l3 e1)
  · intro e2
    replace e2 : rv = p := (Classical.not_not.mp e2)
    refine r_ldR_n (m := 1) F_170_656 rfl ?_
    refine r_iconst F_170_657 ?_
    refine r_virt2 (A := [vI 1]) (r := []) (n := 1) F_170_658 o_170 il_6_90 rfl rfl rfl rfl ty_0 vy_147 (lay_le n_147 rfl) ?_
    exact (l4 e2)
theorem t_L_law_560 {X : m_X} {d : Nat} {s : m_St} {P : Option Value → m_St → Prop} {w m n o l e f a t u y p q r rv : Int} (hU : 4 ≤ X.2)
    (l1 : inR r)
    (l2 : r = 0 → inR q)
    (l3 : r = 0 → q = 0 → inR rv)
    (l4 : r = 0 → q = 0 → ¬ rv = (-4) → Rn X (d + 9) 170 611 [some (vR 1000), some (vR 0), some (vI w), some (vI m), some (vI n), some (vR 77), some (vR 78), some (vI 0), some (vR 79), some (vR 80), some (vI l), some (vI e), some (vI f), some (vI a), some (vI t), some (vI u), some (vI y), some (vI p), some (vI q), some (vI r)] [] s P)
    (l5 : r = 0 → q = 0 → rv = (-4) → Rn X (d + 9) 170 611 [some (vR 1000), some (vR 0), some (vI w), some (vI m), some (vI n), some (vR 77), some (vR 78), some (vI 1), some (vR 79), some (vR 80), some (vI l), some (vI e), some (vI f), some (vI a), some (vI t), some (vI u), some (vI y), some (vI p), some (vI q), some (vI r)] [] s P)
    (l6 : r = 0 → ¬ q = 0 → inR rv)
    (l7 : r = 0 → ¬ q = 0 → ¬ rv = (-6) → Rn X (d + 9) 170 611 [some (vR 1000), some (vR 0), some (vI w), some (vI m), some (vI n), some (vR 77), some (vR 78), some (vI 0), some (vR 79), some (vR 80), some (vI l), some (vI e), some (vI f), some (vI a), some (vI t), some (vI u), some (vI y), some (vI p), some (vI q), some (vI r)] [] s P)
    (l8 : r = 0 → ¬ q = 0 → rv = (-6) → Rn X (d + 9) 170 611 [some (vR 1000), some (vR 0), some (vI w), some (vI m), some (vI n), some (vR 77), some (vR 78), some (vI 1), some (vR 79), some (vR 80), some (vI l), some (vI e), some (vI f), some (vI a), some (vI t), some (vI u), some (vI y), some (vI p), some (vI q), some (vI r)] [] s P)
    (l9 : ¬ r = 0 → 0 ≤ p)
    (l10 : ¬ r = 0 → inR p)
    (l11 : ¬ r = 0 → 0 ≤ (1 - (p / 4)))
    (l12 : ¬ r = 0 → (1 - (p / 4)) < 2)
    (l13 : ¬ r = 0 → 0 ≤ (((5 * (s 79 (1 - (p / 4)))) + 1) + (p % 4)))
    (l14 : ¬ r = 0 → (((5 * (s 79 (1 - (p / 4)))) + 1) + (p % 4)) < 30)
    (l15 : ¬ r = 0 → inR rv)
    (l16 : ¬ r = 0 → inR (s 78 (((5 * (s 79 (1 - (p / 4)))) + 1) + (p % 4))))
    (l17 : ¬ r = 0 → ¬ rv = (s 78 (((5 * (s 79 (1 - (p / 4)))) + 1) + (p % 4))) → Rn X (d + 9) 170 611 [some (vR 1000), some (vR 0), some (vI w), some (vI m), some (vI n), some (vR 77), some (vR 78), some (vI 0), some (vR 79), some (vR 80), some (vI l), some (vI e), some (vI f), some (vI a), some (vI t), some (vI u), some (vI y), some (vI p), some (vI q), some (vI r)] [] s P)
    (l18 : ¬ r = 0 → rv = (s 78 (((5 * (s 79 (1 - (p / 4)))) + 1) + (p % 4))) → Rn X (d + 9) 170 611 [some (vR 1000), some (vR 0), some (vI w), some (vI m), some (vI n), some (vR 77), some (vR 78), some (vI 1), some (vR 79), some (vR 80), some (vI l), some (vI e), some (vI f), some (vI a), some (vI t), some (vI u), some (vI y), some (vI p), some (vI q), some (vI r)] [] s P)
    : Rn X (d + 9) 170 560 [some (vR 1000), some (vR 0), some (vI w), some (vI m), some (vI n), some (vR 77), some (vR 78), some (vI o), some (vR 79), some (vR 80), some (vI l), some (vI e), some (vI f), some (vI a), some (vI t), some (vI u), some (vI y), some (vI p), some (vI q), some (vI r)] [vI rv] s P := by
  refine r_ldI (m := 19) F_170_560 rfl ?_
  refine r_if (t := 589) F_170_562 rfl l1 ?_ ?_
  · intro e1
    replace e1 : r = 0 := e1
    refine r_ldI (m := 18) F_170_589 rfl ?_
    refine r_if (t := 599) F_170_591 rfl (l2 e1) ?_ ?_
    · intro e2
      replace e2 : q = 0 := e2
      refine r_bipush F_170_599 bi__4 ?_
      refine r_icmp (t := 608) F_170_601 rfl (l3 e1 e2) (by decide) ?_ ?_
      · intro e3
        replace e3 : ¬ rv = (-4) := e3
        refine r_iconst F_170_608 ?_
        refine r_stI (m := 7) (L' := [some (vR 1000), some (vR 0), some (vI w), some (vI m), some (vI n), some (vR 77), some (vR 78), some (vI 0), some (vR 79), some (vR 80), some (vI l), some (vI e), some (vI f), some (vI a), some (vI t), some (vI u), some (vI y), some (vI p), some (vI q), some (vI r)]) F_170_609 rfl rfl ?_
        exact (l4 e1 e2 e3)
      · intro e4
        replace e4 : rv = (-4) := (Classical.not_not.mp e4)
        refine r_iconst F_170_604 ?_
        refine r_goto (t := 609) F_170_605 rfl ?_
        refine r_stI (m := 7) (L' := [some (vR 1000), some (vR 0), some (vI w), some (vI m), some (vI n), some (vR 77), some (vR 78), some (vI 1), some (vR 79), some (vR 80), some (vI l), some (vI e), some (vI f), some (vI a), some (vI t), some (vI u), some (vI y), some (vI p), some (vI q), some (vI r)]) F_170_609 rfl rfl ?_
        exact (l5 e1 e2 e4)
    · intro e5
      replace e5 : ¬ q = 0 := e5
      refine r_bipush F_170_594 bi__6 ?_
      refine r_goto (t := 601) F_170_596 rfl ?_
      refine r_icmp (t := 608) F_170_601 rfl (l6 e1 e5) (by decide) ?_ ?_
      · intro e6
        replace e6 : ¬ rv = (-6) := e6
        refine r_iconst F_170_608 ?_
        refine r_stI (m := 7) (L' := [some (vR 1000), some (vR 0), some (vI w), some (vI m), some (vI n), some (vR 77), some (vR 78), some (vI 0), some (vR 79), some (vR 80), some (vI l), some (vI e), some (vI f), some (vI a), some (vI t), some (vI u), some (vI y), some (vI p), some (vI q), some (vI r)]) F_170_609 rfl rfl ?_
        exact (l7 e1 e5 e6)
      · intro e7
        replace e7 : rv = (-6) := (Classical.not_not.mp e7)
        refine r_iconst F_170_604 ?_
        refine r_goto (t := 609) F_170_605 rfl ?_
        refine r_stI (m := 7) (L' := [some (vR 1000), some (vR 0), some (vI w), some (vI m), some (vI n), some (vR 77), some (vR 78), some (vI 1), some (vR 79), some (vR 80), some (vI l), some (vI e), some (vI f), some (vI a), some (vI t), some (vI u), some (vI y), some (vI p), some (vI q), some (vI r)]) F_170_609 rfl rfl ?_
        exact (l8 e1 e5 e7)
  · intro e8
    replace e8 : ¬ r = 0 := e8
    refine r_ldR (m := 6) F_170_565 rfl ?_
    refine r_iconst F_170_567 ?_
    refine r_ldR (m := 8) F_170_568 rfl ?_
    refine r_iconst F_170_570 ?_
    refine r_ldI (m := 17) F_170_571 rfl ?_
    refine r_iconst F_170_573 ?_
    refine r_idiv F_170_574 (l10 e8) (l9 e8) (by decide) (by decide) ?_
    refine r_isub F_170_575 rfl ?_
    refine r_ialdU (c := 2) (len := 2) (e := (s 79 (1 - (p / 4)))) F_170_576 rfl rfl (Nat.lt_of_lt_of_le (by decide) hU) (by decide) (by decide) (l11 e8) (l12 e8) rfl ?_
    refine r_imul F_170_577 rfl ?_
    refine r_iconst F_170_578 ?_
    refine r_iadd F_170_579 rfl ?_
    refine r_ldI (m := 17) F_170_580 rfl ?_
    refine r_iconst F_170_582 ?_
    refine r_irem F_170_583 (l10 e8) (l9 e8) (by decide) (by decide) ?_
    refine r_iadd F_170_584 rfl ?_
    refine r_ialdU (c := 1) (len := 30) (e := (s 78 (((5 * (s 79 (1 - (p / 4)))) + 1) + (p % 4)))) F_170_585 rfl rfl (Nat.lt_of_lt_of_le (by decide) hU) (by decide) (by decide) (l13 e8) (l14 e8) rfl ?_
    refine r_goto (t := 601) F_170_586 rfl ?_
    refine r_icmp (t := 608) F_170_601 rfl (l15 e8) (l16 e8) ?_ ?_
    · intro e9
      replace e9 : ¬ rv = (s 78 (((5 * (s 79 (1 - (p / 4)))) + 1) + (p % 4))) := e9
      refine r_iconst F_170_608 ?_
      refine r_stI (m := 7) (L' := [some (vR 1000), some (vR 0), some (vI w), some (vI m), some (vI n), some (vR 77), some (vR 78), some (vI 0), some (vR 79), some (vR 80), some (vI l), some (vI e), some (vI f), some (vI a), some (vI t), some (vI u), some (vI y), some (vI p), some (vI q), some (vI r)]) F_170_609 rfl rfl ?_
      exact (l17 e8 e9)
    · intro e10
      replace e10 : rv = (s 78 (((5 * (s 79 (1 - (p / 4)))) + 1) + (p % 4))) := (Classical.not_not.mp e10)
      refine r_iconst F_170_604 ?_
      refine r_goto (t := 609) F_170_605 rfl ?_
      refine r_stI (m := 7) (L' := [some (vR 1000), some (vR 0), some (vI w), some (vI m), some (vI n), some (vR 77), some (vR 78), some (vI 1), some (vR 79), some (vR 80), some (vI l), some (vI e), some (vI f), some (vI a), some (vI t), some (vI u), some (vI y), some (vI p), some (vI q), some (vI r)]) F_170_609 rfl rfl ?_
      exact (l18 e8 e10)
theorem t_L_law_744 {X : m_X} {d : Nat} {s : m_St} {P : Option Value → m_St → Prop} {w m n o l e f a t u y p q rv : Int} {z19 : Option Value} (hU : 4 ≤ X.2)
    (l1 : inR rv)
    (l2 : ¬ rv = 1 → Rn X (d + 9) 170 824 [some (vR 1000), some (vR 0), some (vI w), some (vI m), some (vI n), some (vR 77), some (vR 78), some (vI 0), some (vR 79), some (vR 80), some (vI l), some (vI e), some (vI f), some (vI a), some (vI t), some (vI u), some (vI y), some (vI p), some (vI q), z19] [] s P)
    (l3 : rv = 1 → Cl X (d + 8) 144 [vR 0] s (fun v s' => Rn X (d + 9) 170 752 [some (vR 1000), some (vR 0), some (vI w), some (vI m), some (vI n), some (vR 77), some (vR 78), some (vI o), some (vR 79), some (vR 80), some (vI l), some (vI e), some (vI f), some (vI a), some (vI t), some (vI u), some (vI y), some (vI p), some (vI q), z19] (m_push v []) s' P))
    : Rn X (d + 9) 170 744 [some (vR 1000), some (vR 0), some (vI w), some (vI m), some (vI n), some (vR 77), some (vR 78), some (vI o), some (vR 79), some (vR 80), some (vI l), some (vI e), some (vI f), some (vI a), some (vI t), some (vI u), some (vI y), some (vI p), some (vI q), z19] [vI rv] s P := by
  refine r_iconst F_170_744 ?_
  refine r_icmp (t := 821) F_170_745 rfl l1 (by decide) ?_ ?_
  · intro e1
    replace e1 : ¬ rv = 1 := e1
    refine r_iconst F_170_821 ?_
    refine r_stI (m := 7) (L' := [some (vR 1000), some (vR 0), some (vI w), some (vI m), some (vI n), some (vR 77), some (vR 78), some (vI 0), some (vR 79), some (vR 80), some (vI l), some (vI e), some (vI f), some (vI a), some (vI t), some (vI u), some (vI y), some (vI p), some (vI q), z19]) F_170_822 rfl rfl ?_
    exact (l2 e1)
  · intro e2
    replace e2 : rv = 1 := (Classical.not_not.mp e2)
    refine r_ldR_n (m := 1) F_170_748 rfl ?_
    refine r_virt2 (A := []) (r := []) (n := 0) F_170_749 o_170 il_6_96 rfl rfl rfl rfl ty_0 vy_144 (lay_le n_144 rfl) ?_
    exact (l3 e2)
theorem t_L_law_661 {X : m_X} {d : Nat} {s : m_St} {P : Option Value → m_St → Prop} {w m n o l e f a t u y p rv : Int} {z18 z19 : Option Value} (hU : 4 ≤ X.2)
    (l1 : inR rv)
    (l2 : inR l)
    (l3 : ¬ rv = l → Rn X (d + 9) 170 725 [some (vR 1000), some (vR 0), some (vI w), some (vI m), some (vI n), some (vR 77), some (vR 78), some (vI 0), some (vR 79), some (vR 80), some (vI l), some (vI e), some (vI f), some (vI a), some (vI t), some (vI u), some (vI y), some (vI p), some (vI 0), z19] [] s P)
    (l4 : rv = l → Cl X (d + 8) 147 [vR 0, vI 2] s (fun v s' => Rn X (d + 9) 170 671 [some (vR 1000), some (vR 0), some (vI w), some (vI m), some (vI n), some (vR 77), some (vR 78), some (vI o), some (vR 79), some (vR 80), some (vI l), some (vI e), some (vI f), some (vI a), some (vI t), some (vI u), some (vI y), some (vI p), z18, z19] (m_push v []) s' P))
    : Rn X (d + 9) 170 661 [some (vR 1000), some (vR 0), some (vI w), some (vI m), some (vI n), some (vR 77), some (vR 78), some (vI o), some (vR 79), some (vR 80), some (vI l), some (vI e), some (vI f), some (vI a), some (vI t), some (vI u), some (vI y), some (vI p), z18, z19] [vI rv] s P := by
  refine r_ldI (m := 10) F_170_661 rfl ?_
  refine r_icmp (t := 719) F_170_663 rfl l1 l2 ?_ ?_
  · intro e1
    replace e1 : ¬ rv = l := e1
    refine r_iconst F_170_719 ?_
    refine r_stI (m := 7) (L' := [some (vR 1000), some (vR 0), some (vI w), some (vI m), some (vI n), some (vR 77), some (vR 78), some (vI 0), some (vR 79), some (vR 80), some (vI l), some (vI e), some (vI f), some (vI a), some (vI t), some (vI u), some (vI y), some (vI p), z18, z19]) F_170_720 rfl rfl ?_
    refine r_iconst F_170_722 ?_
    refine r_stI (m := 18) (L' := [some (vR 1000), some (vR 0), some (vI w), some (vI m), some (vI n), some (vR 77), some (vR 78), some (vI 0), some (vR 79), some (vR 80), some (vI l), some (vI e), some (vI f), some (vI a), some (vI t), some (vI u), some (vI y), some (vI p), some (vI 0), z19]) F_170_723 rfl rfl ?_
    exact (l3 e1)
  · intro e2
    replace e2 : rv = l := (Classical.not_not.mp e2)
    refine r_ldR_n (m := 1) F_170_666 rfl ?_
    refine r_iconst F_170_667 ?_
    refine r_virt2 (A := [vI 2]) (r := []) (n := 1) F_170_668 o_170 il_6_90 rfl rfl rfl rfl ty_0 vy_147 (lay_le n_147 rfl) ?_
    exact (l4 e2)
theorem t_L_law_824 {X : m_X} {d : Nat} {s : m_St} {P : Option Value → m_St → Prop} {w m n o l e f a t u y p q : Int} {z19 : Option Value} (hU : 4 ≤ X.2)
    (l1 : Rn X (d + 9) 170 827 [some (vR 1000), some (vR 0), some (vI w), some (vI m), some (vI n), some (vR 77), some (vR 78), some (vI o), some (vR 79), some (vR 80), some (vI l), some (vI e), some (vI f), some (vI a), some (vI t), some (vI u), some (vI y), some (vI p), some (vI q), some (vI 0)] [] s P)
    : Rn X (d + 9) 170 824 [some (vR 1000), some (vR 0), some (vI w), some (vI m), some (vI n), some (vR 77), some (vR 78), some (vI o), some (vR 79), some (vR 80), some (vI l), some (vI e), some (vI f), some (vI a), some (vI t), some (vI u), some (vI y), some (vI p), some (vI q), z19] [] s P := by
  refine r_iconst F_170_824 ?_
  refine r_stI (m := 19) (L' := [some (vR 1000), some (vR 0), some (vI w), some (vI m), some (vI n), some (vR 77), some (vR 78), some (vI o), some (vR 79), some (vR 80), some (vI l), some (vI e), some (vI f), some (vI a), some (vI t), some (vI u), some (vI y), some (vI p), some (vI q), some (vI 0)]) F_170_825 rfl rfl ?_
  exact l1
theorem t_L_law_752 {X : m_X} {d : Nat} {s : m_St} {P : Option Value → m_St → Prop} {w m n o l e f a t u y p q rv : Int} {z19 : Option Value} (hU : 4 ≤ X.2)
    (l1 : 2 ≤ X.2)
    (l2 : 0 ≤ q)
    (l3 : q < n)
    (l4 : n ≤ 6)
    (l5 : gL s n)
    (l6 : inR rv)
    (l7 : ¬ rv = (hA s q) → Rn X (d + 9) 170 824 [some (vR 1000), some (vR 0), some (vI w), some (vI m), some (vI n), some (vR 77), some (vR 78), some (vI 0), some (vR 79), some (vR 80), some (vI l), some (vI e), some (vI f), some (vI a), some (vI t), some (vI u), some (vI y), some (vI p), some (vI q), z19] [] s P)
    (l8 : rv = (hA s q) → Cl X (d + 8) 65 [vR 0, vI q, vI 6] s (fun v s' => Rn X (d + 9) 170 770 [some (vR 1000), some (vR 0), some (vI w), some (vI m), some (vI n), some (vR 77), some (vR 78), some (vI o), some (vR 79), some (vR 80), some (vI l), some (vI e), some (vI f), some (vI a), some (vI t), some (vI u), some (vI y), some (vI p), some (vI q), z19] (m_push v []) s' P))
    : Rn X (d + 9) 170 752 [some (vR 1000), some (vR 0), some (vI w), some (vI m), some (vI n), some (vR 77), some (vR 78), some (vI o), some (vR 79), some (vR 80), some (vI l), some (vI e), some (vI f), some (vI a), some (vI t), some (vI u), some (vI y), some (vI p), some (vI q), z19] [vI rv] s P := by
  refine r_ldR (m := 6) F_170_752 rfl ?_
  refine r_ldI (m := 18) F_170_754 rfl ?_
  refine r_stat2 (A := [vR 78, vI q]) (r := [vI rv]) (n := 2) F_170_756 o_170 il_6_69 (by decide) rfl rfl rfl rfl (lay_le n_169 rfl) ?_
  refine sp_heldL l1 l2 l3 l4 l5 ?_
  show Rn _ _ _ _ _ [vI (hA s q), vI rv] _ _
  refine r_icmp (t := 821) F_170_759 rfl l6 (inR_hA _ _) ?_ ?_
  · intro e1
    replace e1 : ¬ rv = (hA s q) := e1
    refine r_iconst F_170_821 ?_
    refine r_stI (m := 7) (L' := [some (vR 1000), some (vR 0), some (vI w), some (vI m), some (vI n), some (vR 77), some (vR 78), some (vI 0), some (vR 79), some (vR 80), some (vI l), some (vI e), some (vI f), some (vI a), some (vI t), some (vI u), some (vI y), some (vI p), some (vI q), z19]) F_170_822 rfl rfl ?_
    exact (l7 e1)
  · intro e2
    replace e2 : rv = (hA s q) := (Classical.not_not.mp e2)
    refine r_ldR_n (m := 1) F_170_762 rfl ?_
    refine r_ldI (m := 18) F_170_763 rfl ?_
    refine r_bipush F_170_765 bi_6 ?_
    refine r_virt2 (A := [vI q, vI 6]) (r := []) (n := 2) F_170_767 o_170 il_6_93 rfl rfl rfl rfl ty_0 vy_65 (lay_le n_65 rfl) ?_
    exact (l8 e2)
theorem t_L_law_671 {X : m_X} {d : Nat} {s : m_St} {P : Option Value → m_St → Prop} {w m n o l e f a t u y p rv : Int} {z18 z19 : Option Value} (hU : 4 ≤ X.2)
    (l1 : inR rv)
    (l2 : inR e)
    (l3 : ¬ rv = e → Rn X (d + 9) 170 725 [some (vR 1000), some (vR 0), some (vI w), some (vI m), some (vI n), some (vR 77), some (vR 78), some (vI 0), some (vR 79), some (vR 80), some (vI l), some (vI e), some (vI f), some (vI a), some (vI t), some (vI u), some (vI y), some (vI p), some (vI 0), z19] [] s P)
    (l4 : rv = e → Cl X (d + 8) 147 [vR 0, vI 3] s (fun v s' => Rn X (d + 9) 170 681 [some (vR 1000), some (vR 0), some (vI w), some (vI m), some (vI n), some (vR 77), some (vR 78), some (vI o), some (vR 79), some (vR 80), some (vI l), some (vI e), some (vI f), some (vI a), some (vI t), some (vI u), some (vI y), some (vI p), z18, z19] (m_push v []) s' P))
    : Rn X (d + 9) 170 671 [some (vR 1000), some (vR 0), some (vI w), some (vI m), some (vI n), some (vR 77), some (vR 78), some (vI o), some (vR 79), some (vR 80), some (vI l), some (vI e), some (vI f), some (vI a), some (vI t), some (vI u), some (vI y), some (vI p), z18, z19] [vI rv] s P := by
  refine r_ldI (m := 11) F_170_671 rfl ?_
  refine r_icmp (t := 719) F_170_673 rfl l1 l2 ?_ ?_
  · intro e1
    replace e1 : ¬ rv = e := e1
    refine r_iconst F_170_719 ?_
    refine r_stI (m := 7) (L' := [some (vR 1000), some (vR 0), some (vI w), some (vI m), some (vI n), some (vR 77), some (vR 78), some (vI 0), some (vR 79), some (vR 80), some (vI l), some (vI e), some (vI f), some (vI a), some (vI t), some (vI u), some (vI y), some (vI p), z18, z19]) F_170_720 rfl rfl ?_
    refine r_iconst F_170_722 ?_
    refine r_stI (m := 18) (L' := [some (vR 1000), some (vR 0), some (vI w), some (vI m), some (vI n), some (vR 77), some (vR 78), some (vI 0), some (vR 79), some (vR 80), some (vI l), some (vI e), some (vI f), some (vI a), some (vI t), some (vI u), some (vI y), some (vI p), some (vI 0), z19]) F_170_723 rfl rfl ?_
    exact (l3 e1)
  · intro e2
    replace e2 : rv = e := (Classical.not_not.mp e2)
    refine r_ldR_n (m := 1) F_170_676 rfl ?_
    refine r_iconst F_170_677 ?_
    refine r_virt2 (A := [vI 3]) (r := []) (n := 1) F_170_678 o_170 il_6_90 rfl rfl rfl rfl ty_0 vy_147 (lay_le n_147 rfl) ?_
    exact (l4 e2)
theorem t_L_law_827 {X : m_X} {d : Nat} {s : m_St} {P : Option Value → m_St → Prop} {w m n o l e f a t u y p q r : Int} (hU : 4 ≤ X.2)
    (l1 : inR r)
    (l2 : 4 ≤ r → Rn X (d + 9) 170 725 [some (vR 1000), some (vR 0), some (vI w), some (vI m), some (vI n), some (vR 77), some (vR 78), some (vI o), some (vR 79), some (vR 80), some (vI l), some (vI e), some (vI f), some (vI a), some (vI t), some (vI u), some (vI y), some (vI p), some (vI (q + 1)), some (vI r)] [] s P)
    (l3 : r < 4 → inR o)
    (l4 : r < 4 → o = 0 → Rn X (d + 9) 170 725 [some (vR 1000), some (vR 0), some (vI w), some (vI m), some (vI n), some (vR 77), some (vR 78), some (vI o), some (vR 79), some (vR 80), some (vI l), some (vI e), some (vI f), some (vI a), some (vI t), some (vI u), some (vI y), some (vI p), some (vI (q + 1)), some (vI r)] [] s P)
    (l5 : r < 4 → ¬ o = 0 → Cl X (d + 8) 65 [vR 0, vI q, vI (1 + r)] s (fun v s' => Rn X (d + 9) 170 848 [some (vR 1000), some (vR 0), some (vI w), some (vI m), some (vI n), some (vR 77), some (vR 78), some (vI o), some (vR 79), some (vR 80), some (vI l), some (vI e), some (vI f), some (vI a), some (vI t), some (vI u), some (vI y), some (vI p), some (vI q), some (vI r)] (m_push v []) s' P))
    : Rn X (d + 9) 170 827 [some (vR 1000), some (vR 0), some (vI w), some (vI m), some (vI n), some (vR 77), some (vR 78), some (vI o), some (vR 79), some (vR 80), some (vI l), some (vI e), some (vI f), some (vI a), some (vI t), some (vI u), some (vI y), some (vI p), some (vI q), some (vI r)] [] s P := by
  refine r_ldI (m := 19) F_170_827 rfl ?_
  refine r_iconst F_170_829 ?_
  refine r_icmp (t := 884) F_170_830 rfl l1 (by decide) ?_ ?_
  · intro e1
    replace e1 : 4 ≤ r := e1
    refine r_iinc (m := 18) (e := (q + 1)) (L' := [some (vR 1000), some (vR 0), some (vI w), some (vI m), some (vI n), some (vR 77), some (vR 78), some (vI o), some (vR 79), some (vR 80), some (vI l), some (vI e), some (vI f), some (vI a), some (vI t), some (vI u), some (vI y), some (vI p), some (vI (q + 1)), some (vI r)]) F_170_884 rfl rfl rfl rfl ?_
    refine r_goto (t := 725) F_170_887 rfl ?_
    exact (l2 e1)
  · intro e2
    replace e2 : r < 4 := (Int.not_le.mp e2)
    refine r_ldI (m := 7) F_170_833 rfl ?_
    refine r_if (t := 884) F_170_835 rfl (l3 e2) ?_ ?_
    · intro e3
      replace e3 : o = 0 := e3
      refine r_iinc (m := 18) (e := (q + 1)) (L' := [some (vR 1000), some (vR 0), some (vI w), some (vI m), some (vI n), some (vR 77), some (vR 78), some (vI o), some (vR 79), some (vR 80), some (vI l), some (vI e), some (vI f), some (vI a), some (vI t), some (vI u), some (vI y), some (vI p), some (vI (q + 1)), some (vI r)]) F_170_884 rfl rfl rfl rfl ?_
      refine r_goto (t := 725) F_170_887 rfl ?_
      exact (l4 e2 e3)
    · intro e4
      replace e4 : ¬ o = 0 := e4
      refine r_ldR_n (m := 1) F_170_838 rfl ?_
      refine r_ldI (m := 18) F_170_839 rfl ?_
      refine r_iconst F_170_841 ?_
      refine r_ldI (m := 19) F_170_842 rfl ?_
      refine r_iadd F_170_844 rfl ?_
      refine r_virt2 (A := [vI q, vI (1 + r)]) (r := []) (n := 2) F_170_845 o_170 il_6_93 rfl rfl rfl rfl ty_0 vy_65 (lay_le n_65 rfl) ?_
      exact (l5 e2 e4)
theorem t_L_law_770 {X : m_X} {d : Nat} {s : m_St} {P : Option Value → m_St → Prop} {w m n o l e f a t u y p q rv : Int} {z19 : Option Value} (hU : 4 ≤ X.2)
    (l1 : inR rv)
    (l2 : ¬ rv = 1 → Rn X (d + 9) 170 824 [some (vR 1000), some (vR 0), some (vI w), some (vI m), some (vI n), some (vR 77), some (vR 78), some (vI 0), some (vR 79), some (vR 80), some (vI l), some (vI e), some (vI f), some (vI a), some (vI t), some (vI u), some (vI y), some (vI p), some (vI q), z19] [] s P)
    (l3 : rv = 1 → Cl X (d + 8) 144 [vR 0] s (fun v s' => Rn X (d + 9) 170 778 [some (vR 1000), some (vR 0), some (vI w), some (vI m), some (vI n), some (vR 77), some (vR 78), some (vI o), some (vR 79), some (vR 80), some (vI l), some (vI e), some (vI f), some (vI a), some (vI t), some (vI u), some (vI y), some (vI p), some (vI q), z19] (m_push v []) s' P))
    : Rn X (d + 9) 170 770 [some (vR 1000), some (vR 0), some (vI w), some (vI m), some (vI n), some (vR 77), some (vR 78), some (vI o), some (vR 79), some (vR 80), some (vI l), some (vI e), some (vI f), some (vI a), some (vI t), some (vI u), some (vI y), some (vI p), some (vI q), z19] [vI rv] s P := by
  refine r_iconst F_170_770 ?_
  refine r_icmp (t := 821) F_170_771 rfl l1 (by decide) ?_ ?_
  · intro e1
    replace e1 : ¬ rv = 1 := e1
    refine r_iconst F_170_821 ?_
    refine r_stI (m := 7) (L' := [some (vR 1000), some (vR 0), some (vI w), some (vI m), some (vI n), some (vR 77), some (vR 78), some (vI 0), some (vR 79), some (vR 80), some (vI l), some (vI e), some (vI f), some (vI a), some (vI t), some (vI u), some (vI y), some (vI p), some (vI q), z19]) F_170_822 rfl rfl ?_
    exact (l2 e1)
  · intro e2
    replace e2 : rv = 1 := (Classical.not_not.mp e2)
    refine r_ldR_n (m := 1) F_170_774 rfl ?_
    refine r_virt2 (A := []) (r := []) (n := 0) F_170_775 o_170 il_6_96 rfl rfl rfl rfl ty_0 vy_144 (lay_le n_144 rfl) ?_
    exact (l3 e2)
theorem t_L_law_681 {X : m_X} {d : Nat} {s : m_St} {P : Option Value → m_St → Prop} {w m n o l e f a t u y p rv : Int} {z18 z19 : Option Value} (hU : 4 ≤ X.2)
    (l1 : inR rv)
    (l2 : inR f)
    (l3 : ¬ rv = f → Rn X (d + 9) 170 725 [some (vR 1000), some (vR 0), some (vI w), some (vI m), some (vI n), some (vR 77), some (vR 78), some (vI 0), some (vR 79), some (vR 80), some (vI l), some (vI e), some (vI f), some (vI a), some (vI t), some (vI u), some (vI y), some (vI p), some (vI 0), z19] [] s P)
    (l4 : rv = f → Cl X (d + 8) 147 [vR 0, vI 4] s (fun v s' => Rn X (d + 9) 170 691 [some (vR 1000), some (vR 0), some (vI w), some (vI m), some (vI n), some (vR 77), some (vR 78), some (vI o), some (vR 79), some (vR 80), some (vI l), some (vI e), some (vI f), some (vI a), some (vI t), some (vI u), some (vI y), some (vI p), z18, z19] (m_push v []) s' P))
    : Rn X (d + 9) 170 681 [some (vR 1000), some (vR 0), some (vI w), some (vI m), some (vI n), some (vR 77), some (vR 78), some (vI o), some (vR 79), some (vR 80), some (vI l), some (vI e), some (vI f), some (vI a), some (vI t), some (vI u), some (vI y), some (vI p), z18, z19] [vI rv] s P := by
  refine r_ldI (m := 12) F_170_681 rfl ?_
  refine r_icmp (t := 719) F_170_683 rfl l1 l2 ?_ ?_
  · intro e1
    replace e1 : ¬ rv = f := e1
    refine r_iconst F_170_719 ?_
    refine r_stI (m := 7) (L' := [some (vR 1000), some (vR 0), some (vI w), some (vI m), some (vI n), some (vR 77), some (vR 78), some (vI 0), some (vR 79), some (vR 80), some (vI l), some (vI e), some (vI f), some (vI a), some (vI t), some (vI u), some (vI y), some (vI p), z18, z19]) F_170_720 rfl rfl ?_
    refine r_iconst F_170_722 ?_
    refine r_stI (m := 18) (L' := [some (vR 1000), some (vR 0), some (vI w), some (vI m), some (vI n), some (vR 77), some (vR 78), some (vI 0), some (vR 79), some (vR 80), some (vI l), some (vI e), some (vI f), some (vI a), some (vI t), some (vI u), some (vI y), some (vI p), some (vI 0), z19]) F_170_723 rfl rfl ?_
    exact (l3 e1)
  · intro e2
    replace e2 : rv = f := (Classical.not_not.mp e2)
    refine r_ldR_n (m := 1) F_170_686 rfl ?_
    refine r_iconst F_170_687 ?_
    refine r_virt2 (A := [vI 4]) (r := []) (n := 1) F_170_688 o_170 il_6_90 rfl rfl rfl rfl ty_0 vy_147 (lay_le n_147 rfl) ?_
    exact (l4 e2)
theorem t_L_law_848 {X : m_X} {d : Nat} {s : m_St} {P : Option Value → m_St → Prop} {w m n o l e f a t u y p q r rv : Int} (hU : 4 ≤ X.2)
    (l1 : inR rv)
    (l2 : ¬ rv = 1 → Rn X (d + 9) 170 827 [some (vR 1000), some (vR 0), some (vI w), some (vI m), some (vI n), some (vR 77), some (vR 78), some (vI 0), some (vR 79), some (vR 80), some (vI l), some (vI e), some (vI f), some (vI a), some (vI t), some (vI u), some (vI y), some (vI p), some (vI q), some (vI (r + 1))] [] s P)
    (l3 : rv = 1 → Cl X (d + 8) 144 [vR 0] s (fun v s' => Rn X (d + 9) 170 856 [some (vR 1000), some (vR 0), some (vI w), some (vI m), some (vI n), some (vR 77), some (vR 78), some (vI o), some (vR 79), some (vR 80), some (vI l), some (vI e), some (vI f), some (vI a), some (vI t), some (vI u), some (vI y), some (vI p), some (vI q), some (vI r)] (m_push v []) s' P))
    : Rn X (d + 9) 170 848 [some (vR 1000), some (vR 0), some (vI w), some (vI m), some (vI n), some (vR 77), some (vR 78), some (vI o), some (vR 79), some (vR 80), some (vI l), some (vI e), some (vI f), some (vI a), some (vI t), some (vI u), some (vI y), some (vI p), some (vI q), some (vI r)] [vI rv] s P := by
  refine r_iconst F_170_848 ?_
  refine r_icmp (t := 875) F_170_849 rfl l1 (by decide) ?_ ?_
  · intro e1
    replace e1 : ¬ rv = 1 := e1
    refine r_iconst F_170_875 ?_
    refine r_stI (m := 7) (L' := [some (vR 1000), some (vR 0), some (vI w), some (vI m), some (vI n), some (vR 77), some (vR 78), some (vI 0), some (vR 79), some (vR 80), some (vI l), some (vI e), some (vI f), some (vI a), some (vI t), some (vI u), some (vI y), some (vI p), some (vI q), some (vI r)]) F_170_876 rfl rfl ?_
    refine r_iinc (m := 19) (e := (r + 1)) (L' := [some (vR 1000), some (vR 0), some (vI w), some (vI m), some (vI n), some (vR 77), some (vR 78), some (vI 0), some (vR 79), some (vR 80), some (vI l), some (vI e), some (vI f), some (vI a), some (vI t), some (vI u), some (vI y), some (vI p), some (vI q), some (vI (r + 1))]) F_170_878 rfl rfl rfl rfl ?_
    refine r_goto (t := 827) F_170_881 rfl ?_
    exact (l2 e1)
  · intro e2
    replace e2 : rv = 1 := (Classical.not_not.mp e2)
    refine r_ldR_n (m := 1) F_170_852 rfl ?_
    refine r_virt2 (A := []) (r := []) (n := 0) F_170_853 o_170 il_6_96 rfl rfl rfl rfl ty_0 vy_144 (lay_le n_144 rfl) ?_
    exact (l3 e2)
theorem t_L_law_778 {X : m_X} {d : Nat} {s : m_St} {P : Option Value → m_St → Prop} {w m n o l e f a t u y p q rv : Int} {z19 : Option Value} (hU : 4 ≤ X.2)
    (l1 : inR a)
    (l2 : ¬ a = 0 → inR (s 79 0))
    (l3 : ¬ a = 0 → inR q)
    (l4 : ¬ a = 0 → ¬ (s 79 0) = q → inR (s 79 1))
    (l5 : ¬ a = 0 → ¬ (s 79 0) = q → ¬ (s 79 1) = q → inR rv)
    (l6 : ¬ a = 0 → ¬ (s 79 0) = q → ¬ (s 79 1) = q → ¬ rv = 0 → Rn X (d + 9) 170 824 [some (vR 1000), some (vR 0), some (vI w), some (vI m), some (vI n), some (vR 77), some (vR 78), some (vI 0), some (vR 79), some (vR 80), some (vI l), some (vI e), some (vI f), some (vI a), some (vI t), some (vI u), some (vI y), some (vI p), some (vI q), z19] [] s P)
    (l7 : ¬ a = 0 → ¬ (s 79 0) = q → ¬ (s 79 1) = q → rv = 0 → Rn X (d + 9) 170 824 [some (vR 1000), some (vR 0), some (vI w), some (vI m), some (vI n), some (vR 77), some (vR 78), some (vI 1), some (vR 79), some (vR 80), some (vI l), some (vI e), some (vI f), some (vI a), some (vI t), some (vI u), some (vI y), some (vI p), some (vI q), z19] [] s P)
    (l8 : ¬ a = 0 → ¬ (s 79 0) = q → (s 79 1) = q → inR rv)
    (l9 : ¬ a = 0 → ¬ (s 79 0) = q → (s 79 1) = q → ¬ rv = 2 → Rn X (d + 9) 170 824 [some (vR 1000), some (vR 0), some (vI w), some (vI m), some (vI n), some (vR 77), some (vR 78), some (vI 0), some (vR 79), some (vR 80), some (vI l), some (vI e), some (vI f), some (vI a), some (vI t), some (vI u), some (vI y), some (vI p), some (vI q), z19] [] s P)
    (l10 : ¬ a = 0 → ¬ (s 79 0) = q → (s 79 1) = q → rv = 2 → Rn X (d + 9) 170 824 [some (vR 1000), some (vR 0), some (vI w), some (vI m), some (vI n), some (vR 77), some (vR 78), some (vI 1), some (vR 79), some (vR 80), some (vI l), some (vI e), some (vI f), some (vI a), some (vI t), some (vI u), some (vI y), some (vI p), some (vI q), z19] [] s P)
    (l11 : ¬ a = 0 → (s 79 0) = q → inR rv)
    (l12 : ¬ a = 0 → (s 79 0) = q → ¬ rv = 1 → Rn X (d + 9) 170 824 [some (vR 1000), some (vR 0), some (vI w), some (vI m), some (vI n), some (vR 77), some (vR 78), some (vI 0), some (vR 79), some (vR 80), some (vI l), some (vI e), some (vI f), some (vI a), some (vI t), some (vI u), some (vI y), some (vI p), some (vI q), z19] [] s P)
    (l13 : ¬ a = 0 → (s 79 0) = q → rv = 1 → Rn X (d + 9) 170 824 [some (vR 1000), some (vR 0), some (vI w), some (vI m), some (vI n), some (vR 77), some (vR 78), some (vI 1), some (vR 79), some (vR 80), some (vI l), some (vI e), some (vI f), some (vI a), some (vI t), some (vI u), some (vI y), some (vI p), some (vI q), z19] [] s P)
    (l14 : a = 0 → inR rv)
    (l15 : a = 0 → ¬ rv = 0 → Rn X (d + 9) 170 824 [some (vR 1000), some (vR 0), some (vI w), some (vI m), some (vI n), some (vR 77), some (vR 78), some (vI 0), some (vR 79), some (vR 80), some (vI l), some (vI e), some (vI f), some (vI a), some (vI t), some (vI u), some (vI y), some (vI p), some (vI q), z19] [] s P)
    (l16 : a = 0 → rv = 0 → Rn X (d + 9) 170 824 [some (vR 1000), some (vR 0), some (vI w), some (vI m), some (vI n), some (vR 77), some (vR 78), some (vI 1), some (vR 79), some (vR 80), some (vI l), some (vI e), some (vI f), some (vI a), some (vI t), some (vI u), some (vI y), some (vI p), some (vI q), z19] [] s P)
    : Rn X (d + 9) 170 778 [some (vR 1000), some (vR 0), some (vI w), some (vI m), some (vI n), some (vR 77), some (vR 78), some (vI o), some (vR 79), some (vR 80), some (vI l), some (vI e), some (vI f), some (vI a), some (vI t), some (vI u), some (vI y), some (vI p), some (vI q), z19] [vI rv] s P := by
  refine r_ldI (m := 13) F_170_778 rfl ?_
  refine r_if (t := 787) F_170_780 rfl l1 ?_ ?_
  · intro e1
    replace e1 : ¬ a = 0 := e1
    refine r_ldR (m := 8) F_170_787 rfl ?_
    refine r_iconst F_170_789 ?_
    refine r_ialdU (c := 2) (len := 2) (e := (s 79 0)) F_170_790 rfl rfl (Nat.lt_of_lt_of_le (by decide) hU) (by decide) (by decide) (by decide) (by decide) rfl ?_
    refine r_ldI (m := 18) F_170_791 rfl ?_
    refine r_icmp (t := 800) F_170_793 rfl (l2 e1) (l3 e1) ?_ ?_
    · intro e2
      replace e2 : ¬ (s 79 0) = q := e2
      refine r_ldR (m := 8) F_170_800 rfl ?_
      refine r_iconst F_170_802 ?_
      refine r_ialdU (c := 2) (len := 2) (e := (s 79 1)) F_170_803 rfl rfl (Nat.lt_of_lt_of_le (by decide) hU) (by decide) (by decide) (by decide) (by decide) rfl ?_
      refine r_ldI (m := 18) F_170_804 rfl ?_
      refine r_icmp (t := 813) F_170_806 rfl (l4 e1 e2) (l3 e1) ?_ ?_
      · intro e3
        replace e3 : ¬ (s 79 1) = q := e3
        refine r_iconst F_170_813 ?_
        refine r_icmp (t := 821) F_170_814 rfl (l5 e1 e2 e3) (by decide) ?_ ?_
        · intro e4
          replace e4 : ¬ rv = 0 := e4
          refine r_iconst F_170_821 ?_
          refine r_stI (m := 7) (L' := [some (vR 1000), some (vR 0), some (vI w), some (vI m), some (vI n), some (vR 77), some (vR 78), some (vI 0), some (vR 79), some (vR 80), some (vI l), some (vI e), some (vI f), some (vI a), some (vI t), some (vI u), some (vI y), some (vI p), some (vI q), z19]) F_170_822 rfl rfl ?_
          exact (l6 e1 e2 e3 e4)
        · intro e5
          replace e5 : rv = 0 := (Classical.not_not.mp e5)
          refine r_iconst F_170_817 ?_
          refine r_goto (t := 822) F_170_818 rfl ?_
          refine r_stI (m := 7) (L' := [some (vR 1000), some (vR 0), some (vI w), some (vI m), some (vI n), some (vR 77), some (vR 78), some (vI 1), some (vR 79), some (vR 80), some (vI l), some (vI e), some (vI f), some (vI a), some (vI t), some (vI u), some (vI y), some (vI p), some (vI q), z19]) F_170_822 rfl rfl ?_
          exact (l7 e1 e2 e3 e5)
      · intro e6
        replace e6 : (s 79 1) = q := (Classical.not_not.mp e6)
        refine r_iconst F_170_809 ?_
        refine r_goto (t := 814) F_170_810 rfl ?_
        refine r_icmp (t := 821) F_170_814 rfl (l8 e1 e2 e6) (by decide) ?_ ?_
        · intro e7
          replace e7 : ¬ rv = 2 := e7
          refine r_iconst F_170_821 ?_
          refine r_stI (m := 7) (L' := [some (vR 1000), some (vR 0), some (vI w), some (vI m), some (vI n), some (vR 77), some (vR 78), some (vI 0), some (vR 79), some (vR 80), some (vI l), some (vI e), some (vI f), some (vI a), some (vI t), some (vI u), some (vI y), some (vI p), some (vI q), z19]) F_170_822 rfl rfl ?_
          exact (l9 e1 e2 e6 e7)
        · intro e8
          replace e8 : rv = 2 := (Classical.not_not.mp e8)
          refine r_iconst F_170_817 ?_
          refine r_goto (t := 822) F_170_818 rfl ?_
          refine r_stI (m := 7) (L' := [some (vR 1000), some (vR 0), some (vI w), some (vI m), some (vI n), some (vR 77), some (vR 78), some (vI 1), some (vR 79), some (vR 80), some (vI l), some (vI e), some (vI f), some (vI a), some (vI t), some (vI u), some (vI y), some (vI p), some (vI q), z19]) F_170_822 rfl rfl ?_
          exact (l10 e1 e2 e6 e8)
    · intro e9
      replace e9 : (s 79 0) = q := (Classical.not_not.mp e9)
      refine r_iconst F_170_796 ?_
      refine r_goto (t := 814) F_170_797 rfl ?_
      refine r_icmp (t := 821) F_170_814 rfl (l11 e1 e9) (by decide) ?_ ?_
      · intro e10
        replace e10 : ¬ rv = 1 := e10
        refine r_iconst F_170_821 ?_
        refine r_stI (m := 7) (L' := [some (vR 1000), some (vR 0), some (vI w), some (vI m), some (vI n), some (vR 77), some (vR 78), some (vI 0), some (vR 79), some (vR 80), some (vI l), some (vI e), some (vI f), some (vI a), some (vI t), some (vI u), some (vI y), some (vI p), some (vI q), z19]) F_170_822 rfl rfl ?_
        exact (l12 e1 e9 e10)
      · intro e11
        replace e11 : rv = 1 := (Classical.not_not.mp e11)
        refine r_iconst F_170_817 ?_
        refine r_goto (t := 822) F_170_818 rfl ?_
        refine r_stI (m := 7) (L' := [some (vR 1000), some (vR 0), some (vI w), some (vI m), some (vI n), some (vR 77), some (vR 78), some (vI 1), some (vR 79), some (vR 80), some (vI l), some (vI e), some (vI f), some (vI a), some (vI t), some (vI u), some (vI y), some (vI p), some (vI q), z19]) F_170_822 rfl rfl ?_
        exact (l13 e1 e9 e11)
  · intro e12
    replace e12 : a = 0 := (Classical.not_not.mp e12)
    refine r_iconst F_170_783 ?_
    refine r_goto (t := 814) F_170_784 rfl ?_
    refine r_icmp (t := 821) F_170_814 rfl (l14 e12) (by decide) ?_ ?_
    · intro e13
      replace e13 : ¬ rv = 0 := e13
      refine r_iconst F_170_821 ?_
      refine r_stI (m := 7) (L' := [some (vR 1000), some (vR 0), some (vI w), some (vI m), some (vI n), some (vR 77), some (vR 78), some (vI 0), some (vR 79), some (vR 80), some (vI l), some (vI e), some (vI f), some (vI a), some (vI t), some (vI u), some (vI y), some (vI p), some (vI q), z19]) F_170_822 rfl rfl ?_
      exact (l15 e12 e13)
    · intro e14
      replace e14 : rv = 0 := (Classical.not_not.mp e14)
      refine r_iconst F_170_817 ?_
      refine r_goto (t := 822) F_170_818 rfl ?_
      refine r_stI (m := 7) (L' := [some (vR 1000), some (vR 0), some (vI w), some (vI m), some (vI n), some (vR 77), some (vR 78), some (vI 1), some (vR 79), some (vR 80), some (vI l), some (vI e), some (vI f), some (vI a), some (vI t), some (vI u), some (vI y), some (vI p), some (vI q), z19]) F_170_822 rfl rfl ?_
      exact (l16 e12 e14)
theorem t_L_law_691 {X : m_X} {d : Nat} {s : m_St} {P : Option Value → m_St → Prop} {w m n o l e f a t u y p rv : Int} {z18 z19 : Option Value} (hU : 4 ≤ X.2)
    (l1 : inR a)
    (l2 : a = 0 → inR rv)
    (l3 : a = 0 → ¬ rv = 0 → Rn X (d + 9) 170 725 [some (vR 1000), some (vR 0), some (vI w), some (vI m), some (vI n), some (vR 77), some (vR 78), some (vI 0), some (vR 79), some (vR 80), some (vI l), some (vI e), some (vI f), some (vI a), some (vI t), some (vI u), some (vI y), some (vI p), some (vI 0), z19] [] s P)
    (l4 : a = 0 → rv = 0 → Rn X (d + 9) 170 725 [some (vR 1000), some (vR 0), some (vI w), some (vI m), some (vI n), some (vR 77), some (vR 78), some (vI 1), some (vR 79), some (vR 80), some (vI l), some (vI e), some (vI f), some (vI a), some (vI t), some (vI u), some (vI y), some (vI p), some (vI 0), z19] [] s P)
    (l5 : ¬ a = 0 → inR rv)
    (l6 : ¬ a = 0 → inR ((10 * (s 79 0)) + (s 79 1)))
    (l7 : ¬ a = 0 → ¬ rv = ((10 * (s 79 0)) + (s 79 1)) → Rn X (d + 9) 170 725 [some (vR 1000), some (vR 0), some (vI w), some (vI m), some (vI n), some (vR 77), some (vR 78), some (vI 0), some (vR 79), some (vR 80), some (vI l), some (vI e), some (vI f), some (vI a), some (vI t), some (vI u), some (vI y), some (vI p), some (vI 0), z19] [] s P)
    (l8 : ¬ a = 0 → rv = ((10 * (s 79 0)) + (s 79 1)) → Rn X (d + 9) 170 725 [some (vR 1000), some (vR 0), some (vI w), some (vI m), some (vI n), some (vR 77), some (vR 78), some (vI 1), some (vR 79), some (vR 80), some (vI l), some (vI e), some (vI f), some (vI a), some (vI t), some (vI u), some (vI y), some (vI p), some (vI 0), z19] [] s P)
    : Rn X (d + 9) 170 691 [some (vR 1000), some (vR 0), some (vI w), some (vI m), some (vI n), some (vR 77), some (vR 78), some (vI o), some (vR 79), some (vR 80), some (vI l), some (vI e), some (vI f), some (vI a), some (vI t), some (vI u), some (vI y), some (vI p), z18, z19] [vI rv] s P := by
  refine r_ldI (m := 13) F_170_691 rfl ?_
  refine r_if (t := 711) F_170_693 rfl l1 ?_ ?_
  · intro e1
    replace e1 : a = 0 := e1
    refine r_iconst F_170_711 ?_
    refine r_icmp (t := 719) F_170_712 rfl (l2 e1) (by decide) ?_ ?_
    · intro e2
      replace e2 : ¬ rv = 0 := e2
      refine r_iconst F_170_719 ?_
      refine r_stI (m := 7) (L' := [some (vR 1000), some (vR 0), some (vI w), some (vI m), some (vI n), some (vR 77), some (vR 78), some (vI 0), some (vR 79), some (vR 80), some (vI l), some (vI e), some (vI f), some (vI a), some (vI t), some (vI u), some (vI y), some (vI p), z18, z19]) F_170_720 rfl rfl ?_
      refine r_iconst F_170_722 ?_
      refine r_stI (m := 18) (L' := [some (vR 1000), some (vR 0), some (vI w), some (vI m), some (vI n), some (vR 77), some (vR 78), some (vI 0), some (vR 79), some (vR 80), some (vI l), some (vI e), some (vI f), some (vI a), some (vI t), some (vI u), some (vI y), some (vI p), some (vI 0), z19]) F_170_723 rfl rfl ?_
      exact (l3 e1 e2)
    · intro e3
      replace e3 : rv = 0 := (Classical.not_not.mp e3)
      refine r_iconst F_170_715 ?_
      refine r_goto (t := 720) F_170_716 rfl ?_
      refine r_stI (m := 7) (L' := [some (vR 1000), some (vR 0), some (vI w), some (vI m), some (vI n), some (vR 77), some (vR 78), some (vI 1), some (vR 79), some (vR 80), some (vI l), some (vI e), some (vI f), some (vI a), some (vI t), some (vI u), some (vI y), some (vI p), z18, z19]) F_170_720 rfl rfl ?_
      refine r_iconst F_170_722 ?_
      refine r_stI (m := 18) (L' := [some (vR 1000), some (vR 0), some (vI w), some (vI m), some (vI n), some (vR 77), some (vR 78), some (vI 1), some (vR 79), some (vR 80), some (vI l), some (vI e), some (vI f), some (vI a), some (vI t), some (vI u), some (vI y), some (vI p), some (vI 0), z19]) F_170_723 rfl rfl ?_
      exact (l4 e1 e3)
  · intro e4
    replace e4 : ¬ a = 0 := e4
    refine r_bipush F_170_696 bi_10 ?_
    refine r_ldR (m := 8) F_170_698 rfl ?_
    refine r_iconst F_170_700 ?_
    refine r_ialdU (c := 2) (len := 2) (e := (s 79 0)) F_170_701 rfl rfl (Nat.lt_of_lt_of_le (by decide) hU) (by decide) (by decide) (by decide) (by decide) rfl ?_
    refine r_imul F_170_702 rfl ?_
    refine r_ldR (m := 8) F_170_703 rfl ?_
    refine r_iconst F_170_705 ?_
    refine r_ialdU (c := 2) (len := 2) (e := (s 79 1)) F_170_706 rfl rfl (Nat.lt_of_lt_of_le (by decide) hU) (by decide) (by decide) (by decide) (by decide) rfl ?_
    refine r_iadd F_170_707 rfl ?_
    refine r_goto (t := 712) F_170_708 rfl ?_
    refine r_icmp (t := 719) F_170_712 rfl (l5 e4) (l6 e4) ?_ ?_
    · intro e5
      replace e5 : ¬ rv = ((10 * (s 79 0)) + (s 79 1)) := e5
      refine r_iconst F_170_719 ?_
      refine r_stI (m := 7) (L' := [some (vR 1000), some (vR 0), some (vI w), some (vI m), some (vI n), some (vR 77), some (vR 78), some (vI 0), some (vR 79), some (vR 80), some (vI l), some (vI e), some (vI f), some (vI a), some (vI t), some (vI u), some (vI y), some (vI p), z18, z19]) F_170_720 rfl rfl ?_
      refine r_iconst F_170_722 ?_
      refine r_stI (m := 18) (L' := [some (vR 1000), some (vR 0), some (vI w), some (vI m), some (vI n), some (vR 77), some (vR 78), some (vI 0), some (vR 79), some (vR 80), some (vI l), some (vI e), some (vI f), some (vI a), some (vI t), some (vI u), some (vI y), some (vI p), some (vI 0), z19]) F_170_723 rfl rfl ?_
      exact (l7 e4 e5)
    · intro e6
      replace e6 : rv = ((10 * (s 79 0)) + (s 79 1)) := (Classical.not_not.mp e6)
      refine r_iconst F_170_715 ?_
      refine r_goto (t := 720) F_170_716 rfl ?_
      refine r_stI (m := 7) (L' := [some (vR 1000), some (vR 0), some (vI w), some (vI m), some (vI n), some (vR 77), some (vR 78), some (vI 1), some (vR 79), some (vR 80), some (vI l), some (vI e), some (vI f), some (vI a), some (vI t), some (vI u), some (vI y), some (vI p), z18, z19]) F_170_720 rfl rfl ?_
      refine r_iconst F_170_722 ?_
      refine r_stI (m := 18) (L' := [some (vR 1000), some (vR 0), some (vI w), some (vI m), some (vI n), some (vR 77), some (vR 78), some (vI 1), some (vR 79), some (vR 80), some (vI l), some (vI e), some (vI f), some (vI a), some (vI t), some (vI u), some (vI y), some (vI p), some (vI 0), z19]) F_170_723 rfl rfl ?_
      exact (l8 e4 e6)
theorem t_L_law_856 {X : m_X} {d : Nat} {s : m_St} {P : Option Value → m_St → Prop} {w m n o l e f a t u y p q r rv : Int} (hU : 4 ≤ X.2)
    (l1 : 0 ≤ (((5 * q) + 1) + r))
    (l2 : (((5 * q) + 1) + r) < 30)
    (l3 : inR rv)
    (l4 : inR (s 78 (((5 * q) + 1) + r)))
    (l5 : ¬ rv = (s 78 (((5 * q) + 1) + r)) → Rn X (d + 9) 170 827 [some (vR 1000), some (vR 0), some (vI w), some (vI m), some (vI n), some (vR 77), some (vR 78), some (vI 0), some (vR 79), some (vR 80), some (vI l), some (vI e), some (vI f), some (vI a), some (vI t), some (vI u), some (vI y), some (vI p), some (vI q), some (vI (r + 1))] [] s P)
    (l6 : rv = (s 78 (((5 * q) + 1) + r)) → Rn X (d + 9) 170 827 [some (vR 1000), some (vR 0), some (vI w), some (vI m), some (vI n), some (vR 77), some (vR 78), some (vI 1), some (vR 79), some (vR 80), some (vI l), some (vI e), some (vI f), some (vI a), some (vI t), some (vI u), some (vI y), some (vI p), some (vI q), some (vI (r + 1))] [] s P)
    : Rn X (d + 9) 170 856 [some (vR 1000), some (vR 0), some (vI w), some (vI m), some (vI n), some (vR 77), some (vR 78), some (vI o), some (vR 79), some (vR 80), some (vI l), some (vI e), some (vI f), some (vI a), some (vI t), some (vI u), some (vI y), some (vI p), some (vI q), some (vI r)] [vI rv] s P := by
  refine r_ldR (m := 6) F_170_856 rfl ?_
  refine r_iconst F_170_858 ?_
  refine r_ldI (m := 18) F_170_859 rfl ?_
  refine r_imul F_170_861 rfl ?_
  refine r_iconst F_170_862 ?_
  refine r_iadd F_170_863 rfl ?_
  refine r_ldI (m := 19) F_170_864 rfl ?_
  refine r_iadd F_170_866 rfl ?_
  refine r_ialdU (c := 1) (len := 30) (e := (s 78 (((5 * q) + 1) + r))) F_170_867 rfl rfl (Nat.lt_of_lt_of_le (by decide) hU) (by decide) (by decide) l1 l2 rfl ?_
  refine r_icmp (t := 875) F_170_868 rfl l3 l4 ?_ ?_
  · intro e1
    replace e1 : ¬ rv = (s 78 (((5 * q) + 1) + r)) := e1
    refine r_iconst F_170_875 ?_
    refine r_stI (m := 7) (L' := [some (vR 1000), some (vR 0), some (vI w), some (vI m), some (vI n), some (vR 77), some (vR 78), some (vI 0), some (vR 79), some (vR 80), some (vI l), some (vI e), some (vI f), some (vI a), some (vI t), some (vI u), some (vI y), some (vI p), some (vI q), some (vI r)]) F_170_876 rfl rfl ?_
    refine r_iinc (m := 19) (e := (r + 1)) (L' := [some (vR 1000), some (vR 0), some (vI w), some (vI m), some (vI n), some (vR 77), some (vR 78), some (vI 0), some (vR 79), some (vR 80), some (vI l), some (vI e), some (vI f), some (vI a), some (vI t), some (vI u), some (vI y), some (vI p), some (vI q), some (vI (r + 1))]) F_170_878 rfl rfl rfl rfl ?_
    refine r_goto (t := 827) F_170_881 rfl ?_
    exact (l5 e1)
  · intro e2
    replace e2 : rv = (s 78 (((5 * q) + 1) + r)) := (Classical.not_not.mp e2)
    refine r_iconst F_170_871 ?_
    refine r_goto (t := 876) F_170_872 rfl ?_
    refine r_stI (m := 7) (L' := [some (vR 1000), some (vR 0), some (vI w), some (vI m), some (vI n), some (vR 77), some (vR 78), some (vI 1), some (vR 79), some (vR 80), some (vI l), some (vI e), some (vI f), some (vI a), some (vI t), some (vI u), some (vI y), some (vI p), some (vI q), some (vI r)]) F_170_876 rfl rfl ?_
    refine r_iinc (m := 19) (e := (r + 1)) (L' := [some (vR 1000), some (vR 0), some (vI w), some (vI m), some (vI n), some (vR 77), some (vR 78), some (vI 1), some (vR 79), some (vR 80), some (vI l), some (vI e), some (vI f), some (vI a), some (vI t), some (vI u), some (vI y), some (vI p), some (vI q), some (vI (r + 1))]) F_170_878 rfl rfl rfl rfl ?_
    refine r_goto (t := 827) F_170_881 rfl ?_
    exact (l6 e2)
