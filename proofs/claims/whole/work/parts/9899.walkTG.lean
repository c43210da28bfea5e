/-! walks: turns of the reference -/
theorem n_238 : m_n 238 = 4 := by decide +kernel
theorem F_238_0 : F 238 0 (.iload_n 1) 1 := ⟨1, by decide +kernel, rfl, rfl⟩
theorem F_238_1 : F 238 1 (.iconst 0) 2 := ⟨1, by decide +kernel, rfl, rfl⟩
theorem F_238_2 : F 238 2 (.iconst 5) 3 := ⟨1, by decide +kernel, rfl, rfl⟩
theorem F_238_3 : F 238 3 (.invokestatic 67) 6 := ⟨3, by decide +kernel, rfl, rfl⟩
theorem o_238 : m_o 238 = 6 := by decide +kernel
theorem F_238_6 : F 238 6 (.ifCond .ne 5) 9 := ⟨3, by decide +kernel, rfl, rfl⟩
theorem F_238_9 : F 238 9 (.iconst (-1)) 10 := ⟨1, by decide +kernel, rfl, rfl⟩
theorem F_238_10 : F 238 10 (.ireturn) 11 := ⟨1, by decide +kernel, rfl, rfl⟩
theorem rt_238 : m_r 238 = (some .int) := by decide +kernel
theorem F_238_11 : F 238 11 (.aload_n 0) 12 := ⟨1, by decide +kernel, rfl, rfl⟩
theorem F_238_12 : F 238 12 (.invokevirtual 182) 15 := ⟨3, by decide +kernel, rfl, rfl⟩
theorem F_238_15 : F 238 15 (.ifCond .ne 6) 18 := ⟨3, by decide +kernel, rfl, rfl⟩
theorem F_238_18 : F 238 18 (.bipush (-4)) 20 := ⟨2, by decide +kernel, rfl, rfl⟩
theorem F_238_20 : F 238 20 (.ireturn) 21 := ⟨1, by decide +kernel, rfl, rfl⟩
theorem F_238_21 : F 238 21 (.aload_n 0) 22 := ⟨1, by decide +kernel, rfl, rfl⟩
theorem F_238_22 : F 238 22 (.invokevirtual 210) 25 := ⟨3, by decide +kernel, rfl, rfl⟩
theorem F_238_25 : F 238 25 (.iconst 0) 26 := ⟨1, by decide +kernel, rfl, rfl⟩
theorem F_238_26 : F 238 26 (.istore_n 2) 27 := ⟨1, by decide +kernel, rfl, rfl⟩
theorem F_238_27 : F 238 27 (.iconst 0) 28 := ⟨1, by decide +kernel, rfl, rfl⟩
theorem F_238_28 : F 238 28 (.istore_n 3) 29 := ⟨1, by decide +kernel, rfl, rfl⟩
theorem F_238_29 : F 238 29 (.iload_n 3) 30 := ⟨1, by decide +kernel, rfl, rfl⟩
theorem F_238_30 : F 238 30 (.bipush 6) 32 := ⟨2, by decide +kernel, rfl, rfl⟩
theorem F_238_32 : F 238 32 (.if_icmp .ge 24) 35 := ⟨3, by decide +kernel, rfl, rfl⟩
theorem F_238_35 : F 238 35 (.aload_n 0) 36 := ⟨1, by decide +kernel, rfl, rfl⟩
theorem F_238_36 : F 238 36 (.getfield 50) 39 := ⟨3, by decide +kernel, rfl, rfl⟩
theorem F_238_39 : F 238 39 (.iload_n 3) 40 := ⟨1, by decide +kernel, rfl, rfl⟩
theorem F_238_40 : F 238 40 (.bipush (-9)) 42 := ⟨2, by decide +kernel, rfl, rfl⟩
theorem F_238_42 : F 238 42 (.iastore) 43 := ⟨1, by decide +kernel, rfl, rfl⟩
theorem F_238_43 : F 238 43 (.aload_n 0) 44 := ⟨1, by decide +kernel, rfl, rfl⟩
theorem F_238_44 : F 238 44 (.getfield 47) 47 := ⟨3, by decide +kernel, rfl, rfl⟩
theorem F_238_47 : F 238 47 (.iload_n 3) 48 := ⟨1, by decide +kernel, rfl, rfl⟩
theorem F_238_48 : F 238 48 (.iconst (-1)) 49 := ⟨1, by decide +kernel, rfl, rfl⟩
theorem F_238_49 : F 238 49 (.iastore) 50 := ⟨1, by decide +kernel, rfl, rfl⟩
theorem F_238_50 : F 238 50 (.iinc 3 1) 53 := ⟨3, by decide +kernel, rfl, rfl⟩
theorem F_238_53 : F 238 53 (.goto (-24)) 56 := ⟨3, by decide +kernel, rfl, rfl⟩
theorem F_238_56 : F 238 56 (.iload_n 2) 57 := ⟨1, by decide +kernel, rfl, rfl⟩
theorem F_238_57 : F 238 57 (.ifCond .lt 182) 60 := ⟨3, by decide +kernel, rfl, rfl⟩
theorem F_238_239 : F 238 239 (.bipush (-9)) 241 := ⟨2, by decide +kernel, rfl, rfl⟩
theorem F_238_241 : F 238 241 (.ireturn) 242 := ⟨1, by decide +kernel, rfl, rfl⟩
theorem F_238_60 : F 238 60 (.iload_n 2) 61 := ⟨1, by decide +kernel, rfl, rfl⟩
theorem F_238_61 : F 238 61 (.iload_n 1) 62 := ⟨1, by decide +kernel, rfl, rfl⟩
theorem F_238_62 : F 238 62 (.if_icmp .ne 25) 65 := ⟨3, by decide +kernel, rfl, rfl⟩
theorem F_238_87 : F 238 87 (.aload_n 0) 88 := ⟨1, by decide +kernel, rfl, rfl⟩
theorem F_238_88 : F 238 88 (.getfield 47) 91 := ⟨3, by decide +kernel, rfl, rfl⟩
theorem F_238_91 : F 238 91 (.iload_n 2) 92 := ⟨1, by decide +kernel, rfl, rfl⟩
theorem F_238_92 : F 238 92 (.iaload) 93 := ⟨1, by decide +kernel, rfl, rfl⟩
theorem F_238_93 : F 238 93 (.bipush 8) 95 := ⟨2, by decide +kernel, rfl, rfl⟩
theorem F_238_95 : F 238 95 (.if_icmp .ne 43) 98 := ⟨3, by decide +kernel, rfl, rfl⟩
theorem F_238_138 : F 238 138 (.aload_n 0) 139 := ⟨1, by decide +kernel, rfl, rfl⟩
theorem F_238_139 : F 238 139 (.getfield 47) 142 := ⟨3, by decide +kernel, rfl, rfl⟩
theorem F_238_142 : F 238 142 (.iload_n 2) 143 := ⟨1, by decide +kernel, rfl, rfl⟩
theorem F_238_143 : F 238 143 (.dup2) 144 := ⟨1, by decide +kernel, rfl, rfl⟩
theorem F_238_144 : F 238 144 (.iaload) 145 := ⟨1, by decide +kernel, rfl, rfl⟩
theorem F_238_145 : F 238 145 (.iconst 1) 146 := ⟨1, by decide +kernel, rfl, rfl⟩
theorem F_238_146 : F 238 146 (.iadd) 147 := ⟨1, by decide +kernel, rfl, rfl⟩
theorem F_238_147 : F 238 147 (.iastore) 148 := ⟨1, by decide +kernel, rfl, rfl⟩
theorem F_238_148 : F 238 148 (.aload_n 0) 149 := ⟨1, by decide +kernel, rfl, rfl⟩
theorem F_238_149 : F 238 149 (.getfield 47) 152 := ⟨3, by decide +kernel, rfl, rfl⟩
theorem F_238_152 : F 238 152 (.iload_n 2) 153 := ⟨1, by decide +kernel, rfl, rfl⟩
theorem F_238_153 : F 238 153 (.iaload) 154 := ⟨1, by decide +kernel, rfl, rfl⟩
theorem F_238_154 : F 238 154 (.bipush 8) 156 := ⟨2, by decide +kernel, rfl, rfl⟩
theorem F_238_156 : F 238 156 (.if_icmp .ne 18) 159 := ⟨3, by decide +kernel, rfl, rfl⟩
theorem F_238_174 : F 238 174 (.iconst 0) 175 := ⟨1, by decide +kernel, rfl, rfl⟩
theorem F_238_175 : F 238 175 (.istore_n 3) 176 := ⟨1, by decide +kernel, rfl, rfl⟩
theorem F_238_176 : F 238 176 (.iload_n 3) 177 := ⟨1, by decide +kernel, rfl, rfl⟩
theorem F_238_177 : F 238 177 (.ifCond .ne 28) 180 := ⟨3, by decide +kernel, rfl, rfl⟩
theorem F_238_180 : F 238 180 (.aload_n 0) 181 := ⟨1, by decide +kernel, rfl, rfl⟩
theorem F_238_181 : F 238 181 (.getfield 47) 184 := ⟨3, by decide +kernel, rfl, rfl⟩
theorem F_238_184 : F 238 184 (.iload_n 2) 185 := ⟨1, by decide +kernel, rfl, rfl⟩
theorem F_238_185 : F 238 185 (.iaload) 186 := ⟨1, by decide +kernel, rfl, rfl⟩
theorem F_238_186 : F 238 186 (.bipush 8) 188 := ⟨2, by decide +kernel, rfl, rfl⟩
theorem F_238_188 : F 238 188 (.if_icmp .ge 48) 191 := ⟨3, by decide +kernel, rfl, rfl⟩
theorem F_238_236 : F 238 236 (.goto (-180)) 239 := ⟨3, by decide +kernel, rfl, rfl⟩
theorem F_238_191 : F 238 191 (.aload_n 0) 192 := ⟨1, by decide +kernel, rfl, rfl⟩
theorem F_238_192 : F 238 192 (.iload_n 2) 193 := ⟨1, by decide +kernel, rfl, rfl⟩
theorem F_238_193 : F 238 193 (.aload_n 0) 194 := ⟨1, by decide +kernel, rfl, rfl⟩
theorem F_238_194 : F 238 194 (.getfield 47) 197 := ⟨3, by decide +kernel, rfl, rfl⟩
theorem F_238_197 : F 238 197 (.iload_n 2) 198 := ⟨1, by decide +kernel, rfl, rfl⟩
theorem F_238_198 : F 238 198 (.iaload) 199 := ⟨1, by decide +kernel, rfl, rfl⟩
theorem F_238_199 : F 238 199 (.invokevirtual 213) 202 := ⟨3, by decide +kernel, rfl, rfl⟩
theorem F_238_202 : F 238 202 (.ifCond .eq 34) 205 := ⟨3, by decide +kernel, rfl, rfl⟩
theorem F_238_205 : F 238 205 (.aload_n 0) 206 := ⟨1, by decide +kernel, rfl, rfl⟩
theorem F_238_206 : F 238 206 (.iload_n 2) 207 := ⟨1, by decide +kernel, rfl, rfl⟩
theorem F_238_207 : F 238 207 (.iload_n 3) 208 := ⟨1, by decide +kernel, rfl, rfl⟩
theorem F_238_208 : F 238 208 (.ifCond .eq 7) 211 := ⟨3, by decide +kernel, rfl, rfl⟩
theorem F_238_215 : F 238 215 (.aload_n 0) 216 := ⟨1, by decide +kernel, rfl, rfl⟩
theorem F_238_216 : F 238 216 (.getfield 47) 219 := ⟨3, by decide +kernel, rfl, rfl⟩
theorem F_238_219 : F 238 219 (.iload_n 2) 220 := ⟨1, by decide +kernel, rfl, rfl⟩
theorem F_238_220 : F 238 220 (.iaload) 221 := ⟨1, by decide +kernel, rfl, rfl⟩
theorem F_238_221 : F 238 221 (.iload_n 3) 222 := ⟨1, by decide +kernel, rfl, rfl⟩
theorem F_238_222 : F 238 222 (.ifCond .ne 7) 225 := ⟨3, by decide +kernel, rfl, rfl⟩
theorem F_238_225 : F 238 225 (.iconst 1) 226 := ⟨1, by decide +kernel, rfl, rfl⟩
theorem F_238_226 : F 238 226 (.goto 4) 229 := ⟨3, by decide +kernel, rfl, rfl⟩
theorem F_238_230 : F 238 230 (.invokevirtual 216) 233 := ⟨3, by decide +kernel, rfl, rfl⟩
theorem F_238_233 : F 238 233 (.iinc 2 1) 236 := ⟨3, by decide +kernel, rfl, rfl⟩
theorem F_238_159 : F 238 159 (.aload_n 0) 160 := ⟨1, by decide +kernel, rfl, rfl⟩
theorem F_238_160 : F 238 160 (.getfield 50) 163 := ⟨3, by decide +kernel, rfl, rfl⟩
theorem F_238_163 : F 238 163 (.iload_n 2) 164 := ⟨1, by decide +kernel, rfl, rfl⟩
theorem F_238_164 : F 238 164 (.iaload) 165 := ⟨1, by decide +kernel, rfl, rfl⟩
theorem F_238_165 : F 238 165 (.bipush (-9)) 167 := ⟨2, by decide +kernel, rfl, rfl⟩
theorem F_238_167 : F 238 167 (.if_icmp .ne 7) 170 := ⟨3, by decide +kernel, rfl, rfl⟩
theorem F_238_170 : F 238 170 (.iconst 1) 171 := ⟨1, by decide +kernel, rfl, rfl⟩
theorem F_238_171 : F 238 171 (.goto 4) 174 := ⟨3, by decide +kernel, rfl, rfl⟩
theorem F_238_211 : F 238 211 (.iconst 0) 212 := ⟨1, by decide +kernel, rfl, rfl⟩
theorem F_238_212 : F 238 212 (.goto 9) 215 := ⟨3, by decide +kernel, rfl, rfl⟩
theorem F_238_229 : F 238 229 (.iconst 0) 230 := ⟨1, by decide +kernel, rfl, rfl⟩
theorem F_238_98 : F 238 98 (.aload_n 0) 99 := ⟨1, by decide +kernel, rfl, rfl⟩
theorem F_238_99 : F 238 99 (.getfield 50) 102 := ⟨3, by decide +kernel, rfl, rfl⟩
theorem F_238_102 : F 238 102 (.iload_n 2) 103 := ⟨1, by decide +kernel, rfl, rfl⟩
theorem F_238_103 : F 238 103 (.iaload) 104 := ⟨1, by decide +kernel, rfl, rfl⟩
theorem F_238_104 : F 238 104 (.istore_n 3) 105 := ⟨1, by decide +kernel, rfl, rfl⟩
theorem F_238_105 : F 238 105 (.aload_n 0) 106 := ⟨1, by decide +kernel, rfl, rfl⟩
theorem F_238_106 : F 238 106 (.getfield 47) 109 := ⟨3, by decide +kernel, rfl, rfl⟩
theorem F_238_109 : F 238 109 (.iload_n 2) 110 := ⟨1, by decide +kernel, rfl, rfl⟩
theorem F_238_110 : F 238 110 (.iconst (-1)) 111 := ⟨1, by decide +kernel, rfl, rfl⟩
theorem F_238_111 : F 238 111 (.iastore) 112 := ⟨1, by decide +kernel, rfl, rfl⟩
theorem F_238_112 : F 238 112 (.aload_n 0) 113 := ⟨1, by decide +kernel, rfl, rfl⟩
theorem F_238_113 : F 238 113 (.getfield 50) 116 := ⟨3, by decide +kernel, rfl, rfl⟩
theorem F_238_116 : F 238 116 (.iload_n 2) 117 := ⟨1, by decide +kernel, rfl, rfl⟩
theorem F_238_117 : F 238 117 (.bipush (-9)) 119 := ⟨2, by decide +kernel, rfl, rfl⟩
theorem F_238_119 : F 238 119 (.iastore) 120 := ⟨1, by decide +kernel, rfl, rfl⟩
theorem F_238_120 : F 238 120 (.iinc 2 (-1)) 123 := ⟨3, by decide +kernel, rfl, rfl⟩
theorem F_238_123 : F 238 123 (.iload_n 2) 124 := ⟨1, by decide +kernel, rfl, rfl⟩
theorem F_238_124 : F 238 124 (.ifCond .ge 5) 127 := ⟨3, by decide +kernel, rfl, rfl⟩
theorem F_238_129 : F 238 129 (.aload_n 0) 130 := ⟨1, by decide +kernel, rfl, rfl⟩
theorem F_238_130 : F 238 130 (.iload_n 2) 131 := ⟨1, by decide +kernel, rfl, rfl⟩
theorem F_238_131 : F 238 131 (.iload_n 3) 132 := ⟨1, by decide +kernel, rfl, rfl⟩
theorem F_238_132 : F 238 132 (.invokevirtual 242) 135 := ⟨3, by decide +kernel, rfl, rfl⟩
theorem il_6_242 : ilq 6 242 0 239 2 = true := by decide +kernel
theorem vy_239 : (m_cls 6).1 = (m_y 239).cls ∧ 6 < m_cl.length := by decide +kernel
theorem F_238_135 : F 238 135 (.goto (-79)) 138 := ⟨3, by decide +kernel, rfl, rfl⟩
theorem F_238_127 : F 238 127 (.iload_n 3) 128 := ⟨1, by decide +kernel, rfl, rfl⟩
theorem F_238_128 : F 238 128 (.ireturn) 129 := ⟨1, by decide +kernel, rfl, rfl⟩
theorem F_238_65 : F 238 65 (.aload_n 0) 66 := ⟨1, by decide +kernel, rfl, rfl⟩
theorem F_238_66 : F 238 66 (.getfield 50) 69 := ⟨3, by decide +kernel, rfl, rfl⟩
theorem F_238_69 : F 238 69 (.iload_n 2) 70 := ⟨1, by decide +kernel, rfl, rfl⟩
theorem F_238_70 : F 238 70 (.aload_n 0) 71 := ⟨1, by decide +kernel, rfl, rfl⟩
theorem F_238_71 : F 238 71 (.iload_n 2) 72 := ⟨1, by decide +kernel, rfl, rfl⟩
theorem F_238_72 : F 238 72 (.invokevirtual 220) 75 := ⟨3, by decide +kernel, rfl, rfl⟩
theorem F_238_75 : F 238 75 (.invokestatic 230) 78 := ⟨3, by decide +kernel, rfl, rfl⟩
theorem F_238_78 : F 238 78 (.iastore) 79 := ⟨1, by decide +kernel, rfl, rfl⟩
theorem F_238_79 : F 238 79 (.aload_n 0) 80 := ⟨1, by decide +kernel, rfl, rfl⟩
theorem F_238_80 : F 238 80 (.getfield 47) 83 := ⟨3, by decide +kernel, rfl, rfl⟩
theorem F_238_83 : F 238 83 (.iload_n 2) 84 := ⟨1, by decide +kernel, rfl, rfl⟩
theorem F_238_84 : F 238 84 (.bipush 8) 86 := ⟨2, by decide +kernel, rfl, rfl⟩
theorem F_238_86 : F 238 86 (.iastore) 87 := ⟨1, by decide +kernel, rfl, rfl⟩
theorem t_X6_duel {X : List Int32} {d : Nat} {s : m_St} {P : Option Value → m_St → Prop} {n : Int}
    (l1 : inR n)
    (l2 : n < 0 → P (some (vI (-1))) s)
    (l3 : 0 ≤ n → 5 < n → P (some (vI (-1))) s)
    (l4 : 0 ≤ n → n ≤ 5 → inR (s 83 5))
    (l5 : 0 ≤ n → n ≤ 5 → (s 83 5) ≤ 0 → P (some (vI (-4))) s)
    (l6 : 0 ≤ n → n ≤ 5 → 0 < (s 83 5) → 0 ≤ ((s 83 5) - 1))
    (l7 : 0 ≤ n → n ≤ 5 → 0 < (s 83 5) → ((s 83 5) - 1) < 6)
    (l8 : 0 ≤ n → n ≤ 5 → 0 < (s 83 5) → 0 ≤ ((s 83 6) - 1))
    (l9 : 0 ≤ n → n ≤ 5 → 0 < (s 83 5) → ((s 83 6) - 1) < 6)
    (l10 : 0 ≤ n → n ≤ 5 → 0 < (s 83 5) → ∀ (s7 : m_St), qOp s ((s 83 5) - 1) ((s 83 6) - 1) s7 → Rn X (d + 4) 238 29 [some (vR 77), some (vI n), some (vI 0), some (vI 0)] [] s7 P)
    : Cl X (d + 4) 238 [vR 77, vI n] s P := by
  refine Cl_of n_238 rfl ?_
  show Rn _ _ _ _ [some (vR 77), some (vI n), none, none] [] _ _
  refine r_ldI_n (m := 1) F_238_0 rfl ?_
  refine r_iconst F_238_1 ?_
  refine r_iconst F_238_2 ?_
  refine r_stat2 (A := [vI n, vI 0, vI 5]) (r := []) (n := 3) F_238_3 o_238 il_6_67 (by decide) rfl rfl rfl rfl (lay_le n_160 rfl) ?_
  refine Cl_of n_160 rfl ?_
  show Rn _ _ _ _ [some (vI n), some (vI 0), some (vI 5)] [] _ _
  refine r_ldI_n (m := 0) F_160_0 rfl ?_
  refine r_ldI_n (m := 1) F_160_1 rfl ?_
  refine r_icmp (t := 14) F_160_2 rfl l1 (by decide) ?_ ?_
  · intro e1
    replace e1 : n < 0 := e1
    refine r_iconst F_160_14 ?_
    refine r_zreturn F_160_15 rt_160 (Or.inl rfl) ?_
    show Rn _ _ _ _ _ [vI 0] _ _
    refine r_ifF (t := 11) F_238_6 rfl (by decide) (by show ¬ (¬ (0 : Int) = 0); decide) ?_
    refine r_iconst F_238_9 ?_
    refine r_ireturn F_238_10 rt_238 ?_
    exact (l2 e1)
  · intro e2
    replace e2 : 0 ≤ n := (Int.not_lt.mp e2)
    refine r_ldI_n (m := 0) F_160_5 rfl ?_
    refine r_ldI_n (m := 2) F_160_6 rfl ?_
    refine r_icmp (t := 14) F_160_7 rfl l1 (by decide) ?_ ?_
    · intro e3
      replace e3 : 5 < n := e3
      refine r_iconst F_160_14 ?_
      refine r_zreturn F_160_15 rt_160 (Or.inl rfl) ?_
      show Rn _ _ _ _ _ [vI 0] _ _
      refine r_ifF (t := 11) F_238_6 rfl (by decide) (by show ¬ (¬ (0 : Int) = 0); decide) ?_
      refine r_iconst F_238_9 ?_
      refine r_ireturn F_238_10 rt_238 ?_
      exact (l3 e2 e3)
    · intro e4
      replace e4 : n ≤ 5 := (Int.not_lt.mp e4)
      refine r_iconst F_160_10 ?_
      refine r_goto (t := 15) F_160_11 rfl ?_
      refine r_zreturn F_160_15 rt_160 (Or.inr rfl) ?_
      show Rn _ _ _ _ _ [vI 1] _ _
      refine r_ifT (t := 11) F_238_6 rfl (by decide) (by show ¬ (1 : Int) = 0; decide) ?_
      refine r_ldR_n (m := 0) F_238_11 rfl ?_
      refine r_virt2 (A := []) (r := []) (n := 0) F_238_12 o_238 il_6_182 rfl rfl rfl rfl ty_77 vy_204 (lay_le n_204 rfl) ?_
      refine Cl_of n_204 rfl ?_
      show Rn _ _ _ _ [some (vR 77)] [] _ _
      refine r_ldR_n (m := 0) F_204_0 rfl ?_
      refine r_getR (J := 5) F_204_1 o_204 fl_6_25 ty_77 (by decide) rfl (kd2 kd_77_5 (by decide)) (kd9 kd_77_5 (by decide)) rf_77_5 ?_
      refine r_iconst F_204_4 ?_
      refine r_iald (e := (s 83 5)) F_204_5 ty_83 (by decide) (lt_ln ln_83 (by decide)) rfl ?_
      refine r_if (t := 13) F_204_6 rfl (l4 e2 e4) ?_ ?_
      · intro e5
        replace e5 : (s 83 5) ≤ 0 := e5
        refine r_iconst F_204_13 ?_
        refine r_zreturn F_204_14 rt_204 (Or.inl rfl) ?_
        show Rn _ _ _ _ _ [vI 0] _ _
        refine r_ifF (t := 21) F_238_15 rfl (by decide) (by show ¬ (¬ (0 : Int) = 0); decide) ?_
        refine r_bipush F_238_18 bi__4 ?_
        refine r_ireturn F_238_20 rt_238 ?_
        exact (l5 e2 e4 e5)
      · intro e6
        replace e6 : 0 < (s 83 5) := (Int.not_le.mp e6)
        refine r_iconst F_204_9 ?_
        refine r_goto (t := 14) F_204_10 rfl ?_
        refine r_zreturn F_204_14 rt_204 (Or.inr rfl) ?_
        show Rn _ _ _ _ _ [vI 1] _ _
        refine r_ifT (t := 21) F_238_15 rfl (by decide) (by show ¬ (1 : Int) = 0; decide) ?_
        refine r_ldR_n (m := 0) F_238_21 rfl ?_
        refine r_virt2 (A := []) (r := []) (n := 0) F_238_22 o_238 il_6_210 rfl rfl rfl rfl ty_77 vy_219 (lay_le n_219 rfl) ?_
        refine Cl_of n_219 rfl ?_
        show Rn _ _ _ _ [some (vR 77)] [] _ _
        refine r_ldR_n (m := 0) F_219_0 rfl ?_
        refine r_ldR_n (m := 0) F_219_1 rfl ?_
        refine r_getR (J := 5) F_219_2 o_219 fl_6_25 ty_77 (by decide) rfl (kd2 kd_77_5 (by decide)) (kd9 kd_77_5 (by decide)) rf_77_5 ?_
        refine r_iconst F_219_5 ?_
        refine r_iald (e := (s 83 5)) F_219_6 ty_83 (by decide) (lt_ln ln_83 (by decide)) rfl ?_
        refine r_iconst F_219_7 ?_
        refine r_isub F_219_8 rfl ?_
        refine r_ldR_n (m := 0) F_219_9 rfl ?_
        refine r_getR (J := 5) F_219_10 o_219 fl_6_25 ty_77 (by decide) rfl (kd2 kd_77_5 (by decide)) (kd9 kd_77_5 (by decide)) rf_77_5 ?_
        refine r_bipush F_219_13 bi_6 ?_
        refine r_iald (e := (s 83 6)) F_219_15 ty_83 (by decide) (lt_ln ln_83 (by decide)) rfl ?_
        refine r_iconst F_219_16 ?_
        refine r_isub F_219_17 rfl ?_
        refine r_virt2 (A := [vI ((s 83 5) - 1), vI ((s 83 6) - 1)]) (r := []) (n := 2) F_219_18 o_219 il_6_201 rfl rfl rfl rfl ty_77 vy_220 (lay_le n_220 rfl) ?_
        refine sp_opens (l6 e2 e4 e6) (l7 e2 e4 e6) (l8 e2 e4 e6) (l9 e2 e4 e6) ?_
        intro s7 q7
        show Rn _ _ _ _ _ [] _ _
        refine r_return F_219_21 rt_219 ?_
        show Rn _ _ _ _ _ [] _ _
        refine r_iconst F_238_25 ?_
        refine r_stI_n (m := 2) (L' := [some (vR 77), some (vI n), some (vI 0), none]) F_238_26 rfl rfl ?_
        refine r_iconst F_238_27 ?_
        refine r_stI_n (m := 3) (L' := [some (vR 77), some (vI n), some (vI 0), some (vI 0)]) F_238_28 rfl rfl ?_
        exact (l10 e2 e4 e6 s7 q7)
theorem t_X6_duel_29 {X : List Int32} {d : Nat} {s : m_St} {P : Option Value → m_St → Prop} {n q k : Int} (n0 : 0 ≤ n) (n5 : n ≤ 5) (k0 : 0 ≤ k)
    (l1 : inR k)
    (l2 : 6 ≤ k → Rn X (d + 4) 238 56 [some (vR 77), some (vI n), some (vI q), some (vI k)] [] s P)
    (l3 : k < 6 → Rn X (d + 4) 238 29 [some (vR 77), some (vI n), some (vI q), some (vI (k + 1))] [] (m_upd (m_upd s 91 k (-9)) 90 k (-1)) P)
    : Rn X (d + 4) 238 29 [some (vR 77), some (vI n), some (vI q), some (vI k)] [] s P := by
  refine r_ldI_n (m := 3) F_238_29 rfl ?_
  refine r_bipush F_238_30 bi_6 ?_
  refine r_icmp (t := 56) F_238_32 rfl l1 (by decide) ?_ ?_
  · intro e1
    replace e1 : 6 ≤ k := e1
    exact (l2 e1)
  · intro e2
    replace e2 : k < 6 := (Int.not_le.mp e2)
    refine r_ldR_n (m := 0) F_238_35 rfl ?_
    refine r_getR (J := 17) F_238_36 o_238 fl_6_50 ty_77 (by decide) rfl (kd2 kd_77_17 (by decide)) (kd9 kd_77_17 (by decide)) rf_77_17 ?_
    refine r_ldI_n (m := 3) F_238_39 rfl ?_
    refine r_bipush F_238_40 bi__9 ?_
    refine r_iast F_238_42 ty_91 k0 (lt_ln ln_91 e2) ?_
    refine r_ldR_n (m := 0) F_238_43 rfl ?_
    refine r_getR (J := 16) F_238_44 o_238 fl_6_47 ty_77 (by decide) rfl (kd2 kd_77_16 (by decide)) (kd9 kd_77_16 (by decide)) rf_77_16 ?_
    refine r_ldI_n (m := 3) F_238_47 rfl ?_
    refine r_iconst F_238_48 ?_
    refine r_iast F_238_49 ty_90 k0 (lt_ln ln_90 e2) ?_
    refine r_iinc (m := 3) (e := (k + 1)) (L' := [some (vR 77), some (vI n), some (vI q), some (vI (k + 1))]) F_238_50 rfl rfl rfl rfl ?_
    refine r_goto (t := 29) F_238_53 rfl ?_
    exact (l3 e2)
theorem t_X6_duel_56 {X : List Int32} {d : Nat} {s : m_St} {P : Option Value → m_St → Prop} {n q k : Int} (n0 : 0 ≤ n) (n5 : n ≤ 5)
    (l1 : inR q)
    (l2 : q < 0 → P (some (vI (-9))) s)
    (l3 : 0 ≤ q → inR n)
    (l4 : 0 ≤ q → ¬ q = n → q < 6)
    (l5 : 0 ≤ q → ¬ q = n → inR (s 90 q))
    (l6 : 0 ≤ q → ¬ q = n → ¬ (s 90 q) = 8 → inR ((s 90 q) + 1))
    (l7 : 0 ≤ q → ¬ q = n → ¬ (s 90 q) = 8 → ¬ ((s 90 q) + 1) = 8 → 8 ≤ ((s 90 q) + 1) → Rn X (d + 4) 238 56 [some (vR 77), some (vI n), some (vI q), some (vI 0)] [] (m_upd s 90 q ((s 90 q) + 1)) P)
    (l8 : 0 ≤ q → ¬ q = n → ¬ (s 90 q) = 8 → ¬ ((s 90 q) + 1) = 8 → ((s 90 q) + 1) < 8 → 0 ≤ ((s 90 q) + 1))
    (l9 : 0 ≤ q → ¬ q = n → ¬ (s 90 q) = 8 → ¬ ((s 90 q) + 1) = 8 → ((s 90 q) + 1) < 8 → opS (m_upd s 90 q ((s 90 q) + 1)))
    (l10 : 0 ≤ q → ¬ q = n → ¬ (s 90 q) = 8 → ¬ ((s 90 q) + 1) = 8 → ((s 90 q) + 1) < 8 → (q : Int) ≤ 6)
    (l11 : 0 ≤ q → ¬ q = n → ¬ (s 90 q) = 8 → ¬ ((s 90 q) + 1) = 8 → ((s 90 q) + 1) < 8 → w8 (wt (m_upd s 90 q ((s 90 q) + 1)) q))
    (l12 : 0 ≤ q → ¬ q = n → ¬ (s 90 q) = 8 → ¬ ((s 90 q) + 1) = 8 → ((s 90 q) + 1) < 8 → 0 ≤ (((s 90 q) + 1) / 4))
    (l13 : 0 ≤ q → ¬ q = n → ¬ (s 90 q) = 8 → ¬ ((s 90 q) + 1) = 8 → ((s 90 q) + 1) < 8 → (((s 90 q) + 1) / 4) < 2)
    (l14 : 0 ≤ q → ¬ q = n → ¬ (s 90 q) = 8 → ¬ ((s 90 q) + 1) = 8 → ((s 90 q) + 1) < 8 → ¬ (iAnd (iShr (hW (m_upd s 90 q ((s 90 q) + 1)) q (((s 90 q) + 1) / 4)) (((s 90 q) + 1) % 4)) 1) = 1 → Rn X (d + 4) 238 56 [some (vR 77), some (vI n), some (vI q), some (vI 0)] [] (m_upd s 90 q ((s 90 q) + 1)) P)
    (l15 : 0 ≤ q → ¬ q = n → ¬ (s 90 q) = 8 → ¬ ((s 90 q) + 1) = 8 → ((s 90 q) + 1) < 8 → (iAnd (iShr (hW (m_upd s 90 q ((s 90 q) + 1)) q (((s 90 q) + 1) / 4)) (((s 90 q) + 1) % 4)) 1) = 1 → (0 : Int) ≤ q)
    (l16 : 0 ≤ q → ¬ q = n → ¬ (s 90 q) = 8 → ¬ ((s 90 q) + 1) = 8 → ((s 90 q) + 1) < 8 → (iAnd (iShr (hW (m_upd s 90 q ((s 90 q) + 1)) q (((s 90 q) + 1) / 4)) (((s 90 q) + 1) % 4)) 1) = 1 → (q : Int) ≤ 5)
    (l17 : 0 ≤ q → ¬ q = n → ¬ (s 90 q) = 8 → ¬ ((s 90 q) + 1) = 8 → ((s 90 q) + 1) < 8 → (iAnd (iShr (hW (m_upd s 90 q ((s 90 q) + 1)) q (((s 90 q) + 1) / 4)) (((s 90 q) + 1) % 4)) 1) = 1 → (0 : Int) ≤ ((s 90 q) + 1))
    (l18 : 0 ≤ q → ¬ q = n → ¬ (s 90 q) = 8 → ¬ ((s 90 q) + 1) = 8 → ((s 90 q) + 1) < 8 → (iAnd (iShr (hW (m_upd s 90 q ((s 90 q) + 1)) q (((s 90 q) + 1) / 4)) (((s 90 q) + 1) % 4)) 1) = 1 → (((s 90 q) + 1) : Int) < 8)
    (l19 : 0 ≤ q → ¬ q = n → ¬ (s 90 q) = 8 → ¬ ((s 90 q) + 1) = 8 → ((s 90 q) + 1) < 8 → (iAnd (iShr (hW (m_upd s 90 q ((s 90 q) + 1)) q (((s 90 q) + 1) / 4)) (((s 90 q) + 1) % 4)) 1) = 1 → ∀ (s10 : m_St), qGo (m_upd s 90 q ((s 90 q) + 1)) q (uW (m_upd s 90 q ((s 90 q) + 1)) q ((s 90 q) + 1)) s10 → Rn X (d + 4) 238 56 [some (vR 77), some (vI n), some (vI (q + 1)), some (vI 0)] [] s10 P)
    (l20 : 0 ≤ q → ¬ q = n → ¬ (s 90 q) = 8 → ((s 90 q) + 1) = 8 → inR (s 91 q))
    (l21 : 0 ≤ q → ¬ q = n → ¬ (s 90 q) = 8 → ((s 90 q) + 1) = 8 → ¬ (s 91 q) = (-9) → 8 ≤ ((s 90 q) + 1) → Rn X (d + 4) 238 56 [some (vR 77), some (vI n), some (vI q), some (vI 0)] [] (m_upd s 90 q ((s 90 q) + 1)) P)
    (l22 : 0 ≤ q → ¬ q = n → ¬ (s 90 q) = 8 → ((s 90 q) + 1) = 8 → ¬ (s 91 q) = (-9) → ((s 90 q) + 1) < 8 → 0 ≤ ((s 90 q) + 1))
    (l23 : 0 ≤ q → ¬ q = n → ¬ (s 90 q) = 8 → ((s 90 q) + 1) = 8 → ¬ (s 91 q) = (-9) → ((s 90 q) + 1) < 8 → opS (m_upd s 90 q ((s 90 q) + 1)))
    (l24 : 0 ≤ q → ¬ q = n → ¬ (s 90 q) = 8 → ((s 90 q) + 1) = 8 → ¬ (s 91 q) = (-9) → ((s 90 q) + 1) < 8 → (q : Int) ≤ 6)
    (l25 : 0 ≤ q → ¬ q = n → ¬ (s 90 q) = 8 → ((s 90 q) + 1) = 8 → ¬ (s 91 q) = (-9) → ((s 90 q) + 1) < 8 → w8 (wt (m_upd s 90 q ((s 90 q) + 1)) q))
    (l26 : 0 ≤ q → ¬ q = n → ¬ (s 90 q) = 8 → ((s 90 q) + 1) = 8 → ¬ (s 91 q) = (-9) → ((s 90 q) + 1) < 8 → 0 ≤ (((s 90 q) + 1) / 4))
    (l27 : 0 ≤ q → ¬ q = n → ¬ (s 90 q) = 8 → ((s 90 q) + 1) = 8 → ¬ (s 91 q) = (-9) → ((s 90 q) + 1) < 8 → (((s 90 q) + 1) / 4) < 2)
    (l28 : 0 ≤ q → ¬ q = n → ¬ (s 90 q) = 8 → ((s 90 q) + 1) = 8 → ¬ (s 91 q) = (-9) → ((s 90 q) + 1) < 8 → ¬ (iAnd (iShr (hW (m_upd s 90 q ((s 90 q) + 1)) q (((s 90 q) + 1) / 4)) (((s 90 q) + 1) % 4)) 1) = 1 → Rn X (d + 4) 238 56 [some (vR 77), some (vI n), some (vI q), some (vI 0)] [] (m_upd s 90 q ((s 90 q) + 1)) P)
    (l29 : 0 ≤ q → ¬ q = n → ¬ (s 90 q) = 8 → ((s 90 q) + 1) = 8 → ¬ (s 91 q) = (-9) → ((s 90 q) + 1) < 8 → (iAnd (iShr (hW (m_upd s 90 q ((s 90 q) + 1)) q (((s 90 q) + 1) / 4)) (((s 90 q) + 1) % 4)) 1) = 1 → (0 : Int) ≤ q)
    (l30 : 0 ≤ q → ¬ q = n → ¬ (s 90 q) = 8 → ((s 90 q) + 1) = 8 → ¬ (s 91 q) = (-9) → ((s 90 q) + 1) < 8 → (iAnd (iShr (hW (m_upd s 90 q ((s 90 q) + 1)) q (((s 90 q) + 1) / 4)) (((s 90 q) + 1) % 4)) 1) = 1 → (q : Int) ≤ 5)
    (l31 : 0 ≤ q → ¬ q = n → ¬ (s 90 q) = 8 → ((s 90 q) + 1) = 8 → ¬ (s 91 q) = (-9) → ((s 90 q) + 1) < 8 → (iAnd (iShr (hW (m_upd s 90 q ((s 90 q) + 1)) q (((s 90 q) + 1) / 4)) (((s 90 q) + 1) % 4)) 1) = 1 → (0 : Int) ≤ ((s 90 q) + 1))
    (l32 : 0 ≤ q → ¬ q = n → ¬ (s 90 q) = 8 → ((s 90 q) + 1) = 8 → ¬ (s 91 q) = (-9) → ((s 90 q) + 1) < 8 → (iAnd (iShr (hW (m_upd s 90 q ((s 90 q) + 1)) q (((s 90 q) + 1) / 4)) (((s 90 q) + 1) % 4)) 1) = 1 → (((s 90 q) + 1) : Int) < 8)
    (l33 : 0 ≤ q → ¬ q = n → ¬ (s 90 q) = 8 → ((s 90 q) + 1) = 8 → ¬ (s 91 q) = (-9) → ((s 90 q) + 1) < 8 → (iAnd (iShr (hW (m_upd s 90 q ((s 90 q) + 1)) q (((s 90 q) + 1) / 4)) (((s 90 q) + 1) % 4)) 1) = 1 → ∀ (s17 : m_St), qGo (m_upd s 90 q ((s 90 q) + 1)) q (uW (m_upd s 90 q ((s 90 q) + 1)) q ((s 90 q) + 1)) s17 → Rn X (d + 4) 238 56 [some (vR 77), some (vI n), some (vI (q + 1)), some (vI 0)] [] s17 P)
    (l34 : 0 ≤ q → ¬ q = n → ¬ (s 90 q) = 8 → ((s 90 q) + 1) = 8 → (s 91 q) = (-9) → opS (m_upd s 90 q ((s 90 q) + 1)))
    (l35 : 0 ≤ q → ¬ q = n → ¬ (s 90 q) = 8 → ((s 90 q) + 1) = 8 → (s 91 q) = (-9) → (0 : Int) ≤ q)
    (l36 : 0 ≤ q → ¬ q = n → ¬ (s 90 q) = 8 → ((s 90 q) + 1) = 8 → (s 91 q) = (-9) → (q : Int) ≤ 5)
    (l37 : 0 ≤ q → ¬ q = n → ¬ (s 90 q) = 8 → ((s 90 q) + 1) = 8 → (s 91 q) = (-9) → (0 : Int) ≤ 0)
    (l38 : 0 ≤ q → ¬ q = n → ¬ (s 90 q) = 8 → ((s 90 q) + 1) = 8 → (s 91 q) = (-9) → (0 : Int) < 8)
    (l39 : 0 ≤ q → ¬ q = n → ¬ (s 90 q) = 8 → ((s 90 q) + 1) = 8 → (s 91 q) = (-9) → w8 (wt (m_upd s 90 q ((s 90 q) + 1)) q))
    (l40 : 0 ≤ q → ¬ q = n → ¬ (s 90 q) = 8 → ((s 90 q) + 1) = 8 → (s 91 q) = (-9) → ∀ (s19 : m_St), qGo (m_upd s 90 q ((s 90 q) + 1)) q (if 0 = 0 then wt (m_upd s 90 q ((s 90 q) + 1)) q else uW (m_upd s 90 q ((s 90 q) + 1)) q 0) s19 → Rn X (d + 4) 238 56 [some (vR 77), some (vI n), some (vI (q + 1)), some (vI 1)] [] s19 P)
    (l41 : 0 ≤ q → ¬ q = n → (s 90 q) = 8 → inR (q + (-1)))
    (l42 : 0 ≤ q → ¬ q = n → (s 90 q) = 8 → 0 ≤ (q + (-1)) → (q + (-1)) < 6)
    (l43 : 0 ≤ q → ¬ q = n → (s 90 q) = 8 → 0 ≤ (q + (-1)) → inR ((m_upd (m_upd s 90 q (-1)) 91 q (-9)) 91 (q + (-1))))
    (l44 : 0 ≤ q → ¬ q = n → (s 90 q) = 8 → 0 ≤ (q + (-1)) → inR (s 91 q))
    (l45 : 0 ≤ q → ¬ q = n → (s 90 q) = 8 → 0 ≤ (q + (-1)) → Rn X (d + 4) 238 56 [some (vR 77), some (vI n), some (vI (q + (-1))), some (vI (s 91 q))] [] (m_upd (m_upd (m_upd s 90 q (-1)) 91 q (-9)) 91 (q + (-1)) (bst (flq (q + (-1))) ((m_upd (m_upd s 90 q (-1)) 91 q (-9)) 91 (q + (-1))) (s 91 q))) P)
    (l46 : 0 ≤ q → ¬ q = n → (s 90 q) = 8 → (q + (-1)) < 0 → P (some (vI (s 91 q))) (m_upd (m_upd s 90 q (-1)) 91 q (-9)))
    (l47 : 0 ≤ q → q = n → opS s)
    (l48 : 0 ≤ q → q = n → (q : Int) ≤ 6)
    (l49 : 0 ≤ q → q = n → w8 (wt s q))
    (l50 : 0 ≤ q → q = n → q < 6)
    (l51 : 0 ≤ q → q = n → inR (q + (-1)))
    (l52 : 0 ≤ q → q = n → 0 ≤ (q + (-1)) → (q + (-1)) < 6)
    (l53 : 0 ≤ q → q = n → 0 ≤ (q + (-1)) → inR ((m_upd (m_upd (m_upd (m_upd s 91 q (on16 (iAnd (hW s q 0) (hW s q 1)))) 90 q 8) 90 q (-1)) 91 q (-9)) 91 (q + (-1))))
    (l54 : 0 ≤ q → q = n → 0 ≤ (q + (-1)) → inR (on16 (iAnd (hW s q 0) (hW s q 1))))
    (l55 : 0 ≤ q → q = n → 0 ≤ (q + (-1)) → Rn X (d + 4) 238 56 [some (vR 77), some (vI n), some (vI (q + (-1))), some (vI (on16 (iAnd (hW s q 0) (hW s q 1))))] [] (m_upd (m_upd (m_upd (m_upd (m_upd s 91 q (on16 (iAnd (hW s q 0) (hW s q 1)))) 90 q 8) 90 q (-1)) 91 q (-9)) 91 (q + (-1)) (bst (flq (q + (-1))) ((m_upd (m_upd (m_upd (m_upd s 91 q (on16 (iAnd (hW s q 0) (hW s q 1)))) 90 q 8) 90 q (-1)) 91 q (-9)) 91 (q + (-1))) (on16 (iAnd (hW s q 0) (hW s q 1))))) P)
    (l56 : 0 ≤ q → q = n → (q + (-1)) < 0 → P (some (vI (on16 (iAnd (hW s q 0) (hW s q 1))))) (m_upd (m_upd (m_upd (m_upd s 91 q (on16 (iAnd (hW s q 0) (hW s q 1)))) 90 q 8) 90 q (-1)) 91 q (-9)))
    : Rn X (d + 4) 238 56 [some (vR 77), some (vI n), some (vI q), some (vI k)] [] s P := by
  refine r_ldI_n (m := 2) F_238_56 rfl ?_
  refine r_if (t := 239) F_238_57 rfl l1 ?_ ?_
  · intro e1
    replace e1 : q < 0 := e1
    refine r_bipush F_238_239 bi__9 ?_
    refine r_ireturn F_238_241 rt_238 ?_
    exact (l2 e1)
  · intro e2
    replace e2 : 0 ≤ q := (Int.not_lt.mp e2)
    refine r_ldI_n (m := 2) F_238_60 rfl ?_
    refine r_ldI_n (m := 1) F_238_61 rfl ?_
    refine r_icmp (t := 87) F_238_62 rfl l1 (l3 e2) ?_ ?_
    · intro e3
      replace e3 : ¬ q = n := e3
      refine r_ldR_n (m := 0) F_238_87 rfl ?_
      refine r_getR (J := 16) F_238_88 o_238 fl_6_47 ty_77 (by decide) rfl (kd2 kd_77_16 (by decide)) (kd9 kd_77_16 (by decide)) rf_77_16 ?_
      refine r_ldI_n (m := 2) F_238_91 rfl ?_
      refine r_iald (e := (s 90 q)) F_238_92 ty_90 e2 (lt_ln ln_90 (l4 e2 e3)) rfl ?_
      refine r_bipush F_238_93 bi_8 ?_
      refine r_icmp (t := 138) F_238_95 rfl (l5 e2 e3) (by decide) ?_ ?_
      · intro e4
        replace e4 : ¬ (s 90 q) = 8 := e4
        refine r_ldR_n (m := 0) F_238_138 rfl ?_
        refine r_getR (J := 16) F_238_139 o_238 fl_6_47 ty_77 (by decide) rfl (kd2 kd_77_16 (by decide)) (kd9 kd_77_16 (by decide)) rf_77_16 ?_
        refine r_ldI_n (m := 2) F_238_142 rfl ?_
        refine r_dup2 F_238_143 ?_
        refine r_iald (e := (s 90 q)) F_238_144 ty_90 e2 (lt_ln ln_90 (l4 e2 e3)) rfl ?_
        refine r_iconst F_238_145 ?_
        refine r_iadd F_238_146 rfl ?_
        refine r_iast F_238_147 ty_90 e2 (lt_ln ln_90 (l4 e2 e3)) ?_
        refine r_ldR_n (m := 0) F_238_148 rfl ?_
        refine r_getR (J := 16) F_238_149 o_238 fl_6_47 ty_77 (by decide) rfl (kd2 kd_77_16 (by decide)) (kd9 kd_77_16 (by decide)) rf_77_16 ?_
        refine r_ldI_n (m := 2) F_238_152 rfl ?_
        refine r_iald (e := ((s 90 q) + 1)) F_238_153 ty_90 e2 (lt_ln ln_90 (l4 e2 e3)) upd_eq ?_
        refine r_bipush F_238_154 bi_8 ?_
        refine r_icmp (t := 174) F_238_156 rfl (l6 e2 e3 e4) (by decide) ?_ ?_
        · intro e5
          replace e5 : ¬ ((s 90 q) + 1) = 8 := e5
          refine r_iconst F_238_174 ?_
          refine r_stI_n (m := 3) (L' := [some (vR 77), some (vI n), some (vI q), some (vI 0)]) F_238_175 rfl rfl ?_
          refine r_ldI_n (m := 3) F_238_176 rfl ?_
          refine r_ifF (t := 205) F_238_177 rfl (by decide) (by show ¬ (¬ (0 : Int) = 0); decide) ?_
          refine r_ldR_n (m := 0) F_238_180 rfl ?_
          refine r_getR (J := 16) F_238_181 o_238 fl_6_47 ty_77 (by decide) rfl (kd2 kd_77_16 (by decide)) (kd9 kd_77_16 (by decide)) rf_77_16 ?_
          refine r_ldI_n (m := 2) F_238_184 rfl ?_
          refine r_iald (e := ((s 90 q) + 1)) F_238_185 ty_90 e2 (lt_ln ln_90 (l4 e2 e3)) upd_eq ?_
          refine r_bipush F_238_186 bi_8 ?_
          refine r_icmp (t := 236) F_238_188 rfl (l6 e2 e3 e4) (by decide) ?_ ?_
          · intro e6
            replace e6 : 8 ≤ ((s 90 q) + 1) := e6
            refine r_goto (t := 56) F_238_236 rfl ?_
            exact (l7 e2 e3 e4 e5 e6)
          · intro e7
            replace e7 : ((s 90 q) + 1) < 8 := (Int.not_le.mp e7)
            refine r_ldR_n (m := 0) F_238_191 rfl ?_
            refine r_ldI_n (m := 2) F_238_192 rfl ?_
            refine r_ldR_n (m := 0) F_238_193 rfl ?_
            refine r_getR (J := 16) F_238_194 o_238 fl_6_47 ty_77 (by decide) rfl (kd2 kd_77_16 (by decide)) (kd9 kd_77_16 (by decide)) rf_77_16 ?_
            refine r_ldI_n (m := 2) F_238_197 rfl ?_
            refine r_iald (e := ((s 90 q) + 1)) F_238_198 ty_90 e2 (lt_ln ln_90 (l4 e2 e3)) upd_eq ?_
            refine r_virt2 (A := [vI q, vI ((s 90 q) + 1)]) (r := []) (n := 2) F_238_199 o_238 il_6_213 rfl rfl rfl rfl ty_77 vy_221 (lay_le n_221 rfl) ?_
            refine Cl_of n_221 rfl ?_
            show Rn _ _ _ _ [some (vR 77), some (vI q), some (vI ((s 90 q) + 1))] [] _ _
            refine r_ldR_n (m := 0) F_221_0 rfl ?_
            refine r_ldI_n (m := 1) F_221_1 rfl ?_
            refine r_ldI_n (m := 2) F_221_2 rfl ?_
            refine r_iconst F_221_3 ?_
            refine r_idiv F_221_4 (l6 e2 e3 e4) (l8 e2 e3 e4 e5 e7) (by decide) (by decide) ?_
            refine r_virt2 (A := [vI q, vI (((s 90 q) + 1) / 4)]) (r := []) (n := 2) F_221_5 o_221 il_6_204 rfl rfl rfl rfl ty_77 vy_222 (lay_le n_222 rfl) ?_
            refine sp_heldAtS (l9 e2 e3 e4 e5 e7) e2 (l10 e2 e3 e4 e5 e7) (l11 e2 e3 e4 e5 e7) (l12 e2 e3 e4 e5 e7) (l13 e2 e3 e4 e5 e7) ?_
            show Rn _ _ _ _ _ [vI (hW (m_upd s 90 q ((s 90 q) + 1)) q (((s 90 q) + 1) / 4))] _ _
            refine r_ldI_n (m := 2) F_221_8 rfl ?_
            refine r_iconst F_221_9 ?_
            refine r_irem F_221_10 (l6 e2 e3 e4) (l8 e2 e3 e4 e5 e7) (by decide) (by decide) ?_
            refine r_stat2 (A := [vI (hW (m_upd s 90 q ((s 90 q) + 1)) q (((s 90 q) + 1) / 4)), vI (((s 90 q) + 1) % 4)]) (r := []) (n := 2) F_221_11 o_221 il_6_132 (by decide) rfl rfl rfl rfl (lay_le n_194 rfl) ?_
            refine Cl_of n_194 rfl ?_
            show Rn _ _ _ _ [some (vI (hW (m_upd s 90 q ((s 90 q) + 1)) q (((s 90 q) + 1) / 4))), some (vI (((s 90 q) + 1) % 4))] [] _ _
            refine r_ldI_n (m := 0) F_194_0 rfl ?_
            refine r_ldI_n (m := 1) F_194_1 rfl ?_
            refine r_ishr F_194_2 rfl ?_
            refine r_iconst F_194_3 ?_
            refine r_iand F_194_4 rfl ?_
            refine r_iconst F_194_5 ?_
            refine r_icmp (t := 13) F_194_6 rfl (inR_iAnd _ _) (by decide) ?_ ?_
            · intro e8
              replace e8 : ¬ (iAnd (iShr (hW (m_upd s 90 q ((s 90 q) + 1)) q (((s 90 q) + 1) / 4)) (((s 90 q) + 1) % 4)) 1) = 1 := e8
              refine r_iconst F_194_13 ?_
              refine r_zreturn F_194_14 rt_194 (Or.inl rfl) ?_
              show Rn _ _ _ _ _ [vI 0] _ _
              refine r_zreturn F_221_14 rt_221 (Or.inl rfl) ?_
              show Rn _ _ _ _ _ [vI 0] _ _
              refine r_ifT (t := 236) F_238_202 rfl (by decide) (by show (0 : Int) = 0; decide) ?_
              refine r_goto (t := 56) F_238_236 rfl ?_
              exact (l14 e2 e3 e4 e5 e7 e8)
            · intro e9
              replace e9 : (iAnd (iShr (hW (m_upd s 90 q ((s 90 q) + 1)) q (((s 90 q) + 1) / 4)) (((s 90 q) + 1) % 4)) 1) = 1 := (Classical.not_not.mp e9)
              refine r_iconst F_194_9 ?_
              refine r_goto (t := 14) F_194_10 rfl ?_
              refine r_zreturn F_194_14 rt_194 (Or.inr rfl) ?_
              show Rn _ _ _ _ _ [vI 1] _ _
              refine r_zreturn F_221_14 rt_221 (Or.inr rfl) ?_
              show Rn _ _ _ _ _ [vI 1] _ _
              refine r_ifF (t := 236) F_238_202 rfl (by decide) (by show ¬ ((1 : Int) = 0); decide) ?_
              refine r_ldR_n (m := 0) F_238_205 rfl ?_
              refine r_ldI_n (m := 2) F_238_206 rfl ?_
              refine r_ldI_n (m := 3) F_238_207 rfl ?_
              refine r_ifT (t := 215) F_238_208 rfl (by decide) (by show (0 : Int) = 0; decide) ?_
              refine r_ldR_n (m := 0) F_238_215 rfl ?_
              refine r_getR (J := 16) F_238_216 o_238 fl_6_47 ty_77 (by decide) rfl (kd2 kd_77_16 (by decide)) (kd9 kd_77_16 (by decide)) rf_77_16 ?_
              refine r_ldI_n (m := 2) F_238_219 rfl ?_
              refine r_iald (e := ((s 90 q) + 1)) F_238_220 ty_90 e2 (lt_ln ln_90 (l4 e2 e3)) upd_eq ?_
              refine r_ldI_n (m := 3) F_238_221 rfl ?_
              refine r_ifF (t := 229) F_238_222 rfl (by decide) (by show ¬ (¬ (0 : Int) = 0); decide) ?_
              refine r_iconst F_238_225 ?_
              refine r_goto (t := 230) F_238_226 rfl ?_
              refine r_virt2 (A := [vI q, vI ((s 90 q) + 1), vI 1]) (r := []) (n := 3) F_238_230 o_238 il_6_216 rfl rfl rfl rfl ty_77 vy_223 (lay_le n_223 rfl) ?_
              refine sp_goesT (l9 e2 e3 e4 e5 e7) (l15 e2 e3 e4 e5 e7 e9) (l16 e2 e3 e4 e5 e7 e9) (l17 e2 e3 e4 e5 e7 e9) (l18 e2 e3 e4 e5 e7 e9) (l11 e2 e3 e4 e5 e7) ?_
              intro s10 q10
              show Rn _ _ _ _ _ [] _ _
              refine r_iinc (m := 2) (e := (q + 1)) (L' := [some (vR 77), some (vI n), some (vI (q + 1)), some (vI 0)]) F_238_233 rfl rfl rfl rfl ?_
              refine r_goto (t := 56) F_238_236 rfl ?_
              exact (l19 e2 e3 e4 e5 e7 e9 s10 q10)
        · intro e11
          replace e11 : ((s 90 q) + 1) = 8 := (Classical.not_not.mp e11)
          refine r_ldR_n (m := 0) F_238_159 rfl ?_
          refine r_getR (J := 17) F_238_160 o_238 fl_6_50 ty_77 (by decide) rfl (kd2 kd_77_17 (by decide)) (kd9 kd_77_17 (by decide)) rf_77_17 ?_
          refine r_ldI_n (m := 2) F_238_163 rfl ?_
          refine r_iald (e := (s 91 q)) F_238_164 ty_91 e2 (lt_ln ln_91 (l4 e2 e3)) (upd_nc (by decide)) ?_
          refine r_bipush F_238_165 bi__9 ?_
          refine r_icmp (t := 174) F_238_167 rfl (l20 e2 e3 e4 e11) (by decide) ?_ ?_
          · intro e12
            replace e12 : ¬ (s 91 q) = (-9) := e12
            refine r_iconst F_238_174 ?_
            refine r_stI_n (m := 3) (L' := [some (vR 77), some (vI n), some (vI q), some (vI 0)]) F_238_175 rfl rfl ?_
            refine r_ldI_n (m := 3) F_238_176 rfl ?_
            refine r_ifF (t := 205) F_238_177 rfl (by decide) (by show ¬ (¬ (0 : Int) = 0); decide) ?_
            refine r_ldR_n (m := 0) F_238_180 rfl ?_
            refine r_getR (J := 16) F_238_181 o_238 fl_6_47 ty_77 (by decide) rfl (kd2 kd_77_16 (by decide)) (kd9 kd_77_16 (by decide)) rf_77_16 ?_
            refine r_ldI_n (m := 2) F_238_184 rfl ?_
            refine r_iald (e := ((s 90 q) + 1)) F_238_185 ty_90 e2 (lt_ln ln_90 (l4 e2 e3)) upd_eq ?_
            refine r_bipush F_238_186 bi_8 ?_
            refine r_icmp (t := 236) F_238_188 rfl (l6 e2 e3 e4) (by decide) ?_ ?_
            · intro e13
              replace e13 : 8 ≤ ((s 90 q) + 1) := e13
              refine r_goto (t := 56) F_238_236 rfl ?_
              exact (l21 e2 e3 e4 e11 e12 e13)
            · intro e14
              replace e14 : ((s 90 q) + 1) < 8 := (Int.not_le.mp e14)
              refine r_ldR_n (m := 0) F_238_191 rfl ?_
              refine r_ldI_n (m := 2) F_238_192 rfl ?_
              refine r_ldR_n (m := 0) F_238_193 rfl ?_
              refine r_getR (J := 16) F_238_194 o_238 fl_6_47 ty_77 (by decide) rfl (kd2 kd_77_16 (by decide)) (kd9 kd_77_16 (by decide)) rf_77_16 ?_
              refine r_ldI_n (m := 2) F_238_197 rfl ?_
              refine r_iald (e := ((s 90 q) + 1)) F_238_198 ty_90 e2 (lt_ln ln_90 (l4 e2 e3)) upd_eq ?_
              refine r_virt2 (A := [vI q, vI ((s 90 q) + 1)]) (r := []) (n := 2) F_238_199 o_238 il_6_213 rfl rfl rfl rfl ty_77 vy_221 (lay_le n_221 rfl) ?_
              refine Cl_of n_221 rfl ?_
              show Rn _ _ _ _ [some (vR 77), some (vI q), some (vI ((s 90 q) + 1))] [] _ _
              refine r_ldR_n (m := 0) F_221_0 rfl ?_
              refine r_ldI_n (m := 1) F_221_1 rfl ?_
              refine r_ldI_n (m := 2) F_221_2 rfl ?_
              refine r_iconst F_221_3 ?_
              refine r_idiv F_221_4 (l6 e2 e3 e4) (l22 e2 e3 e4 e11 e12 e14) (by decide) (by decide) ?_
              refine r_virt2 (A := [vI q, vI (((s 90 q) + 1) / 4)]) (r := []) (n := 2) F_221_5 o_221 il_6_204 rfl rfl rfl rfl ty_77 vy_222 (lay_le n_222 rfl) ?_
              refine sp_heldAtS (l23 e2 e3 e4 e11 e12 e14) e2 (l24 e2 e3 e4 e11 e12 e14) (l25 e2 e3 e4 e11 e12 e14) (l26 e2 e3 e4 e11 e12 e14) (l27 e2 e3 e4 e11 e12 e14) ?_
              show Rn _ _ _ _ _ [vI (hW (m_upd s 90 q ((s 90 q) + 1)) q (((s 90 q) + 1) / 4))] _ _
              refine r_ldI_n (m := 2) F_221_8 rfl ?_
              refine r_iconst F_221_9 ?_
              refine r_irem F_221_10 (l6 e2 e3 e4) (l22 e2 e3 e4 e11 e12 e14) (by decide) (by decide) ?_
              refine r_stat2 (A := [vI (hW (m_upd s 90 q ((s 90 q) + 1)) q (((s 90 q) + 1) / 4)), vI (((s 90 q) + 1) % 4)]) (r := []) (n := 2) F_221_11 o_221 il_6_132 (by decide) rfl rfl rfl rfl (lay_le n_194 rfl) ?_
              refine Cl_of n_194 rfl ?_
              show Rn _ _ _ _ [some (vI (hW (m_upd s 90 q ((s 90 q) + 1)) q (((s 90 q) + 1) / 4))), some (vI (((s 90 q) + 1) % 4))] [] _ _
              refine r_ldI_n (m := 0) F_194_0 rfl ?_
              refine r_ldI_n (m := 1) F_194_1 rfl ?_
              refine r_ishr F_194_2 rfl ?_
              refine r_iconst F_194_3 ?_
              refine r_iand F_194_4 rfl ?_
              refine r_iconst F_194_5 ?_
              refine r_icmp (t := 13) F_194_6 rfl (inR_iAnd _ _) (by decide) ?_ ?_
              · intro e15
                replace e15 : ¬ (iAnd (iShr (hW (m_upd s 90 q ((s 90 q) + 1)) q (((s 90 q) + 1) / 4)) (((s 90 q) + 1) % 4)) 1) = 1 := e15
                refine r_iconst F_194_13 ?_
                refine r_zreturn F_194_14 rt_194 (Or.inl rfl) ?_
                show Rn _ _ _ _ _ [vI 0] _ _
                refine r_zreturn F_221_14 rt_221 (Or.inl rfl) ?_
                show Rn _ _ _ _ _ [vI 0] _ _
                refine r_ifT (t := 236) F_238_202 rfl (by decide) (by show (0 : Int) = 0; decide) ?_
                refine r_goto (t := 56) F_238_236 rfl ?_
                exact (l28 e2 e3 e4 e11 e12 e14 e15)
              · intro e16
                replace e16 : (iAnd (iShr (hW (m_upd s 90 q ((s 90 q) + 1)) q (((s 90 q) + 1) / 4)) (((s 90 q) + 1) % 4)) 1) = 1 := (Classical.not_not.mp e16)
                refine r_iconst F_194_9 ?_
                refine r_goto (t := 14) F_194_10 rfl ?_
                refine r_zreturn F_194_14 rt_194 (Or.inr rfl) ?_
                show Rn _ _ _ _ _ [vI 1] _ _
                refine r_zreturn F_221_14 rt_221 (Or.inr rfl) ?_
                show Rn _ _ _ _ _ [vI 1] _ _
                refine r_ifF (t := 236) F_238_202 rfl (by decide) (by show ¬ ((1 : Int) = 0); decide) ?_
                refine r_ldR_n (m := 0) F_238_205 rfl ?_
                refine r_ldI_n (m := 2) F_238_206 rfl ?_
                refine r_ldI_n (m := 3) F_238_207 rfl ?_
                refine r_ifT (t := 215) F_238_208 rfl (by decide) (by show (0 : Int) = 0; decide) ?_
                refine r_ldR_n (m := 0) F_238_215 rfl ?_
                refine r_getR (J := 16) F_238_216 o_238 fl_6_47 ty_77 (by decide) rfl (kd2 kd_77_16 (by decide)) (kd9 kd_77_16 (by decide)) rf_77_16 ?_
                refine r_ldI_n (m := 2) F_238_219 rfl ?_
                refine r_iald (e := ((s 90 q) + 1)) F_238_220 ty_90 e2 (lt_ln ln_90 (l4 e2 e3)) upd_eq ?_
                refine r_ldI_n (m := 3) F_238_221 rfl ?_
                refine r_ifF (t := 229) F_238_222 rfl (by decide) (by show ¬ (¬ (0 : Int) = 0); decide) ?_
                refine r_iconst F_238_225 ?_
                refine r_goto (t := 230) F_238_226 rfl ?_
                refine r_virt2 (A := [vI q, vI ((s 90 q) + 1), vI 1]) (r := []) (n := 3) F_238_230 o_238 il_6_216 rfl rfl rfl rfl ty_77 vy_223 (lay_le n_223 rfl) ?_
                refine sp_goesT (l23 e2 e3 e4 e11 e12 e14) (l29 e2 e3 e4 e11 e12 e14 e16) (l30 e2 e3 e4 e11 e12 e14 e16) (l31 e2 e3 e4 e11 e12 e14 e16) (l32 e2 e3 e4 e11 e12 e14 e16) (l25 e2 e3 e4 e11 e12 e14) ?_
                intro s17 q17
                show Rn _ _ _ _ _ [] _ _
                refine r_iinc (m := 2) (e := (q + 1)) (L' := [some (vR 77), some (vI n), some (vI (q + 1)), some (vI 0)]) F_238_233 rfl rfl rfl rfl ?_
                refine r_goto (t := 56) F_238_236 rfl ?_
                exact (l33 e2 e3 e4 e11 e12 e14 e16 s17 q17)
          · intro e18
            replace e18 : (s 91 q) = (-9) := (Classical.not_not.mp e18)
            refine r_iconst F_238_170 ?_
            refine r_goto (t := 175) F_238_171 rfl ?_
            refine r_stI_n (m := 3) (L' := [some (vR 77), some (vI n), some (vI q), some (vI 1)]) F_238_175 rfl rfl ?_
            refine r_ldI_n (m := 3) F_238_176 rfl ?_
            refine r_ifT (t := 205) F_238_177 rfl (by decide) (by show ¬ (1 : Int) = 0; decide) ?_
            refine r_ldR_n (m := 0) F_238_205 rfl ?_
            refine r_ldI_n (m := 2) F_238_206 rfl ?_
            refine r_ldI_n (m := 3) F_238_207 rfl ?_
            refine r_ifF (t := 215) F_238_208 rfl (by decide) (by show ¬ ((1 : Int) = 0); decide) ?_
            refine r_iconst F_238_211 ?_
            refine r_goto (t := 221) F_238_212 rfl ?_
            refine r_ldI_n (m := 3) F_238_221 rfl ?_
            refine r_ifT (t := 229) F_238_222 rfl (by decide) (by show ¬ (1 : Int) = 0; decide) ?_
            refine r_iconst F_238_229 ?_
            refine r_virt2 (A := [vI q, vI 0, vI 0]) (r := []) (n := 3) F_238_230 o_238 il_6_216 rfl rfl rfl rfl ty_77 vy_223 (lay_le n_223 rfl) ?_
            refine sp_goesF (l34 e2 e3 e4 e11 e18) (l35 e2 e3 e4 e11 e18) (l36 e2 e3 e4 e11 e18) (l37 e2 e3 e4 e11 e18) (l38 e2 e3 e4 e11 e18) (l39 e2 e3 e4 e11 e18) (by decide) ?_
            intro s19 q19
            show Rn _ _ _ _ _ [] _ _
            refine r_iinc (m := 2) (e := (q + 1)) (L' := [some (vR 77), some (vI n), some (vI (q + 1)), some (vI 1)]) F_238_233 rfl rfl rfl rfl ?_
            refine r_goto (t := 56) F_238_236 rfl ?_
            exact (l40 e2 e3 e4 e11 e18 s19 q19)
      · intro e20
        replace e20 : (s 90 q) = 8 := (Classical.not_not.mp e20)
        refine r_ldR_n (m := 0) F_238_98 rfl ?_
        refine r_getR (J := 17) F_238_99 o_238 fl_6_50 ty_77 (by decide) rfl (kd2 kd_77_17 (by decide)) (kd9 kd_77_17 (by decide)) rf_77_17 ?_
        refine r_ldI_n (m := 2) F_238_102 rfl ?_
        refine r_iald (e := (s 91 q)) F_238_103 ty_91 e2 (lt_ln ln_91 (l4 e2 e3)) rfl ?_
        refine r_stI_n (m := 3) (L' := [some (vR 77), some (vI n), some (vI q), some (vI (s 91 q))]) F_238_104 rfl rfl ?_
        refine r_ldR_n (m := 0) F_238_105 rfl ?_
        refine r_getR (J := 16) F_238_106 o_238 fl_6_47 ty_77 (by decide) rfl (kd2 kd_77_16 (by decide)) (kd9 kd_77_16 (by decide)) rf_77_16 ?_
        refine r_ldI_n (m := 2) F_238_109 rfl ?_
        refine r_iconst F_238_110 ?_
        refine r_iast F_238_111 ty_90 e2 (lt_ln ln_90 (l4 e2 e3)) ?_
        refine r_ldR_n (m := 0) F_238_112 rfl ?_
        refine r_getR (J := 17) F_238_113 o_238 fl_6_50 ty_77 (by decide) rfl (kd2 kd_77_17 (by decide)) (kd9 kd_77_17 (by decide)) rf_77_17 ?_
        refine r_ldI_n (m := 2) F_238_116 rfl ?_
        refine r_bipush F_238_117 bi__9 ?_
        refine r_iast F_238_119 ty_91 e2 (lt_ln ln_91 (l4 e2 e3)) ?_
        refine r_iinc (m := 2) (e := (q + (-1))) (L' := [some (vR 77), some (vI n), some (vI (q + (-1))), some (vI (s 91 q))]) F_238_120 rfl rfl rfl rfl ?_
        refine r_ldI_n (m := 2) F_238_123 rfl ?_
        refine r_if (t := 129) F_238_124 rfl (l41 e2 e3 e20) ?_ ?_
        · intro e21
          replace e21 : 0 ≤ (q + (-1)) := e21
          refine r_ldR_n (m := 0) F_238_129 rfl ?_
          refine r_ldI_n (m := 2) F_238_130 rfl ?_
          refine r_ldI_n (m := 3) F_238_131 rfl ?_
          refine r_virt2 (A := [vI (q + (-1)), vI (s 91 q)]) (r := []) (n := 2) F_238_132 o_238 il_6_242 rfl rfl rfl rfl ty_77 vy_239 (lay_le n_239 rfl) ?_
          refine sp_comes e21 (l42 e2 e3 e20 e21) (l43 e2 e3 e20 e21) (l44 e2 e3 e20 e21) ?_
          show Rn _ _ _ _ _ [] _ _
          refine r_goto (t := 56) F_238_135 rfl ?_
          exact (l45 e2 e3 e20 e21)
        · intro e22
          replace e22 : (q + (-1)) < 0 := (Int.not_le.mp e22)
          refine r_ldI_n (m := 3) F_238_127 rfl ?_
          refine r_ireturn F_238_128 rt_238 ?_
          exact (l46 e2 e3 e20 e22)
    · intro e23
      replace e23 : q = n := (Classical.not_not.mp e23)
      refine r_ldR_n (m := 0) F_238_65 rfl ?_
      refine r_getR (J := 17) F_238_66 o_238 fl_6_50 ty_77 (by decide) rfl (kd2 kd_77_17 (by decide)) (kd9 kd_77_17 (by decide)) rf_77_17 ?_
      refine r_ldI_n (m := 2) F_238_69 rfl ?_
      refine r_ldR_n (m := 0) F_238_70 rfl ?_
      refine r_ldI_n (m := 2) F_238_71 rfl ?_
      refine r_virt2 (A := [vI q]) (r := [vI q, vR 91]) (n := 1) F_238_72 o_238 il_6_220 rfl rfl rfl rfl ty_77 vy_224 (lay_le n_224 rfl) ?_
      refine Cl_of n_224 rfl ?_
      show Rn _ _ _ _ [some (vR 77), some (vI q)] [] _ _
      refine r_ldR_n (m := 0) F_224_0 rfl ?_
      refine r_ldI_n (m := 1) F_224_1 rfl ?_
      refine r_iconst F_224_2 ?_
      refine r_virt2 (A := [vI q, vI 0]) (r := []) (n := 2) F_224_3 o_224 il_6_204 rfl rfl rfl rfl ty_77 vy_222 (lay_le n_222 rfl) ?_
      refine sp_heldAtS (l47 e2 e23) e2 (l48 e2 e23) (l49 e2 e23) (by decide) (by decide) ?_
      show Rn _ _ _ _ _ [vI (hW s q 0)] _ _
      refine r_ldR_n (m := 0) F_224_6 rfl ?_
      refine r_ldI_n (m := 1) F_224_7 rfl ?_
      refine r_iconst F_224_8 ?_
      refine r_virt2 (A := [vI q, vI 1]) (r := [vI (hW s q 0)]) (n := 2) F_224_9 o_224 il_6_204 rfl rfl rfl rfl ty_77 vy_222 (lay_le n_222 rfl) ?_
      refine sp_heldAtS (l47 e2 e23) e2 (l48 e2 e23) (l49 e2 e23) (by decide) (by decide) ?_
      show Rn _ _ _ _ _ [vI (hW s q 1), vI (hW s q 0)] _ _
      refine r_iand F_224_12 rfl ?_
      refine r_ireturn F_224_13 rt_224 ?_
      show Rn _ _ _ _ _ [vI (iAnd (hW s q 0) (hW s q 1)), vI q, vR 91] _ _
      refine r_stat2 (A := [vI (iAnd (hW s q 0) (hW s q 1))]) (r := [vI q, vR 91]) (n := 1) F_238_75 o_238 il_6_230 (by decide) rfl rfl rfl rfl (lay_le n_232 rfl) ?_
      refine sp_ones  ?_
      show Rn _ _ _ _ _ [vI (on16 (iAnd (hW s q 0) (hW s q 1))), vI q, vR 91] _ _
      refine r_iast F_238_78 ty_91 e2 (lt_ln ln_91 (l50 e2 e23)) ?_
      refine r_ldR_n (m := 0) F_238_79 rfl ?_
      refine r_getR (J := 16) F_238_80 o_238 fl_6_47 ty_77 (by decide) rfl (kd2 kd_77_16 (by decide)) (kd9 kd_77_16 (by decide)) rf_77_16 ?_
      refine r_ldI_n (m := 2) F_238_83 rfl ?_
      refine r_bipush F_238_84 bi_8 ?_
      refine r_iast F_238_86 ty_90 e2 (lt_ln ln_90 (l50 e2 e23)) ?_
      refine r_ldR_n (m := 0) F_238_87 rfl ?_
      refine r_getR (J := 16) F_238_88 o_238 fl_6_47 ty_77 (by decide) rfl (kd2 kd_77_16 (by decide)) (kd9 kd_77_16 (by decide)) rf_77_16 ?_
      refine r_ldI_n (m := 2) F_238_91 rfl ?_
      refine r_iald (e := 8) F_238_92 ty_90 e2 (lt_ln ln_90 (l50 e2 e23)) upd_eq ?_
      refine r_bipush F_238_93 bi_8 ?_
      refine r_icmpF (t := 138) F_238_95 rfl (by decide) (by decide) (by show ¬ (¬ (8 : Int) = 8); decide) ?_
      refine r_ldR_n (m := 0) F_238_98 rfl ?_
      refine r_getR (J := 17) F_238_99 o_238 fl_6_50 ty_77 (by decide) rfl (kd2 kd_77_17 (by decide)) (kd9 kd_77_17 (by decide)) rf_77_17 ?_
      refine r_ldI_n (m := 2) F_238_102 rfl ?_
      refine r_iald (e := (on16 (iAnd (hW s q 0) (hW s q 1)))) F_238_103 ty_91 e2 (lt_ln ln_91 (l50 e2 e23)) ((upd_nc (by decide)).trans upd_eq) ?_
      refine r_stI_n (m := 3) (L' := [some (vR 77), some (vI n), some (vI q), some (vI (on16 (iAnd (hW s q 0) (hW s q 1))))]) F_238_104 rfl rfl ?_
      refine r_ldR_n (m := 0) F_238_105 rfl ?_
      refine r_getR (J := 16) F_238_106 o_238 fl_6_47 ty_77 (by decide) rfl (kd2 kd_77_16 (by decide)) (kd9 kd_77_16 (by decide)) rf_77_16 ?_
      refine r_ldI_n (m := 2) F_238_109 rfl ?_
      refine r_iconst F_238_110 ?_
      refine r_iast F_238_111 ty_90 e2 (lt_ln ln_90 (l50 e2 e23)) ?_
      refine r_ldR_n (m := 0) F_238_112 rfl ?_
      refine r_getR (J := 17) F_238_113 o_238 fl_6_50 ty_77 (by decide) rfl (kd2 kd_77_17 (by decide)) (kd9 kd_77_17 (by decide)) rf_77_17 ?_
      refine r_ldI_n (m := 2) F_238_116 rfl ?_
      refine r_bipush F_238_117 bi__9 ?_
      refine r_iast F_238_119 ty_91 e2 (lt_ln ln_91 (l50 e2 e23)) ?_
      refine r_iinc (m := 2) (e := (q + (-1))) (L' := [some (vR 77), some (vI n), some (vI (q + (-1))), some (vI (on16 (iAnd (hW s q 0) (hW s q 1))))]) F_238_120 rfl rfl rfl rfl ?_
      refine r_ldI_n (m := 2) F_238_123 rfl ?_
      refine r_if (t := 129) F_238_124 rfl (l51 e2 e23) ?_ ?_
      · intro e24
        replace e24 : 0 ≤ (q + (-1)) := e24
        refine r_ldR_n (m := 0) F_238_129 rfl ?_
        refine r_ldI_n (m := 2) F_238_130 rfl ?_
        refine r_ldI_n (m := 3) F_238_131 rfl ?_
        refine r_virt2 (A := [vI (q + (-1)), vI (on16 (iAnd (hW s q 0) (hW s q 1)))]) (r := []) (n := 2) F_238_132 o_238 il_6_242 rfl rfl rfl rfl ty_77 vy_239 (lay_le n_239 rfl) ?_
        refine sp_comes e24 (l52 e2 e23 e24) (l53 e2 e23 e24) (l54 e2 e23 e24) ?_
        show Rn _ _ _ _ _ [] _ _
        refine r_goto (t := 56) F_238_135 rfl ?_
        exact (l55 e2 e23 e24)
      · intro e25
        replace e25 : (q + (-1)) < 0 := (Int.not_le.mp e25)
        refine r_ldI_n (m := 3) F_238_127 rfl ?_
        refine r_ireturn F_238_128 rt_238 ?_
        exact (l56 e2 e23 e25)
