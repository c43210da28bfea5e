/-! walks: the calls of the class, chances, counts -/
theorem n_144 : m_n 144 = 1 := by decide +kernel
theorem F_144_0 : F 144 0 (.aload_n 0) 1 := ⟨1, by decide +kernel, rfl, rfl⟩
theorem F_144_1 : F 144 1 (.getfield 60) 4 := ⟨3, by decide +kernel, rfl, rfl⟩
theorem o_144 : m_o 144 = 5 := by decide +kernel
theorem F_144_4 : F 144 4 (.ireturn) 5 := ⟨1, by decide +kernel, rfl, rfl⟩
theorem rt_144 : m_r 144 = (some .int) := by decide +kernel
theorem n_147 : m_n 147 = 2 := by decide +kernel
theorem F_147_0 : F 147 0 (.iload_n 1) 1 := ⟨1, by decide +kernel, rfl, rfl⟩
theorem F_147_1 : F 147 1 (.tableswitch 150 0 10 #[59, 67, 75, 83, 91, 99, 110, 118, 126, 134, 142]) 60 := ⟨59, by decide +kernel, rfl, rfl⟩
theorem F_147_60 : F 147 60 (.aload_n 0) 61 := ⟨1, by decide +kernel, rfl, rfl⟩
theorem F_147_61 : F 147 61 (.getfield 34) 64 := ⟨3, by decide +kernel, rfl, rfl⟩
theorem o_147 : m_o 147 = 5 := by decide +kernel
theorem F_147_64 : F 147 64 (.invokevirtual 132) 67 := ⟨3, by decide +kernel, rfl, rfl⟩
theorem F_147_67 : F 147 67 (.ireturn) 68 := ⟨1, by decide +kernel, rfl, rfl⟩
theorem rt_147 : m_r 147 = (some .int) := by decide +kernel
theorem F_147_68 : F 147 68 (.aload_n 0) 69 := ⟨1, by decide +kernel, rfl, rfl⟩
theorem F_147_69 : F 147 69 (.getfield 34) 72 := ⟨3, by decide +kernel, rfl, rfl⟩
theorem F_147_72 : F 147 72 (.invokevirtual 200) 75 := ⟨3, by decide +kernel, rfl, rfl⟩
theorem F_147_75 : F 147 75 (.ireturn) 76 := ⟨1, by decide +kernel, rfl, rfl⟩
theorem F_147_76 : F 147 76 (.aload_n 0) 77 := ⟨1, by decide +kernel, rfl, rfl⟩
theorem F_147_77 : F 147 77 (.getfield 34) 80 := ⟨3, by decide +kernel, rfl, rfl⟩
theorem F_147_80 : F 147 80 (.invokevirtual 212) 83 := ⟨3, by decide +kernel, rfl, rfl⟩
theorem il_5_212 : ilq 5 212 0 92 0 = true := by decide +kernel
theorem vy_92 : (m_cls 1).1 = (m_y 92).cls ∧ 1 < m_cl.length := by decide +kernel
theorem n_92 : m_n 92 = 1 := by decide +kernel
theorem F_92_0 : F 92 0 (.aload_n 0) 1 := ⟨1, by decide +kernel, rfl, rfl⟩
theorem F_92_1 : F 92 1 (.getfield 43) 4 := ⟨3, by decide +kernel, rfl, rfl⟩
theorem o_92 : m_o 92 = 1 := by decide +kernel
theorem F_92_4 : F 92 4 (.ireturn) 5 := ⟨1, by decide +kernel, rfl, rfl⟩
theorem rt_92 : m_r 92 = (some .int) := by decide +kernel
theorem F_147_83 : F 147 83 (.ireturn) 84 := ⟨1, by decide +kernel, rfl, rfl⟩
theorem F_147_84 : F 147 84 (.aload_n 0) 85 := ⟨1, by decide +kernel, rfl, rfl⟩
theorem F_147_85 : F 147 85 (.getfield 34) 88 := ⟨3, by decide +kernel, rfl, rfl⟩
theorem F_147_88 : F 147 88 (.invokevirtual 297) 91 := ⟨3, by decide +kernel, rfl, rfl⟩
theorem il_5_297 : ilq 5 297 0 148 0 = true := by decide +kernel
theorem vy_148 : (m_cls 1).1 = (m_y 148).cls ∧ 1 < m_cl.length := by decide +kernel
theorem F_147_91 : F 147 91 (.ireturn) 92 := ⟨1, by decide +kernel, rfl, rfl⟩
theorem F_147_92 : F 147 92 (.aload_n 0) 93 := ⟨1, by decide +kernel, rfl, rfl⟩
theorem F_147_93 : F 147 93 (.getfield 34) 96 := ⟨3, by decide +kernel, rfl, rfl⟩
theorem F_147_96 : F 147 96 (.invokevirtual 300) 99 := ⟨3, by decide +kernel, rfl, rfl⟩
theorem il_5_300 : ilq 5 300 0 149 0 = true := by decide +kernel
theorem vy_149 : (m_cls 1).1 = (m_y 149).cls ∧ 1 < m_cl.length := by decide +kernel
theorem n_149 : m_n 149 = 1 := by decide +kernel
theorem F_149_0 : F 149 0 (.aload_n 0) 1 := ⟨1, by decide +kernel, rfl, rfl⟩
theorem F_149_1 : F 149 1 (.invokevirtual 114) 4 := ⟨3, by decide +kernel, rfl, rfl⟩
theorem o_149 : m_o 149 = 1 := by decide +kernel
theorem F_149_4 : F 149 4 (.ifCond .eq 18) 7 := ⟨3, by decide +kernel, rfl, rfl⟩
theorem F_149_22 : F 149 22 (.iconst 0) 23 := ⟨1, by decide +kernel, rfl, rfl⟩
theorem F_149_23 : F 149 23 (.ireturn) 24 := ⟨1, by decide +kernel, rfl, rfl⟩
theorem rt_149 : m_r 149 = (some .int) := by decide +kernel
theorem F_147_99 : F 147 99 (.ireturn) 100 := ⟨1, by decide +kernel, rfl, rfl⟩
theorem F_149_7 : F 149 7 (.bipush 10) 9 := ⟨2, by decide +kernel, rfl, rfl⟩
theorem F_149_9 : F 149 9 (.aload_n 0) 10 := ⟨1, by decide +kernel, rfl, rfl⟩
theorem F_149_10 : F 149 10 (.getfield 37) 13 := ⟨3, by decide +kernel, rfl, rfl⟩
theorem F_149_13 : F 149 13 (.imul) 14 := ⟨1, by decide +kernel, rfl, rfl⟩
theorem F_149_14 : F 149 14 (.aload_n 0) 15 := ⟨1, by decide +kernel, rfl, rfl⟩
theorem F_149_15 : F 149 15 (.getfield 40) 18 := ⟨3, by decide +kernel, rfl, rfl⟩
theorem F_149_18 : F 149 18 (.iadd) 19 := ⟨1, by decide +kernel, rfl, rfl⟩
theorem F_149_19 : F 149 19 (.goto 4) 22 := ⟨3, by decide +kernel, rfl, rfl⟩
theorem F_147_100 : F 147 100 (.aload_n 0) 101 := ⟨1, by decide +kernel, rfl, rfl⟩
theorem F_147_101 : F 147 101 (.getfield 34) 104 := ⟨3, by decide +kernel, rfl, rfl⟩
theorem F_147_104 : F 147 104 (.invokevirtual 149) 107 := ⟨3, by decide +kernel, rfl, rfl⟩
theorem F_147_107 : F 147 107 (.invokestatic 161) 110 := ⟨3, by decide +kernel, rfl, rfl⟩
theorem il_5_161 : ilq 5 161 1 74 1 = true := by decide +kernel
theorem F_147_110 : F 147 110 (.ireturn) 111 := ⟨1, by decide +kernel, rfl, rfl⟩
theorem F_147_111 : F 147 111 (.aload_n 0) 112 := ⟨1, by decide +kernel, rfl, rfl⟩
theorem F_147_112 : F 147 112 (.getfield 34) 115 := ⟨3, by decide +kernel, rfl, rfl⟩
theorem F_147_115 : F 147 115 (.invokevirtual 303) 118 := ⟨3, by decide +kernel, rfl, rfl⟩
theorem il_5_303 : ilq 5 303 0 150 0 = true := by decide +kernel
theorem vy_150 : (m_cls 1).1 = (m_y 150).cls ∧ 1 < m_cl.length := by decide +kernel
theorem F_147_118 : F 147 118 (.ireturn) 119 := ⟨1, by decide +kernel, rfl, rfl⟩
theorem F_147_119 : F 147 119 (.aload_n 0) 120 := ⟨1, by decide +kernel, rfl, rfl⟩
theorem F_147_120 : F 147 120 (.getfield 34) 123 := ⟨3, by decide +kernel, rfl, rfl⟩
theorem F_147_123 : F 147 123 (.invokevirtual 306) 126 := ⟨3, by decide +kernel, rfl, rfl⟩
theorem il_5_306 : ilq 5 306 0 151 0 = true := by decide +kernel
theorem vy_151 : (m_cls 1).1 = (m_y 151).cls ∧ 1 < m_cl.length := by decide +kernel
theorem F_147_126 : F 147 126 (.ireturn) 127 := ⟨1, by decide +kernel, rfl, rfl⟩
theorem F_147_127 : F 147 127 (.aload_n 0) 128 := ⟨1, by decide +kernel, rfl, rfl⟩
theorem F_147_128 : F 147 128 (.getfield 14) 131 := ⟨3, by decide +kernel, rfl, rfl⟩
theorem fl_5_14 : m_fl.lookup (5, 14) = some (5, 0, 1168) := by decide +kernel
theorem kd_0_0 : kd 0 0 = 3 := by decide +kernel
theorem rf_0_0 : rf 0 0 = 1 := by decide +kernel
theorem F_147_131 : F 147 131 (.invokevirtual 309) 134 := ⟨3, by decide +kernel, rfl, rfl⟩
theorem il_5_309 : ilq 5 309 0 152 0 = true := by decide +kernel
theorem vy_152 : (m_cls 3).1 = (m_y 152).cls ∧ 3 < m_cl.length := by decide +kernel
theorem F_147_134 : F 147 134 (.ireturn) 135 := ⟨1, by decide +kernel, rfl, rfl⟩
theorem F_147_135 : F 147 135 (.aload_n 0) 136 := ⟨1, by decide +kernel, rfl, rfl⟩
theorem F_147_136 : F 147 136 (.getfield 18) 139 := ⟨3, by decide +kernel, rfl, rfl⟩
theorem F_147_139 : F 147 139 (.invokevirtual 309) 142 := ⟨3, by decide +kernel, rfl, rfl⟩
theorem F_147_142 : F 147 142 (.ireturn) 143 := ⟨1, by decide +kernel, rfl, rfl⟩
theorem F_147_143 : F 147 143 (.aload_n 0) 144 := ⟨1, by decide +kernel, rfl, rfl⟩
theorem F_147_144 : F 147 144 (.getfield 21) 147 := ⟨3, by decide +kernel, rfl, rfl⟩
theorem F_147_147 : F 147 147 (.invokevirtual 309) 150 := ⟨3, by decide +kernel, rfl, rfl⟩
theorem F_147_150 : F 147 150 (.ireturn) 151 := ⟨1, by decide +kernel, rfl, rfl⟩
theorem F_147_151 : F 147 151 (.iconst (-1)) 152 := ⟨1, by decide +kernel, rfl, rfl⟩
theorem F_147_152 : F 147 152 (.ireturn) 153 := ⟨1, by decide +kernel, rfl, rfl⟩
theorem t_X5_asked {X : m_X} {d : Nat} {s : m_St} {P : Option Value → m_St → Prop}
    (l1 : P (some (vI (s 0 9))) s)
    : Cl X d 144 [vR 0] s P := by
  refine Cl_of n_144 rfl ?_
  show Rn _ _ _ _ [some (vR 0)] [] _ _
  refine r_ldR_n (m := 0) F_144_0 rfl ?_
  refine r_getI (J := 9) (e := (s 0 9)) F_144_1 o_144 fl_5_60 ty_0 (by decide) rfl kd_0_9 rfl ?_
  refine r_ireturn F_144_4 rt_144 ?_
  exact l1
theorem t_X5_count {X : m_X} {d : Nat} {s : m_St} {P : Option Value → m_St → Prop} {w : Int}
    (l1 : inR w)
    (l2 : w = 0 → P (some (vI (s 38 3))) s)
    (l3 : w = 1 → P (some (vI (s 38 6))) s)
    (l4 : w = 2 → P (some (vI (s 38 9))) s)
    (l5 : w = 3 → 0 ≤ (s 38 9))
    (l6 : w = 3 → (s 38 9) ≤ 40)
    (l7 : w = 3 → ∀ i, 0 ≤ i → i < s 38 9 → inR (s 41 i))
    (l8 : w = 3 → P (some (vI (syd s))) s)
    (l9 : w = 4 → inR (s 38 7))
    (l10 : w = 4 → (s 38 7) = (-1) → P (some (vI 0)) s)
    (l11 : w = 4 → ¬ (s 38 7) = (-1) → P (some (vI ((10 * (s 38 7)) + (s 38 8)))) s)
    (l12 : w = 5 → 0 ≤ (s 38 5))
    (l13 : w = 5 → (s 38 5) < 65536)
    (l14 : w = 5 → P (some (vI (bc (s 38 5)))) s)
    (l15 : w = 6 → 0 ≤ (s 38 3))
    (l16 : w = 6 → (s 38 3) ≤ 6)
    (l17 : w = 6 → P (some (vI (hba s (Int.toNat (s 38 3))))) s)
    (l18 : w = 7 → 0 ≤ (s 38 3))
    (l19 : w = 7 → (s 38 3) ≤ 6)
    (l20 : w = 7 → ∀ i, 0 ≤ i → i < s 38 3 → inR (s (44 + 4 * i) 1))
    (l21 : w = 7 → P (some (vI (bsh s))) s)
    (l22 : w = 8 → ∀ r, 0 ≤ r → r < 6 → inR (s 2 r))
    (l23 : w = 8 → P (some (vI (thr1 s))) s)
    (l24 : w = 9 → ∀ r, 0 ≤ r → r < 4 → inR (s 11 r))
    (l25 : w = 9 → P (some (vI (thr10 s))) s)
    (l26 : w = 10 → ∀ r, 0 ≤ r → r < 3 → inR (s 18 r))
    (l27 : w = 10 → P (some (vI (thr17 s))) s)
    (l28 : (w < 0 ∨ 10 < w) → P (some (vI (-1))) s)
    : Cl X (d + 4) 147 [vR 0, vI w] s P := by
  refine Cl_of n_147 rfl ?_
  show Rn _ _ _ _ [some (vR 0), some (vI w)] [] _ _
  refine r_ldI_n (m := 1) F_147_0 rfl ?_
  rcases (show w = 0 ∨ w = 1 ∨ w = 2 ∨ w = 3 ∨ w = 4 ∨ w = 5 ∨ w = 6 ∨ w = 7 ∨ w = 8 ∨ w = 9 ∨ w = 10 ∨ (w < 0 ∨ 10 < w) by omega) with hh | hh | hh | hh | hh | hh | hh | hh | hh | hh | hh | hh
  · have e1 := hh
    refine r_tswI (t := 60) (z := 59) (i := 0) F_147_1 l1 rfl rfl (by omega) (by decide) ?_
    refine r_ldR_n (m := 0) F_147_60 rfl ?_
    refine r_getR (J := 4) F_147_61 o_147 fl_5_34 ty_0 (by decide) rfl (kd2 kd_0_4 (by decide)) (kd9 kd_0_4 (by decide)) rf_0_4 ?_
    refine r_virt2 (A := []) (r := []) (n := 0) F_147_64 o_147 il_5_132 rfl rfl rfl rfl ty_38 vy_64 (lay_le n_64 rfl) ?_
    refine Cl_of n_64 rfl ?_
    show Rn _ _ _ _ [some (vR 38)] [] _ _
    refine r_ldR_n (m := 0) F_64_0 rfl ?_
    refine r_getI (J := 3) (e := (s 38 3)) F_64_1 o_64 fl_1_24 ty_38 (by decide) rfl kd_38_3 rfl ?_
    refine r_ireturn F_64_4 rt_64 ?_
    show Rn _ _ _ _ _ [vI (s 38 3)] _ _
    refine r_ireturn F_147_67 rt_147 ?_
    exact (l2 e1)
  · have e2 := hh
    refine r_tswI (t := 68) (z := 67) (i := 1) F_147_1 l1 rfl rfl (by omega) (by decide) ?_
    refine r_ldR_n (m := 0) F_147_68 rfl ?_
    refine r_getR (J := 4) F_147_69 o_147 fl_5_34 ty_0 (by decide) rfl (kd2 kd_0_4 (by decide)) (kd9 kd_0_4 (by decide)) rf_0_4 ?_
    refine r_virt2 (A := []) (r := []) (n := 0) F_147_72 o_147 il_5_200 rfl rfl rfl rfl ty_38 vy_88 (lay_le n_88 rfl) ?_
    refine Cl_of n_88 rfl ?_
    show Rn _ _ _ _ [some (vR 38)] [] _ _
    refine r_ldR_n (m := 0) F_88_0 rfl ?_
    refine r_getI (J := 6) (e := (s 38 6)) F_88_1 o_88 fl_1_34 ty_38 (by decide) rfl kd_38_6 rfl ?_
    refine r_ireturn F_88_4 rt_88 ?_
    show Rn _ _ _ _ _ [vI (s 38 6)] _ _
    refine r_ireturn F_147_75 rt_147 ?_
    exact (l3 e2)
  · have e3 := hh
    refine r_tswI (t := 76) (z := 75) (i := 2) F_147_1 l1 rfl rfl (by omega) (by decide) ?_
    refine r_ldR_n (m := 0) F_147_76 rfl ?_
    refine r_getR (J := 4) F_147_77 o_147 fl_5_34 ty_0 (by decide) rfl (kd2 kd_0_4 (by decide)) (kd9 kd_0_4 (by decide)) rf_0_4 ?_
    refine r_virt2 (A := []) (r := []) (n := 0) F_147_80 o_147 il_5_212 rfl rfl rfl rfl ty_38 vy_92 (lay_le n_92 rfl) ?_
    refine Cl_of n_92 rfl ?_
    show Rn _ _ _ _ [some (vR 38)] [] _ _
    refine r_ldR_n (m := 0) F_92_0 rfl ?_
    refine r_getI (J := 9) (e := (s 38 9)) F_92_1 o_92 fl_1_43 ty_38 (by decide) rfl kd_38_9 rfl ?_
    refine r_ireturn F_92_4 rt_92 ?_
    show Rn _ _ _ _ _ [vI (s 38 9)] _ _
    refine r_ireturn F_147_83 rt_147 ?_
    exact (l4 e3)
  · have e4 := hh
    refine r_tswI (t := 84) (z := 83) (i := 3) F_147_1 l1 rfl rfl (by omega) (by decide) ?_
    refine r_ldR_n (m := 0) F_147_84 rfl ?_
    refine r_getR (J := 4) F_147_85 o_147 fl_5_34 ty_0 (by decide) rfl (kd2 kd_0_4 (by decide)) (kd9 kd_0_4 (by decide)) rf_0_4 ?_
    refine r_virt2 (A := []) (r := []) (n := 0) F_147_88 o_147 il_5_297 rfl rfl rfl rfl ty_38 vy_148 (lay_le n_148 rfl) ?_
    refine sp_sayingsDone (l5 e4) (l6 e4) (l7 e4) ?_
    show Rn _ _ _ _ _ [vI (syd s)] _ _
    refine r_ireturn F_147_91 rt_147 ?_
    exact (l8 e4)
  · have e5 := hh
    refine r_tswI (t := 92) (z := 91) (i := 4) F_147_1 l1 rfl rfl (by omega) (by decide) ?_
    refine r_ldR_n (m := 0) F_147_92 rfl ?_
    refine r_getR (J := 4) F_147_93 o_147 fl_5_34 ty_0 (by decide) rfl (kd2 kd_0_4 (by decide)) (kd9 kd_0_4 (by decide)) rf_0_4 ?_
    refine r_virt2 (A := []) (r := []) (n := 0) F_147_96 o_147 il_5_300 rfl rfl rfl rfl ty_38 vy_149 (lay_le n_149 rfl) ?_
    refine Cl_of n_149 rfl ?_
    show Rn _ _ _ _ [some (vR 38)] [] _ _
    refine r_ldR_n (m := 0) F_149_0 rfl ?_
    refine r_virt2 (A := []) (r := []) (n := 0) F_149_1 o_149 il_1_114 rfl rfl rfl rfl ty_38 vy_84 (lay_le n_84 rfl) ?_
    refine Cl_of n_84 rfl ?_
    show Rn _ _ _ _ [some (vR 38)] [] _ _
    refine r_ldR_n (m := 0) F_84_0 rfl ?_
    refine r_getI (J := 7) (e := (s 38 7)) F_84_1 o_84 fl_1_37 ty_38 (by decide) rfl kd_38_7 rfl ?_
    refine r_iconst F_84_4 ?_
    refine r_icmp (t := 12) F_84_5 rfl (l9 e5) (by decide) ?_ ?_
    · intro e6
      replace e6 : (s 38 7) = (-1) := e6
      refine r_iconst F_84_12 ?_
      refine r_zreturn F_84_13 rt_84 (Or.inl rfl) ?_
      show Rn _ _ _ _ _ [vI 0] _ _
      refine r_ifT (t := 22) F_149_4 rfl (by decide) (by show (0 : Int) = 0; decide) ?_
      refine r_iconst F_149_22 ?_
      refine r_ireturn F_149_23 rt_149 ?_
      show Rn _ _ _ _ _ [vI 0] _ _
      refine r_ireturn F_147_99 rt_147 ?_
      exact (l10 e5 e6)
    · intro e7
      replace e7 : ¬ (s 38 7) = (-1) := e7
      refine r_iconst F_84_8 ?_
      refine r_goto (t := 13) F_84_9 rfl ?_
      refine r_zreturn F_84_13 rt_84 (Or.inr rfl) ?_
      show Rn _ _ _ _ _ [vI 1] _ _
      refine r_ifF (t := 22) F_149_4 rfl (by decide) (by show ¬ ((1 : Int) = 0); decide) ?_
      refine r_bipush F_149_7 bi_10 ?_
      refine r_ldR_n (m := 0) F_149_9 rfl ?_
      refine r_getI (J := 7) (e := (s 38 7)) F_149_10 o_149 fl_1_37 ty_38 (by decide) rfl kd_38_7 rfl ?_
      refine r_imul F_149_13 rfl ?_
      refine r_ldR_n (m := 0) F_149_14 rfl ?_
      refine r_getI (J := 8) (e := (s 38 8)) F_149_15 o_149 fl_1_40 ty_38 (by decide) rfl kd_38_8 rfl ?_
      refine r_iadd F_149_18 rfl ?_
      refine r_goto (t := 23) F_149_19 rfl ?_
      refine r_ireturn F_149_23 rt_149 ?_
      show Rn _ _ _ _ _ [vI ((10 * (s 38 7)) + (s 38 8))] _ _
      refine r_ireturn F_147_99 rt_147 ?_
      exact (l11 e5 e7)
  · have e8 := hh
    refine r_tswI (t := 100) (z := 99) (i := 5) F_147_1 l1 rfl rfl (by omega) (by decide) ?_
    refine r_ldR_n (m := 0) F_147_100 rfl ?_
    refine r_getR (J := 4) F_147_101 o_147 fl_5_34 ty_0 (by decide) rfl (kd2 kd_0_4 (by decide)) (kd9 kd_0_4 (by decide)) rf_0_4 ?_
    refine r_virt2 (A := []) (r := []) (n := 0) F_147_104 o_147 il_5_149 rfl rfl rfl rfl ty_38 vy_71 (lay_le n_71 rfl) ?_
    refine Cl_of n_71 rfl ?_
    show Rn _ _ _ _ [some (vR 38)] [] _ _
    refine r_ldR_n (m := 0) F_71_0 rfl ?_
    refine r_getI (J := 5) (e := (s 38 5)) F_71_1 o_71 fl_1_31 ty_38 (by decide) rfl kd_38_5 rfl ?_
    refine r_ireturn F_71_4 rt_71 ?_
    show Rn _ _ _ _ _ [vI (s 38 5)] _ _
    refine r_stat2 (A := [vI (s 38 5)]) (r := []) (n := 1) F_147_107 o_147 il_5_161 (by decide) rfl rfl rfl rfl (lay_le n_74 rfl) ?_
    refine sp_bitCount (l12 e8) (l13 e8) ?_
    show Rn _ _ _ _ _ [vI (bc (s 38 5))] _ _
    refine r_ireturn F_147_110 rt_147 ?_
    exact (l14 e8)
  · have e9 := hh
    refine r_tswI (t := 111) (z := 110) (i := 6) F_147_1 l1 rfl rfl (by omega) (by decide) ?_
    refine r_ldR_n (m := 0) F_147_111 rfl ?_
    refine r_getR (J := 4) F_147_112 o_147 fl_5_34 ty_0 (by decide) rfl (kd2 kd_0_4 (by decide)) (kd9 kd_0_4 (by decide)) rf_0_4 ?_
    refine r_virt2 (A := []) (r := []) (n := 0) F_147_115 o_147 il_5_303 rfl rfl rfl rfl ty_38 vy_150 (lay_le n_150 rfl) ?_
    refine sp_heldByAll (l15 e9) (l16 e9) ?_
    show Rn _ _ _ _ _ [vI (hba s (Int.toNat (s 38 3)))] _ _
    refine r_ireturn F_147_118 rt_147 ?_
    exact (l17 e9)
  · have e10 := hh
    refine r_tswI (t := 119) (z := 118) (i := 7) F_147_1 l1 rfl rfl (by omega) (by decide) ?_
    refine r_ldR_n (m := 0) F_147_119 rfl ?_
    refine r_getR (J := 4) F_147_120 o_147 fl_5_34 ty_0 (by decide) rfl (kd2 kd_0_4 (by decide)) (kd9 kd_0_4 (by decide)) rf_0_4 ?_
    refine r_virt2 (A := []) (r := []) (n := 0) F_147_123 o_147 il_5_306 rfl rfl rfl rfl ty_38 vy_151 (lay_le n_151 rfl) ?_
    refine sp_bishops (l18 e10) (l19 e10) (l20 e10) ?_
    show Rn _ _ _ _ _ [vI (bsh s)] _ _
    refine r_ireturn F_147_126 rt_147 ?_
    exact (l21 e10)
  · have e11 := hh
    refine r_tswI (t := 127) (z := 126) (i := 8) F_147_1 l1 rfl rfl (by omega) (by decide) ?_
    refine r_ldR_n (m := 0) F_147_127 rfl ?_
    refine r_getR (J := 0) F_147_128 o_147 fl_5_14 ty_0 (by decide) rfl (kd2 kd_0_0 (by decide)) (kd9 kd_0_0 (by decide)) rf_0_0 ?_
    refine r_virt2 (A := []) (r := []) (n := 0) F_147_131 o_147 il_5_309 rfl rfl rfl rfl ty_1 vy_152 (lay_le n_152 rfl) ?_
    refine sp_there1 (l22 e11) ?_
    show Rn _ _ _ _ _ [vI (thr1 s)] _ _
    refine r_ireturn F_147_134 rt_147 ?_
    exact (l23 e11)
  · have e12 := hh
    refine r_tswI (t := 135) (z := 134) (i := 9) F_147_1 l1 rfl rfl (by omega) (by decide) ?_
    refine r_ldR_n (m := 0) F_147_135 rfl ?_
    refine r_getR (J := 1) F_147_136 o_147 fl_5_18 ty_0 (by decide) rfl (kd2 kd_0_1 (by decide)) (kd9 kd_0_1 (by decide)) rf_0_1 ?_
    refine r_virt2 (A := []) (r := []) (n := 0) F_147_139 o_147 il_5_309 rfl rfl rfl rfl ty_10 vy_152 (lay_le n_152 rfl) ?_
    refine sp_there10 (l24 e12) ?_
    show Rn _ _ _ _ _ [vI (thr10 s)] _ _
    refine r_ireturn F_147_142 rt_147 ?_
    exact (l25 e12)
  · have e13 := hh
    refine r_tswI (t := 143) (z := 142) (i := 10) F_147_1 l1 rfl rfl (by omega) (by decide) ?_
    refine r_ldR_n (m := 0) F_147_143 rfl ?_
    refine r_getR (J := 2) F_147_144 o_147 fl_5_21 ty_0 (by decide) rfl (kd2 kd_0_2 (by decide)) (kd9 kd_0_2 (by decide)) rf_0_2 ?_
    refine r_virt2 (A := []) (r := []) (n := 0) F_147_147 o_147 il_5_309 rfl rfl rfl rfl ty_17 vy_152 (lay_le n_152 rfl) ?_
    refine sp_there17 (l26 e13) ?_
    show Rn _ _ _ _ _ [vI (thr17 s)] _ _
    refine r_ireturn F_147_150 rt_147 ?_
    exact (l27 e13)
  · have e14 := hh
    refine r_tswD (t := 151) F_147_1 l1 rfl e14 ?_
    refine r_iconst F_147_151 ?_
    refine r_ireturn F_147_152 rt_147 ?_
    exact (l28 e14)
