/-! walks: ways of the reference -/
theorem n_228 : m_n 228 = 7 := by decide +kernel
theorem F_228_0 : F 228 0 (.iload_n 1) 1 := ⟨1, by decide +kernel, rfl, rfl⟩
theorem F_228_1 : F 228 1 (.iconst 0) 2 := ⟨1, by decide +kernel, rfl, rfl⟩
theorem F_228_2 : F 228 2 (.bipush 15) 4 := ⟨2, by decide +kernel, rfl, rfl⟩
theorem F_228_4 : F 228 4 (.invokestatic 67) 7 := ⟨3, by decide +kernel, rfl, rfl⟩
theorem o_228 : m_o 228 = 6 := by decide +kernel
theorem F_228_7 : F 228 7 (.ifCond .eq 12) 10 := ⟨3, by decide +kernel, rfl, rfl⟩
theorem F_228_19 : F 228 19 (.iconst (-1)) 20 := ⟨1, by decide +kernel, rfl, rfl⟩
theorem F_228_20 : F 228 20 (.ireturn) 21 := ⟨1, by decide +kernel, rfl, rfl⟩
theorem rt_228 : m_r 228 = (some .int) := by decide +kernel
theorem F_228_10 : F 228 10 (.iload_n 2) 11 := ⟨1, by decide +kernel, rfl, rfl⟩
theorem F_228_11 : F 228 11 (.iconst 0) 12 := ⟨1, by decide +kernel, rfl, rfl⟩
theorem F_228_12 : F 228 12 (.iconst 5) 13 := ⟨1, by decide +kernel, rfl, rfl⟩
theorem F_228_13 : F 228 13 (.invokestatic 67) 16 := ⟨3, by decide +kernel, rfl, rfl⟩
theorem F_228_16 : F 228 16 (.ifCond .ne 5) 19 := ⟨3, by decide +kernel, rfl, rfl⟩
theorem F_228_21 : F 228 21 (.aload_n 0) 22 := ⟨1, by decide +kernel, rfl, rfl⟩
theorem F_228_22 : F 228 22 (.invokevirtual 182) 25 := ⟨3, by decide +kernel, rfl, rfl⟩
theorem F_228_25 : F 228 25 (.ifCond .ne 6) 28 := ⟨3, by decide +kernel, rfl, rfl⟩
theorem F_228_28 : F 228 28 (.bipush (-4)) 30 := ⟨2, by decide +kernel, rfl, rfl⟩
theorem F_228_30 : F 228 30 (.ireturn) 31 := ⟨1, by decide +kernel, rfl, rfl⟩
theorem F_228_31 : F 228 31 (.aload_n 0) 32 := ⟨1, by decide +kernel, rfl, rfl⟩
theorem F_228_32 : F 228 32 (.invokevirtual 210) 35 := ⟨3, by decide +kernel, rfl, rfl⟩
theorem F_228_35 : F 228 35 (.iconst 0) 36 := ⟨1, by decide +kernel, rfl, rfl⟩
theorem F_228_36 : F 228 36 (.istore_n 3) 37 := ⟨1, by decide +kernel, rfl, rfl⟩
theorem F_228_37 : F 228 37 (.bipush 15) 39 := ⟨2, by decide +kernel, rfl, rfl⟩
theorem F_228_39 : F 228 39 (.istore 4) 41 := ⟨2, by decide +kernel, rfl, rfl⟩
theorem F_228_41 : F 228 41 (.aload_n 0) 42 := ⟨1, by decide +kernel, rfl, rfl⟩
theorem F_228_42 : F 228 42 (.iload_n 2) 43 := ⟨1, by decide +kernel, rfl, rfl⟩
theorem F_228_43 : F 228 43 (.iconst 1) 44 := ⟨1, by decide +kernel, rfl, rfl⟩
theorem F_228_44 : F 228 44 (.invokevirtual 223) 47 := ⟨3, by decide +kernel, rfl, rfl⟩
theorem F_228_47 : F 228 47 (.istore 5) 49 := ⟨2, by decide +kernel, rfl, rfl⟩
theorem F_228_49 : F 228 49 (.iload 5) 51 := ⟨2, by decide +kernel, rfl, rfl⟩
theorem F_228_51 : F 228 51 (.ifCond .eq 66) 54 := ⟨3, by decide +kernel, rfl, rfl⟩
theorem F_228_117 : F 228 117 (.aload_n 0) 118 := ⟨1, by decide +kernel, rfl, rfl⟩
theorem F_228_118 : F 228 118 (.iload_n 3) 119 := ⟨1, by decide +kernel, rfl, rfl⟩
theorem F_228_119 : F 228 119 (.i2l) 120 := ⟨1, by decide +kernel, rfl, rfl⟩
theorem F_228_120 : F 228 120 (.putfield 64) 123 := ⟨3, by decide +kernel, rfl, rfl⟩
theorem pf_6_12 : pfT 6 12 .long = true := by decide +kernel
theorem F_228_123 : F 228 123 (.aload_n 0) 124 := ⟨1, by decide +kernel, rfl, rfl⟩
theorem F_228_124 : F 228 124 (.lconst 1) 125 := ⟨1, by decide +kernel, rfl, rfl⟩
theorem F_228_125 : F 228 125 (.putfield 53) 128 := ⟨3, by decide +kernel, rfl, rfl⟩
theorem pf_6_13 : pfT 6 13 .long = true := by decide +kernel
theorem F_228_128 : F 228 128 (.aload_n 0) 129 := ⟨1, by decide +kernel, rfl, rfl⟩
theorem F_228_129 : F 228 129 (.iconst 1) 130 := ⟨1, by decide +kernel, rfl, rfl⟩
theorem F_228_130 : F 228 130 (.iload_n 3) 131 := ⟨1, by decide +kernel, rfl, rfl⟩
theorem F_228_131 : F 228 131 (.ifCond .ne 7) 134 := ⟨3, by decide +kernel, rfl, rfl⟩
theorem F_228_138 : F 228 138 (.iload 4) 140 := ⟨2, by decide +kernel, rfl, rfl⟩
theorem F_228_140 : F 228 140 (.invokevirtual 87) 143 := ⟨3, by decide +kernel, rfl, rfl⟩
theorem F_228_143 : F 228 143 (.ireturn) 144 := ⟨1, by decide +kernel, rfl, rfl⟩
theorem F_228_134 : F 228 134 (.iconst 0) 135 := ⟨1, by decide +kernel, rfl, rfl⟩
theorem F_228_135 : F 228 135 (.goto 5) 138 := ⟨3, by decide +kernel, rfl, rfl⟩
theorem F_228_54 : F 228 54 (.iload_n 1) 55 := ⟨1, by decide +kernel, rfl, rfl⟩
theorem F_228_55 : F 228 55 (.aload_n 0) 56 := ⟨1, by decide +kernel, rfl, rfl⟩
theorem F_228_56 : F 228 56 (.iload_n 2) 57 := ⟨1, by decide +kernel, rfl, rfl⟩
theorem F_228_57 : F 228 57 (.invokevirtual 220) 60 := ⟨3, by decide +kernel, rfl, rfl⟩
theorem F_228_60 : F 228 60 (.iconst (-1)) 61 := ⟨1, by decide +kernel, rfl, rfl⟩
theorem F_228_61 : F 228 61 (.ixor) 62 := ⟨1, by decide +kernel, rfl, rfl⟩
theorem F_228_62 : F 228 62 (.iand) 63 := ⟨1, by decide +kernel, rfl, rfl⟩
theorem F_228_63 : F 228 63 (.ifCond .ne 7) 66 := ⟨3, by decide +kernel, rfl, rfl⟩
theorem F_228_70 : F 228 70 (.iconst 0) 71 := ⟨1, by decide +kernel, rfl, rfl⟩
theorem F_228_71 : F 228 71 (.istore 6) 73 := ⟨2, by decide +kernel, rfl, rfl⟩
theorem F_228_73 : F 228 73 (.iload_n 3) 74 := ⟨1, by decide +kernel, rfl, rfl⟩
theorem F_228_74 : F 228 74 (.iload 6) 76 := ⟨2, by decide +kernel, rfl, rfl⟩
theorem F_228_76 : F 228 76 (.ifCond .eq 7) 79 := ⟨3, by decide +kernel, rfl, rfl⟩
theorem F_228_83 : F 228 83 (.iconst 0) 84 := ⟨1, by decide +kernel, rfl, rfl⟩
theorem F_228_84 : F 228 84 (.iadd) 85 := ⟨1, by decide +kernel, rfl, rfl⟩
theorem F_228_85 : F 228 85 (.istore_n 3) 86 := ⟨1, by decide +kernel, rfl, rfl⟩
theorem F_228_86 : F 228 86 (.iload 4) 88 := ⟨2, by decide +kernel, rfl, rfl⟩
theorem F_228_88 : F 228 88 (.iload 6) 90 := ⟨2, by decide +kernel, rfl, rfl⟩
theorem F_228_90 : F 228 90 (.ifCond .eq 11) 93 := ⟨3, by decide +kernel, rfl, rfl⟩
theorem F_228_101 : F 228 101 (.bipush 15) 103 := ⟨2, by decide +kernel, rfl, rfl⟩
theorem F_228_103 : F 228 103 (.iand) 104 := ⟨1, by decide +kernel, rfl, rfl⟩
theorem F_228_104 : F 228 104 (.istore 4) 106 := ⟨2, by decide +kernel, rfl, rfl⟩
theorem F_228_106 : F 228 106 (.aload_n 0) 107 := ⟨1, by decide +kernel, rfl, rfl⟩
theorem F_228_107 : F 228 107 (.iload_n 2) 108 := ⟨1, by decide +kernel, rfl, rfl⟩
theorem F_228_108 : F 228 108 (.iconst 0) 109 := ⟨1, by decide +kernel, rfl, rfl⟩
theorem F_228_109 : F 228 109 (.invokevirtual 223) 112 := ⟨3, by decide +kernel, rfl, rfl⟩
theorem F_228_66 : F 228 66 (.iconst 1) 67 := ⟨1, by decide +kernel, rfl, rfl⟩
theorem F_228_67 : F 228 67 (.goto 4) 70 := ⟨3, by decide +kernel, rfl, rfl⟩
theorem F_228_79 : F 228 79 (.iconst 1) 80 := ⟨1, by decide +kernel, rfl, rfl⟩
theorem F_228_80 : F 228 80 (.goto 4) 83 := ⟨3, by decide +kernel, rfl, rfl⟩
theorem F_228_93 : F 228 93 (.aload_n 0) 94 := ⟨1, by decide +kernel, rfl, rfl⟩
theorem F_228_94 : F 228 94 (.iload_n 2) 95 := ⟨1, by decide +kernel, rfl, rfl⟩
theorem F_228_95 : F 228 95 (.invokevirtual 220) 98 := ⟨3, by decide +kernel, rfl, rfl⟩
theorem F_228_98 : F 228 98 (.goto 5) 101 := ⟨3, by decide +kernel, rfl, rfl⟩
theorem F_228_112 : F 228 112 (.istore 5) 114 := ⟨2, by decide +kernel, rfl, rfl⟩
theorem F_228_114 : F 228 114 (.goto (-65)) 117 := ⟨3, by decide +kernel, rfl, rfl⟩
theorem t_X6_ways {X : List Int32} {d : Nat} {s : m_St} {P : Option Value → m_St → Prop} {c n : Int}
    (l1 : inR c)
    (l2 : c < 0 → P (some (vI (-1))) s)
    (l3 : 0 ≤ c → 15 < c → P (some (vI (-1))) s)
    (l4 : 0 ≤ c → c ≤ 15 → inR n)
    (l5 : 0 ≤ c → c ≤ 15 → n < 0 → P (some (vI (-1))) s)
    (l6 : 0 ≤ c → c ≤ 15 → 0 ≤ n → 5 < n → P (some (vI (-1))) s)
    (l7 : 0 ≤ c → c ≤ 15 → 0 ≤ n → n ≤ 5 → inR (s 83 5))
    (l8 : 0 ≤ c → c ≤ 15 → 0 ≤ n → n ≤ 5 → (s 83 5) ≤ 0 → P (some (vI (-4))) s)
    (l9 : 0 ≤ c → c ≤ 15 → 0 ≤ n → n ≤ 5 → 0 < (s 83 5) → 0 ≤ ((s 83 5) - 1))
    (l10 : 0 ≤ c → c ≤ 15 → 0 ≤ n → n ≤ 5 → 0 < (s 83 5) → ((s 83 5) - 1) < 6)
    (l11 : 0 ≤ c → c ≤ 15 → 0 ≤ n → n ≤ 5 → 0 < (s 83 5) → 0 ≤ ((s 83 6) - 1))
    (l12 : 0 ≤ c → c ≤ 15 → 0 ≤ n → n ≤ 5 → 0 < (s 83 5) → ((s 83 6) - 1) < 6)
    (l13 : 0 ≤ c → c ≤ 15 → 0 ≤ n → n ≤ 5 → 0 < (s 83 5) → ∀ (s11 : m_St), qOp s ((s 83 5) - 1) ((s 83 6) - 1) s11 → Cl X (d + 4) 227 [vR 77, vI n, vI 1] s11 (fun v s' => Rn X (d + 5) 228 47 [some (vR 77), some (vI c), some (vI n), some (vI 0), some (vI 15), none, none] (m_push v []) s' P))
    : Cl X (d + 5) 228 [vR 77, vI c, vI n] s P := by
  refine Cl_of n_228 rfl ?_
  show Rn _ _ _ _ [some (vR 77), some (vI c), some (vI n), none, none, none, none] [] _ _
  refine r_ldI_n (m := 1) F_228_0 rfl ?_
  refine r_iconst F_228_1 ?_
  refine r_bipush F_228_2 bi_15 ?_
  refine r_stat2 (A := [vI c, vI 0, vI 15]) (r := []) (n := 3) F_228_4 o_228 il_6_67 (by decide) rfl rfl rfl rfl (lay_le n_160 rfl) ?_
  refine Cl_of n_160 rfl ?_
  show Rn _ _ _ _ [some (vI c), some (vI 0), some (vI 15)] [] _ _
  refine r_ldI_n (m := 0) F_160_0 rfl ?_
  refine r_ldI_n (m := 1) F_160_1 rfl ?_
  refine r_icmp (t := 14) F_160_2 rfl l1 (by decide) ?_ ?_
  · intro e1
    replace e1 : c < 0 := e1
    refine r_iconst F_160_14 ?_
    refine r_zreturn F_160_15 rt_160 (Or.inl rfl) ?_
    show Rn _ _ _ _ _ [vI 0] _ _
    refine r_ifT (t := 19) F_228_7 rfl (by decide) (by show (0 : Int) = 0; decide) ?_
    refine r_iconst F_228_19 ?_
    refine r_ireturn F_228_20 rt_228 ?_
    exact (l2 e1)
  · intro e2
    replace e2 : 0 ≤ c := (Int.not_lt.mp e2)
    refine r_ldI_n (m := 0) F_160_5 rfl ?_
    refine r_ldI_n (m := 2) F_160_6 rfl ?_
    refine r_icmp (t := 14) F_160_7 rfl l1 (by decide) ?_ ?_
    · intro e3
      replace e3 : 15 < c := e3
      refine r_iconst F_160_14 ?_
      refine r_zreturn F_160_15 rt_160 (Or.inl rfl) ?_
      show Rn _ _ _ _ _ [vI 0] _ _
      refine r_ifT (t := 19) F_228_7 rfl (by decide) (by show (0 : Int) = 0; decide) ?_
      refine r_iconst F_228_19 ?_
      refine r_ireturn F_228_20 rt_228 ?_
      exact (l3 e2 e3)
    · intro e4
      replace e4 : c ≤ 15 := (Int.not_lt.mp e4)
      refine r_iconst F_160_10 ?_
      refine r_goto (t := 15) F_160_11 rfl ?_
      refine r_zreturn F_160_15 rt_160 (Or.inr rfl) ?_
      show Rn _ _ _ _ _ [vI 1] _ _
      refine r_ifF (t := 19) F_228_7 rfl (by decide) (by show ¬ ((1 : Int) = 0); decide) ?_
      refine r_ldI_n (m := 2) F_228_10 rfl ?_
      refine r_iconst F_228_11 ?_
      refine r_iconst F_228_12 ?_
      refine r_stat2 (A := [vI n, vI 0, vI 5]) (r := []) (n := 3) F_228_13 o_228 il_6_67 (by decide) rfl rfl rfl rfl (lay_le n_160 rfl) ?_
      refine Cl_of n_160 rfl ?_
      show Rn _ _ _ _ [some (vI n), some (vI 0), some (vI 5)] [] _ _
      refine r_ldI_n (m := 0) F_160_0 rfl ?_
      refine r_ldI_n (m := 1) F_160_1 rfl ?_
      refine r_icmp (t := 14) F_160_2 rfl (l4 e2 e4) (by decide) ?_ ?_
      · intro e5
        replace e5 : n < 0 := e5
        refine r_iconst F_160_14 ?_
        refine r_zreturn F_160_15 rt_160 (Or.inl rfl) ?_
        show Rn _ _ _ _ _ [vI 0] _ _
        refine r_ifF (t := 21) F_228_16 rfl (by decide) (by show ¬ (¬ (0 : Int) = 0); decide) ?_
        refine r_iconst F_228_19 ?_
        refine r_ireturn F_228_20 rt_228 ?_
        exact (l5 e2 e4 e5)
      · intro e6
        replace e6 : 0 ≤ n := (Int.not_lt.mp e6)
        refine r_ldI_n (m := 0) F_160_5 rfl ?_
        refine r_ldI_n (m := 2) F_160_6 rfl ?_
        refine r_icmp (t := 14) F_160_7 rfl (l4 e2 e4) (by decide) ?_ ?_
        · intro e7
          replace e7 : 5 < n := e7
          refine r_iconst F_160_14 ?_
          refine r_zreturn F_160_15 rt_160 (Or.inl rfl) ?_
          show Rn _ _ _ _ _ [vI 0] _ _
          refine r_ifF (t := 21) F_228_16 rfl (by decide) (by show ¬ (¬ (0 : Int) = 0); decide) ?_
          refine r_iconst F_228_19 ?_
          refine r_ireturn F_228_20 rt_228 ?_
          exact (l6 e2 e4 e6 e7)
        · intro e8
          replace e8 : n ≤ 5 := (Int.not_lt.mp e8)
          refine r_iconst F_160_10 ?_
          refine r_goto (t := 15) F_160_11 rfl ?_
          refine r_zreturn F_160_15 rt_160 (Or.inr rfl) ?_
          show Rn _ _ _ _ _ [vI 1] _ _
          refine r_ifT (t := 21) F_228_16 rfl (by decide) (by show ¬ (1 : Int) = 0; decide) ?_
          refine r_ldR_n (m := 0) F_228_21 rfl ?_
          refine r_virt2 (A := []) (r := []) (n := 0) F_228_22 o_228 il_6_182 rfl rfl rfl rfl ty_77 vy_204 (lay_le n_204 rfl) ?_
          refine Cl_of n_204 rfl ?_
          show Rn _ _ _ _ [some (vR 77)] [] _ _
          refine r_ldR_n (m := 0) F_204_0 rfl ?_
          refine r_getR (J := 5) F_204_1 o_204 fl_6_25 ty_77 (by decide) rfl (kd2 kd_77_5 (by decide)) (kd9 kd_77_5 (by decide)) rf_77_5 ?_
          refine r_iconst F_204_4 ?_
          refine r_iald (e := (s 83 5)) F_204_5 ty_83 (by decide) (lt_ln ln_83 (by decide)) rfl ?_
          refine r_if (t := 13) F_204_6 rfl (l7 e2 e4 e6 e8) ?_ ?_
          · intro e9
            replace e9 : (s 83 5) ≤ 0 := e9
            refine r_iconst F_204_13 ?_
            refine r_zreturn F_204_14 rt_204 (Or.inl rfl) ?_
            show Rn _ _ _ _ _ [vI 0] _ _
            refine r_ifF (t := 31) F_228_25 rfl (by decide) (by show ¬ (¬ (0 : Int) = 0); decide) ?_
            refine r_bipush F_228_28 bi__4 ?_
            refine r_ireturn F_228_30 rt_228 ?_
            exact (l8 e2 e4 e6 e8 e9)
          · intro e10
            replace e10 : 0 < (s 83 5) := (Int.not_le.mp e10)
            refine r_iconst F_204_9 ?_
            refine r_goto (t := 14) F_204_10 rfl ?_
            refine r_zreturn F_204_14 rt_204 (Or.inr rfl) ?_
            show Rn _ _ _ _ _ [vI 1] _ _
            refine r_ifT (t := 31) F_228_25 rfl (by decide) (by show ¬ (1 : Int) = 0; decide) ?_
            refine r_ldR_n (m := 0) F_228_31 rfl ?_
            refine r_virt2 (A := []) (r := []) (n := 0) F_228_32 o_228 il_6_210 rfl rfl rfl rfl ty_77 vy_219 (lay_le n_219 rfl) ?_
            refine Cl_of n_219 rfl ?_
            show Rn _ _ _ _ [some (vR 77)] [] _ _
            refine r_ldR_n (m := 0) F_219_0 rfl ?_
            refine r_ldR_n (m := 0) F_219_1 rfl ?_
            refine r_getR (J := 5) F_219_2 o_219 fl_6_25 ty_77 (by decide) rfl (kd2 kd_77_5 (by decide)) (kd9 kd_77_5 (by decide)) rf_77_5 ?_
            refine r_iconst F_219_5 ?_
            refine r_iald (e := (s 83 5)) F_219_6 ty_83 (by decide) (lt_ln ln_83 (by decide)) rfl ?_
            refine r_iconst F_219_7 ?_
            refine r_isub F_219_8 rfl ?_
            refine r_ldR_n (m := 0) F_219_9 rfl ?_
            refine r_getR (J := 5) F_219_10 o_219 fl_6_25 ty_77 (by decide) rfl (kd2 kd_77_5 (by decide)) (kd9 kd_77_5 (by decide)) rf_77_5 ?_
            refine r_bipush F_219_13 bi_6 ?_
            refine r_iald (e := (s 83 6)) F_219_15 ty_83 (by decide) (lt_ln ln_83 (by decide)) rfl ?_
            refine r_iconst F_219_16 ?_
            refine r_isub F_219_17 rfl ?_
            refine r_virt2 (A := [vI ((s 83 5) - 1), vI ((s 83 6) - 1)]) (r := []) (n := 2) F_219_18 o_219 il_6_201 rfl rfl rfl rfl ty_77 vy_220 (lay_le n_220 rfl) ?_
            refine sp_opens (l9 e2 e4 e6 e8 e10) (l10 e2 e4 e6 e8 e10) (l11 e2 e4 e6 e8 e10) (l12 e2 e4 e6 e8 e10) ?_
            intro s11 q11
            show Rn _ _ _ _ _ [] _ _
            refine r_return F_219_21 rt_219 ?_
            show Rn _ _ _ _ _ [] _ _
            refine r_iconst F_228_35 ?_
            refine r_stI_n (m := 3) (L' := [some (vR 77), some (vI c), some (vI n), some (vI 0), none, none, none]) F_228_36 rfl rfl ?_
            refine r_bipush F_228_37 bi_15 ?_
            refine r_stI (m := 4) (L' := [some (vR 77), some (vI c), some (vI n), some (vI 0), some (vI 15), none, none]) F_228_39 rfl rfl ?_
            refine r_ldR_n (m := 0) F_228_41 rfl ?_
            refine r_ldI_n (m := 2) F_228_42 rfl ?_
            refine r_iconst F_228_43 ?_
            refine r_virt2 (A := [vI n, vI 1]) (r := []) (n := 2) F_228_44 o_228 il_6_223 rfl rfl rfl rfl ty_77 vy_227 (lay_le n_227 rfl) ?_
            exact (l13 e2 e4 e6 e8 e10 s11 q11)
theorem t_X6_ways_47 {X : List Int32} {d : Nat} {s : m_St} {P : Option Value → m_St → Prop} {c n z a rv : Int}
    (l1 : Rn X (d + 5) 228 49 [some (vR 77), some (vI c), some (vI n), some (vI z), some (vI a), some (vI rv), none] [] s P)
    : Rn X (d + 5) 228 47 [some (vR 77), some (vI c), some (vI n), some (vI z), some (vI a), none, none] [vI rv] s P := by
  refine r_stI (m := 5) (L' := [some (vR 77), some (vI c), some (vI n), some (vI z), some (vI a), some (vI rv), none]) F_228_47 rfl rfl ?_
  exact l1
theorem t_X6_ways_49 {X : List Int32} {d : Nat} {s : m_St} {P : Option Value → m_St → Prop} {c n z a b : Int} {z6 : Option Value}
    (l1 : inR b)
    (l2 : b = 0 → inR z)
    (l3 : b = 0 → ¬ z = 0 → P (some (vI 1)) (m_upd (m_upd (m_upd s 77 12 z) 77 13 1) 77 11 a))
    (l4 : b = 0 → z = 0 → P (some (vI 1)) (m_upd (m_upd (m_upd s 77 12 z) 77 13 1) 77 11 0))
    (l5 : ¬ b = 0 → opS s)
    (l6 : ¬ b = 0 → 0 ≤ n)
    (l7 : ¬ b = 0 → (n : Int) ≤ 6)
    (l8 : ¬ b = 0 → w8 (wt s n))
    (l9 : ¬ b = 0 → ¬ (iAnd c (iXor (iAnd (hW s n 0) (hW s n 1)) (-1))) = 0 → Cl X (d + 4) 227 [vR 77, vI n, vI 0] s (fun v s' => Rn X (d + 5) 228 112 [some (vR 77), some (vI c), some (vI n), some (vI z), some (vI (iAnd a 15)), some (vI b), some (vI 0)] (m_push v []) s' P))
    (l10 : ¬ b = 0 → (iAnd c (iXor (iAnd (hW s n 0) (hW s n 1)) (-1))) = 0 → Cl X (d + 4) 227 [vR 77, vI n, vI 0] s (fun v s' => Rn X (d + 5) 228 112 [some (vR 77), some (vI c), some (vI n), some (vI (z + 1)), some (vI (iAnd a (iAnd (hW s n 0) (hW s n 1)))), some (vI b), some (vI 1)] (m_push v []) s' P))
    : Rn X (d + 5) 228 49 [some (vR 77), some (vI c), some (vI n), some (vI z), some (vI a), some (vI b), z6] [] s P := by
  refine r_ldI (m := 5) F_228_49 rfl ?_
  refine r_if (t := 117) F_228_51 rfl l1 ?_ ?_
  · intro e1
    replace e1 : b = 0 := e1
    refine r_ldR_n (m := 0) F_228_117 rfl ?_
    refine r_ldI_n (m := 3) F_228_118 rfl ?_
    refine r_i2l F_228_119 (l2 e1) ?_
    refine r_putJ (J := 12) F_228_120 o_228 fl_6_64 ty_77 (by decide) rfl kd_77_12 pf_6_12 ?_
    refine r_ldR_n (m := 0) F_228_123 rfl ?_
    refine r_lconst (e := 1) F_228_124 rfl ?_
    refine r_putJ (J := 13) F_228_125 o_228 fl_6_53 ty_77 (by decide) rfl kd_77_13 pf_6_13 ?_
    refine r_ldR_n (m := 0) F_228_128 rfl ?_
    refine r_iconst F_228_129 ?_
    refine r_ldI_n (m := 3) F_228_130 rfl ?_
    refine r_if (t := 138) F_228_131 rfl (l2 e1) ?_ ?_
    · intro e2
      replace e2 : ¬ z = 0 := e2
      refine r_ldI (m := 4) F_228_138 rfl ?_
      refine r_virt2 (A := [vI 1, vI a]) (r := []) (n := 2) F_228_140 o_228 il_6_87 rfl rfl rfl rfl ty_77 vy_165 (lay_le n_165 rfl) ?_
      refine Cl_of n_165 rfl ?_
      show Rn _ _ _ _ [some (vR 77), some (vI 1), some (vI a)] [] _ _
      refine r_ldR_n (m := 0) F_165_0 rfl ?_
      refine r_ldI_n (m := 2) F_165_1 rfl ?_
      refine r_putI (J := 11) F_165_2 o_165 fl_6_61 ty_77 (by decide) rfl kd_77_11 pf_6_11 ?_
      refine r_ldI_n (m := 1) F_165_5 rfl ?_
      refine r_ireturn F_165_6 rt_165 ?_
      show Rn _ _ _ _ _ [vI 1] _ _
      refine r_ireturn F_228_143 rt_228 ?_
      exact (l3 e1 e2)
    · intro e3
      replace e3 : z = 0 := (Classical.not_not.mp e3)
      refine r_iconst F_228_134 ?_
      refine r_goto (t := 140) F_228_135 rfl ?_
      refine r_virt2 (A := [vI 1, vI 0]) (r := []) (n := 2) F_228_140 o_228 il_6_87 rfl rfl rfl rfl ty_77 vy_165 (lay_le n_165 rfl) ?_
      refine Cl_of n_165 rfl ?_
      show Rn _ _ _ _ [some (vR 77), some (vI 1), some (vI 0)] [] _ _
      refine r_ldR_n (m := 0) F_165_0 rfl ?_
      refine r_ldI_n (m := 2) F_165_1 rfl ?_
      refine r_putI (J := 11) F_165_2 o_165 fl_6_61 ty_77 (by decide) rfl kd_77_11 pf_6_11 ?_
      refine r_ldI_n (m := 1) F_165_5 rfl ?_
      refine r_ireturn F_165_6 rt_165 ?_
      show Rn _ _ _ _ _ [vI 1] _ _
      refine r_ireturn F_228_143 rt_228 ?_
      exact (l4 e1 e3)
  · intro e4
    replace e4 : ¬ b = 0 := e4
    refine r_ldI_n (m := 1) F_228_54 rfl ?_
    refine r_ldR_n (m := 0) F_228_55 rfl ?_
    refine r_ldI_n (m := 2) F_228_56 rfl ?_
    refine r_virt2 (A := [vI n]) (r := [vI c]) (n := 1) F_228_57 o_228 il_6_220 rfl rfl rfl rfl ty_77 vy_224 (lay_le n_224 rfl) ?_
    refine Cl_of n_224 rfl ?_
    show Rn _ _ _ _ [some (vR 77), some (vI n)] [] _ _
    refine r_ldR_n (m := 0) F_224_0 rfl ?_
    refine r_ldI_n (m := 1) F_224_1 rfl ?_
    refine r_iconst F_224_2 ?_
    refine r_virt2 (A := [vI n, vI 0]) (r := []) (n := 2) F_224_3 o_224 il_6_204 rfl rfl rfl rfl ty_77 vy_222 (lay_le n_222 rfl) ?_
    refine sp_heldAtS (l5 e4) (l6 e4) (l7 e4) (l8 e4) (by decide) (by decide) ?_
    show Rn _ _ _ _ _ [vI (hW s n 0)] _ _
    refine r_ldR_n (m := 0) F_224_6 rfl ?_
    refine r_ldI_n (m := 1) F_224_7 rfl ?_
    refine r_iconst F_224_8 ?_
    refine r_virt2 (A := [vI n, vI 1]) (r := [vI (hW s n 0)]) (n := 2) F_224_9 o_224 il_6_204 rfl rfl rfl rfl ty_77 vy_222 (lay_le n_222 rfl) ?_
    refine sp_heldAtS (l5 e4) (l6 e4) (l7 e4) (l8 e4) (by decide) (by decide) ?_
    show Rn _ _ _ _ _ [vI (hW s n 1), vI (hW s n 0)] _ _
    refine r_iand F_224_12 rfl ?_
    refine r_ireturn F_224_13 rt_224 ?_
    show Rn _ _ _ _ _ [vI (iAnd (hW s n 0) (hW s n 1)), vI c] _ _
    refine r_iconst F_228_60 ?_
    refine r_ixor F_228_61 rfl ?_
    refine r_iand F_228_62 rfl ?_
    refine r_if (t := 70) F_228_63 rfl (inR_iAnd _ _) ?_ ?_
    · intro e5
      replace e5 : ¬ (iAnd c (iXor (iAnd (hW s n 0) (hW s n 1)) (-1))) = 0 := e5
      refine r_iconst F_228_70 ?_
      refine r_stI (m := 6) (L' := [some (vR 77), some (vI c), some (vI n), some (vI z), some (vI a), some (vI b), some (vI 0)]) F_228_71 rfl rfl ?_
      refine r_ldI_n (m := 3) F_228_73 rfl ?_
      refine r_ldI (m := 6) F_228_74 rfl ?_
      refine r_ifT (t := 83) F_228_76 rfl (by decide) (by show (0 : Int) = 0; decide) ?_
      refine r_iconst F_228_83 ?_
      refine r_iadd (e := z) F_228_84 (Int.add_zero _) ?_
      refine r_stI_n (m := 3) (L' := [some (vR 77), some (vI c), some (vI n), some (vI z), some (vI a), some (vI b), some (vI 0)]) F_228_85 rfl rfl ?_
      refine r_ldI (m := 4) F_228_86 rfl ?_
      refine r_ldI (m := 6) F_228_88 rfl ?_
      refine r_ifT (t := 101) F_228_90 rfl (by decide) (by show (0 : Int) = 0; decide) ?_
      refine r_bipush F_228_101 bi_15 ?_
      refine r_iand F_228_103 rfl ?_
      refine r_stI (m := 4) (L' := [some (vR 77), some (vI c), some (vI n), some (vI z), some (vI (iAnd a 15)), some (vI b), some (vI 0)]) F_228_104 rfl rfl ?_
      refine r_ldR_n (m := 0) F_228_106 rfl ?_
      refine r_ldI_n (m := 2) F_228_107 rfl ?_
      refine r_iconst F_228_108 ?_
      refine r_virt2 (A := [vI n, vI 0]) (r := []) (n := 2) F_228_109 o_228 il_6_223 rfl rfl rfl rfl ty_77 vy_227 (lay_le n_227 rfl) ?_
      exact (l9 e4 e5)
    · intro e6
      replace e6 : (iAnd c (iXor (iAnd (hW s n 0) (hW s n 1)) (-1))) = 0 := (Classical.not_not.mp e6)
      refine r_iconst F_228_66 ?_
      refine r_goto (t := 71) F_228_67 rfl ?_
      refine r_stI (m := 6) (L' := [some (vR 77), some (vI c), some (vI n), some (vI z), some (vI a), some (vI b), some (vI 1)]) F_228_71 rfl rfl ?_
      refine r_ldI_n (m := 3) F_228_73 rfl ?_
      refine r_ldI (m := 6) F_228_74 rfl ?_
      refine r_ifF (t := 83) F_228_76 rfl (by decide) (by show ¬ ((1 : Int) = 0); decide) ?_
      refine r_iconst F_228_79 ?_
      refine r_goto (t := 84) F_228_80 rfl ?_
      refine r_iadd F_228_84 rfl ?_
      refine r_stI_n (m := 3) (L' := [some (vR 77), some (vI c), some (vI n), some (vI (z + 1)), some (vI a), some (vI b), some (vI 1)]) F_228_85 rfl rfl ?_
      refine r_ldI (m := 4) F_228_86 rfl ?_
      refine r_ldI (m := 6) F_228_88 rfl ?_
      refine r_ifF (t := 101) F_228_90 rfl (by decide) (by show ¬ ((1 : Int) = 0); decide) ?_
      refine r_ldR_n (m := 0) F_228_93 rfl ?_
      refine r_ldI_n (m := 2) F_228_94 rfl ?_
      refine r_virt2 (A := [vI n]) (r := [vI a]) (n := 1) F_228_95 o_228 il_6_220 rfl rfl rfl rfl ty_77 vy_224 (lay_le n_224 rfl) ?_
      refine Cl_of n_224 rfl ?_
      show Rn _ _ _ _ [some (vR 77), some (vI n)] [] _ _
      refine r_ldR_n (m := 0) F_224_0 rfl ?_
      refine r_ldI_n (m := 1) F_224_1 rfl ?_
      refine r_iconst F_224_2 ?_
      refine r_virt2 (A := [vI n, vI 0]) (r := []) (n := 2) F_224_3 o_224 il_6_204 rfl rfl rfl rfl ty_77 vy_222 (lay_le n_222 rfl) ?_
      refine sp_heldAtS (l5 e4) (l6 e4) (l7 e4) (l8 e4) (by decide) (by decide) ?_
      show Rn _ _ _ _ _ [vI (hW s n 0)] _ _
      refine r_ldR_n (m := 0) F_224_6 rfl ?_
      refine r_ldI_n (m := 1) F_224_7 rfl ?_
      refine r_iconst F_224_8 ?_
      refine r_virt2 (A := [vI n, vI 1]) (r := [vI (hW s n 0)]) (n := 2) F_224_9 o_224 il_6_204 rfl rfl rfl rfl ty_77 vy_222 (lay_le n_222 rfl) ?_
      refine sp_heldAtS (l5 e4) (l6 e4) (l7 e4) (l8 e4) (by decide) (by decide) ?_
      show Rn _ _ _ _ _ [vI (hW s n 1), vI (hW s n 0)] _ _
      refine r_iand F_224_12 rfl ?_
      refine r_ireturn F_224_13 rt_224 ?_
      show Rn _ _ _ _ _ [vI (iAnd (hW s n 0) (hW s n 1)), vI a] _ _
      refine r_goto (t := 103) F_228_98 rfl ?_
      refine r_iand F_228_103 rfl ?_
      refine r_stI (m := 4) (L' := [some (vR 77), some (vI c), some (vI n), some (vI (z + 1)), some (vI (iAnd a (iAnd (hW s n 0) (hW s n 1)))), some (vI b), some (vI 1)]) F_228_104 rfl rfl ?_
      refine r_ldR_n (m := 0) F_228_106 rfl ?_
      refine r_ldI_n (m := 2) F_228_107 rfl ?_
      refine r_iconst F_228_108 ?_
      refine r_virt2 (A := [vI n, vI 0]) (r := []) (n := 2) F_228_109 o_228 il_6_223 rfl rfl rfl rfl ty_77 vy_227 (lay_le n_227 rfl) ?_
      exact (l10 e4 e6)
theorem t_X6_ways_112 {X : List Int32} {d : Nat} {s : m_St} {P : Option Value → m_St → Prop} {c n z a b k rv : Int}
    (l1 : Rn X (d + 5) 228 49 [some (vR 77), some (vI c), some (vI n), some (vI z), some (vI a), some (vI rv), some (vI k)] [] s P)
    : Rn X (d + 5) 228 112 [some (vR 77), some (vI c), some (vI n), some (vI z), some (vI a), some (vI b), some (vI k)] [vI rv] s P := by
  refine r_stI (m := 5) (L' := [some (vR 77), some (vI c), some (vI n), some (vI z), some (vI a), some (vI rv), some (vI k)]) F_228_112 rfl rfl ?_
  refine r_goto (t := 49) F_228_114 rfl ?_
  exact l1
