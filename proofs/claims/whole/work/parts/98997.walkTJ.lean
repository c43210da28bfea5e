/-! walks: the calls of the reference, chances -/
theorem n_240 : m_n 240 = 5 := by decide +kernel
theorem F_240_0 : F 240 0 (.iload_n 1) 1 := ⟨1, by decide +kernel, rfl, rfl⟩
theorem F_240_1 : F 240 1 (.invokestatic 165) 4 := ⟨3, by decide +kernel, rfl, rfl⟩
theorem o_240 : m_o 240 = 6 := by decide +kernel
theorem F_240_4 : F 240 4 (.ifCond .eq 20) 7 := ⟨3, by decide +kernel, rfl, rfl⟩
theorem F_240_24 : F 240 24 (.iconst (-1)) 25 := ⟨1, by decide +kernel, rfl, rfl⟩
theorem F_240_25 : F 240 25 (.ireturn) 26 := ⟨1, by decide +kernel, rfl, rfl⟩
theorem rt_240 : m_r 240 = (some .int) := by decide +kernel
theorem F_240_7 : F 240 7 (.iload_n 2) 8 := ⟨1, by decide +kernel, rfl, rfl⟩
theorem F_240_8 : F 240 8 (.invokestatic 71) 11 := ⟨3, by decide +kernel, rfl, rfl⟩
theorem F_240_11 : F 240 11 (.ifCond .eq 13) 14 := ⟨3, by decide +kernel, rfl, rfl⟩
theorem F_240_14 : F 240 14 (.iload_n 3) 15 := ⟨1, by decide +kernel, rfl, rfl⟩
theorem F_240_15 : F 240 15 (.iconst 0) 16 := ⟨1, by decide +kernel, rfl, rfl⟩
theorem F_240_16 : F 240 16 (.bipush 12) 18 := ⟨2, by decide +kernel, rfl, rfl⟩
theorem F_240_18 : F 240 18 (.invokestatic 67) 21 := ⟨3, by decide +kernel, rfl, rfl⟩
theorem F_240_21 : F 240 21 (.ifCond .ne 5) 24 := ⟨3, by decide +kernel, rfl, rfl⟩
theorem F_240_26 : F 240 26 (.aload_n 0) 27 := ⟨1, by decide +kernel, rfl, rfl⟩
theorem F_240_27 : F 240 27 (.iload_n 2) 28 := ⟨1, by decide +kernel, rfl, rfl⟩
theorem F_240_28 : F 240 28 (.invokevirtual 254) 31 := ⟨3, by decide +kernel, rfl, rfl⟩
theorem il_6_254 : ilq 6 254 0 241 1 = true := by decide +kernel
theorem vy_241 : (m_cls 6).1 = (m_y 241).cls ∧ 6 < m_cl.length := by decide +kernel
theorem F_240_31 : F 240 31 (.istore 4) 33 := ⟨2, by decide +kernel, rfl, rfl⟩
theorem F_240_33 : F 240 33 (.iload 4) 35 := ⟨2, by decide +kernel, rfl, rfl⟩
theorem F_240_35 : F 240 35 (.ifCond .ne 13) 38 := ⟨3, by decide +kernel, rfl, rfl⟩
theorem F_240_48 : F 240 48 (.iload 4) 50 := ⟨2, by decide +kernel, rfl, rfl⟩
theorem F_240_50 : F 240 50 (.ireturn) 51 := ⟨1, by decide +kernel, rfl, rfl⟩
theorem F_240_38 : F 240 38 (.aload_n 0) 39 := ⟨1, by decide +kernel, rfl, rfl⟩
theorem F_240_39 : F 240 39 (.iload_n 1) 40 := ⟨1, by decide +kernel, rfl, rfl⟩
theorem F_240_40 : F 240 40 (.iload_n 2) 41 := ⟨1, by decide +kernel, rfl, rfl⟩
theorem F_240_41 : F 240 41 (.iload_n 3) 42 := ⟨1, by decide +kernel, rfl, rfl⟩
theorem F_240_42 : F 240 42 (.invokevirtual 257) 45 := ⟨3, by decide +kernel, rfl, rfl⟩
theorem il_6_257 : ilq 6 257 0 242 3 = true := by decide +kernel
theorem vy_242 : (m_cls 6).1 = (m_y 242).cls ∧ 6 < m_cl.length := by decide +kernel
theorem F_240_45 : F 240 45 (.goto 5) 48 := ⟨3, by decide +kernel, rfl, rfl⟩
theorem n_245 : m_n 245 = 4 := by decide +kernel
theorem F_245_0 : F 245 0 (.iload_n 1) 1 := ⟨1, by decide +kernel, rfl, rfl⟩
theorem F_245_1 : F 245 1 (.invokestatic 71) 4 := ⟨3, by decide +kernel, rfl, rfl⟩
theorem o_245 : m_o 245 = 6 := by decide +kernel
theorem F_245_4 : F 245 4 (.ifCond .eq 13) 7 := ⟨3, by decide +kernel, rfl, rfl⟩
theorem F_245_17 : F 245 17 (.iconst (-1)) 18 := ⟨1, by decide +kernel, rfl, rfl⟩
theorem F_245_18 : F 245 18 (.ireturn) 19 := ⟨1, by decide +kernel, rfl, rfl⟩
theorem rt_245 : m_r 245 = (some .int) := by decide +kernel
theorem F_245_7 : F 245 7 (.iload_n 2) 8 := ⟨1, by decide +kernel, rfl, rfl⟩
theorem F_245_8 : F 245 8 (.iconst 0) 9 := ⟨1, by decide +kernel, rfl, rfl⟩
theorem F_245_9 : F 245 9 (.bipush 12) 11 := ⟨2, by decide +kernel, rfl, rfl⟩
theorem F_245_11 : F 245 11 (.invokestatic 67) 14 := ⟨3, by decide +kernel, rfl, rfl⟩
theorem F_245_14 : F 245 14 (.ifCond .ne 5) 17 := ⟨3, by decide +kernel, rfl, rfl⟩
theorem F_245_19 : F 245 19 (.aload_n 0) 20 := ⟨1, by decide +kernel, rfl, rfl⟩
theorem F_245_20 : F 245 20 (.iload_n 1) 21 := ⟨1, by decide +kernel, rfl, rfl⟩
theorem F_245_21 : F 245 21 (.invokevirtual 254) 24 := ⟨3, by decide +kernel, rfl, rfl⟩
theorem F_245_24 : F 245 24 (.istore_n 3) 25 := ⟨1, by decide +kernel, rfl, rfl⟩
theorem F_245_25 : F 245 25 (.iload_n 3) 26 := ⟨1, by decide +kernel, rfl, rfl⟩
theorem F_245_26 : F 245 26 (.ifCond .ne 14) 29 := ⟨3, by decide +kernel, rfl, rfl⟩
theorem F_245_40 : F 245 40 (.iload_n 3) 41 := ⟨1, by decide +kernel, rfl, rfl⟩
theorem F_245_41 : F 245 41 (.ireturn) 42 := ⟨1, by decide +kernel, rfl, rfl⟩
theorem F_245_29 : F 245 29 (.aload_n 0) 30 := ⟨1, by decide +kernel, rfl, rfl⟩
theorem F_245_30 : F 245 30 (.bipush (-9)) 32 := ⟨2, by decide +kernel, rfl, rfl⟩
theorem F_245_32 : F 245 32 (.iload_n 1) 33 := ⟨1, by decide +kernel, rfl, rfl⟩
theorem F_245_33 : F 245 33 (.iload_n 2) 34 := ⟨1, by decide +kernel, rfl, rfl⟩
theorem F_245_34 : F 245 34 (.invokevirtual 257) 37 := ⟨3, by decide +kernel, rfl, rfl⟩
theorem F_245_37 : F 245 37 (.goto 4) 40 := ⟨3, by decide +kernel, rfl, rfl⟩
theorem t_X6_odds {X : List Int32} {d : Nat} {s : m_St} {P : Option Value → m_St → Prop} {c r p : Int}
    (l1 : inR c)
    (l2 : c < 0 → P (some (vI (-1))) s)
    (l3 : 0 ≤ c → 3 < c → P (some (vI (-1))) s)
    (l4 : 0 ≤ c → c ≤ 3 → inR r)
    (l5 : 0 ≤ c → c ≤ 3 → r < 0 → P (some (vI (-1))) s)
    (l6 : 0 ≤ c → c ≤ 3 → 0 ≤ r → 5 < r → P (some (vI (-1))) s)
    (l7 : 0 ≤ c → c ≤ 3 → 0 ≤ r → r ≤ 5 → inR p)
    (l8 : 0 ≤ c → c ≤ 3 → 0 ≤ r → r ≤ 5 → p < 0 → P (some (vI (-1))) s)
    (l9 : 0 ≤ c → c ≤ 3 → 0 ≤ r → r ≤ 5 → 0 ≤ p → 12 < p → P (some (vI (-1))) s)
    (l10 : 0 ≤ c → c ≤ 3 → 0 ≤ r → r ≤ 5 → 0 ≤ p → p ≤ 12 → inR (s 83 5))
    (l11 : 0 ≤ c → c ≤ 3 → 0 ≤ r → r ≤ 5 → 0 ≤ p → p ≤ 12 → (s 83 5) ≤ 0 → P (some (vI (-4))) s)
    (l12 : 0 ≤ c → c ≤ 3 → 0 ≤ r → r ≤ 5 → 0 ≤ p → p ≤ 12 → 0 < (s 83 5) → r < 6)
    (l13 : 0 ≤ c → c ≤ 3 → 0 ≤ r → r ≤ 5 → 0 ≤ p → p ≤ 12 → 0 < (s 83 5) → inR (s 78 r))
    (l14 : 0 ≤ c → c ≤ 3 → 0 ≤ r → r ≤ 5 → 0 ≤ p → p ≤ 12 → 0 < (s 83 5) → 0 ≤ (s 78 r) → (s 78 r) ≤ 6 → rwM s r)
    (l15 : 0 ≤ c → c ≤ 3 → 0 ≤ r → r ≤ 5 → 0 ≤ p → p ≤ 12 → 0 < (s 83 5) → 0 ≤ (s 78 r) → (s 78 r) ≤ 6 → (asv s r) = 0 → P (some (vI (-3))) (m_upd (m_upd s 77 10 3) 87 3 ((s 87 3) + 1)))
    (l16 : 0 ≤ c → c ≤ 3 → 0 ≤ r → r ≤ 5 → 0 ≤ p → p ≤ 12 → 0 < (s 83 5) → 0 ≤ (s 78 r) → (s 78 r) ≤ 6 → ¬ (asv s r) = 0 → bbk s r)
    (l17 : 0 ≤ c → c ≤ 3 → 0 ≤ r → r ≤ 5 → 0 ≤ p → p ≤ 12 → 0 < (s 83 5) → 0 ≤ (s 78 r) → (s 78 r) ≤ 6 → ¬ (asv s r) = 0 → (c = -9 ∨ (0 ≤ c ∧ c < 4)))
    (l18 : 0 ≤ c → c ≤ 3 → 0 ≤ r → r ≤ 5 → 0 ≤ p → p ≤ 12 → 0 < (s 83 5) → 0 ≤ (s 78 r) → (s 78 r) ≤ 6 → ¬ (asv s r) = 0 → ∀ (v19 : Int) (s19 : m_St), qCh s c r p v19 s19 → P (some (vI v19)) s19)
    (l19 : 0 ≤ c → c ≤ 3 → 0 ≤ r → r ≤ 5 → 0 ≤ p → p ≤ 12 → 0 < (s 83 5) → 0 ≤ (s 78 r) → 6 < (s 78 r) → P (some (vI (-3))) (m_upd (m_upd s 77 10 5) 87 5 ((s 87 5) + 1)))
    (l20 : 0 ≤ c → c ≤ 3 → 0 ≤ r → r ≤ 5 → 0 ≤ p → p ≤ 12 → 0 < (s 83 5) → (s 78 r) < 0 → P (some (vI (-3))) (m_upd (m_upd s 77 10 1) 87 1 ((s 87 1) + 1)))
    : Cl X (d + 6) 240 [vR 77, vI c, vI r, vI p] s P := by
  refine Cl_of n_240 rfl ?_
  show Rn _ _ _ _ [some (vR 77), some (vI c), some (vI r), some (vI p), none] [] _ _
  refine r_ldI_n (m := 1) F_240_0 rfl ?_
  refine r_stat2 (A := [vI c]) (r := []) (n := 1) F_240_1 o_240 il_6_165 (by decide) rfl rfl rfl rfl (lay_le n_198 rfl) ?_
  refine Cl_of n_198 rfl ?_
  show Rn _ _ _ _ [some (vI c)] [] _ _
  refine r_ldI_n (m := 0) F_198_0 rfl ?_
  refine r_iconst F_198_1 ?_
  refine r_iconst F_198_2 ?_
  refine r_stat2 (A := [vI c, vI 0, vI 3]) (r := []) (n := 3) F_198_3 o_198 il_6_67 (by decide) rfl rfl rfl rfl (lay_le n_160 rfl) ?_
  refine Cl_of n_160 rfl ?_
  show Rn _ _ _ _ [some (vI c), some (vI 0), some (vI 3)] [] _ _
  refine r_ldI_n (m := 0) F_160_0 rfl ?_
  refine r_ldI_n (m := 1) F_160_1 rfl ?_
  refine r_icmp (t := 14) F_160_2 rfl l1 (by decide) ?_ ?_
  · intro e1
    replace e1 : c < 0 := e1
    refine r_iconst F_160_14 ?_
    refine r_zreturn F_160_15 rt_160 (Or.inl rfl) ?_
    show Rn _ _ _ _ _ [vI 0] _ _
    refine r_zreturn F_198_6 rt_198 (Or.inl rfl) ?_
    show Rn _ _ _ _ _ [vI 0] _ _
    refine r_ifT (t := 24) F_240_4 rfl (by decide) (by show (0 : Int) = 0; decide) ?_
    refine r_iconst F_240_24 ?_
    refine r_ireturn F_240_25 rt_240 ?_
    exact (l2 e1)
  · intro e2
    replace e2 : 0 ≤ c := (Int.not_lt.mp e2)
    refine r_ldI_n (m := 0) F_160_5 rfl ?_
    refine r_ldI_n (m := 2) F_160_6 rfl ?_
    refine r_icmp (t := 14) F_160_7 rfl l1 (by decide) ?_ ?_
    · intro e3
      replace e3 : 3 < c := e3
      refine r_iconst F_160_14 ?_
      refine r_zreturn F_160_15 rt_160 (Or.inl rfl) ?_
      show Rn _ _ _ _ _ [vI 0] _ _
      refine r_zreturn F_198_6 rt_198 (Or.inl rfl) ?_
      show Rn _ _ _ _ _ [vI 0] _ _
      refine r_ifT (t := 24) F_240_4 rfl (by decide) (by show (0 : Int) = 0; decide) ?_
      refine r_iconst F_240_24 ?_
      refine r_ireturn F_240_25 rt_240 ?_
      exact (l3 e2 e3)
    · intro e4
      replace e4 : c ≤ 3 := (Int.not_lt.mp e4)
      refine r_iconst F_160_10 ?_
      refine r_goto (t := 15) F_160_11 rfl ?_
      refine r_zreturn F_160_15 rt_160 (Or.inr rfl) ?_
      show Rn _ _ _ _ _ [vI 1] _ _
      refine r_zreturn F_198_6 rt_198 (Or.inr rfl) ?_
      show Rn _ _ _ _ _ [vI 1] _ _
      refine r_ifF (t := 24) F_240_4 rfl (by decide) (by show ¬ ((1 : Int) = 0); decide) ?_
      refine r_ldI_n (m := 2) F_240_7 rfl ?_
      refine r_stat2 (A := [vI r]) (r := []) (n := 1) F_240_8 o_240 il_6_71 (by decide) rfl rfl rfl rfl (lay_le n_159 rfl) ?_
      refine Cl_of n_159 rfl ?_
      show Rn _ _ _ _ [some (vI r)] [] _ _
      refine r_ldI_n (m := 0) F_159_0 rfl ?_
      refine r_iconst F_159_1 ?_
      refine r_iconst F_159_2 ?_
      refine r_stat2 (A := [vI r, vI 0, vI 5]) (r := []) (n := 3) F_159_3 o_159 il_6_67 (by decide) rfl rfl rfl rfl (lay_le n_160 rfl) ?_
      refine Cl_of n_160 rfl ?_
      show Rn _ _ _ _ [some (vI r), some (vI 0), some (vI 5)] [] _ _
      refine r_ldI_n (m := 0) F_160_0 rfl ?_
      refine r_ldI_n (m := 1) F_160_1 rfl ?_
      refine r_icmp (t := 14) F_160_2 rfl (l4 e2 e4) (by decide) ?_ ?_
      · intro e5
        replace e5 : r < 0 := e5
        refine r_iconst F_160_14 ?_
        refine r_zreturn F_160_15 rt_160 (Or.inl rfl) ?_
        show Rn _ _ _ _ _ [vI 0] _ _
        refine r_zreturn F_159_6 rt_159 (Or.inl rfl) ?_
        show Rn _ _ _ _ _ [vI 0] _ _
        refine r_ifT (t := 24) F_240_11 rfl (by decide) (by show (0 : Int) = 0; decide) ?_
        refine r_iconst F_240_24 ?_
        refine r_ireturn F_240_25 rt_240 ?_
        exact (l5 e2 e4 e5)
      · intro e6
        replace e6 : 0 ≤ r := (Int.not_lt.mp e6)
        refine r_ldI_n (m := 0) F_160_5 rfl ?_
        refine r_ldI_n (m := 2) F_160_6 rfl ?_
        refine r_icmp (t := 14) F_160_7 rfl (l4 e2 e4) (by decide) ?_ ?_
        · intro e7
          replace e7 : 5 < r := e7
          refine r_iconst F_160_14 ?_
          refine r_zreturn F_160_15 rt_160 (Or.inl rfl) ?_
          show Rn _ _ _ _ _ [vI 0] _ _
          refine r_zreturn F_159_6 rt_159 (Or.inl rfl) ?_
          show Rn _ _ _ _ _ [vI 0] _ _
          refine r_ifT (t := 24) F_240_11 rfl (by decide) (by show (0 : Int) = 0; decide) ?_
          refine r_iconst F_240_24 ?_
          refine r_ireturn F_240_25 rt_240 ?_
          exact (l6 e2 e4 e6 e7)
        · intro e8
          replace e8 : r ≤ 5 := (Int.not_lt.mp e8)
          refine r_iconst F_160_10 ?_
          refine r_goto (t := 15) F_160_11 rfl ?_
          refine r_zreturn F_160_15 rt_160 (Or.inr rfl) ?_
          show Rn _ _ _ _ _ [vI 1] _ _
          refine r_zreturn F_159_6 rt_159 (Or.inr rfl) ?_
          show Rn _ _ _ _ _ [vI 1] _ _
          refine r_ifF (t := 24) F_240_11 rfl (by decide) (by show ¬ ((1 : Int) = 0); decide) ?_
          refine r_ldI_n (m := 3) F_240_14 rfl ?_
          refine r_iconst F_240_15 ?_
          refine r_bipush F_240_16 bi_12 ?_
          refine r_stat2 (A := [vI p, vI 0, vI 12]) (r := []) (n := 3) F_240_18 o_240 il_6_67 (by decide) rfl rfl rfl rfl (lay_le n_160 rfl) ?_
          refine Cl_of n_160 rfl ?_
          show Rn _ _ _ _ [some (vI p), some (vI 0), some (vI 12)] [] _ _
          refine r_ldI_n (m := 0) F_160_0 rfl ?_
          refine r_ldI_n (m := 1) F_160_1 rfl ?_
          refine r_icmp (t := 14) F_160_2 rfl (l7 e2 e4 e6 e8) (by decide) ?_ ?_
          · intro e9
            replace e9 : p < 0 := e9
            refine r_iconst F_160_14 ?_
            refine r_zreturn F_160_15 rt_160 (Or.inl rfl) ?_
            show Rn _ _ _ _ _ [vI 0] _ _
            refine r_ifF (t := 26) F_240_21 rfl (by decide) (by show ¬ (¬ (0 : Int) = 0); decide) ?_
            refine r_iconst F_240_24 ?_
            refine r_ireturn F_240_25 rt_240 ?_
            exact (l8 e2 e4 e6 e8 e9)
          · intro e10
            replace e10 : 0 ≤ p := (Int.not_lt.mp e10)
            refine r_ldI_n (m := 0) F_160_5 rfl ?_
            refine r_ldI_n (m := 2) F_160_6 rfl ?_
            refine r_icmp (t := 14) F_160_7 rfl (l7 e2 e4 e6 e8) (by decide) ?_ ?_
            · intro e11
              replace e11 : 12 < p := e11
              refine r_iconst F_160_14 ?_
              refine r_zreturn F_160_15 rt_160 (Or.inl rfl) ?_
              show Rn _ _ _ _ _ [vI 0] _ _
              refine r_ifF (t := 26) F_240_21 rfl (by decide) (by show ¬ (¬ (0 : Int) = 0); decide) ?_
              refine r_iconst F_240_24 ?_
              refine r_ireturn F_240_25 rt_240 ?_
              exact (l9 e2 e4 e6 e8 e10 e11)
            · intro e12
              replace e12 : p ≤ 12 := (Int.not_lt.mp e12)
              refine r_iconst F_160_10 ?_
              refine r_goto (t := 15) F_160_11 rfl ?_
              refine r_zreturn F_160_15 rt_160 (Or.inr rfl) ?_
              show Rn _ _ _ _ _ [vI 1] _ _
              refine r_ifT (t := 26) F_240_21 rfl (by decide) (by show ¬ (1 : Int) = 0; decide) ?_
              refine r_ldR_n (m := 0) F_240_26 rfl ?_
              refine r_ldI_n (m := 2) F_240_27 rfl ?_
              refine r_virt2 (A := [vI r]) (r := []) (n := 1) F_240_28 o_240 il_6_254 rfl rfl rfl rfl ty_77 vy_241 (lay_le n_241 rfl) ?_
              refine Cl_of n_241 rfl ?_
              show Rn _ _ _ _ [some (vR 77), some (vI r)] [] _ _
              refine r_ldR_n (m := 0) F_241_0 rfl ?_
              refine r_virt2 (A := []) (r := []) (n := 0) F_241_1 o_241 il_6_182 rfl rfl rfl rfl ty_77 vy_204 (lay_le n_204 rfl) ?_
              refine Cl_of n_204 rfl ?_
              show Rn _ _ _ _ [some (vR 77)] [] _ _
              refine r_ldR_n (m := 0) F_204_0 rfl ?_
              refine r_getR (J := 5) F_204_1 o_204 fl_6_25 ty_77 (by decide) rfl (kd2 kd_77_5 (by decide)) (kd9 kd_77_5 (by decide)) rf_77_5 ?_
              refine r_iconst F_204_4 ?_
              refine r_iald (e := (s 83 5)) F_204_5 ty_83 (by decide) (lt_ln ln_83 (by decide)) rfl ?_
              refine r_if (t := 13) F_204_6 rfl (l10 e2 e4 e6 e8 e10 e12) ?_ ?_
              · intro e13
                replace e13 : (s 83 5) ≤ 0 := e13
                refine r_iconst F_204_13 ?_
                refine r_zreturn F_204_14 rt_204 (Or.inl rfl) ?_
                show Rn _ _ _ _ _ [vI 0] _ _
                refine r_ifF (t := 10) F_241_4 rfl (by decide) (by show ¬ (¬ (0 : Int) = 0); decide) ?_
                refine r_bipush F_241_7 bi__4 ?_
                refine r_ireturn F_241_9 rt_241 ?_
                show Rn _ _ _ _ _ [vI (-4)] _ _
                refine r_stI (m := 4) (L' := [some (vR 77), some (vI c), some (vI r), some (vI p), some (vI (-4))]) F_240_31 rfl rfl ?_
                refine r_ldI (m := 4) F_240_33 rfl ?_
                refine r_ifT (t := 48) F_240_35 rfl (by decide) (by show ¬ ((-4) : Int) = 0; decide) ?_
                refine r_ldI (m := 4) F_240_48 rfl ?_
                refine r_ireturn F_240_50 rt_240 ?_
                exact (l11 e2 e4 e6 e8 e10 e12 e13)
              · intro e14
                replace e14 : 0 < (s 83 5) := (Int.not_le.mp e14)
                refine r_iconst F_204_9 ?_
                refine r_goto (t := 14) F_204_10 rfl ?_
                refine r_zreturn F_204_14 rt_204 (Or.inr rfl) ?_
                show Rn _ _ _ _ _ [vI 1] _ _
                refine r_ifT (t := 10) F_241_4 rfl (by decide) (by show ¬ (1 : Int) = 0; decide) ?_
                refine r_ldR_n (m := 0) F_241_10 rfl ?_
                refine r_getR (J := 0) F_241_11 o_241 fl_6_7 ty_77 (by decide) rfl (kd2 kd_77_0 (by decide)) (kd9 kd_77_0 (by decide)) rf_77_0 ?_
                refine r_ldI_n (m := 1) F_241_14 rfl ?_
                refine r_iald (e := (s 78 r)) F_241_15 ty_78 e6 (lt_ln ln_78 (l12 e2 e4 e6 e8 e10 e12 e14)) rfl ?_
                refine r_if (t := 25) F_241_16 rfl (l13 e2 e4 e6 e8 e10 e12 e14) ?_ ?_
                · intro e15
                  replace e15 : 0 ≤ (s 78 r) := e15
                  refine r_ldR_n (m := 0) F_241_25 rfl ?_
                  refine r_getR (J := 0) F_241_26 o_241 fl_6_7 ty_77 (by decide) rfl (kd2 kd_77_0 (by decide)) (kd9 kd_77_0 (by decide)) rf_77_0 ?_
                  refine r_ldI_n (m := 1) F_241_29 rfl ?_
                  refine r_iald (e := (s 78 r)) F_241_30 ty_78 e6 (lt_ln ln_78 (l12 e2 e4 e6 e8 e10 e12 e14)) rfl ?_
                  refine r_bipush F_241_31 bi_6 ?_
                  refine r_icmp (t := 42) F_241_33 rfl (l13 e2 e4 e6 e8 e10 e12 e14) (by decide) ?_ ?_
                  · intro e16
                    replace e16 : (s 78 r) ≤ 6 := e16
                    refine r_ldR_n (m := 0) F_241_42 rfl ?_
                    refine r_ldI_n (m := 1) F_241_43 rfl ?_
                    refine r_virt2 (A := [vI r]) (r := []) (n := 1) F_241_44 o_241 il_6_207 rfl rfl rfl rfl ty_77 vy_218 (lay_le n_218 rfl) ?_
                    refine sp_areSayingsV e6 (l12 e2 e4 e6 e8 e10 e12 e14) (l14 e2 e4 e6 e8 e10 e12 e14 e15 e16) ?_
                    show Rn _ _ _ _ _ [vI (asv s r)] _ _
                    refine r_if (t := 54) F_241_47 rfl (inR_asv _ _) ?_ ?_
                    · intro e17
                      replace e17 : (asv s r) = 0 := e17
                      refine r_ldR_n (m := 0) F_241_54 rfl ?_
                      refine r_iconst F_241_55 ?_
                      refine r_virt2 (A := [vI 3]) (r := []) (n := 1) F_241_56 o_241 il_6_75 rfl rfl rfl rfl ty_77 vy_161 (lay_le n_161 rfl) ?_
                      refine Cl_of n_161 rfl ?_
                      show Rn _ _ _ _ [some (vR 77), some (vI 3)] [] _ _
                      refine r_ldR_n (m := 0) F_161_0 rfl ?_
                      refine r_ldI_n (m := 1) F_161_1 rfl ?_
                      refine r_putI (J := 10) F_161_2 o_161 fl_6_57 ty_77 (by decide) rfl kd_77_10 pf_6_10 ?_
                      refine r_ldR_n (m := 0) F_161_5 rfl ?_
                      refine r_getR (J := 9) F_161_6 o_161 fl_6_38 ty_77 (by decide) rfl (kd2 kd_77_9 (by decide)) (kd9 kd_77_9 (by decide)) rf_77_9 ?_
                      refine r_ldI_n (m := 1) F_161_9 rfl ?_
                      refine r_dup2 F_161_10 ?_
                      refine r_iald (e := (s 87 3)) F_161_11 ty_87 (by decide) (lt_ln ln_87 (by decide)) (upd_nc (by decide)) ?_
                      refine r_iconst F_161_12 ?_
                      refine r_iadd F_161_13 rfl ?_
                      refine r_iast F_161_14 ty_87 (by decide) (lt_ln ln_87 (by decide)) ?_
                      refine r_bipush F_161_15 bi__3 ?_
                      refine r_ireturn F_161_17 rt_161 ?_
                      show Rn _ _ _ _ _ [vI (-3)] _ _
                      refine r_ireturn F_241_59 rt_241 ?_
                      show Rn _ _ _ _ _ [vI (-3)] _ _
                      refine r_stI (m := 4) (L' := [some (vR 77), some (vI c), some (vI r), some (vI p), some (vI (-3))]) F_240_31 rfl rfl ?_
                      refine r_ldI (m := 4) F_240_33 rfl ?_
                      refine r_ifT (t := 48) F_240_35 rfl (by decide) (by show ¬ ((-3) : Int) = 0; decide) ?_
                      refine r_ldI (m := 4) F_240_48 rfl ?_
                      refine r_ireturn F_240_50 rt_240 ?_
                      exact (l15 e2 e4 e6 e8 e10 e12 e14 e15 e16 e17)
                    · intro e18
                      replace e18 : ¬ (asv s r) = 0 := e18
                      refine r_iconst F_241_50 ?_
                      refine r_goto (t := 59) F_241_51 rfl ?_
                      refine r_ireturn F_241_59 rt_241 ?_
                      show Rn _ _ _ _ _ [vI 0] _ _
                      refine r_stI (m := 4) (L' := [some (vR 77), some (vI c), some (vI r), some (vI p), some (vI 0)]) F_240_31 rfl rfl ?_
                      refine r_ldI (m := 4) F_240_33 rfl ?_
                      refine r_ifF (t := 48) F_240_35 rfl (by decide) (by show ¬ (¬ (0 : Int) = 0); decide) ?_
                      refine r_ldR_n (m := 0) F_240_38 rfl ?_
                      refine r_ldI_n (m := 1) F_240_39 rfl ?_
                      refine r_ldI_n (m := 2) F_240_40 rfl ?_
                      refine r_ldI_n (m := 3) F_240_41 rfl ?_
                      refine r_virt2 (A := [vI c, vI r, vI p]) (r := []) (n := 3) F_240_42 o_240 il_6_257 rfl rfl rfl rfl ty_77 vy_242 (lay_le n_242 rfl) ?_
                      refine sp_chance (l16 e2 e4 e6 e8 e10 e12 e14 e15 e16 e18) e6 (l12 e2 e4 e6 e8 e10 e12 e14) (l17 e2 e4 e6 e8 e10 e12 e14 e15 e16 e18) e10 e12 ?_
                      intro v19 s19 q19
                      show Rn _ _ _ _ _ [vI v19] _ _
                      refine r_goto (t := 50) F_240_45 rfl ?_
                      refine r_ireturn F_240_50 rt_240 ?_
                      exact (l18 e2 e4 e6 e8 e10 e12 e14 e15 e16 e18 v19 s19 q19)
                  · intro e20
                    replace e20 : 6 < (s 78 r) := (Int.not_le.mp e20)
                    refine r_ldR_n (m := 0) F_241_36 rfl ?_
                    refine r_iconst F_241_37 ?_
                    refine r_virt2 (A := [vI 5]) (r := []) (n := 1) F_241_38 o_241 il_6_75 rfl rfl rfl rfl ty_77 vy_161 (lay_le n_161 rfl) ?_
                    refine Cl_of n_161 rfl ?_
                    show Rn _ _ _ _ [some (vR 77), some (vI 5)] [] _ _
                    refine r_ldR_n (m := 0) F_161_0 rfl ?_
                    refine r_ldI_n (m := 1) F_161_1 rfl ?_
                    refine r_putI (J := 10) F_161_2 o_161 fl_6_57 ty_77 (by decide) rfl kd_77_10 pf_6_10 ?_
                    refine r_ldR_n (m := 0) F_161_5 rfl ?_
                    refine r_getR (J := 9) F_161_6 o_161 fl_6_38 ty_77 (by decide) rfl (kd2 kd_77_9 (by decide)) (kd9 kd_77_9 (by decide)) rf_77_9 ?_
                    refine r_ldI_n (m := 1) F_161_9 rfl ?_
                    refine r_dup2 F_161_10 ?_
                    refine r_iald (e := (s 87 5)) F_161_11 ty_87 (by decide) (lt_ln ln_87 (by decide)) (upd_nc (by decide)) ?_
                    refine r_iconst F_161_12 ?_
                    refine r_iadd F_161_13 rfl ?_
                    refine r_iast F_161_14 ty_87 (by decide) (lt_ln ln_87 (by decide)) ?_
                    refine r_bipush F_161_15 bi__3 ?_
                    refine r_ireturn F_161_17 rt_161 ?_
                    show Rn _ _ _ _ _ [vI (-3)] _ _
                    refine r_ireturn F_241_41 rt_241 ?_
                    show Rn _ _ _ _ _ [vI (-3)] _ _
                    refine r_stI (m := 4) (L' := [some (vR 77), some (vI c), some (vI r), some (vI p), some (vI (-3))]) F_240_31 rfl rfl ?_
                    refine r_ldI (m := 4) F_240_33 rfl ?_
                    refine r_ifT (t := 48) F_240_35 rfl (by decide) (by show ¬ ((-3) : Int) = 0; decide) ?_
                    refine r_ldI (m := 4) F_240_48 rfl ?_
                    refine r_ireturn F_240_50 rt_240 ?_
                    exact (l19 e2 e4 e6 e8 e10 e12 e14 e15 e20)
                · intro e21
                  replace e21 : (s 78 r) < 0 := (Int.not_le.mp e21)
                  refine r_ldR_n (m := 0) F_241_19 rfl ?_
                  refine r_iconst F_241_20 ?_
                  refine r_virt2 (A := [vI 1]) (r := []) (n := 1) F_241_21 o_241 il_6_75 rfl rfl rfl rfl ty_77 vy_161 (lay_le n_161 rfl) ?_
                  refine Cl_of n_161 rfl ?_
                  show Rn _ _ _ _ [some (vR 77), some (vI 1)] [] _ _
                  refine r_ldR_n (m := 0) F_161_0 rfl ?_
                  refine r_ldI_n (m := 1) F_161_1 rfl ?_
                  refine r_putI (J := 10) F_161_2 o_161 fl_6_57 ty_77 (by decide) rfl kd_77_10 pf_6_10 ?_
                  refine r_ldR_n (m := 0) F_161_5 rfl ?_
                  refine r_getR (J := 9) F_161_6 o_161 fl_6_38 ty_77 (by decide) rfl (kd2 kd_77_9 (by decide)) (kd9 kd_77_9 (by decide)) rf_77_9 ?_
                  refine r_ldI_n (m := 1) F_161_9 rfl ?_
                  refine r_dup2 F_161_10 ?_
                  refine r_iald (e := (s 87 1)) F_161_11 ty_87 (by decide) (lt_ln ln_87 (by decide)) (upd_nc (by decide)) ?_
                  refine r_iconst F_161_12 ?_
                  refine r_iadd F_161_13 rfl ?_
                  refine r_iast F_161_14 ty_87 (by decide) (lt_ln ln_87 (by decide)) ?_
                  refine r_bipush F_161_15 bi__3 ?_
                  refine r_ireturn F_161_17 rt_161 ?_
                  show Rn _ _ _ _ _ [vI (-3)] _ _
                  refine r_ireturn F_241_24 rt_241 ?_
                  show Rn _ _ _ _ _ [vI (-3)] _ _
                  refine r_stI (m := 4) (L' := [some (vR 77), some (vI c), some (vI r), some (vI p), some (vI (-3))]) F_240_31 rfl rfl ?_
                  refine r_ldI (m := 4) F_240_33 rfl ?_
                  refine r_ifT (t := 48) F_240_35 rfl (by decide) (by show ¬ ((-3) : Int) = 0; decide) ?_
                  refine r_ldI (m := 4) F_240_48 rfl ?_
                  refine r_ireturn F_240_50 rt_240 ?_
                  exact (l20 e2 e4 e6 e8 e10 e12 e14 e21)
theorem t_X6_mid {X : List Int32} {d : Nat} {s : m_St} {P : Option Value → m_St → Prop} {r p : Int}
    (l1 : inR r)
    (l2 : r < 0 → P (some (vI (-1))) s)
    (l3 : 0 ≤ r → 5 < r → P (some (vI (-1))) s)
    (l4 : 0 ≤ r → r ≤ 5 → inR p)
    (l5 : 0 ≤ r → r ≤ 5 → p < 0 → P (some (vI (-1))) s)
    (l6 : 0 ≤ r → r ≤ 5 → 0 ≤ p → 12 < p → P (some (vI (-1))) s)
    (l7 : 0 ≤ r → r ≤ 5 → 0 ≤ p → p ≤ 12 → inR (s 83 5))
    (l8 : 0 ≤ r → r ≤ 5 → 0 ≤ p → p ≤ 12 → (s 83 5) ≤ 0 → P (some (vI (-4))) s)
    (l9 : 0 ≤ r → r ≤ 5 → 0 ≤ p → p ≤ 12 → 0 < (s 83 5) → r < 6)
    (l10 : 0 ≤ r → r ≤ 5 → 0 ≤ p → p ≤ 12 → 0 < (s 83 5) → inR (s 78 r))
    (l11 : 0 ≤ r → r ≤ 5 → 0 ≤ p → p ≤ 12 → 0 < (s 83 5) → 0 ≤ (s 78 r) → (s 78 r) ≤ 6 → rwM s r)
    (l12 : 0 ≤ r → r ≤ 5 → 0 ≤ p → p ≤ 12 → 0 < (s 83 5) → 0 ≤ (s 78 r) → (s 78 r) ≤ 6 → (asv s r) = 0 → P (some (vI (-3))) (m_upd (m_upd s 77 10 3) 87 3 ((s 87 3) + 1)))
    (l13 : 0 ≤ r → r ≤ 5 → 0 ≤ p → p ≤ 12 → 0 < (s 83 5) → 0 ≤ (s 78 r) → (s 78 r) ≤ 6 → ¬ (asv s r) = 0 → bbk s r)
    (l14 : 0 ≤ r → r ≤ 5 → 0 ≤ p → p ≤ 12 → 0 < (s 83 5) → 0 ≤ (s 78 r) → (s 78 r) ≤ 6 → ¬ (asv s r) = 0 → ∀ (v15 : Int) (s15 : m_St), qCh s (-9) r p v15 s15 → P (some (vI v15)) s15)
    (l15 : 0 ≤ r → r ≤ 5 → 0 ≤ p → p ≤ 12 → 0 < (s 83 5) → 0 ≤ (s 78 r) → 6 < (s 78 r) → P (some (vI (-3))) (m_upd (m_upd s 77 10 5) 87 5 ((s 87 5) + 1)))
    (l16 : 0 ≤ r → r ≤ 5 → 0 ≤ p → p ≤ 12 → 0 < (s 83 5) → (s 78 r) < 0 → P (some (vI (-3))) (m_upd (m_upd s 77 10 1) 87 1 ((s 87 1) + 1)))
    : Cl X (d + 6) 245 [vR 77, vI r, vI p] s P := by
  refine Cl_of n_245 rfl ?_
  show Rn _ _ _ _ [some (vR 77), some (vI r), some (vI p), none] [] _ _
  refine r_ldI_n (m := 1) F_245_0 rfl ?_
  refine r_stat2 (A := [vI r]) (r := []) (n := 1) F_245_1 o_245 il_6_71 (by decide) rfl rfl rfl rfl (lay_le n_159 rfl) ?_
  refine Cl_of n_159 rfl ?_
  show Rn _ _ _ _ [some (vI r)] [] _ _
  refine r_ldI_n (m := 0) F_159_0 rfl ?_
  refine r_iconst F_159_1 ?_
  refine r_iconst F_159_2 ?_
  refine r_stat2 (A := [vI r, vI 0, vI 5]) (r := []) (n := 3) F_159_3 o_159 il_6_67 (by decide) rfl rfl rfl rfl (lay_le n_160 rfl) ?_
  refine Cl_of n_160 rfl ?_
  show Rn _ _ _ _ [some (vI r), some (vI 0), some (vI 5)] [] _ _
  refine r_ldI_n (m := 0) F_160_0 rfl ?_
  refine r_ldI_n (m := 1) F_160_1 rfl ?_
  refine r_icmp (t := 14) F_160_2 rfl l1 (by decide) ?_ ?_
  · intro e1
    replace e1 : r < 0 := e1
    refine r_iconst F_160_14 ?_
    refine r_zreturn F_160_15 rt_160 (Or.inl rfl) ?_
    show Rn _ _ _ _ _ [vI 0] _ _
    refine r_zreturn F_159_6 rt_159 (Or.inl rfl) ?_
    show Rn _ _ _ _ _ [vI 0] _ _
    refine r_ifT (t := 17) F_245_4 rfl (by decide) (by show (0 : Int) = 0; decide) ?_
    refine r_iconst F_245_17 ?_
    refine r_ireturn F_245_18 rt_245 ?_
    exact (l2 e1)
  · intro e2
    replace e2 : 0 ≤ r := (Int.not_lt.mp e2)
    refine r_ldI_n (m := 0) F_160_5 rfl ?_
    refine r_ldI_n (m := 2) F_160_6 rfl ?_
    refine r_icmp (t := 14) F_160_7 rfl l1 (by decide) ?_ ?_
    · intro e3
      replace e3 : 5 < r := e3
      refine r_iconst F_160_14 ?_
      refine r_zreturn F_160_15 rt_160 (Or.inl rfl) ?_
      show Rn _ _ _ _ _ [vI 0] _ _
      refine r_zreturn F_159_6 rt_159 (Or.inl rfl) ?_
      show Rn _ _ _ _ _ [vI 0] _ _
      refine r_ifT (t := 17) F_245_4 rfl (by decide) (by show (0 : Int) = 0; decide) ?_
      refine r_iconst F_245_17 ?_
      refine r_ireturn F_245_18 rt_245 ?_
      exact (l3 e2 e3)
    · intro e4
      replace e4 : r ≤ 5 := (Int.not_lt.mp e4)
      refine r_iconst F_160_10 ?_
      refine r_goto (t := 15) F_160_11 rfl ?_
      refine r_zreturn F_160_15 rt_160 (Or.inr rfl) ?_
      show Rn _ _ _ _ _ [vI 1] _ _
      refine r_zreturn F_159_6 rt_159 (Or.inr rfl) ?_
      show Rn _ _ _ _ _ [vI 1] _ _
      refine r_ifF (t := 17) F_245_4 rfl (by decide) (by show ¬ ((1 : Int) = 0); decide) ?_
      refine r_ldI_n (m := 2) F_245_7 rfl ?_
      refine r_iconst F_245_8 ?_
      refine r_bipush F_245_9 bi_12 ?_
      refine r_stat2 (A := [vI p, vI 0, vI 12]) (r := []) (n := 3) F_245_11 o_245 il_6_67 (by decide) rfl rfl rfl rfl (lay_le n_160 rfl) ?_
      refine Cl_of n_160 rfl ?_
      show Rn _ _ _ _ [some (vI p), some (vI 0), some (vI 12)] [] _ _
      refine r_ldI_n (m := 0) F_160_0 rfl ?_
      refine r_ldI_n (m := 1) F_160_1 rfl ?_
      refine r_icmp (t := 14) F_160_2 rfl (l4 e2 e4) (by decide) ?_ ?_
      · intro e5
        replace e5 : p < 0 := e5
        refine r_iconst F_160_14 ?_
        refine r_zreturn F_160_15 rt_160 (Or.inl rfl) ?_
        show Rn _ _ _ _ _ [vI 0] _ _
        refine r_ifF (t := 19) F_245_14 rfl (by decide) (by show ¬ (¬ (0 : Int) = 0); decide) ?_
        refine r_iconst F_245_17 ?_
        refine r_ireturn F_245_18 rt_245 ?_
        exact (l5 e2 e4 e5)
      · intro e6
        replace e6 : 0 ≤ p := (Int.not_lt.mp e6)
        refine r_ldI_n (m := 0) F_160_5 rfl ?_
        refine r_ldI_n (m := 2) F_160_6 rfl ?_
        refine r_icmp (t := 14) F_160_7 rfl (l4 e2 e4) (by decide) ?_ ?_
        · intro e7
          replace e7 : 12 < p := e7
          refine r_iconst F_160_14 ?_
          refine r_zreturn F_160_15 rt_160 (Or.inl rfl) ?_
          show Rn _ _ _ _ _ [vI 0] _ _
          refine r_ifF (t := 19) F_245_14 rfl (by decide) (by show ¬ (¬ (0 : Int) = 0); decide) ?_
          refine r_iconst F_245_17 ?_
          refine r_ireturn F_245_18 rt_245 ?_
          exact (l6 e2 e4 e6 e7)
        · intro e8
          replace e8 : p ≤ 12 := (Int.not_lt.mp e8)
          refine r_iconst F_160_10 ?_
          refine r_goto (t := 15) F_160_11 rfl ?_
          refine r_zreturn F_160_15 rt_160 (Or.inr rfl) ?_
          show Rn _ _ _ _ _ [vI 1] _ _
          refine r_ifT (t := 19) F_245_14 rfl (by decide) (by show ¬ (1 : Int) = 0; decide) ?_
          refine r_ldR_n (m := 0) F_245_19 rfl ?_
          refine r_ldI_n (m := 1) F_245_20 rfl ?_
          refine r_virt2 (A := [vI r]) (r := []) (n := 1) F_245_21 o_245 il_6_254 rfl rfl rfl rfl ty_77 vy_241 (lay_le n_241 rfl) ?_
          refine Cl_of n_241 rfl ?_
          show Rn _ _ _ _ [some (vR 77), some (vI r)] [] _ _
          refine r_ldR_n (m := 0) F_241_0 rfl ?_
          refine r_virt2 (A := []) (r := []) (n := 0) F_241_1 o_241 il_6_182 rfl rfl rfl rfl ty_77 vy_204 (lay_le n_204 rfl) ?_
          refine Cl_of n_204 rfl ?_
          show Rn _ _ _ _ [some (vR 77)] [] _ _
          refine r_ldR_n (m := 0) F_204_0 rfl ?_
          refine r_getR (J := 5) F_204_1 o_204 fl_6_25 ty_77 (by decide) rfl (kd2 kd_77_5 (by decide)) (kd9 kd_77_5 (by decide)) rf_77_5 ?_
          refine r_iconst F_204_4 ?_
          refine r_iald (e := (s 83 5)) F_204_5 ty_83 (by decide) (lt_ln ln_83 (by decide)) rfl ?_
          refine r_if (t := 13) F_204_6 rfl (l7 e2 e4 e6 e8) ?_ ?_
          · intro e9
            replace e9 : (s 83 5) ≤ 0 := e9
            refine r_iconst F_204_13 ?_
            refine r_zreturn F_204_14 rt_204 (Or.inl rfl) ?_
            show Rn _ _ _ _ _ [vI 0] _ _
            refine r_ifF (t := 10) F_241_4 rfl (by decide) (by show ¬ (¬ (0 : Int) = 0); decide) ?_
            refine r_bipush F_241_7 bi__4 ?_
            refine r_ireturn F_241_9 rt_241 ?_
            show Rn _ _ _ _ _ [vI (-4)] _ _
            refine r_stI_n (m := 3) (L' := [some (vR 77), some (vI r), some (vI p), some (vI (-4))]) F_245_24 rfl rfl ?_
            refine r_ldI_n (m := 3) F_245_25 rfl ?_
            refine r_ifT (t := 40) F_245_26 rfl (by decide) (by show ¬ ((-4) : Int) = 0; decide) ?_
            refine r_ldI_n (m := 3) F_245_40 rfl ?_
            refine r_ireturn F_245_41 rt_245 ?_
            exact (l8 e2 e4 e6 e8 e9)
          · intro e10
            replace e10 : 0 < (s 83 5) := (Int.not_le.mp e10)
            refine r_iconst F_204_9 ?_
            refine r_goto (t := 14) F_204_10 rfl ?_
            refine r_zreturn F_204_14 rt_204 (Or.inr rfl) ?_
            show Rn _ _ _ _ _ [vI 1] _ _
            refine r_ifT (t := 10) F_241_4 rfl (by decide) (by show ¬ (1 : Int) = 0; decide) ?_
            refine r_ldR_n (m := 0) F_241_10 rfl ?_
            refine r_getR (J := 0) F_241_11 o_241 fl_6_7 ty_77 (by decide) rfl (kd2 kd_77_0 (by decide)) (kd9 kd_77_0 (by decide)) rf_77_0 ?_
            refine r_ldI_n (m := 1) F_241_14 rfl ?_
            refine r_iald (e := (s 78 r)) F_241_15 ty_78 e2 (lt_ln ln_78 (l9 e2 e4 e6 e8 e10)) rfl ?_
            refine r_if (t := 25) F_241_16 rfl (l10 e2 e4 e6 e8 e10) ?_ ?_
            · intro e11
              replace e11 : 0 ≤ (s 78 r) := e11
              refine r_ldR_n (m := 0) F_241_25 rfl ?_
              refine r_getR (J := 0) F_241_26 o_241 fl_6_7 ty_77 (by decide) rfl (kd2 kd_77_0 (by decide)) (kd9 kd_77_0 (by decide)) rf_77_0 ?_
              refine r_ldI_n (m := 1) F_241_29 rfl ?_
              refine r_iald (e := (s 78 r)) F_241_30 ty_78 e2 (lt_ln ln_78 (l9 e2 e4 e6 e8 e10)) rfl ?_
              refine r_bipush F_241_31 bi_6 ?_
              refine r_icmp (t := 42) F_241_33 rfl (l10 e2 e4 e6 e8 e10) (by decide) ?_ ?_
              · intro e12
                replace e12 : (s 78 r) ≤ 6 := e12
                refine r_ldR_n (m := 0) F_241_42 rfl ?_
                refine r_ldI_n (m := 1) F_241_43 rfl ?_
                refine r_virt2 (A := [vI r]) (r := []) (n := 1) F_241_44 o_241 il_6_207 rfl rfl rfl rfl ty_77 vy_218 (lay_le n_218 rfl) ?_
                refine sp_areSayingsV e2 (l9 e2 e4 e6 e8 e10) (l11 e2 e4 e6 e8 e10 e11 e12) ?_
                show Rn _ _ _ _ _ [vI (asv s r)] _ _
                refine r_if (t := 54) F_241_47 rfl (inR_asv _ _) ?_ ?_
                · intro e13
                  replace e13 : (asv s r) = 0 := e13
                  refine r_ldR_n (m := 0) F_241_54 rfl ?_
                  refine r_iconst F_241_55 ?_
                  refine r_virt2 (A := [vI 3]) (r := []) (n := 1) F_241_56 o_241 il_6_75 rfl rfl rfl rfl ty_77 vy_161 (lay_le n_161 rfl) ?_
                  refine Cl_of n_161 rfl ?_
                  show Rn _ _ _ _ [some (vR 77), some (vI 3)] [] _ _
                  refine r_ldR_n (m := 0) F_161_0 rfl ?_
                  refine r_ldI_n (m := 1) F_161_1 rfl ?_
                  refine r_putI (J := 10) F_161_2 o_161 fl_6_57 ty_77 (by decide) rfl kd_77_10 pf_6_10 ?_
                  refine r_ldR_n (m := 0) F_161_5 rfl ?_
                  refine r_getR (J := 9) F_161_6 o_161 fl_6_38 ty_77 (by decide) rfl (kd2 kd_77_9 (by decide)) (kd9 kd_77_9 (by decide)) rf_77_9 ?_
                  refine r_ldI_n (m := 1) F_161_9 rfl ?_
                  refine r_dup2 F_161_10 ?_
                  refine r_iald (e := (s 87 3)) F_161_11 ty_87 (by decide) (lt_ln ln_87 (by decide)) (upd_nc (by decide)) ?_
                  refine r_iconst F_161_12 ?_
                  refine r_iadd F_161_13 rfl ?_
                  refine r_iast F_161_14 ty_87 (by decide) (lt_ln ln_87 (by decide)) ?_
                  refine r_bipush F_161_15 bi__3 ?_
                  refine r_ireturn F_161_17 rt_161 ?_
                  show Rn _ _ _ _ _ [vI (-3)] _ _
                  refine r_ireturn F_241_59 rt_241 ?_
                  show Rn _ _ _ _ _ [vI (-3)] _ _
                  refine r_stI_n (m := 3) (L' := [some (vR 77), some (vI r), some (vI p), some (vI (-3))]) F_245_24 rfl rfl ?_
                  refine r_ldI_n (m := 3) F_245_25 rfl ?_
                  refine r_ifT (t := 40) F_245_26 rfl (by decide) (by show ¬ ((-3) : Int) = 0; decide) ?_
                  refine r_ldI_n (m := 3) F_245_40 rfl ?_
                  refine r_ireturn F_245_41 rt_245 ?_
                  exact (l12 e2 e4 e6 e8 e10 e11 e12 e13)
                · intro e14
                  replace e14 : ¬ (asv s r) = 0 := e14
                  refine r_iconst F_241_50 ?_
                  refine r_goto (t := 59) F_241_51 rfl ?_
                  refine r_ireturn F_241_59 rt_241 ?_
                  show Rn _ _ _ _ _ [vI 0] _ _
                  refine r_stI_n (m := 3) (L' := [some (vR 77), some (vI r), some (vI p), some (vI 0)]) F_245_24 rfl rfl ?_
                  refine r_ldI_n (m := 3) F_245_25 rfl ?_
                  refine r_ifF (t := 40) F_245_26 rfl (by decide) (by show ¬ (¬ (0 : Int) = 0); decide) ?_
                  refine r_ldR_n (m := 0) F_245_29 rfl ?_
                  refine r_bipush F_245_30 bi__9 ?_
                  refine r_ldI_n (m := 1) F_245_32 rfl ?_
                  refine r_ldI_n (m := 2) F_245_33 rfl ?_
                  refine r_virt2 (A := [vI (-9), vI r, vI p]) (r := []) (n := 3) F_245_34 o_245 il_6_257 rfl rfl rfl rfl ty_77 vy_242 (lay_le n_242 rfl) ?_
                  refine sp_chance (l13 e2 e4 e6 e8 e10 e11 e12 e14) e2 (l9 e2 e4 e6 e8 e10) (Or.inl rfl) e6 e8 ?_
                  intro v15 s15 q15
                  show Rn _ _ _ _ _ [vI v15] _ _
                  refine r_goto (t := 41) F_245_37 rfl ?_
                  refine r_ireturn F_245_41 rt_245 ?_
                  exact (l14 e2 e4 e6 e8 e10 e11 e12 e14 v15 s15 q15)
              · intro e16
                replace e16 : 6 < (s 78 r) := (Int.not_le.mp e16)
                refine r_ldR_n (m := 0) F_241_36 rfl ?_
                refine r_iconst F_241_37 ?_
                refine r_virt2 (A := [vI 5]) (r := []) (n := 1) F_241_38 o_241 il_6_75 rfl rfl rfl rfl ty_77 vy_161 (lay_le n_161 rfl) ?_
                refine Cl_of n_161 rfl ?_
                show Rn _ _ _ _ [some (vR 77), some (vI 5)] [] _ _
                refine r_ldR_n (m := 0) F_161_0 rfl ?_
                refine r_ldI_n (m := 1) F_161_1 rfl ?_
                refine r_putI (J := 10) F_161_2 o_161 fl_6_57 ty_77 (by decide) rfl kd_77_10 pf_6_10 ?_
                refine r_ldR_n (m := 0) F_161_5 rfl ?_
                refine r_getR (J := 9) F_161_6 o_161 fl_6_38 ty_77 (by decide) rfl (kd2 kd_77_9 (by decide)) (kd9 kd_77_9 (by decide)) rf_77_9 ?_
                refine r_ldI_n (m := 1) F_161_9 rfl ?_
                refine r_dup2 F_161_10 ?_
                refine r_iald (e := (s 87 5)) F_161_11 ty_87 (by decide) (lt_ln ln_87 (by decide)) (upd_nc (by decide)) ?_
                refine r_iconst F_161_12 ?_
                refine r_iadd F_161_13 rfl ?_
                refine r_iast F_161_14 ty_87 (by decide) (lt_ln ln_87 (by decide)) ?_
                refine r_bipush F_161_15 bi__3 ?_
                refine r_ireturn F_161_17 rt_161 ?_
                show Rn _ _ _ _ _ [vI (-3)] _ _
                refine r_ireturn F_241_41 rt_241 ?_
                show Rn _ _ _ _ _ [vI (-3)] _ _
                refine r_stI_n (m := 3) (L' := [some (vR 77), some (vI r), some (vI p), some (vI (-3))]) F_245_24 rfl rfl ?_
                refine r_ldI_n (m := 3) F_245_25 rfl ?_
                refine r_ifT (t := 40) F_245_26 rfl (by decide) (by show ¬ ((-3) : Int) = 0; decide) ?_
                refine r_ldI_n (m := 3) F_245_40 rfl ?_
                refine r_ireturn F_245_41 rt_245 ?_
                exact (l15 e2 e4 e6 e8 e10 e11 e16)
            · intro e17
              replace e17 : (s 78 r) < 0 := (Int.not_le.mp e17)
              refine r_ldR_n (m := 0) F_241_19 rfl ?_
              refine r_iconst F_241_20 ?_
              refine r_virt2 (A := [vI 1]) (r := []) (n := 1) F_241_21 o_241 il_6_75 rfl rfl rfl rfl ty_77 vy_161 (lay_le n_161 rfl) ?_
              refine Cl_of n_161 rfl ?_
              show Rn _ _ _ _ [some (vR 77), some (vI 1)] [] _ _
              refine r_ldR_n (m := 0) F_161_0 rfl ?_
              refine r_ldI_n (m := 1) F_161_1 rfl ?_
              refine r_putI (J := 10) F_161_2 o_161 fl_6_57 ty_77 (by decide) rfl kd_77_10 pf_6_10 ?_
              refine r_ldR_n (m := 0) F_161_5 rfl ?_
              refine r_getR (J := 9) F_161_6 o_161 fl_6_38 ty_77 (by decide) rfl (kd2 kd_77_9 (by decide)) (kd9 kd_77_9 (by decide)) rf_77_9 ?_
              refine r_ldI_n (m := 1) F_161_9 rfl ?_
              refine r_dup2 F_161_10 ?_
              refine r_iald (e := (s 87 1)) F_161_11 ty_87 (by decide) (lt_ln ln_87 (by decide)) (upd_nc (by decide)) ?_
              refine r_iconst F_161_12 ?_
              refine r_iadd F_161_13 rfl ?_
              refine r_iast F_161_14 ty_87 (by decide) (lt_ln ln_87 (by decide)) ?_
              refine r_bipush F_161_15 bi__3 ?_
              refine r_ireturn F_161_17 rt_161 ?_
              show Rn _ _ _ _ _ [vI (-3)] _ _
              refine r_ireturn F_241_24 rt_241 ?_
              show Rn _ _ _ _ _ [vI (-3)] _ _
              refine r_stI_n (m := 3) (L' := [some (vR 77), some (vI r), some (vI p), some (vI (-3))]) F_245_24 rfl rfl ?_
              refine r_ldI_n (m := 3) F_245_25 rfl ?_
              refine r_ifT (t := 40) F_245_26 rfl (by decide) (by show ¬ ((-3) : Int) = 0; decide) ?_
              refine r_ldI_n (m := 3) F_245_40 rfl ?_
              refine r_ireturn F_245_41 rt_245 ?_
              exact (l16 e2 e4 e6 e8 e10 e17)
