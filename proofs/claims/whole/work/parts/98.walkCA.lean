/-! walks: the calls of the reference, changes -/
theorem n_231 : m_n 231 = 5 := by decide +kernel
theorem F_231_0 : F 231 0 (.aload_n 0) 1 := ⟨1, by decide +kernel, rfl, rfl⟩
theorem F_231_1 : F 231 1 (.iload_n 1) 2 := ⟨1, by decide +kernel, rfl, rfl⟩
theorem F_231_2 : F 231 2 (.invokevirtual 150) 5 := ⟨3, by decide +kernel, rfl, rfl⟩
theorem o_231 : m_o 231 = 6 := by decide +kernel
theorem F_231_5 : F 231 5 (.ifCond .ne 5) 8 := ⟨3, by decide +kernel, rfl, rfl⟩
theorem F_231_8 : F 231 8 (.iconst (-1)) 9 := ⟨1, by decide +kernel, rfl, rfl⟩
theorem F_231_9 : F 231 9 (.ireturn) 10 := ⟨1, by decide +kernel, rfl, rfl⟩
theorem rt_231 : m_r 231 = (some .int) := by decide +kernel
theorem F_231_10 : F 231 10 (.aload_n 0) 11 := ⟨1, by decide +kernel, rfl, rfl⟩
theorem F_231_11 : F 231 11 (.iload_n 1) 12 := ⟨1, by decide +kernel, rfl, rfl⟩
theorem F_231_12 : F 231 12 (.invokevirtual 143) 15 := ⟨3, by decide +kernel, rfl, rfl⟩
theorem F_231_15 : F 231 15 (.istore_n 2) 16 := ⟨1, by decide +kernel, rfl, rfl⟩
theorem F_231_16 : F 231 16 (.bipush (-9)) 18 := ⟨2, by decide +kernel, rfl, rfl⟩
theorem F_231_18 : F 231 18 (.istore_n 3) 19 := ⟨1, by decide +kernel, rfl, rfl⟩
theorem F_231_19 : F 231 19 (.iconst 0) 20 := ⟨1, by decide +kernel, rfl, rfl⟩
theorem F_231_20 : F 231 20 (.istore 4) 22 := ⟨2, by decide +kernel, rfl, rfl⟩
theorem F_231_22 : F 231 22 (.iload 4) 24 := ⟨2, by decide +kernel, rfl, rfl⟩
theorem F_231_24 : F 231 24 (.bipush 16) 26 := ⟨2, by decide +kernel, rfl, rfl⟩
theorem F_231_26 : F 231 26 (.if_icmp .ge 49) 29 := ⟨3, by decide +kernel, rfl, rfl⟩
theorem F_231_75 : F 231 75 (.aload_n 0) 76 := ⟨1, by decide +kernel, rfl, rfl⟩
theorem F_231_76 : F 231 76 (.iload_n 3) 77 := ⟨1, by decide +kernel, rfl, rfl⟩
theorem F_231_77 : F 231 77 (.iload_n 2) 78 := ⟨1, by decide +kernel, rfl, rfl⟩
theorem F_231_78 : F 231 78 (.ixor) 79 := ⟨1, by decide +kernel, rfl, rfl⟩
theorem F_231_79 : F 231 79 (.invokestatic 230) 82 := ⟨3, by decide +kernel, rfl, rfl⟩
theorem il_6_230 : ilq 6 230 1 232 1 = true := by decide +kernel
theorem F_231_82 : F 231 82 (.iload_n 3) 83 := ⟨1, by decide +kernel, rfl, rfl⟩
theorem F_231_83 : F 231 83 (.invokevirtual 87) 86 := ⟨3, by decide +kernel, rfl, rfl⟩
theorem F_231_86 : F 231 86 (.ireturn) 87 := ⟨1, by decide +kernel, rfl, rfl⟩
theorem F_231_29 : F 231 29 (.aload_n 0) 30 := ⟨1, by decide +kernel, rfl, rfl⟩
theorem F_231_30 : F 231 30 (.iload 4) 32 := ⟨2, by decide +kernel, rfl, rfl⟩
theorem F_231_32 : F 231 32 (.invokevirtual 162) 35 := ⟨3, by decide +kernel, rfl, rfl⟩
theorem F_231_35 : F 231 35 (.iload 4) 37 := ⟨2, by decide +kernel, rfl, rfl⟩
theorem F_231_37 : F 231 37 (.if_icmp .ne 30) 40 := ⟨3, by decide +kernel, rfl, rfl⟩
theorem F_231_67 : F 231 67 (.iload_n 3) 68 := ⟨1, by decide +kernel, rfl, rfl⟩
theorem F_231_68 : F 231 68 (.istore_n 3) 69 := ⟨1, by decide +kernel, rfl, rfl⟩
theorem F_231_69 : F 231 69 (.iinc 4 1) 72 := ⟨3, by decide +kernel, rfl, rfl⟩
theorem F_231_72 : F 231 72 (.goto (-50)) 75 := ⟨3, by decide +kernel, rfl, rfl⟩
theorem F_231_40 : F 231 40 (.iload_n 3) 41 := ⟨1, by decide +kernel, rfl, rfl⟩
theorem F_231_41 : F 231 41 (.bipush (-9)) 43 := ⟨2, by decide +kernel, rfl, rfl⟩
theorem F_231_43 : F 231 43 (.if_icmp .eq 19) 46 := ⟨3, by decide +kernel, rfl, rfl⟩
theorem F_231_62 : F 231 62 (.iload 4) 64 := ⟨2, by decide +kernel, rfl, rfl⟩
theorem F_231_64 : F 231 64 (.goto 4) 67 := ⟨3, by decide +kernel, rfl, rfl⟩
theorem F_231_46 : F 231 46 (.iload 4) 48 := ⟨2, by decide +kernel, rfl, rfl⟩
theorem F_231_48 : F 231 48 (.iload_n 2) 49 := ⟨1, by decide +kernel, rfl, rfl⟩
theorem F_231_49 : F 231 49 (.ixor) 50 := ⟨1, by decide +kernel, rfl, rfl⟩
theorem F_231_50 : F 231 50 (.invokestatic 230) 53 := ⟨3, by decide +kernel, rfl, rfl⟩
theorem F_231_53 : F 231 53 (.iload_n 3) 54 := ⟨1, by decide +kernel, rfl, rfl⟩
theorem F_231_54 : F 231 54 (.iload_n 2) 55 := ⟨1, by decide +kernel, rfl, rfl⟩
theorem F_231_55 : F 231 55 (.ixor) 56 := ⟨1, by decide +kernel, rfl, rfl⟩
theorem F_231_56 : F 231 56 (.invokestatic 230) 59 := ⟨3, by decide +kernel, rfl, rfl⟩
theorem F_231_59 : F 231 59 (.if_icmp .ge 8) 62 := ⟨3, by decide +kernel, rfl, rfl⟩
theorem n_251 : m_n 251 = 3 := by decide +kernel
theorem F_251_0 : F 251 0 (.aload_n 0) 1 := ⟨1, by decide +kernel, rfl, rfl⟩
theorem F_251_1 : F 251 1 (.invokevirtual 192) 4 := ⟨3, by decide +kernel, rfl, rfl⟩
theorem o_251 : m_o 251 = 6 := by decide +kernel
theorem F_251_4 : F 251 4 (.ifCond .eq 8) 7 := ⟨3, by decide +kernel, rfl, rfl⟩
theorem F_251_12 : F 251 12 (.iconst 0) 13 := ⟨1, by decide +kernel, rfl, rfl⟩
theorem F_251_13 : F 251 13 (.istore_n 1) 14 := ⟨1, by decide +kernel, rfl, rfl⟩
theorem F_251_14 : F 251 14 (.iconst 0) 15 := ⟨1, by decide +kernel, rfl, rfl⟩
theorem F_251_15 : F 251 15 (.istore_n 2) 16 := ⟨1, by decide +kernel, rfl, rfl⟩
theorem F_251_7 : F 251 7 (.bipush 15) 9 := ⟨2, by decide +kernel, rfl, rfl⟩
theorem F_251_9 : F 251 9 (.goto 4) 12 := ⟨3, by decide +kernel, rfl, rfl⟩
theorem F_251_16 : F 251 16 (.iload_n 2) 17 := ⟨1, by decide +kernel, rfl, rfl⟩
theorem F_251_17 : F 251 17 (.aload_n 0) 18 := ⟨1, by decide +kernel, rfl, rfl⟩
theorem F_251_18 : F 251 18 (.getfield 25) 21 := ⟨3, by decide +kernel, rfl, rfl⟩
theorem F_251_21 : F 251 21 (.iconst 0) 22 := ⟨1, by decide +kernel, rfl, rfl⟩
theorem F_251_22 : F 251 22 (.iaload) 23 := ⟨1, by decide +kernel, rfl, rfl⟩
theorem F_251_23 : F 251 23 (.if_icmp .ge 17) 26 := ⟨3, by decide +kernel, rfl, rfl⟩
theorem F_251_40 : F 251 40 (.iload_n 1) 41 := ⟨1, by decide +kernel, rfl, rfl⟩
theorem F_251_41 : F 251 41 (.ireturn) 42 := ⟨1, by decide +kernel, rfl, rfl⟩
theorem rt_251 : m_r 251 = (some .int) := by decide +kernel
theorem F_251_26 : F 251 26 (.iload_n 1) 27 := ⟨1, by decide +kernel, rfl, rfl⟩
theorem F_251_27 : F 251 27 (.aload_n 0) 28 := ⟨1, by decide +kernel, rfl, rfl⟩
theorem F_251_28 : F 251 28 (.iload_n 2) 29 := ⟨1, by decide +kernel, rfl, rfl⟩
theorem F_251_29 : F 251 29 (.invokevirtual 143) 32 := ⟨3, by decide +kernel, rfl, rfl⟩
theorem F_251_32 : F 251 32 (.iand) 33 := ⟨1, by decide +kernel, rfl, rfl⟩
theorem F_251_33 : F 251 33 (.istore_n 1) 34 := ⟨1, by decide +kernel, rfl, rfl⟩
theorem F_251_34 : F 251 34 (.iinc 2 1) 37 := ⟨3, by decide +kernel, rfl, rfl⟩
theorem F_251_37 : F 251 37 (.goto (-21)) 40 := ⟨3, by decide +kernel, rfl, rfl⟩
theorem t_X6_change {X : List Int32} {d : Nat} {s : m_St} {P : Option Value → m_St → Prop} {i : Int}
    (l1 : inR i)
    (l2 : i < 0 → P (some (vI (-1))) s)
    (l3 : 0 ≤ i → inR ((s 83 0) - 1))
    (l4 : 0 ≤ i → ((s 83 0) - 1) < i → P (some (vI (-1))) s)
    (l5 : 0 ≤ i → i ≤ ((s 83 0) - 1) → mok s)
    (l6 : 0 ≤ i → i ≤ ((s 83 0) - 1) → i < (s 83 0))
    (l7 : 0 ≤ i → i ≤ ((s 83 0) - 1) → Rn X (d + 3) 231 22 [some (vR 77), some (vI i), some (vI (hld (s 83) i)), some (vI (-9)), some (vI 0)] [] s P)
    : Cl X (d + 3) 231 [vR 77, vI i] s P := by
  refine Cl_of n_231 rfl ?_
  show Rn _ _ _ _ [some (vR 77), some (vI i), none, none, none] [] _ _
  refine r_ldR_n (m := 0) F_231_0 rfl ?_
  refine r_ldI_n (m := 1) F_231_1 rfl ?_
  refine r_virt2 (A := [vI i]) (r := []) (n := 1) F_231_2 o_231 il_6_150 rfl rfl rfl rfl ty_77 vy_184 (lay_le n_184 rfl) ?_
  refine Cl_of n_184 rfl ?_
  show Rn _ _ _ _ [some (vR 77), some (vI i)] [] _ _
  refine r_ldI_n (m := 1) F_184_0 rfl ?_
  refine r_iconst F_184_1 ?_
  refine r_ldR_n (m := 0) F_184_2 rfl ?_
  refine r_getR (J := 5) F_184_3 o_184 fl_6_25 ty_77 (by decide) rfl (kd2 kd_77_5 (by decide)) (kd9 kd_77_5 (by decide)) rf_77_5 ?_
  refine r_iconst F_184_6 ?_
  refine r_iald (e := (s 83 0)) F_184_7 ty_83 (by decide) (lt_ln ln_83 (by decide)) rfl ?_
  refine r_iconst F_184_8 ?_
  refine r_isub F_184_9 rfl ?_
  refine r_stat2 (A := [vI i, vI 0, vI ((s 83 0) - 1)]) (r := []) (n := 3) F_184_10 o_184 il_6_67 (by decide) rfl rfl rfl rfl (lay_le n_160 rfl) ?_
  refine Cl_of n_160 rfl ?_
  show Rn _ _ _ _ [some (vI i), some (vI 0), some (vI ((s 83 0) - 1))] [] _ _
  refine r_ldI_n (m := 0) F_160_0 rfl ?_
  refine r_ldI_n (m := 1) F_160_1 rfl ?_
  refine r_icmp (t := 14) F_160_2 rfl l1 (by decide) ?_ ?_
  · intro e1
    replace e1 : i < 0 := e1
    refine r_iconst F_160_14 ?_
    refine r_zreturn F_160_15 rt_160 (Or.inl rfl) ?_
    show Rn _ _ _ _ _ [vI 0] _ _
    refine r_zreturn F_184_13 rt_184 (Or.inl rfl) ?_
    show Rn _ _ _ _ _ [vI 0] _ _
    refine r_ifF (t := 10) F_231_5 rfl (by decide) (by show ¬ (¬ (0 : Int) = 0); decide) ?_
    refine r_iconst F_231_8 ?_
    refine r_ireturn F_231_9 rt_231 ?_
    exact (l2 e1)
  · intro e2
    replace e2 : 0 ≤ i := (Int.not_lt.mp e2)
    refine r_ldI_n (m := 0) F_160_5 rfl ?_
    refine r_ldI_n (m := 2) F_160_6 rfl ?_
    refine r_icmp (t := 14) F_160_7 rfl l1 (l3 e2) ?_ ?_
    · intro e3
      replace e3 : ((s 83 0) - 1) < i := e3
      refine r_iconst F_160_14 ?_
      refine r_zreturn F_160_15 rt_160 (Or.inl rfl) ?_
      show Rn _ _ _ _ _ [vI 0] _ _
      refine r_zreturn F_184_13 rt_184 (Or.inl rfl) ?_
      show Rn _ _ _ _ _ [vI 0] _ _
      refine r_ifF (t := 10) F_231_5 rfl (by decide) (by show ¬ (¬ (0 : Int) = 0); decide) ?_
      refine r_iconst F_231_8 ?_
      refine r_ireturn F_231_9 rt_231 ?_
      exact (l4 e2 e3)
    · intro e4
      replace e4 : i ≤ ((s 83 0) - 1) := (Int.not_lt.mp e4)
      refine r_iconst F_160_10 ?_
      refine r_goto (t := 15) F_160_11 rfl ?_
      refine r_zreturn F_160_15 rt_160 (Or.inr rfl) ?_
      show Rn _ _ _ _ _ [vI 1] _ _
      refine r_zreturn F_184_13 rt_184 (Or.inr rfl) ?_
      show Rn _ _ _ _ _ [vI 1] _ _
      refine r_ifT (t := 10) F_231_5 rfl (by decide) (by show ¬ (1 : Int) = 0; decide) ?_
      refine r_ldR_n (m := 0) F_231_10 rfl ?_
      refine r_ldI_n (m := 1) F_231_11 rfl ?_
      refine r_virt2 (A := [vI i]) (r := []) (n := 1) F_231_12 o_231 il_6_143 rfl rfl rfl rfl ty_77 vy_186 (lay_le n_186 rfl) ?_
      refine sp_holdsM (l5 e2 e4) e2 (l6 e2 e4) ?_
      show Rn _ _ _ _ _ [vI (hld (s 83) i)] _ _
      refine r_stI_n (m := 2) (L' := [some (vR 77), some (vI i), some (vI (hld (s 83) i)), none, none]) F_231_15 rfl rfl ?_
      refine r_bipush F_231_16 bi__9 ?_
      refine r_stI_n (m := 3) (L' := [some (vR 77), some (vI i), some (vI (hld (s 83) i)), some (vI (-9)), none]) F_231_18 rfl rfl ?_
      refine r_iconst F_231_19 ?_
      refine r_stI (m := 4) (L' := [some (vR 77), some (vI i), some (vI (hld (s 83) i)), some (vI (-9)), some (vI 0)]) F_231_20 rfl rfl ?_
      exact (l7 e2 e4)
theorem t_X6_change_22 {X : List Int32} {d : Nat} {s : m_St} {P : Option Value → m_St → Prop} {i h b z : Int} (z0 : 0 ≤ z)
    (l1 : inR z)
    (l2 : 16 ≤ z → P (some (vI (on16 (iXor b h)))) (m_upd s 77 11 b))
    (l3 : z < 16 → tr (s 38 5) (s 83 7))
    (l4 : z < 16 → r16 z)
    (l5 : z < 16 → inR (clo (s 38 5) z))
    (l6 : z < 16 → ¬ (clo (s 38 5) z) = z → Rn X (d + 3) 231 22 [some (vR 77), some (vI i), some (vI h), some (vI b), some (vI (z + 1))] [] s P)
    (l7 : z < 16 → (clo (s 38 5) z) = z → inR b)
    (l8 : z < 16 → (clo (s 38 5) z) = z → b = (-9) → Rn X (d + 3) 231 22 [some (vR 77), some (vI i), some (vI h), some (vI z), some (vI (z + 1))] [] s P)
    (l9 : z < 16 → (clo (s 38 5) z) = z → ¬ b = (-9) → (on16 (iXor b h)) ≤ (on16 (iXor z h)) → Rn X (d + 3) 231 22 [some (vR 77), some (vI i), some (vI h), some (vI b), some (vI (z + 1))] [] s P)
    (l10 : z < 16 → (clo (s 38 5) z) = z → ¬ b = (-9) → (on16 (iXor z h)) < (on16 (iXor b h)) → Rn X (d + 3) 231 22 [some (vR 77), some (vI i), some (vI h), some (vI z), some (vI (z + 1))] [] s P)
    : Rn X (d + 3) 231 22 [some (vR 77), some (vI i), some (vI h), some (vI b), some (vI z)] [] s P := by
  refine r_ldI (m := 4) F_231_22 rfl ?_
  refine r_bipush F_231_24 bi_16 ?_
  refine r_icmp (t := 75) F_231_26 rfl l1 (by decide) ?_ ?_
  · intro e1
    replace e1 : 16 ≤ z := e1
    refine r_ldR_n (m := 0) F_231_75 rfl ?_
    refine r_ldI_n (m := 3) F_231_76 rfl ?_
    refine r_ldI_n (m := 2) F_231_77 rfl ?_
    refine r_ixor F_231_78 rfl ?_
    refine r_stat2 (A := [vI (iXor b h)]) (r := [vR 77]) (n := 1) F_231_79 o_231 il_6_230 (by decide) rfl rfl rfl rfl (lay_le n_232 rfl) ?_
    refine sp_ones  ?_
    show Rn _ _ _ _ _ [vI (on16 (iXor b h)), vR 77] _ _
    refine r_ldI_n (m := 3) F_231_82 rfl ?_
    refine r_virt2 (A := [vI (on16 (iXor b h)), vI b]) (r := []) (n := 2) F_231_83 o_231 il_6_87 rfl rfl rfl rfl ty_77 vy_165 (lay_le n_165 rfl) ?_
    refine Cl_of n_165 rfl ?_
    show Rn _ _ _ _ [some (vR 77), some (vI (on16 (iXor b h))), some (vI b)] [] _ _
    refine r_ldR_n (m := 0) F_165_0 rfl ?_
    refine r_ldI_n (m := 2) F_165_1 rfl ?_
    refine r_putI (J := 11) F_165_2 o_165 fl_6_61 ty_77 (by decide) rfl kd_77_11 pf_6_11 ?_
    refine r_ldI_n (m := 1) F_165_5 rfl ?_
    refine r_ireturn F_165_6 rt_165 ?_
    show Rn _ _ _ _ _ [vI (on16 (iXor b h))] _ _
    refine r_ireturn F_231_86 rt_231 ?_
    exact (l2 e1)
  · intro e2
    replace e2 : z < 16 := (Int.not_le.mp e2)
    refine r_ldR_n (m := 0) F_231_29 rfl ?_
    refine r_ldI (m := 4) F_231_30 rfl ?_
    refine r_virt2 (A := [vI z]) (r := []) (n := 1) F_231_32 o_231 il_6_162 rfl rfl rfl rfl ty_77 vy_196 (lay_le n_196 rfl) ?_
    refine sp_closedM (l3 e2) (l4 e2) ?_
    show Rn _ _ _ _ _ [vI (clo (s 38 5) z)] _ _
    refine r_ldI (m := 4) F_231_35 rfl ?_
    refine r_icmp (t := 67) F_231_37 rfl (l5 e2) l1 ?_ ?_
    · intro e3
      replace e3 : ¬ (clo (s 38 5) z) = z := e3
      refine r_ldI_n (m := 3) F_231_67 rfl ?_
      refine r_stI_n (m := 3) (L' := [some (vR 77), some (vI i), some (vI h), some (vI b), some (vI z)]) F_231_68 rfl rfl ?_
      refine r_iinc (m := 4) (e := (z + 1)) (L' := [some (vR 77), some (vI i), some (vI h), some (vI b), some (vI (z + 1))]) F_231_69 rfl rfl rfl rfl ?_
      refine r_goto (t := 22) F_231_72 rfl ?_
      exact (l6 e2 e3)
    · intro e4
      replace e4 : (clo (s 38 5) z) = z := (Classical.not_not.mp e4)
      refine r_ldI_n (m := 3) F_231_40 rfl ?_
      refine r_bipush F_231_41 bi__9 ?_
      refine r_icmp (t := 62) F_231_43 rfl (l7 e2 e4) (by decide) ?_ ?_
      · intro e5
        replace e5 : b = (-9) := e5
        refine r_ldI (m := 4) F_231_62 rfl ?_
        refine r_goto (t := 68) F_231_64 rfl ?_
        refine r_stI_n (m := 3) (L' := [some (vR 77), some (vI i), some (vI h), some (vI z), some (vI z)]) F_231_68 rfl rfl ?_
        refine r_iinc (m := 4) (e := (z + 1)) (L' := [some (vR 77), some (vI i), some (vI h), some (vI z), some (vI (z + 1))]) F_231_69 rfl rfl rfl rfl ?_
        refine r_goto (t := 22) F_231_72 rfl ?_
        exact (l8 e2 e4 e5)
      · intro e6
        replace e6 : ¬ b = (-9) := e6
        refine r_ldI (m := 4) F_231_46 rfl ?_
        refine r_ldI_n (m := 2) F_231_48 rfl ?_
        refine r_ixor F_231_49 rfl ?_
        refine r_stat2 (A := [vI (iXor z h)]) (r := []) (n := 1) F_231_50 o_231 il_6_230 (by decide) rfl rfl rfl rfl (lay_le n_232 rfl) ?_
        refine sp_ones  ?_
        show Rn _ _ _ _ _ [vI (on16 (iXor z h))] _ _
        refine r_ldI_n (m := 3) F_231_53 rfl ?_
        refine r_ldI_n (m := 2) F_231_54 rfl ?_
        refine r_ixor F_231_55 rfl ?_
        refine r_stat2 (A := [vI (iXor b h)]) (r := [vI (on16 (iXor z h))]) (n := 1) F_231_56 o_231 il_6_230 (by decide) rfl rfl rfl rfl (lay_le n_232 rfl) ?_
        refine sp_ones  ?_
        show Rn _ _ _ _ _ [vI (on16 (iXor b h)), vI (on16 (iXor z h))] _ _
        refine r_icmp (t := 67) F_231_59 rfl (inR_on16 _) (inR_on16 _) ?_ ?_
        · intro e7
          replace e7 : (on16 (iXor b h)) ≤ (on16 (iXor z h)) := e7
          refine r_ldI_n (m := 3) F_231_67 rfl ?_
          refine r_stI_n (m := 3) (L' := [some (vR 77), some (vI i), some (vI h), some (vI b), some (vI z)]) F_231_68 rfl rfl ?_
          refine r_iinc (m := 4) (e := (z + 1)) (L' := [some (vR 77), some (vI i), some (vI h), some (vI b), some (vI (z + 1))]) F_231_69 rfl rfl rfl rfl ?_
          refine r_goto (t := 22) F_231_72 rfl ?_
          exact (l9 e2 e4 e6 e7)
        · intro e8
          replace e8 : (on16 (iXor z h)) < (on16 (iXor b h)) := (Int.not_le.mp e8)
          refine r_ldI (m := 4) F_231_62 rfl ?_
          refine r_goto (t := 68) F_231_64 rfl ?_
          refine r_stI_n (m := 3) (L' := [some (vR 77), some (vI i), some (vI h), some (vI z), some (vI z)]) F_231_68 rfl rfl ?_
          refine r_iinc (m := 4) (e := (z + 1)) (L' := [some (vR 77), some (vI i), some (vI h), some (vI z), some (vI (z + 1))]) F_231_69 rfl rfl rfl rfl ?_
          refine r_goto (t := 22) F_231_72 rfl ?_
          exact (l10 e2 e4 e6 e8)
theorem t_X6_allHold {X : List Int32} {d : Nat} {s : m_St} {P : Option Value → m_St → Prop}
    (l1 : inR (s 83 0))
    (l2 : (s 83 0) ≤ 0 → Rn X (d + 3) 251 16 [some (vR 77), some (vI 0), some (vI 0)] [] s P)
    (l3 : 0 < (s 83 0) → Rn X (d + 3) 251 16 [some (vR 77), some (vI 15), some (vI 0)] [] s P)
    : Cl X (d + 3) 251 [vR 77] s P := by
  refine Cl_of n_251 rfl ?_
  show Rn _ _ _ _ [some (vR 77), none, none] [] _ _
  refine r_ldR_n (m := 0) F_251_0 rfl ?_
  refine r_virt2 (A := []) (r := []) (n := 0) F_251_1 o_251 il_6_192 rfl rfl rfl rfl ty_77 vy_209 (lay_le n_209 rfl) ?_
  refine Cl_of n_209 rfl ?_
  show Rn _ _ _ _ [some (vR 77)] [] _ _
  refine r_ldR_n (m := 0) F_209_0 rfl ?_
  refine r_getR (J := 5) F_209_1 o_209 fl_6_25 ty_77 (by decide) rfl (kd2 kd_77_5 (by decide)) (kd9 kd_77_5 (by decide)) rf_77_5 ?_
  refine r_iconst F_209_4 ?_
  refine r_iald (e := (s 83 0)) F_209_5 ty_83 (by decide) (lt_ln ln_83 (by decide)) rfl ?_
  refine r_if (t := 13) F_209_6 rfl l1 ?_ ?_
  · intro e1
    replace e1 : (s 83 0) ≤ 0 := e1
    refine r_iconst F_209_13 ?_
    refine r_zreturn F_209_14 rt_209 (Or.inl rfl) ?_
    show Rn _ _ _ _ _ [vI 0] _ _
    refine r_ifT (t := 12) F_251_4 rfl (by decide) (by show (0 : Int) = 0; decide) ?_
    refine r_iconst F_251_12 ?_
    refine r_stI_n (m := 1) (L' := [some (vR 77), some (vI 0), none]) F_251_13 rfl rfl ?_
    refine r_iconst F_251_14 ?_
    refine r_stI_n (m := 2) (L' := [some (vR 77), some (vI 0), some (vI 0)]) F_251_15 rfl rfl ?_
    exact (l2 e1)
  · intro e2
    replace e2 : 0 < (s 83 0) := (Int.not_le.mp e2)
    refine r_iconst F_209_9 ?_
    refine r_goto (t := 14) F_209_10 rfl ?_
    refine r_zreturn F_209_14 rt_209 (Or.inr rfl) ?_
    show Rn _ _ _ _ _ [vI 1] _ _
    refine r_ifF (t := 12) F_251_4 rfl (by decide) (by show ¬ ((1 : Int) = 0); decide) ?_
    refine r_bipush F_251_7 bi_15 ?_
    refine r_goto (t := 13) F_251_9 rfl ?_
    refine r_stI_n (m := 1) (L' := [some (vR 77), some (vI 15), none]) F_251_13 rfl rfl ?_
    refine r_iconst F_251_14 ?_
    refine r_stI_n (m := 2) (L' := [some (vR 77), some (vI 15), some (vI 0)]) F_251_15 rfl rfl ?_
    exact (l3 e2)
theorem t_X6_allHold_16 {X : List Int32} {d : Nat} {s : m_St} {P : Option Value → m_St → Prop} {a i : Int} (i0 : 0 ≤ i)
    (l1 : inR i)
    (l2 : inR (s 83 0))
    (l3 : (s 83 0) ≤ i → P (some (vI a)) s)
    (l4 : i < (s 83 0) → mok s)
    (l5 : i < (s 83 0) → Rn X (d + 3) 251 16 [some (vR 77), some (vI (iAnd a (hld (s 83) i))), some (vI (i + 1))] [] s P)
    : Rn X (d + 3) 251 16 [some (vR 77), some (vI a), some (vI i)] [] s P := by
  refine r_ldI_n (m := 2) F_251_16 rfl ?_
  refine r_ldR_n (m := 0) F_251_17 rfl ?_
  refine r_getR (J := 5) F_251_18 o_251 fl_6_25 ty_77 (by decide) rfl (kd2 kd_77_5 (by decide)) (kd9 kd_77_5 (by decide)) rf_77_5 ?_
  refine r_iconst F_251_21 ?_
  refine r_iald (e := (s 83 0)) F_251_22 ty_83 (by decide) (lt_ln ln_83 (by decide)) rfl ?_
  refine r_icmp (t := 40) F_251_23 rfl l1 l2 ?_ ?_
  · intro e1
    replace e1 : (s 83 0) ≤ i := e1
    refine r_ldI_n (m := 1) F_251_40 rfl ?_
    refine r_ireturn F_251_41 rt_251 ?_
    exact (l3 e1)
  · intro e2
    replace e2 : i < (s 83 0) := (Int.not_le.mp e2)
    refine r_ldI_n (m := 1) F_251_26 rfl ?_
    refine r_ldR_n (m := 0) F_251_27 rfl ?_
    refine r_ldI_n (m := 2) F_251_28 rfl ?_
    refine r_virt2 (A := [vI i]) (r := [vI a]) (n := 1) F_251_29 o_251 il_6_143 rfl rfl rfl rfl ty_77 vy_186 (lay_le n_186 rfl) ?_
    refine sp_holdsM (l4 e2) i0 e2 ?_
    show Rn _ _ _ _ _ [vI (hld (s 83) i), vI a] _ _
    refine r_iand F_251_32 rfl ?_
    refine r_stI_n (m := 1) (L' := [some (vR 77), some (vI (iAnd a (hld (s 83) i))), some (vI i)]) F_251_33 rfl rfl ?_
    refine r_iinc (m := 2) (e := (i + 1)) (L' := [some (vR 77), some (vI (iAnd a (hld (s 83) i))), some (vI (i + 1))]) F_251_34 rfl rfl rfl rfl ?_
    refine r_goto (t := 16) F_251_37 rfl ?_
    exact (l5 e2)
