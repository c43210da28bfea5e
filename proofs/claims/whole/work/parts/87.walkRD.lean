/-! walks: the calls of the reference that read -/
theorem n_172 : m_n 172 = 2 := by decide +kernel
theorem F_172_0 : F 172 0 (.iload_n 1) 1 := ⟨1, by decide +kernel, rfl, rfl⟩
theorem F_172_1 : F 172 1 (.invokestatic 90) 4 := ⟨3, by decide +kernel, rfl, rfl⟩
theorem o_172 : m_o 172 = 6 := by decide +kernel
theorem F_172_4 : F 172 4 (.ifCond .ne 5) 7 := ⟨3, by decide +kernel, rfl, rfl⟩
theorem F_172_7 : F 172 7 (.iconst (-1)) 8 := ⟨1, by decide +kernel, rfl, rfl⟩
theorem F_172_8 : F 172 8 (.ireturn) 9 := ⟨1, by decide +kernel, rfl, rfl⟩
theorem rt_172 : m_r 172 = (some .int) := by decide +kernel
theorem F_172_9 : F 172 9 (.aload_n 0) 10 := ⟨1, by decide +kernel, rfl, rfl⟩
theorem F_172_10 : F 172 10 (.getfield 19) 13 := ⟨3, by decide +kernel, rfl, rfl⟩
theorem F_172_13 : F 172 13 (.iload_n 1) 14 := ⟨1, by decide +kernel, rfl, rfl⟩
theorem F_172_14 : F 172 14 (.iaload) 15 := ⟨1, by decide +kernel, rfl, rfl⟩
theorem F_172_15 : F 172 15 (.ifCond .ge 11) 18 := ⟨3, by decide +kernel, rfl, rfl⟩
theorem F_172_26 : F 172 26 (.aload_n 0) 27 := ⟨1, by decide +kernel, rfl, rfl⟩
theorem F_172_27 : F 172 27 (.iload_n 1) 28 := ⟨1, by decide +kernel, rfl, rfl⟩
theorem F_172_28 : F 172 28 (.invokevirtual 122) 31 := ⟨3, by decide +kernel, rfl, rfl⟩
theorem il_6_122 : ilq 6 122 0 173 1 = true := by decide +kernel
theorem vy_173 : (m_cls 6).1 = (m_y 173).cls ∧ 6 < m_cl.length := by decide +kernel
theorem F_172_31 : F 172 31 (.ireturn) 32 := ⟨1, by decide +kernel, rfl, rfl⟩
theorem F_172_18 : F 172 18 (.aload_n 0) 19 := ⟨1, by decide +kernel, rfl, rfl⟩
theorem F_172_19 : F 172 19 (.iconst 1) 20 := ⟨1, by decide +kernel, rfl, rfl⟩
theorem F_172_20 : F 172 20 (.invokevirtual 75) 23 := ⟨3, by decide +kernel, rfl, rfl⟩
theorem F_172_23 : F 172 23 (.goto 8) 26 := ⟨3, by decide +kernel, rfl, rfl⟩
theorem n_181 : m_n 181 = 3 := by decide +kernel
theorem F_181_0 : F 181 0 (.iload_n 1) 1 := ⟨1, by decide +kernel, rfl, rfl⟩
theorem F_181_1 : F 181 1 (.invokestatic 90) 4 := ⟨3, by decide +kernel, rfl, rfl⟩
theorem o_181 : m_o 181 = 6 := by decide +kernel
theorem F_181_4 : F 181 4 (.ifCond .ne 5) 7 := ⟨3, by decide +kernel, rfl, rfl⟩
theorem F_181_7 : F 181 7 (.iconst (-1)) 8 := ⟨1, by decide +kernel, rfl, rfl⟩
theorem F_181_8 : F 181 8 (.ireturn) 9 := ⟨1, by decide +kernel, rfl, rfl⟩
theorem rt_181 : m_r 181 = (some .int) := by decide +kernel
theorem F_181_9 : F 181 9 (.aload_n 0) 10 := ⟨1, by decide +kernel, rfl, rfl⟩
theorem F_181_10 : F 181 10 (.getfield 19) 13 := ⟨3, by decide +kernel, rfl, rfl⟩
theorem F_181_13 : F 181 13 (.iload_n 1) 14 := ⟨1, by decide +kernel, rfl, rfl⟩
theorem F_181_14 : F 181 14 (.iaload) 15 := ⟨1, by decide +kernel, rfl, rfl⟩
theorem F_181_15 : F 181 15 (.ifCond .ge 9) 18 := ⟨3, by decide +kernel, rfl, rfl⟩
theorem F_181_24 : F 181 24 (.aload_n 0) 25 := ⟨1, by decide +kernel, rfl, rfl⟩
theorem F_181_25 : F 181 25 (.iload_n 1) 26 := ⟨1, by decide +kernel, rfl, rfl⟩
theorem F_181_26 : F 181 26 (.invokevirtual 122) 29 := ⟨3, by decide +kernel, rfl, rfl⟩
theorem F_181_29 : F 181 29 (.bipush (-9)) 31 := ⟨2, by decide +kernel, rfl, rfl⟩
theorem F_181_31 : F 181 31 (.if_icmp .eq 6) 34 := ⟨3, by decide +kernel, rfl, rfl⟩
theorem F_181_37 : F 181 37 (.aload_n 0) 38 := ⟨1, by decide +kernel, rfl, rfl⟩
theorem F_181_38 : F 181 38 (.getfield 28) 41 := ⟨3, by decide +kernel, rfl, rfl⟩
theorem F_181_41 : F 181 41 (.iconst 0) 42 := ⟨1, by decide +kernel, rfl, rfl⟩
theorem F_181_42 : F 181 42 (.aload_n 0) 43 := ⟨1, by decide +kernel, rfl, rfl⟩
theorem F_181_43 : F 181 43 (.getfield 25) 46 := ⟨3, by decide +kernel, rfl, rfl⟩
theorem F_181_46 : F 181 46 (.iconst 0) 47 := ⟨1, by decide +kernel, rfl, rfl⟩
theorem F_181_47 : F 181 47 (.invokestatic 125) 50 := ⟨3, by decide +kernel, rfl, rfl⟩
theorem il_6_125 : ilq 6 125 1 182 4 = true := by decide +kernel
theorem F_181_50 : F 181 50 (.iconst 0) 51 := ⟨1, by decide +kernel, rfl, rfl⟩
theorem F_181_51 : F 181 51 (.istore_n 2) 52 := ⟨1, by decide +kernel, rfl, rfl⟩
theorem F_181_34 : F 181 34 (.bipush (-4)) 36 := ⟨2, by decide +kernel, rfl, rfl⟩
theorem F_181_36 : F 181 36 (.ireturn) 37 := ⟨1, by decide +kernel, rfl, rfl⟩
theorem F_181_18 : F 181 18 (.aload_n 0) 19 := ⟨1, by decide +kernel, rfl, rfl⟩
theorem F_181_19 : F 181 19 (.iconst 1) 20 := ⟨1, by decide +kernel, rfl, rfl⟩
theorem F_181_20 : F 181 20 (.invokevirtual 75) 23 := ⟨3, by decide +kernel, rfl, rfl⟩
theorem F_181_23 : F 181 23 (.ireturn) 24 := ⟨1, by decide +kernel, rfl, rfl⟩
theorem F_181_52 : F 181 52 (.iload_n 2) 53 := ⟨1, by decide +kernel, rfl, rfl⟩
theorem F_181_53 : F 181 53 (.iconst 3) 54 := ⟨1, by decide +kernel, rfl, rfl⟩
theorem F_181_54 : F 181 54 (.if_icmp .ge 16) 57 := ⟨3, by decide +kernel, rfl, rfl⟩
theorem F_181_70 : F 181 70 (.aload_n 0) 71 := ⟨1, by decide +kernel, rfl, rfl⟩
theorem F_181_71 : F 181 71 (.getfield 25) 74 := ⟨3, by decide +kernel, rfl, rfl⟩
theorem F_181_74 : F 181 74 (.iconst 0) 75 := ⟨1, by decide +kernel, rfl, rfl⟩
theorem F_181_75 : F 181 75 (.iaload) 76 := ⟨1, by decide +kernel, rfl, rfl⟩
theorem F_181_76 : F 181 76 (.ireturn) 77 := ⟨1, by decide +kernel, rfl, rfl⟩
theorem F_181_57 : F 181 57 (.aload_n 0) 58 := ⟨1, by decide +kernel, rfl, rfl⟩
theorem F_181_58 : F 181 58 (.getfield 34) 61 := ⟨3, by decide +kernel, rfl, rfl⟩
theorem fl_6_34 : m_fl.lookup (6, 34) = some (6, 8, 4153) := by decide +kernel
theorem kd_77_8 : kd 77 8 = 88 := by decide +kernel
theorem rf_77_8 : rf 77 8 = 86 := by decide +kernel
theorem F_181_61 : F 181 61 (.iload_n 2) 62 := ⟨1, by decide +kernel, rfl, rfl⟩
theorem F_181_62 : F 181 62 (.iconst 0) 63 := ⟨1, by decide +kernel, rfl, rfl⟩
theorem F_181_63 : F 181 63 (.bastore) 64 := ⟨1, by decide +kernel, rfl, rfl⟩
theorem ln_86 : ln 86 = 3 := by decide +kernel
theorem ty_86 : ty 86 = 22 := by decide +kernel
theorem F_181_64 : F 181 64 (.iinc 2 1) 67 := ⟨3, by decide +kernel, rfl, rfl⟩
theorem F_181_67 : F 181 67 (.goto (-15)) 70 := ⟨3, by decide +kernel, rfl, rfl⟩
theorem t_X6_fault {X : List Int32} {d : Nat} {s : m_St} {P : Option Value → m_St → Prop} {t : Int}
    (l1 : inR t)
    (l2 : t < 0 → P (some (vI (-1))) s)
    (l3 : 0 ≤ t → 3 < t → P (some (vI (-1))) s)
    (l4 : 0 ≤ t → t ≤ 3 → t < 4)
    (l5 : 0 ≤ t → t ≤ 3 → inR (s 81 t))
    (l6 : 0 ≤ t → t ≤ 3 → 0 ≤ (s 81 t) → rtk s t)
    (l7 : 0 ≤ t → t ≤ 3 → 0 ≤ (s 81 t) → ∀ (v6 : Int) (s6 : m_St), qDM s t v6 s6 → P (some (vI v6)) s6)
    (l8 : 0 ≤ t → t ≤ 3 → (s 81 t) < 0 → P (some (vI (-3))) (m_upd (m_upd s 77 10 1) 87 1 ((s 87 1) + 1)))
    : Cl X (d + 4) 172 [vR 77, vI t] s P := by
  refine Cl_of n_172 rfl ?_
  show Rn _ _ _ _ [some (vR 77), some (vI t)] [] _ _
  refine r_ldI_n (m := 1) F_172_0 rfl ?_
  refine r_stat2 (A := [vI t]) (r := []) (n := 1) F_172_1 o_172 il_6_90 (by decide) rfl rfl rfl rfl (lay_le n_170 rfl) ?_
  refine Cl_of n_170 rfl ?_
  show Rn _ _ _ _ [some (vI t)] [] _ _
  refine r_ldI_n (m := 0) F_170_0 rfl ?_
  refine r_iconst F_170_1 ?_
  refine r_iconst F_170_2 ?_
  refine r_stat2 (A := [vI t, vI 0, vI 3]) (r := []) (n := 3) F_170_3 o_170 il_6_67 (by decide) rfl rfl rfl rfl (lay_le n_160 rfl) ?_
  refine Cl_of n_160 rfl ?_
  show Rn _ _ _ _ [some (vI t), some (vI 0), some (vI 3)] [] _ _
  refine r_ldI_n (m := 0) F_160_0 rfl ?_
  refine r_ldI_n (m := 1) F_160_1 rfl ?_
  refine r_icmp (t := 14) F_160_2 rfl l1 (by decide) ?_ ?_
  · intro e1
    replace e1 : t < 0 := e1
    refine r_iconst F_160_14 ?_
    refine r_zreturn F_160_15 rt_160 (Or.inl rfl) ?_
    show Rn _ _ _ _ _ [vI 0] _ _
    refine r_zreturn F_170_6 rt_170 (Or.inl rfl) ?_
    show Rn _ _ _ _ _ [vI 0] _ _
    refine r_ifF (t := 9) F_172_4 rfl (by decide) (by show ¬ (¬ (0 : Int) = 0); decide) ?_
    refine r_iconst F_172_7 ?_
    refine r_ireturn F_172_8 rt_172 ?_
    exact (l2 e1)
  · intro e2
    replace e2 : 0 ≤ t := (Int.not_lt.mp e2)
    refine r_ldI_n (m := 0) F_160_5 rfl ?_
    refine r_ldI_n (m := 2) F_160_6 rfl ?_
    refine r_icmp (t := 14) F_160_7 rfl l1 (by decide) ?_ ?_
    · intro e3
      replace e3 : 3 < t := e3
      refine r_iconst F_160_14 ?_
      refine r_zreturn F_160_15 rt_160 (Or.inl rfl) ?_
      show Rn _ _ _ _ _ [vI 0] _ _
      refine r_zreturn F_170_6 rt_170 (Or.inl rfl) ?_
      show Rn _ _ _ _ _ [vI 0] _ _
      refine r_ifF (t := 9) F_172_4 rfl (by decide) (by show ¬ (¬ (0 : Int) = 0); decide) ?_
      refine r_iconst F_172_7 ?_
      refine r_ireturn F_172_8 rt_172 ?_
      exact (l3 e2 e3)
    · intro e4
      replace e4 : t ≤ 3 := (Int.not_lt.mp e4)
      refine r_iconst F_160_10 ?_
      refine r_goto (t := 15) F_160_11 rfl ?_
      refine r_zreturn F_160_15 rt_160 (Or.inr rfl) ?_
      show Rn _ _ _ _ _ [vI 1] _ _
      refine r_zreturn F_170_6 rt_170 (Or.inr rfl) ?_
      show Rn _ _ _ _ _ [vI 1] _ _
      refine r_ifT (t := 9) F_172_4 rfl (by decide) (by show ¬ (1 : Int) = 0; decide) ?_
      refine r_ldR_n (m := 0) F_172_9 rfl ?_
      refine r_getR (J := 3) F_172_10 o_172 fl_6_19 ty_77 (by decide) rfl (kd2 kd_77_3 (by decide)) (kd9 kd_77_3 (by decide)) rf_77_3 ?_
      refine r_ldI_n (m := 1) F_172_13 rfl ?_
      refine r_iald (e := (s 81 t)) F_172_14 ty_81 e2 (lt_ln ln_81 (l4 e2 e4)) rfl ?_
      refine r_if (t := 26) F_172_15 rfl (l5 e2 e4) ?_ ?_
      · intro e5
        replace e5 : 0 ≤ (s 81 t) := e5
        refine r_ldR_n (m := 0) F_172_26 rfl ?_
        refine r_ldI_n (m := 1) F_172_27 rfl ?_
        refine r_virt2 (A := [vI t]) (r := []) (n := 1) F_172_28 o_172 il_6_122 rfl rfl rfl rfl ty_77 vy_173 (lay_le n_173 rfl) ?_
        refine sp_readsM (l6 e2 e4 e5) ?_
        intro v6 s6 q6
        show Rn _ _ _ _ _ [vI v6] _ _
        refine r_ireturn F_172_31 rt_172 ?_
        exact (l7 e2 e4 e5 v6 s6 q6)
      · intro e7
        replace e7 : (s 81 t) < 0 := (Int.not_le.mp e7)
        refine r_ldR_n (m := 0) F_172_18 rfl ?_
        refine r_iconst F_172_19 ?_
        refine r_virt2 (A := [vI 1]) (r := []) (n := 1) F_172_20 o_172 il_6_75 rfl rfl rfl rfl ty_77 vy_161 (lay_le n_161 rfl) ?_
        refine Cl_of n_161 rfl ?_
        show Rn _ _ _ _ [some (vR 77), some (vI 1)] [] _ _
        refine r_ldR_n (m := 0) F_161_0 rfl ?_
        refine r_ldI_n (m := 1) F_161_1 rfl ?_
        refine r_putI (J := 10) F_161_2 o_161 fl_6_57 ty_77 (by decide) rfl kd_77_10 pf_6_10 ?_
        refine r_ldR_n (m := 0) F_161_5 rfl ?_
        refine r_getR (J := 9) F_161_6 o_161 fl_6_38 ty_77 (by decide) rfl (kd2 kd_77_9 (by decide)) (kd9 kd_77_9 (by decide)) rf_77_9 ?_
        refine r_ldI_n (m := 1) F_161_9 rfl ?_
        refine r_dup2 F_161_10 ?_
        refine r_iald (e := (s 87 1)) F_161_11 ty_87 (by decide) (lt_ln ln_87 (by decide)) (upd_nc (by decide)) ?_
        refine r_iconst F_161_12 ?_
        refine r_iadd F_161_13 rfl ?_
        refine r_iast F_161_14 ty_87 (by decide) (lt_ln ln_87 (by decide)) ?_
        refine r_bipush F_161_15 bi__3 ?_
        refine r_ireturn F_161_17 rt_161 ?_
        show Rn _ _ _ _ _ [vI (-3)] _ _
        refine r_goto (t := 31) F_172_23 rfl ?_
        refine r_ireturn F_172_31 rt_172 ?_
        exact (l8 e2 e4 e7)
theorem t_X6_hut {X : List Int32} {d : Nat} {s : m_St} {P : Option Value → m_St → Prop} {t : Int}
    (l1 : inR t)
    (l2 : t < 0 → P (some (vI (-1))) s)
    (l3 : 0 ≤ t → 3 < t → P (some (vI (-1))) s)
    (l4 : 0 ≤ t → t ≤ 3 → t < 4)
    (l5 : 0 ≤ t → t ≤ 3 → inR (s 81 t))
    (l6 : 0 ≤ t → t ≤ 3 → 0 ≤ (s 81 t) → rtk s t)
    (l7 : 0 ≤ t → t ≤ 3 → 0 ≤ (s 81 t) → ∀ (v6 : Int) (s6 : m_St), qDM s t v6 s6 → inR v6)
    (l8 : 0 ≤ t → t ≤ 3 → 0 ≤ (s 81 t) → ∀ (v6 : Int) (s6 : m_St), qDM s t v6 s6 → v6 = (-9) → (0 : Int) + 198 ≤ 198)
    (l9 : 0 ≤ t → t ≤ 3 → 0 ≤ (s 81 t) → ∀ (v6 : Int) (s6 : m_St), qDM s t v6 s6 → v6 = (-9) → Rn X (d + 4) 181 52 [some (vR 77), some (vI t), some (vI 0)] [] (rwr s6 83 0 198 (fun y => s6 84 (0 + y))) P)
    (l10 : 0 ≤ t → t ≤ 3 → 0 ≤ (s 81 t) → ∀ (v6 : Int) (s6 : m_St), qDM s t v6 s6 → ¬ v6 = (-9) → P (some (vI (-4))) s6)
    (l11 : 0 ≤ t → t ≤ 3 → (s 81 t) < 0 → P (some (vI (-3))) (m_upd (m_upd s 77 10 1) 87 1 ((s 87 1) + 1)))
    : Cl X (d + 4) 181 [vR 77, vI t] s P := by
  refine Cl_of n_181 rfl ?_
  show Rn _ _ _ _ [some (vR 77), some (vI t), none] [] _ _
  refine r_ldI_n (m := 1) F_181_0 rfl ?_
  refine r_stat2 (A := [vI t]) (r := []) (n := 1) F_181_1 o_181 il_6_90 (by decide) rfl rfl rfl rfl (lay_le n_170 rfl) ?_
  refine Cl_of n_170 rfl ?_
  show Rn _ _ _ _ [some (vI t)] [] _ _
  refine r_ldI_n (m := 0) F_170_0 rfl ?_
  refine r_iconst F_170_1 ?_
  refine r_iconst F_170_2 ?_
  refine r_stat2 (A := [vI t, vI 0, vI 3]) (r := []) (n := 3) F_170_3 o_170 il_6_67 (by decide) rfl rfl rfl rfl (lay_le n_160 rfl) ?_
  refine Cl_of n_160 rfl ?_
  show Rn _ _ _ _ [some (vI t), some (vI 0), some (vI 3)] [] _ _
  refine r_ldI_n (m := 0) F_160_0 rfl ?_
  refine r_ldI_n (m := 1) F_160_1 rfl ?_
  refine r_icmp (t := 14) F_160_2 rfl l1 (by decide) ?_ ?_
  · intro e1
    replace e1 : t < 0 := e1
    refine r_iconst F_160_14 ?_
    refine r_zreturn F_160_15 rt_160 (Or.inl rfl) ?_
    show Rn _ _ _ _ _ [vI 0] _ _
    refine r_zreturn F_170_6 rt_170 (Or.inl rfl) ?_
    show Rn _ _ _ _ _ [vI 0] _ _
    refine r_ifF (t := 9) F_181_4 rfl (by decide) (by show ¬ (¬ (0 : Int) = 0); decide) ?_
    refine r_iconst F_181_7 ?_
    refine r_ireturn F_181_8 rt_181 ?_
    exact (l2 e1)
  · intro e2
    replace e2 : 0 ≤ t := (Int.not_lt.mp e2)
    refine r_ldI_n (m := 0) F_160_5 rfl ?_
    refine r_ldI_n (m := 2) F_160_6 rfl ?_
    refine r_icmp (t := 14) F_160_7 rfl l1 (by decide) ?_ ?_
    · intro e3
      replace e3 : 3 < t := e3
      refine r_iconst F_160_14 ?_
      refine r_zreturn F_160_15 rt_160 (Or.inl rfl) ?_
      show Rn _ _ _ _ _ [vI 0] _ _
      refine r_zreturn F_170_6 rt_170 (Or.inl rfl) ?_
      show Rn _ _ _ _ _ [vI 0] _ _
      refine r_ifF (t := 9) F_181_4 rfl (by decide) (by show ¬ (¬ (0 : Int) = 0); decide) ?_
      refine r_iconst F_181_7 ?_
      refine r_ireturn F_181_8 rt_181 ?_
      exact (l3 e2 e3)
    · intro e4
      replace e4 : t ≤ 3 := (Int.not_lt.mp e4)
      refine r_iconst F_160_10 ?_
      refine r_goto (t := 15) F_160_11 rfl ?_
      refine r_zreturn F_160_15 rt_160 (Or.inr rfl) ?_
      show Rn _ _ _ _ _ [vI 1] _ _
      refine r_zreturn F_170_6 rt_170 (Or.inr rfl) ?_
      show Rn _ _ _ _ _ [vI 1] _ _
      refine r_ifT (t := 9) F_181_4 rfl (by decide) (by show ¬ (1 : Int) = 0; decide) ?_
      refine r_ldR_n (m := 0) F_181_9 rfl ?_
      refine r_getR (J := 3) F_181_10 o_181 fl_6_19 ty_77 (by decide) rfl (kd2 kd_77_3 (by decide)) (kd9 kd_77_3 (by decide)) rf_77_3 ?_
      refine r_ldI_n (m := 1) F_181_13 rfl ?_
      refine r_iald (e := (s 81 t)) F_181_14 ty_81 e2 (lt_ln ln_81 (l4 e2 e4)) rfl ?_
      refine r_if (t := 24) F_181_15 rfl (l5 e2 e4) ?_ ?_
      · intro e5
        replace e5 : 0 ≤ (s 81 t) := e5
        refine r_ldR_n (m := 0) F_181_24 rfl ?_
        refine r_ldI_n (m := 1) F_181_25 rfl ?_
        refine r_virt2 (A := [vI t]) (r := []) (n := 1) F_181_26 o_181 il_6_122 rfl rfl rfl rfl ty_77 vy_173 (lay_le n_173 rfl) ?_
        refine sp_readsM (l6 e2 e4 e5) ?_
        intro v6 s6 q6
        show Rn _ _ _ _ _ [vI v6] _ _
        refine r_bipush F_181_29 bi__9 ?_
        refine r_icmp (t := 37) F_181_31 rfl (l7 e2 e4 e5 v6 s6 q6) (by decide) ?_ ?_
        · intro e7
          replace e7 : v6 = (-9) := e7
          refine r_ldR_n (m := 0) F_181_37 rfl ?_
          refine r_getR (J := 6) F_181_38 o_181 fl_6_28 ty_77 (by decide) rfl (kd2 kd_77_6 (by decide)) (kd9 kd_77_6 (by decide)) rf_77_6 ?_
          refine r_iconst F_181_41 ?_
          refine r_ldR_n (m := 0) F_181_42 rfl ?_
          refine r_getR (J := 5) F_181_43 o_181 fl_6_25 ty_77 (by decide) rfl (kd2 kd_77_5 (by decide)) (kd9 kd_77_5 (by decide)) rf_77_5 ?_
          refine r_iconst F_181_46 ?_
          refine r_stat2 (A := [vR 84, vI 0, vR 83, vI 0]) (r := []) (n := 4) F_181_47 o_181 il_6_125 (by decide) rfl rfl rfl rfl (lay_le n_182 rfl) ?_
          refine sp_copies84 (by decide) (l8 e2 e4 e5 v6 s6 q6 e7) (by decide) (l8 e2 e4 e5 v6 s6 q6 e7) ?_
          show Rn _ _ _ _ _ [] _ _
          refine r_iconst F_181_50 ?_
          refine r_stI_n (m := 2) (L' := [some (vR 77), some (vI t), some (vI 0)]) F_181_51 rfl rfl ?_
          exact (l9 e2 e4 e5 v6 s6 q6 e7)
        · intro e8
          replace e8 : ¬ v6 = (-9) := e8
          refine r_bipush F_181_34 bi__4 ?_
          refine r_ireturn F_181_36 rt_181 ?_
          exact (l10 e2 e4 e5 v6 s6 q6 e8)
      · intro e9
        replace e9 : (s 81 t) < 0 := (Int.not_le.mp e9)
        refine r_ldR_n (m := 0) F_181_18 rfl ?_
        refine r_iconst F_181_19 ?_
        refine r_virt2 (A := [vI 1]) (r := []) (n := 1) F_181_20 o_181 il_6_75 rfl rfl rfl rfl ty_77 vy_161 (lay_le n_161 rfl) ?_
        refine Cl_of n_161 rfl ?_
        show Rn _ _ _ _ [some (vR 77), some (vI 1)] [] _ _
        refine r_ldR_n (m := 0) F_161_0 rfl ?_
        refine r_ldI_n (m := 1) F_161_1 rfl ?_
        refine r_putI (J := 10) F_161_2 o_161 fl_6_57 ty_77 (by decide) rfl kd_77_10 pf_6_10 ?_
        refine r_ldR_n (m := 0) F_161_5 rfl ?_
        refine r_getR (J := 9) F_161_6 o_161 fl_6_38 ty_77 (by decide) rfl (kd2 kd_77_9 (by decide)) (kd9 kd_77_9 (by decide)) rf_77_9 ?_
        refine r_ldI_n (m := 1) F_161_9 rfl ?_
        refine r_dup2 F_161_10 ?_
        refine r_iald (e := (s 87 1)) F_161_11 ty_87 (by decide) (lt_ln ln_87 (by decide)) (upd_nc (by decide)) ?_
        refine r_iconst F_161_12 ?_
        refine r_iadd F_161_13 rfl ?_
        refine r_iast F_161_14 ty_87 (by decide) (lt_ln ln_87 (by decide)) ?_
        refine r_bipush F_161_15 bi__3 ?_
        refine r_ireturn F_161_17 rt_161 ?_
        show Rn _ _ _ _ _ [vI (-3)] _ _
        refine r_ireturn F_181_23 rt_181 ?_
        exact (l11 e2 e4 e9)
theorem t_X6_hut_52 {X : List Int32} {d : Nat} {s : m_St} {P : Option Value → m_St → Prop} {t k : Int} (k0 : 0 ≤ k)
    (l1 : inR k)
    (l2 : 3 ≤ k → P (some (vI (s 83 0))) s)
    (l3 : k < 3 → Rn X (d + 4) 181 52 [some (vR 77), some (vI t), some (vI (k + 1))] [] (m_upd s 86 k 0) P)
    : Rn X (d + 4) 181 52 [some (vR 77), some (vI t), some (vI k)] [] s P := by
  refine r_ldI_n (m := 2) F_181_52 rfl ?_
  refine r_iconst F_181_53 ?_
  refine r_icmp (t := 70) F_181_54 rfl l1 (by decide) ?_ ?_
  · intro e1
    replace e1 : 3 ≤ k := e1
    refine r_ldR_n (m := 0) F_181_70 rfl ?_
    refine r_getR (J := 5) F_181_71 o_181 fl_6_25 ty_77 (by decide) rfl (kd2 kd_77_5 (by decide)) (kd9 kd_77_5 (by decide)) rf_77_5 ?_
    refine r_iconst F_181_74 ?_
    refine r_iald (e := (s 83 0)) F_181_75 ty_83 (by decide) (lt_ln ln_83 (by decide)) rfl ?_
    refine r_ireturn F_181_76 rt_181 ?_
    exact (l2 e1)
  · intro e2
    replace e2 : k < 3 := (Int.not_le.mp e2)
    refine r_ldR_n (m := 0) F_181_57 rfl ?_
    refine r_getR (J := 8) F_181_58 o_181 fl_6_34 ty_77 (by decide) rfl (kd2 kd_77_8 (by decide)) (kd9 kd_77_8 (by decide)) rf_77_8 ?_
    refine r_ldI_n (m := 2) F_181_61 rfl ?_
    refine r_iconst F_181_62 ?_
    refine r_bast F_181_63 ty_86 k0 (lt_ln ln_86 e2) (Or.inl rfl) ?_
    refine r_iinc (m := 2) (e := (k + 1)) (L' := [some (vR 77), some (vI t), some (vI (k + 1))]) F_181_64 rfl rfl rfl rfl ?_
    refine r_goto (t := 52) F_181_67 rfl ?_
    exact (l3 e2)
