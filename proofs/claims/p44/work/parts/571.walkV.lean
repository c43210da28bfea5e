/-! walks: two up -/
theorem n_98 : m_n 98 = 1 := by decide +kernel
theorem F_98_0 : F 98 0 (.aload_n 0) 1 := ⟨1, by decide +kernel, rfl, rfl⟩
theorem F_98_1 : F 98 1 (.getfield 41) 4 := ⟨3, by decide +kernel, rfl, rfl⟩
theorem ty_0 : ty 0 = 5 := by decide +kernel
theorem fl_5_41 : m_fl.lookup (5, 41) = some (5, 5, 1173) := by decide +kernel
theorem kd_0_5 : kd 0 5 = 68 := by decide +kernel
theorem o_98 : m_o 98 = 5 := by decide +kernel
theorem rf_0_5 : rf 0 5 = 66 := by decide +kernel
theorem F_98_4 : F 98 4 (.aload_n 0) 5 := ⟨1, by decide +kernel, rfl, rfl⟩
theorem F_98_5 : F 98 5 (.getfield 34) 8 := ⟨3, by decide +kernel, rfl, rfl⟩
theorem fl_5_34 : m_fl.lookup (5, 34) = some (5, 4, 1172) := by decide +kernel
theorem kd_0_4 : kd 0 4 = 40 := by decide +kernel
theorem rf_0_4 : rf 0 4 = 38 := by decide +kernel
theorem F_98_8 : F 98 8 (.aload_n 0) 9 := ⟨1, by decide +kernel, rfl, rfl⟩
theorem F_98_9 : F 98 9 (.getfield 34) 12 := ⟨3, by decide +kernel, rfl, rfl⟩
theorem F_98_12 : F 98 12 (.invokevirtual 345) 15 := ⟨3, by decide +kernel, rfl, rfl⟩
theorem il_5_345 : ilq 5 345 0 99 0 = true := by decide +kernel
theorem vy_99 : (m_cls 1).1 = (m_y 99).cls ∧ 1 < m_cl.length := by decide +kernel
theorem n_99 : m_n 99 = 1 := by decide +kernel
theorem F_99_0 : F 99 0 (.aload_n 0) 1 := ⟨1, by decide +kernel, rfl, rfl⟩
theorem F_99_1 : F 99 1 (.getfield 37) 4 := ⟨3, by decide +kernel, rfl, rfl⟩
theorem o_99 : m_o 99 = 1 := by decide +kernel
theorem F_99_4 : F 99 4 (.ireturn) 5 := ⟨1, by decide +kernel, rfl, rfl⟩
theorem rt_99 : m_r 99 = (some .int) := by decide +kernel
theorem F_98_15 : F 98 15 (.invokevirtual 142) 18 := ⟨3, by decide +kernel, rfl, rfl⟩
theorem il_5_142 : ilq 5 142 0 58 1 = true := by decide +kernel
theorem F_98_18 : F 98 18 (.aload_n 0) 19 := ⟨1, by decide +kernel, rfl, rfl⟩
theorem F_98_19 : F 98 19 (.getfield 34) 22 := ⟨3, by decide +kernel, rfl, rfl⟩
theorem F_98_22 : F 98 22 (.aload_n 0) 23 := ⟨1, by decide +kernel, rfl, rfl⟩
theorem F_98_23 : F 98 23 (.getfield 34) 26 := ⟨3, by decide +kernel, rfl, rfl⟩
theorem F_98_26 : F 98 26 (.invokevirtual 348) 29 := ⟨3, by decide +kernel, rfl, rfl⟩
theorem il_5_348 : ilq 5 348 0 100 0 = true := by decide +kernel
theorem vy_100 : (m_cls 1).1 = (m_y 100).cls ∧ 1 < m_cl.length := by decide +kernel
theorem n_100 : m_n 100 = 1 := by decide +kernel
theorem F_100_0 : F 100 0 (.aload_n 0) 1 := ⟨1, by decide +kernel, rfl, rfl⟩
theorem F_100_1 : F 100 1 (.getfield 40) 4 := ⟨3, by decide +kernel, rfl, rfl⟩
theorem o_100 : m_o 100 = 1 := by decide +kernel
theorem F_100_4 : F 100 4 (.ireturn) 5 := ⟨1, by decide +kernel, rfl, rfl⟩
theorem rt_100 : m_r 100 = (some .int) := by decide +kernel
theorem F_98_29 : F 98 29 (.invokevirtual 142) 32 := ⟨3, by decide +kernel, rfl, rfl⟩
theorem F_98_32 : F 98 32 (.aload_n 0) 33 := ⟨1, by decide +kernel, rfl, rfl⟩
theorem F_98_33 : F 98 33 (.getfield 34) 36 := ⟨3, by decide +kernel, rfl, rfl⟩
theorem F_98_36 : F 98 36 (.invokevirtual 149) 39 := ⟨3, by decide +kernel, rfl, rfl⟩
theorem il_5_149 : ilq 5 149 0 71 0 = true := by decide +kernel
theorem vy_71 : (m_cls 1).1 = (m_y 71).cls ∧ 1 < m_cl.length := by decide +kernel
theorem n_71 : m_n 71 = 1 := by decide +kernel
theorem F_71_0 : F 71 0 (.aload_n 0) 1 := ⟨1, by decide +kernel, rfl, rfl⟩
theorem F_71_1 : F 71 1 (.getfield 31) 4 := ⟨3, by decide +kernel, rfl, rfl⟩
theorem o_71 : m_o 71 = 1 := by decide +kernel
theorem F_71_4 : F 71 4 (.ireturn) 5 := ⟨1, by decide +kernel, rfl, rfl⟩
theorem rt_71 : m_r 71 = (some .int) := by decide +kernel
theorem F_98_39 : F 98 39 (.invokevirtual 259) 42 := ⟨3, by decide +kernel, rfl, rfl⟩
theorem il_5_259 : ilq 5 259 0 101 3 = true := by decide +kernel
theorem vy_101 : (m_cls 4).1 = (m_y 101).cls ∧ 4 < m_cl.length := by decide +kernel
theorem F_98_42 : F 98 42 (.return_) 43 := ⟨1, by decide +kernel, rfl, rfl⟩
theorem rt_98 : m_r 98 = none := by decide +kernel
theorem n_82 : m_n 82 = 2 := by decide +kernel
theorem F_82_0 : F 82 0 (.aload_n 0) 1 := ⟨1, by decide +kernel, rfl, rfl⟩
theorem F_82_1 : F 82 1 (.getfield 43) 4 := ⟨3, by decide +kernel, rfl, rfl⟩
theorem o_82 : m_o 82 = 1 := by decide +kernel
theorem F_82_4 : F 82 4 (.ifCond .lt 37) 7 := ⟨3, by decide +kernel, rfl, rfl⟩
theorem F_82_7 : F 82 7 (.aload_n 0) 8 := ⟨1, by decide +kernel, rfl, rfl⟩
theorem F_82_8 : F 82 8 (.getfield 43) 11 := ⟨3, by decide +kernel, rfl, rfl⟩
theorem F_82_11 : F 82 11 (.bipush 40) 13 := ⟨2, by decide +kernel, rfl, rfl⟩
theorem F_82_13 : F 82 13 (.if_icmp .ge 28) 16 := ⟨3, by decide +kernel, rfl, rfl⟩
theorem F_82_16 : F 82 16 (.aload_n 0) 17 := ⟨1, by decide +kernel, rfl, rfl⟩
theorem F_82_17 : F 82 17 (.getfield 20) 20 := ⟨3, by decide +kernel, rfl, rfl⟩
theorem F_82_20 : F 82 20 (.aload_n 0) 21 := ⟨1, by decide +kernel, rfl, rfl⟩
theorem F_82_21 : F 82 21 (.getfield 43) 24 := ⟨3, by decide +kernel, rfl, rfl⟩
theorem F_82_24 : F 82 24 (.iload_n 1) 25 := ⟨1, by decide +kernel, rfl, rfl⟩
theorem F_82_25 : F 82 25 (.iastore) 26 := ⟨1, by decide +kernel, rfl, rfl⟩
theorem F_82_26 : F 82 26 (.aload_n 0) 27 := ⟨1, by decide +kernel, rfl, rfl⟩
theorem F_82_27 : F 82 27 (.dup) 28 := ⟨1, by decide +kernel, rfl, rfl⟩
theorem F_82_28 : F 82 28 (.getfield 43) 31 := ⟨3, by decide +kernel, rfl, rfl⟩
theorem F_82_31 : F 82 31 (.iconst 1) 32 := ⟨1, by decide +kernel, rfl, rfl⟩
theorem F_82_32 : F 82 32 (.iadd) 33 := ⟨1, by decide +kernel, rfl, rfl⟩
theorem F_82_33 : F 82 33 (.putfield 43) 36 := ⟨3, by decide +kernel, rfl, rfl⟩
theorem F_82_36 : F 82 36 (.aload_n 0) 37 := ⟨1, by decide +kernel, rfl, rfl⟩
theorem F_82_37 : F 82 37 (.iload_n 1) 38 := ⟨1, by decide +kernel, rfl, rfl⟩
theorem F_82_38 : F 82 38 (.invokevirtual 82) 41 := ⟨3, by decide +kernel, rfl, rfl⟩
theorem F_82_41 : F 82 41 (.return_) 42 := ⟨1, by decide +kernel, rfl, rfl⟩
theorem rt_82 : m_r 82 = none := by decide +kernel
theorem n_83 : m_n 83 = 1 := by decide +kernel
theorem F_83_0 : F 83 0 (.aload_n 0) 1 := ⟨1, by decide +kernel, rfl, rfl⟩
theorem F_83_1 : F 83 1 (.invokevirtual 114) 4 := ⟨3, by decide +kernel, rfl, rfl⟩
theorem o_83 : m_o 83 = 1 := by decide +kernel
theorem il_1_114 : ilq 1 114 0 84 0 = true := by decide +kernel
theorem vy_84 : (m_cls 1).1 = (m_y 84).cls ∧ 1 < m_cl.length := by decide +kernel
theorem n_84 : m_n 84 = 1 := by decide +kernel
theorem F_84_0 : F 84 0 (.aload_n 0) 1 := ⟨1, by decide +kernel, rfl, rfl⟩
theorem F_84_1 : F 84 1 (.getfield 37) 4 := ⟨3, by decide +kernel, rfl, rfl⟩
theorem o_84 : m_o 84 = 1 := by decide +kernel
theorem F_84_4 : F 84 4 (.iconst (-1)) 5 := ⟨1, by decide +kernel, rfl, rfl⟩
theorem F_84_5 : F 84 5 (.if_icmp .eq 7) 8 := ⟨3, by decide +kernel, rfl, rfl⟩
theorem F_84_12 : F 84 12 (.iconst 0) 13 := ⟨1, by decide +kernel, rfl, rfl⟩
theorem F_84_13 : F 84 13 (.ireturn) 14 := ⟨1, by decide +kernel, rfl, rfl⟩
theorem rt_84 : m_r 84 = (some .boolean) := by decide +kernel
theorem F_83_4 : F 83 4 (.ifCond .eq 29) 7 := ⟨3, by decide +kernel, rfl, rfl⟩
theorem F_83_33 : F 83 33 (.iconst 0) 34 := ⟨1, by decide +kernel, rfl, rfl⟩
theorem F_83_34 : F 83 34 (.ireturn) 35 := ⟨1, by decide +kernel, rfl, rfl⟩
theorem rt_83 : m_r 83 = (some .int) := by decide +kernel
theorem F_84_8 : F 84 8 (.iconst 1) 9 := ⟨1, by decide +kernel, rfl, rfl⟩
theorem F_84_9 : F 84 9 (.goto 4) 12 := ⟨3, by decide +kernel, rfl, rfl⟩
theorem F_83_7 : F 83 7 (.aload_n 0) 8 := ⟨1, by decide +kernel, rfl, rfl⟩
theorem F_83_8 : F 83 8 (.aload_n 0) 9 := ⟨1, by decide +kernel, rfl, rfl⟩
theorem F_83_9 : F 83 9 (.getfield 37) 12 := ⟨3, by decide +kernel, rfl, rfl⟩
theorem F_83_12 : F 83 12 (.invokevirtual 107) 15 := ⟨3, by decide +kernel, rfl, rfl⟩
theorem F_83_15 : F 83 15 (.invokevirtual 108) 18 := ⟨3, by decide +kernel, rfl, rfl⟩
theorem F_83_18 : F 83 18 (.aload_n 0) 19 := ⟨1, by decide +kernel, rfl, rfl⟩
theorem F_83_19 : F 83 19 (.aload_n 0) 20 := ⟨1, by decide +kernel, rfl, rfl⟩
theorem F_83_20 : F 83 20 (.getfield 40) 23 := ⟨3, by decide +kernel, rfl, rfl⟩
theorem F_83_23 : F 83 23 (.invokevirtual 107) 26 := ⟨3, by decide +kernel, rfl, rfl⟩
theorem F_83_26 : F 83 26 (.invokevirtual 108) 29 := ⟨3, by decide +kernel, rfl, rfl⟩
theorem F_83_29 : F 83 29 (.iand) 30 := ⟨1, by decide +kernel, rfl, rfl⟩
theorem F_83_30 : F 83 30 (.goto 4) 33 := ⟨3, by decide +kernel, rfl, rfl⟩
theorem n_87 : m_n 87 = 2 := by decide +kernel
theorem F_87_0 : F 87 0 (.aload_n 0) 1 := ⟨1, by decide +kernel, rfl, rfl⟩
theorem F_87_1 : F 87 1 (.invokevirtual 114) 4 := ⟨3, by decide +kernel, rfl, rfl⟩
theorem o_87 : m_o 87 = 1 := by decide +kernel
theorem F_87_4 : F 87 4 (.ifCond .eq 36) 7 := ⟨3, by decide +kernel, rfl, rfl⟩
theorem F_87_40 : F 87 40 (.iconst 0) 41 := ⟨1, by decide +kernel, rfl, rfl⟩
theorem F_87_41 : F 87 41 (.ireturn) 42 := ⟨1, by decide +kernel, rfl, rfl⟩
theorem rt_87 : m_r 87 = (some .boolean) := by decide +kernel
theorem F_87_7 : F 87 7 (.aload_n 0) 8 := ⟨1, by decide +kernel, rfl, rfl⟩
theorem F_87_8 : F 87 8 (.iload_n 1) 9 := ⟨1, by decide +kernel, rfl, rfl⟩
theorem F_87_9 : F 87 9 (.iconst 4) 10 := ⟨1, by decide +kernel, rfl, rfl⟩
theorem F_87_10 : F 87 10 (.if_icmp .ge 10) 13 := ⟨3, by decide +kernel, rfl, rfl⟩
theorem F_87_20 : F 87 20 (.aload_n 0) 21 := ⟨1, by decide +kernel, rfl, rfl⟩
theorem F_87_21 : F 87 21 (.getfield 40) 24 := ⟨3, by decide +kernel, rfl, rfl⟩
theorem F_87_24 : F 87 24 (.invokevirtual 107) 27 := ⟨3, by decide +kernel, rfl, rfl⟩
theorem F_87_27 : F 87 27 (.iload_n 1) 28 := ⟨1, by decide +kernel, rfl, rfl⟩
theorem F_87_28 : F 87 28 (.iconst 4) 29 := ⟨1, by decide +kernel, rfl, rfl⟩
theorem F_87_29 : F 87 29 (.irem) 30 := ⟨1, by decide +kernel, rfl, rfl⟩
theorem F_87_30 : F 87 30 (.invokevirtual 118) 33 := ⟨3, by decide +kernel, rfl, rfl⟩
theorem il_1_118 : ilq 1 118 0 62 1 = true := by decide +kernel
theorem F_87_33 : F 87 33 (.ifCond .eq 7) 36 := ⟨3, by decide +kernel, rfl, rfl⟩
theorem F_87_36 : F 87 36 (.iconst 1) 37 := ⟨1, by decide +kernel, rfl, rfl⟩
theorem F_87_37 : F 87 37 (.goto 4) 40 := ⟨3, by decide +kernel, rfl, rfl⟩
theorem F_87_13 : F 87 13 (.aload_n 0) 14 := ⟨1, by decide +kernel, rfl, rfl⟩
theorem F_87_14 : F 87 14 (.getfield 37) 17 := ⟨3, by decide +kernel, rfl, rfl⟩
theorem F_87_17 : F 87 17 (.goto 7) 20 := ⟨3, by decide +kernel, rfl, rfl⟩
theorem t_X5_takeAside {X : m_X} {d : Nat} {s : m_St} {P : Option Value → m_St → Prop} (u0 : 0 ≤ (s 38 7)) (u6 : (s 38 7) < 6) (v0 : 0 ≤ (s 38 8)) (v6 : (s 38 8) < 6)
    (l1 : inR (s 38 7))
    (l2 : inR (s 38 8))
    (l3 : gok s (44 + 4 * (s 38 7)))
    (l4 : gok s (44 + 4 * (s 38 8)))
    (l5 : ((44 + 4 * (s 38 7)) : Int) < 66)
    (l6 : ((44 + 4 * (s 38 8)) : Int) < 66)
    (l7 : P none (btw s (44 + 4 * (s 38 7)) (44 + 4 * (s 38 8)) (s 38 5)))
    : Cl X (d + 5) 98 [vR 0] s P := by
  refine Cl_of n_98 rfl ?_
  show Rn _ _ _ _ [some (vR 0)] [] _ _
  refine r_ldR_n (m := 0) F_98_0 rfl ?_
  refine r_getR (J := 5) F_98_1 o_98 fl_5_41 ty_0 (by decide) rfl (kd2 kd_0_5 (by decide)) (kd9 kd_0_5 (by decide)) rf_0_5 ?_
  refine r_ldR_n (m := 0) F_98_4 rfl ?_
  refine r_getR (J := 4) F_98_5 o_98 fl_5_34 ty_0 (by decide) rfl (kd2 kd_0_4 (by decide)) (kd9 kd_0_4 (by decide)) rf_0_4 ?_
  refine r_ldR_n (m := 0) F_98_8 rfl ?_
  refine r_getR (J := 4) F_98_9 o_98 fl_5_34 ty_0 (by decide) rfl (kd2 kd_0_4 (by decide)) (kd9 kd_0_4 (by decide)) rf_0_4 ?_
  refine r_virt2 (A := []) (r := [vR 38, vR 66]) (n := 0) F_98_12 o_98 il_5_345 rfl rfl rfl rfl ty_38 vy_99 (lay_le n_99 rfl) ?_
  refine Cl_of n_99 rfl ?_
  show Rn _ _ _ _ [some (vR 38)] [] _ _
  refine r_ldR_n (m := 0) F_99_0 rfl ?_
  refine r_getI (J := 7) (e := (s 38 7)) F_99_1 o_99 fl_1_37 ty_38 (by decide) rfl kd_38_7 rfl ?_
  refine r_ireturn F_99_4 rt_99 ?_
  show Rn _ _ _ _ _ [vI (s 38 7), vR 38, vR 66] _ _
  refine r_virt2 (A := [vI (s 38 7)]) (r := [vR 66]) (n := 1) F_98_15 o_98 il_5_142 rfl rfl rfl rfl ty_38 vy_58 (lay_le n_58 rfl) ?_
  refine Cl_of n_58 rfl ?_
  show Rn _ _ _ _ [some (vR 38), some (vI (s 38 7))] [] _ _
  refine r_ldR_n (m := 0) F_58_0 rfl ?_
  refine r_getR (J := 1) F_58_1 o_58 fl_1_17 ty_38 (by decide) rfl (kd2 kd_38_1 (by decide)) (kd9 kd_38_1 (by decide)) rf_38_1 ?_
  refine r_ldI_n (m := 1) F_58_4 rfl ?_
  refine r_ifF (t := 18) F_58_5 rfl l1 (Int.not_lt.mpr u0) ?_
  refine r_ldI_n (m := 1) F_58_8 rfl ?_
  refine r_bipush F_58_9 bi_6 ?_
  refine r_icmpF (t := 18) F_58_11 rfl l1 (by decide) (Int.not_le.mpr u6) ?_
  refine r_ldI_n (m := 1) F_58_14 rfl ?_
  refine r_goto (t := 19) F_58_15 rfl ?_
  refine r_aald F_58_19 ty_40 (by decide) u0 (lt_ln ln_40 u6) (rw_40 ⟨u0, u6⟩).2 ?_
  refine r_areturn F_58_20 rob_58 ?_
  show Rn _ _ _ _ _ [vR (44 + 4 * (s 38 7)), vR 66] _ _
  refine r_ldR_n (m := 0) F_98_18 rfl ?_
  refine r_getR (J := 4) F_98_19 o_98 fl_5_34 ty_0 (by decide) rfl (kd2 kd_0_4 (by decide)) (kd9 kd_0_4 (by decide)) rf_0_4 ?_
  refine r_ldR_n (m := 0) F_98_22 rfl ?_
  refine r_getR (J := 4) F_98_23 o_98 fl_5_34 ty_0 (by decide) rfl (kd2 kd_0_4 (by decide)) (kd9 kd_0_4 (by decide)) rf_0_4 ?_
  refine r_virt2 (A := []) (r := [vR 38, vR (44 + 4 * (s 38 7)), vR 66]) (n := 0) F_98_26 o_98 il_5_348 rfl rfl rfl rfl ty_38 vy_100 (lay_le n_100 rfl) ?_
  refine Cl_of n_100 rfl ?_
  show Rn _ _ _ _ [some (vR 38)] [] _ _
  refine r_ldR_n (m := 0) F_100_0 rfl ?_
  refine r_getI (J := 8) (e := (s 38 8)) F_100_1 o_100 fl_1_40 ty_38 (by decide) rfl kd_38_8 rfl ?_
  refine r_ireturn F_100_4 rt_100 ?_
  show Rn _ _ _ _ _ [vI (s 38 8), vR 38, vR (44 + 4 * (s 38 7)), vR 66] _ _
  refine r_virt2 (A := [vI (s 38 8)]) (r := [vR (44 + 4 * (s 38 7)), vR 66]) (n := 1) F_98_29 o_98 il_5_142 rfl rfl rfl rfl ty_38 vy_58 (lay_le n_58 rfl) ?_
  refine Cl_of n_58 rfl ?_
  show Rn _ _ _ _ [some (vR 38), some (vI (s 38 8))] [] _ _
  refine r_ldR_n (m := 0) F_58_0 rfl ?_
  refine r_getR (J := 1) F_58_1 o_58 fl_1_17 ty_38 (by decide) rfl (kd2 kd_38_1 (by decide)) (kd9 kd_38_1 (by decide)) rf_38_1 ?_
  refine r_ldI_n (m := 1) F_58_4 rfl ?_
  refine r_ifF (t := 18) F_58_5 rfl l2 (Int.not_lt.mpr v0) ?_
  refine r_ldI_n (m := 1) F_58_8 rfl ?_
  refine r_bipush F_58_9 bi_6 ?_
  refine r_icmpF (t := 18) F_58_11 rfl l2 (by decide) (Int.not_le.mpr v6) ?_
  refine r_ldI_n (m := 1) F_58_14 rfl ?_
  refine r_goto (t := 19) F_58_15 rfl ?_
  refine r_aald F_58_19 ty_40 (by decide) v0 (lt_ln ln_40 v6) (rw_40 ⟨v0, v6⟩).2 ?_
  refine r_areturn F_58_20 rob_58 ?_
  show Rn _ _ _ _ _ [vR (44 + 4 * (s 38 8)), vR (44 + 4 * (s 38 7)), vR 66] _ _
  refine r_ldR_n (m := 0) F_98_32 rfl ?_
  refine r_getR (J := 4) F_98_33 o_98 fl_5_34 ty_0 (by decide) rfl (kd2 kd_0_4 (by decide)) (kd9 kd_0_4 (by decide)) rf_0_4 ?_
  refine r_virt2 (A := []) (r := [vR (44 + 4 * (s 38 8)), vR (44 + 4 * (s 38 7)), vR 66]) (n := 0) F_98_36 o_98 il_5_149 rfl rfl rfl rfl ty_38 vy_71 (lay_le n_71 rfl) ?_
  refine Cl_of n_71 rfl ?_
  show Rn _ _ _ _ [some (vR 38)] [] _ _
  refine r_ldR_n (m := 0) F_71_0 rfl ?_
  refine r_getI (J := 5) (e := (s 38 5)) F_71_1 o_71 fl_1_31 ty_38 (by decide) rfl kd_38_5 rfl ?_
  refine r_ireturn F_71_4 rt_71 ?_
  show Rn _ _ _ _ _ [vI (s 38 5), vR (44 + 4 * (s 38 8)), vR (44 + 4 * (s 38 7)), vR 66] _ _
  refine r_virt2 (A := [vR (44 + 4 * (s 38 7)), vR (44 + 4 * (s 38 8)), vI (s 38 5)]) (r := []) (n := 3) F_98_39 o_98 il_5_259 rfl rfl rfl rfl ty_66 vy_101 (lay_le n_101 rfl) ?_
  refine sp_between (rw_40 ⟨u0, u6⟩).1 (rw_40 ⟨v0, v6⟩).1 l3 l4 l5 l6 ?_
  show Rn _ _ _ _ _ [] _ _
  refine r_return F_98_42 rt_98 ?_
  exact l7
theorem t_X1_act {X : m_X} {d : Nat} {s : m_St} {P : Option Value → m_St → Prop} {a : Int} (c0 : 0 ≤ (s 38 9)) (c4 : (s 38 9) < 40)
    (l1 : inR (s 38 9))
    (l2 : 0 ≤ a)
    (l3 : inR a)
    (l4 : a < 8 → 0 ≤ (m_upd (m_upd s 41 (s 38 9) a) 38 9 ((s 38 9) + 1)) 38 7 ∧ (m_upd (m_upd s 41 (s 38 9) a) 38 9 ((s 38 9) + 1)) 38 7 < 6 ∧ 0 ≤ (m_upd (m_upd s 41 (s 38 9) a) 38 9 ((s 38 9) + 1)) 38 8 ∧ (m_upd (m_upd s 41 (s 38 9) a) 38 9 ((s 38 9) + 1)) 38 8 < 6)
    (l5 : a < 8 → ∀ i, 0 ≤ i → i < 6 → gok (m_upd (m_upd s 41 (s 38 9) a) 38 9 ((s 38 9) + 1)) (44 + 4 * i))
    (l6 : P none (pf (m_upd (m_upd s 41 (s 38 9) a) 38 9 ((s 38 9) + 1)) a))
    : Cl X (d + 4) 82 [vR 38, vI a] s P := by
  refine Cl_of n_82 rfl ?_
  show Rn _ _ _ _ [some (vR 38), some (vI a)] [] _ _
  refine r_ldR_n (m := 0) F_82_0 rfl ?_
  refine r_getI (J := 9) (e := (s 38 9)) F_82_1 o_82 fl_1_43 ty_38 (by decide) rfl kd_38_9 rfl ?_
  refine r_ifF (t := 41) F_82_4 rfl l1 (Int.not_lt.mpr c0) ?_
  refine r_ldR_n (m := 0) F_82_7 rfl ?_
  refine r_getI (J := 9) (e := (s 38 9)) F_82_8 o_82 fl_1_43 ty_38 (by decide) rfl kd_38_9 rfl ?_
  refine r_bipush F_82_11 bi_40 ?_
  refine r_icmpF (t := 41) F_82_13 rfl l1 (by decide) (Int.not_le.mpr c4) ?_
  refine r_ldR_n (m := 0) F_82_16 rfl ?_
  refine r_getR (J := 2) F_82_17 o_82 fl_1_20 ty_38 (by decide) rfl (kd2 kd_38_2 (by decide)) (kd9 kd_38_2 (by decide)) rf_38_2 ?_
  refine r_ldR_n (m := 0) F_82_20 rfl ?_
  refine r_getI (J := 9) (e := (s 38 9)) F_82_21 o_82 fl_1_43 ty_38 (by decide) rfl kd_38_9 rfl ?_
  refine r_ldI_n (m := 1) F_82_24 rfl ?_
  refine r_iast F_82_25 ty_41 c0 (lt_ln ln_41 c4) ?_
  refine r_ldR_n (m := 0) F_82_26 rfl ?_
  refine r_dupR F_82_27 ?_
  refine r_getI (J := 9) (e := (s 38 9)) F_82_28 o_82 fl_1_43 ty_38 (by decide) rfl kd_38_9 (upd_nc (by decide)) ?_
  refine r_iconst F_82_31 ?_
  refine r_iadd F_82_32 rfl ?_
  refine r_putI (J := 9) F_82_33 o_82 fl_1_43 ty_38 (by decide) rfl kd_38_9 pf_1_9 ?_
  refine r_ldR_n (m := 0) F_82_36 rfl ?_
  refine r_ldI_n (m := 1) F_82_37 rfl ?_
  refine r_virt2 (A := [vI a]) (r := []) (n := 1) F_82_38 o_82 il_1_82 rfl rfl rfl rfl ty_38 vy_56 (lay_le n_56 rfl) ?_
  refine sp_perform l2 l3 l4 l5 ?_
  show Rn _ _ _ _ _ [] _ _
  refine r_return F_82_41 rt_82 ?_
  exact l6
theorem t_X1_shared {X : m_X} {d : Nat} {s : m_St} {P : Option Value → m_St → Prop} (u0 : 0 ≤ (s 38 7)) (u6 : (s 38 7) < 6) (v0 : 0 ≤ (s 38 8)) (v6 : (s 38 8) < 6)
    (l1 : inR (s 38 7))
    (l2 : (s 38 7) = (-1) → P (some (vI 0)) s)
    (l3 : ¬ (s 38 7) = (-1) → inR (s 38 8))
    (l4 : ¬ (s 38 7) = (-1) → P (some (vI (iAnd (s (44 + 4 * (s 38 7)) 2) (s (44 + 4 * (s 38 8)) 2)))) s)
    : Cl X (d + 1) 83 [vR 38] s P := by
  refine Cl_of n_83 rfl ?_
  show Rn _ _ _ _ [some (vR 38)] [] _ _
  refine r_ldR_n (m := 0) F_83_0 rfl ?_
  refine r_virt2 (A := []) (r := []) (n := 0) F_83_1 o_83 il_1_114 rfl rfl rfl rfl ty_38 vy_84 (lay_le n_84 rfl) ?_
  refine Cl_of n_84 rfl ?_
  show Rn _ _ _ _ [some (vR 38)] [] _ _
  refine r_ldR_n (m := 0) F_84_0 rfl ?_
  refine r_getI (J := 7) (e := (s 38 7)) F_84_1 o_84 fl_1_37 ty_38 (by decide) rfl kd_38_7 rfl ?_
  refine r_iconst F_84_4 ?_
  refine r_icmp (t := 12) F_84_5 rfl l1 (by decide) ?_ ?_
  · intro e1
    replace e1 : (s 38 7) = (-1) := e1
    refine r_iconst F_84_12 ?_
    refine r_zreturn F_84_13 rt_84 (Or.inl rfl) ?_
    show Rn _ _ _ _ _ [vI 0] _ _
    refine r_ifT (t := 33) F_83_4 rfl (by decide) (by show (0 : Int) = 0; decide) ?_
    refine r_iconst F_83_33 ?_
    refine r_ireturn F_83_34 rt_83 ?_
    exact (l2 e1)
  · intro e2
    replace e2 : ¬ (s 38 7) = (-1) := e2
    refine r_iconst F_84_8 ?_
    refine r_goto (t := 13) F_84_9 rfl ?_
    refine r_zreturn F_84_13 rt_84 (Or.inr rfl) ?_
    show Rn _ _ _ _ _ [vI 1] _ _
    refine r_ifF (t := 33) F_83_4 rfl (by decide) (by show ¬ ((1 : Int) = 0); decide) ?_
    refine r_ldR_n (m := 0) F_83_7 rfl ?_
    refine r_ldR_n (m := 0) F_83_8 rfl ?_
    refine r_getI (J := 7) (e := (s 38 7)) F_83_9 o_83 fl_1_37 ty_38 (by decide) rfl kd_38_7 rfl ?_
    refine r_virt2 (A := [vI (s 38 7)]) (r := []) (n := 1) F_83_12 o_83 il_1_107 rfl rfl rfl rfl ty_38 vy_58 (lay_le n_58 rfl) ?_
    refine Cl_of n_58 rfl ?_
    show Rn _ _ _ _ [some (vR 38), some (vI (s 38 7))] [] _ _
    refine r_ldR_n (m := 0) F_58_0 rfl ?_
    refine r_getR (J := 1) F_58_1 o_58 fl_1_17 ty_38 (by decide) rfl (kd2 kd_38_1 (by decide)) (kd9 kd_38_1 (by decide)) rf_38_1 ?_
    refine r_ldI_n (m := 1) F_58_4 rfl ?_
    refine r_ifF (t := 18) F_58_5 rfl l1 (Int.not_lt.mpr u0) ?_
    refine r_ldI_n (m := 1) F_58_8 rfl ?_
    refine r_bipush F_58_9 bi_6 ?_
    refine r_icmpF (t := 18) F_58_11 rfl l1 (by decide) (Int.not_le.mpr u6) ?_
    refine r_ldI_n (m := 1) F_58_14 rfl ?_
    refine r_goto (t := 19) F_58_15 rfl ?_
    refine r_aald F_58_19 ty_40 (by decide) u0 (lt_ln ln_40 u6) (rw_40 ⟨u0, u6⟩).2 ?_
    refine r_areturn F_58_20 rob_58 ?_
    show Rn _ _ _ _ _ [vR (44 + 4 * (s 38 7))] _ _
    refine r_virt2 (A := []) (r := []) (n := 0) F_83_15 o_83 il_1_108 rfl rfl rfl rfl (rw_40 ⟨u0, u6⟩).1 vy_68 (lay_le n_68 rfl) ?_
    refine Cl_of n_68 rfl ?_
    show Rn _ _ _ _ [some (vR (44 + 4 * (s 38 7)))] [] _ _
    refine r_ldR_n (m := 0) F_68_0 rfl ?_
    refine r_getI (J := 2) (e := (s (44 + 4 * (s 38 7)) 2)) F_68_1 o_68 fl_0_19 (rw_40 ⟨u0, u6⟩).1 (by decide) rfl (gw (rw_40 ⟨u0, u6⟩).1).2.2.2.1 rfl ?_
    refine r_ireturn F_68_4 rt_68 ?_
    show Rn _ _ _ _ _ [vI (s (44 + 4 * (s 38 7)) 2)] _ _
    refine r_ldR_n (m := 0) F_83_18 rfl ?_
    refine r_ldR_n (m := 0) F_83_19 rfl ?_
    refine r_getI (J := 8) (e := (s 38 8)) F_83_20 o_83 fl_1_40 ty_38 (by decide) rfl kd_38_8 rfl ?_
    refine r_virt2 (A := [vI (s 38 8)]) (r := [vI (s (44 + 4 * (s 38 7)) 2)]) (n := 1) F_83_23 o_83 il_1_107 rfl rfl rfl rfl ty_38 vy_58 (lay_le n_58 rfl) ?_
    refine Cl_of n_58 rfl ?_
    show Rn _ _ _ _ [some (vR 38), some (vI (s 38 8))] [] _ _
    refine r_ldR_n (m := 0) F_58_0 rfl ?_
    refine r_getR (J := 1) F_58_1 o_58 fl_1_17 ty_38 (by decide) rfl (kd2 kd_38_1 (by decide)) (kd9 kd_38_1 (by decide)) rf_38_1 ?_
    refine r_ldI_n (m := 1) F_58_4 rfl ?_
    refine r_ifF (t := 18) F_58_5 rfl (l3 e2) (Int.not_lt.mpr v0) ?_
    refine r_ldI_n (m := 1) F_58_8 rfl ?_
    refine r_bipush F_58_9 bi_6 ?_
    refine r_icmpF (t := 18) F_58_11 rfl (l3 e2) (by decide) (Int.not_le.mpr v6) ?_
    refine r_ldI_n (m := 1) F_58_14 rfl ?_
    refine r_goto (t := 19) F_58_15 rfl ?_
    refine r_aald F_58_19 ty_40 (by decide) v0 (lt_ln ln_40 v6) (rw_40 ⟨v0, v6⟩).2 ?_
    refine r_areturn F_58_20 rob_58 ?_
    show Rn _ _ _ _ _ [vR (44 + 4 * (s 38 8)), vI (s (44 + 4 * (s 38 7)) 2)] _ _
    refine r_virt2 (A := []) (r := [vI (s (44 + 4 * (s 38 7)) 2)]) (n := 0) F_83_26 o_83 il_1_108 rfl rfl rfl rfl (rw_40 ⟨v0, v6⟩).1 vy_68 (lay_le n_68 rfl) ?_
    refine Cl_of n_68 rfl ?_
    show Rn _ _ _ _ [some (vR (44 + 4 * (s 38 8)))] [] _ _
    refine r_ldR_n (m := 0) F_68_0 rfl ?_
    refine r_getI (J := 2) (e := (s (44 + 4 * (s 38 8)) 2)) F_68_1 o_68 fl_0_19 (rw_40 ⟨v0, v6⟩).1 (by decide) rfl (gw (rw_40 ⟨v0, v6⟩).1).2.2.2.1 rfl ?_
    refine r_ireturn F_68_4 rt_68 ?_
    show Rn _ _ _ _ _ [vI (s (44 + 4 * (s 38 8)) 2), vI (s (44 + 4 * (s 38 7)) 2)] _ _
    refine r_iand F_83_29 rfl ?_
    refine r_goto (t := 34) F_83_30 rfl ?_
    refine r_ireturn F_83_34 rt_83 ?_
    exact (l4 e2)
theorem t_X1_canSay {X : m_X} {d : Nat} {s : m_St} {P : Option Value → m_St → Prop} {a : Int} (u0 : 0 ≤ (s 38 7)) (u6 : (s 38 7) < 6) (v0 : 0 ≤ (s 38 8)) (v6 : (s 38 8) < 6)
    (l1 : inR (s 38 7))
    (l2 : (s 38 7) = (-1) → P (some (vI 0)) s)
    (l3 : ¬ (s 38 7) = (-1) → inR a)
    (l4 : ¬ (s 38 7) = (-1) → 4 ≤ a → inR (s 38 8))
    (l5 : ¬ (s 38 7) = (-1) → 4 ≤ a → 0 ≤ a)
    (l6 : ¬ (s 38 7) = (-1) → 4 ≤ a → (iAnd (iShr (s (44 + 4 * (s 38 8)) 2) (a % 4)) 1) = 0 → P (some (vI 0)) s)
    (l7 : ¬ (s 38 7) = (-1) → 4 ≤ a → ¬ (iAnd (iShr (s (44 + 4 * (s 38 8)) 2) (a % 4)) 1) = 0 → P (some (vI 1)) s)
    (l8 : ¬ (s 38 7) = (-1) → a < 4 → 0 ≤ a)
    (l9 : ¬ (s 38 7) = (-1) → a < 4 → (iAnd (iShr (s (44 + 4 * (s 38 7)) 2) (a % 4)) 1) = 0 → P (some (vI 0)) s)
    (l10 : ¬ (s 38 7) = (-1) → a < 4 → ¬ (iAnd (iShr (s (44 + 4 * (s 38 7)) 2) (a % 4)) 1) = 0 → P (some (vI 1)) s)
    : Cl X (d + 1) 87 [vR 38, vI a] s P := by
  refine Cl_of n_87 rfl ?_
  show Rn _ _ _ _ [some (vR 38), some (vI a)] [] _ _
  refine r_ldR_n (m := 0) F_87_0 rfl ?_
  refine r_virt2 (A := []) (r := []) (n := 0) F_87_1 o_87 il_1_114 rfl rfl rfl rfl ty_38 vy_84 (lay_le n_84 rfl) ?_
  refine Cl_of n_84 rfl ?_
  show Rn _ _ _ _ [some (vR 38)] [] _ _
  refine r_ldR_n (m := 0) F_84_0 rfl ?_
  refine r_getI (J := 7) (e := (s 38 7)) F_84_1 o_84 fl_1_37 ty_38 (by decide) rfl kd_38_7 rfl ?_
  refine r_iconst F_84_4 ?_
  refine r_icmp (t := 12) F_84_5 rfl l1 (by decide) ?_ ?_
  · intro e1
    replace e1 : (s 38 7) = (-1) := e1
    refine r_iconst F_84_12 ?_
    refine r_zreturn F_84_13 rt_84 (Or.inl rfl) ?_
    show Rn _ _ _ _ _ [vI 0] _ _
    refine r_ifT (t := 40) F_87_4 rfl (by decide) (by show (0 : Int) = 0; decide) ?_
    refine r_iconst F_87_40 ?_
    refine r_zreturn F_87_41 rt_87 (Or.inl rfl) ?_
    exact (l2 e1)
  · intro e2
    replace e2 : ¬ (s 38 7) = (-1) := e2
    refine r_iconst F_84_8 ?_
    refine r_goto (t := 13) F_84_9 rfl ?_
    refine r_zreturn F_84_13 rt_84 (Or.inr rfl) ?_
    show Rn _ _ _ _ _ [vI 1] _ _
    refine r_ifF (t := 40) F_87_4 rfl (by decide) (by show ¬ ((1 : Int) = 0); decide) ?_
    refine r_ldR_n (m := 0) F_87_7 rfl ?_
    refine r_ldI_n (m := 1) F_87_8 rfl ?_
    refine r_iconst F_87_9 ?_
    refine r_icmp (t := 20) F_87_10 rfl (l3 e2) (by decide) ?_ ?_
    · intro e3
      replace e3 : 4 ≤ a := e3
      refine r_ldR_n (m := 0) F_87_20 rfl ?_
      refine r_getI (J := 8) (e := (s 38 8)) F_87_21 o_87 fl_1_40 ty_38 (by decide) rfl kd_38_8 rfl ?_
      refine r_virt2 (A := [vI (s 38 8)]) (r := []) (n := 1) F_87_24 o_87 il_1_107 rfl rfl rfl rfl ty_38 vy_58 (lay_le n_58 rfl) ?_
      refine Cl_of n_58 rfl ?_
      show Rn _ _ _ _ [some (vR 38), some (vI (s 38 8))] [] _ _
      refine r_ldR_n (m := 0) F_58_0 rfl ?_
      refine r_getR (J := 1) F_58_1 o_58 fl_1_17 ty_38 (by decide) rfl (kd2 kd_38_1 (by decide)) (kd9 kd_38_1 (by decide)) rf_38_1 ?_
      refine r_ldI_n (m := 1) F_58_4 rfl ?_
      refine r_ifF (t := 18) F_58_5 rfl (l4 e2 e3) (Int.not_lt.mpr v0) ?_
      refine r_ldI_n (m := 1) F_58_8 rfl ?_
      refine r_bipush F_58_9 bi_6 ?_
      refine r_icmpF (t := 18) F_58_11 rfl (l4 e2 e3) (by decide) (Int.not_le.mpr v6) ?_
      refine r_ldI_n (m := 1) F_58_14 rfl ?_
      refine r_goto (t := 19) F_58_15 rfl ?_
      refine r_aald F_58_19 ty_40 (by decide) v0 (lt_ln ln_40 v6) (rw_40 ⟨v0, v6⟩).2 ?_
      refine r_areturn F_58_20 rob_58 ?_
      show Rn _ _ _ _ _ [vR (44 + 4 * (s 38 8))] _ _
      refine r_ldI_n (m := 1) F_87_27 rfl ?_
      refine r_iconst F_87_28 ?_
      refine r_irem F_87_29 (l3 e2) (l5 e2 e3) (by decide) (by decide) ?_
      refine r_virt2 (A := [vI (a % 4)]) (r := []) (n := 1) F_87_30 o_87 il_1_118 rfl rfl rfl rfl (rw_40 ⟨v0, v6⟩).1 vy_62 (lay_le n_62 rfl) ?_
      refine Cl_of n_62 rfl ?_
      show Rn _ _ _ _ [some (vR (44 + 4 * (s 38 8))), some (vI (a % 4))] [] _ _
      refine r_ldR_n (m := 0) F_62_0 rfl ?_
      refine r_getI (J := 2) (e := (s (44 + 4 * (s 38 8)) 2)) F_62_1 o_62 fl_0_19 (rw_40 ⟨v0, v6⟩).1 (by decide) rfl (gw (rw_40 ⟨v0, v6⟩).1).2.2.2.1 rfl ?_
      refine r_ldI_n (m := 1) F_62_4 rfl ?_
      refine r_ishr F_62_5 rfl ?_
      refine r_iconst F_62_6 ?_
      refine r_iand F_62_7 rfl ?_
      refine r_if (t := 15) F_62_8 rfl (inR_iAnd _ _) ?_ ?_
      · intro e4
        replace e4 : (iAnd (iShr (s (44 + 4 * (s 38 8)) 2) (a % 4)) 1) = 0 := e4
        refine r_iconst F_62_15 ?_
        refine r_zreturn F_62_16 rt_62 (Or.inl rfl) ?_
        show Rn _ _ _ _ _ [vI 0] _ _
        refine r_ifT (t := 40) F_87_33 rfl (by decide) (by show (0 : Int) = 0; decide) ?_
        refine r_iconst F_87_40 ?_
        refine r_zreturn F_87_41 rt_87 (Or.inl rfl) ?_
        exact (l6 e2 e3 e4)
      · intro e5
        replace e5 : ¬ (iAnd (iShr (s (44 + 4 * (s 38 8)) 2) (a % 4)) 1) = 0 := e5
        refine r_iconst F_62_11 ?_
        refine r_goto (t := 16) F_62_12 rfl ?_
        refine r_zreturn F_62_16 rt_62 (Or.inr rfl) ?_
        show Rn _ _ _ _ _ [vI 1] _ _
        refine r_ifF (t := 40) F_87_33 rfl (by decide) (by show ¬ ((1 : Int) = 0); decide) ?_
        refine r_iconst F_87_36 ?_
        refine r_goto (t := 41) F_87_37 rfl ?_
        refine r_zreturn F_87_41 rt_87 (Or.inr rfl) ?_
        exact (l7 e2 e3 e5)
    · intro e6
      replace e6 : a < 4 := (Int.not_le.mp e6)
      refine r_ldR_n (m := 0) F_87_13 rfl ?_
      refine r_getI (J := 7) (e := (s 38 7)) F_87_14 o_87 fl_1_37 ty_38 (by decide) rfl kd_38_7 rfl ?_
      refine r_goto (t := 24) F_87_17 rfl ?_
      refine r_virt2 (A := [vI (s 38 7)]) (r := []) (n := 1) F_87_24 o_87 il_1_107 rfl rfl rfl rfl ty_38 vy_58 (lay_le n_58 rfl) ?_
      refine Cl_of n_58 rfl ?_
      show Rn _ _ _ _ [some (vR 38), some (vI (s 38 7))] [] _ _
      refine r_ldR_n (m := 0) F_58_0 rfl ?_
      refine r_getR (J := 1) F_58_1 o_58 fl_1_17 ty_38 (by decide) rfl (kd2 kd_38_1 (by decide)) (kd9 kd_38_1 (by decide)) rf_38_1 ?_
      refine r_ldI_n (m := 1) F_58_4 rfl ?_
      refine r_ifF (t := 18) F_58_5 rfl l1 (Int.not_lt.mpr u0) ?_
      refine r_ldI_n (m := 1) F_58_8 rfl ?_
      refine r_bipush F_58_9 bi_6 ?_
      refine r_icmpF (t := 18) F_58_11 rfl l1 (by decide) (Int.not_le.mpr u6) ?_
      refine r_ldI_n (m := 1) F_58_14 rfl ?_
      refine r_goto (t := 19) F_58_15 rfl ?_
      refine r_aald F_58_19 ty_40 (by decide) u0 (lt_ln ln_40 u6) (rw_40 ⟨u0, u6⟩).2 ?_
      refine r_areturn F_58_20 rob_58 ?_
      show Rn _ _ _ _ _ [vR (44 + 4 * (s 38 7))] _ _
      refine r_ldI_n (m := 1) F_87_27 rfl ?_
      refine r_iconst F_87_28 ?_
      refine r_irem F_87_29 (l3 e2) (l8 e2 e6) (by decide) (by decide) ?_
      refine r_virt2 (A := [vI (a % 4)]) (r := []) (n := 1) F_87_30 o_87 il_1_118 rfl rfl rfl rfl (rw_40 ⟨u0, u6⟩).1 vy_62 (lay_le n_62 rfl) ?_
      refine Cl_of n_62 rfl ?_
      show Rn _ _ _ _ [some (vR (44 + 4 * (s 38 7))), some (vI (a % 4))] [] _ _
      refine r_ldR_n (m := 0) F_62_0 rfl ?_
      refine r_getI (J := 2) (e := (s (44 + 4 * (s 38 7)) 2)) F_62_1 o_62 fl_0_19 (rw_40 ⟨u0, u6⟩).1 (by decide) rfl (gw (rw_40 ⟨u0, u6⟩).1).2.2.2.1 rfl ?_
      refine r_ldI_n (m := 1) F_62_4 rfl ?_
      refine r_ishr F_62_5 rfl ?_
      refine r_iconst F_62_6 ?_
      refine r_iand F_62_7 rfl ?_
      refine r_if (t := 15) F_62_8 rfl (inR_iAnd _ _) ?_ ?_
      · intro e7
        replace e7 : (iAnd (iShr (s (44 + 4 * (s 38 7)) 2) (a % 4)) 1) = 0 := e7
        refine r_iconst F_62_15 ?_
        refine r_zreturn F_62_16 rt_62 (Or.inl rfl) ?_
        show Rn _ _ _ _ _ [vI 0] _ _
        refine r_ifT (t := 40) F_87_33 rfl (by decide) (by show (0 : Int) = 0; decide) ?_
        refine r_iconst F_87_40 ?_
        refine r_zreturn F_87_41 rt_87 (Or.inl rfl) ?_
        exact (l9 e2 e6 e7)
      · intro e8
        replace e8 : ¬ (iAnd (iShr (s (44 + 4 * (s 38 7)) 2) (a % 4)) 1) = 0 := e8
        refine r_iconst F_62_11 ?_
        refine r_goto (t := 16) F_62_12 rfl ?_
        refine r_zreturn F_62_16 rt_62 (Or.inr rfl) ?_
        show Rn _ _ _ _ _ [vI 1] _ _
        refine r_ifF (t := 40) F_87_33 rfl (by decide) (by show ¬ ((1 : Int) = 0); decide) ?_
        refine r_iconst F_87_36 ?_
        refine r_goto (t := 41) F_87_37 rfl ?_
        refine r_zreturn F_87_41 rt_87 (Or.inr rfl) ?_
        exact (l10 e2 e6 e8)
theorem t_canSayN {X : m_X} {d : Nat} {s : m_St} {P : Option Value → m_St → Prop} {a : Int} (u0 : (s 38 7) = (-1))
    (l1 : inR (s 38 7))
    (l2 : P (some (vI 0)) s)
    : Cl X (d + 1) 87 [vR 38, vI a] s P := by
  refine Cl_of n_87 rfl ?_
  show Rn _ _ _ _ [some (vR 38), some (vI a)] [] _ _
  refine r_ldR_n (m := 0) F_87_0 rfl ?_
  refine r_virt2 (A := []) (r := []) (n := 0) F_87_1 o_87 il_1_114 rfl rfl rfl rfl ty_38 vy_84 (lay_le n_84 rfl) ?_
  refine Cl_of n_84 rfl ?_
  show Rn _ _ _ _ [some (vR 38)] [] _ _
  refine r_ldR_n (m := 0) F_84_0 rfl ?_
  refine r_getI (J := 7) (e := (s 38 7)) F_84_1 o_84 fl_1_37 ty_38 (by decide) rfl kd_38_7 rfl ?_
  refine r_iconst F_84_4 ?_
  refine r_icmpT (t := 12) F_84_5 rfl l1 (by decide) u0 ?_
  refine r_iconst F_84_12 ?_
  refine r_zreturn F_84_13 rt_84 (Or.inl rfl) ?_
  show Rn _ _ _ _ _ [vI 0] _ _
  refine r_ifT (t := 40) F_87_4 rfl (by decide) (by show (0 : Int) = 0; decide) ?_
  refine r_iconst F_87_40 ?_
  refine r_zreturn F_87_41 rt_87 (Or.inl rfl) ?_
  exact l2
