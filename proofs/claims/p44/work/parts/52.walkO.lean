/-! walks: places of shelves -/
theorem n_19 : m_n 19 = 4 := by decide +kernel
theorem F_19_0 : F 19 0 (.aload_n 0) 1 := ⟨1, by decide +kernel, rfl, rfl⟩
theorem F_19_1 : F 19 1 (.iload_n 1) 2 := ⟨1, by decide +kernel, rfl, rfl⟩
theorem F_19_2 : F 19 2 (.iload_n 2) 3 := ⟨1, by decide +kernel, rfl, rfl⟩
theorem F_19_3 : F 19 3 (.iconst 1) 4 := ⟨1, by decide +kernel, rfl, rfl⟩
theorem F_19_4 : F 19 4 (.invokevirtual 39) 7 := ⟨3, by decide +kernel, rfl, rfl⟩
theorem o_19 : m_o 19 = 3 := by decide +kernel
theorem F_19_7 : F 19 7 (.ifCond .eq 12) 10 := ⟨3, by decide +kernel, rfl, rfl⟩
theorem F_19_10 : F 19 10 (.aload_n 0) 11 := ⟨1, by decide +kernel, rfl, rfl⟩
theorem F_19_11 : F 19 11 (.getfield 25) 14 := ⟨3, by decide +kernel, rfl, rfl⟩
theorem F_19_14 : F 19 14 (.iload_n 1) 15 := ⟨1, by decide +kernel, rfl, rfl⟩
theorem F_19_15 : F 19 15 (.aaload) 16 := ⟨1, by decide +kernel, rfl, rfl⟩
theorem F_19_16 : F 19 16 (.iload_n 2) 17 := ⟨1, by decide +kernel, rfl, rfl⟩
theorem F_19_17 : F 19 17 (.iload_n 3) 18 := ⟨1, by decide +kernel, rfl, rfl⟩
theorem F_19_18 : F 19 18 (.iastore) 19 := ⟨1, by decide +kernel, rfl, rfl⟩
theorem F_19_19 : F 19 19 (.return_) 20 := ⟨1, by decide +kernel, rfl, rfl⟩
theorem rt_19 : m_r 19 = none := by decide +kernel
theorem n_101 : m_n 101 = 4 := by decide +kernel
theorem F_101_0 : F 101 0 (.aload_n 0) 1 := ⟨1, by decide +kernel, rfl, rfl⟩
theorem F_101_1 : F 101 1 (.getfield 12) 4 := ⟨3, by decide +kernel, rfl, rfl⟩
theorem ty_66 : ty 66 = 4 := by decide +kernel
theorem fl_4_12 : m_fl.lookup (4, 12) = some (4, 0, 1131) := by decide +kernel
theorem kd_66_0 : kd 66 0 = 69 := by decide +kernel
theorem o_101 : m_o 101 = 4 := by decide +kernel
theorem rf_66_0 : rf 66 0 = 67 := by decide +kernel
theorem F_101_4 : F 101 4 (.aload_n 1) 5 := ⟨1, by decide +kernel, rfl, rfl⟩
theorem F_101_5 : F 101 5 (.aload_n 1) 6 := ⟨1, by decide +kernel, rfl, rfl⟩
theorem F_101_6 : F 101 6 (.invokevirtual 52) 9 := ⟨3, by decide +kernel, rfl, rfl⟩
theorem il_4_52 : ilq 4 52 0 52 0 = true := by decide +kernel
theorem F_101_9 : F 101 9 (.invokevirtual 56) 12 := ⟨3, by decide +kernel, rfl, rfl⟩
theorem ty_67 : ty 67 = 0 := by decide +kernel
theorem il_4_56 : ilq 4 56 0 53 2 = true := by decide +kernel
theorem F_101_12 : F 101 12 (.aload_n 0) 13 := ⟨1, by decide +kernel, rfl, rfl⟩
theorem F_101_13 : F 101 13 (.getfield 18) 16 := ⟨3, by decide +kernel, rfl, rfl⟩
theorem fl_4_18 : m_fl.lookup (4, 18) = some (4, 1, 1132) := by decide +kernel
theorem kd_66_1 : kd 66 1 = 71 := by decide +kernel
theorem rf_66_1 : rf 66 1 = 69 := by decide +kernel
theorem F_101_16 : F 101 16 (.aload_n 2) 17 := ⟨1, by decide +kernel, rfl, rfl⟩
theorem F_101_17 : F 101 17 (.aload_n 2) 18 := ⟨1, by decide +kernel, rfl, rfl⟩
theorem F_101_18 : F 101 18 (.invokevirtual 52) 21 := ⟨3, by decide +kernel, rfl, rfl⟩
theorem F_101_21 : F 101 21 (.invokevirtual 56) 24 := ⟨3, by decide +kernel, rfl, rfl⟩
theorem ty_69 : ty 69 = 0 := by decide +kernel
theorem F_101_24 : F 101 24 (.aload_n 0) 25 := ⟨1, by decide +kernel, rfl, rfl⟩
theorem F_101_25 : F 101 25 (.iload_n 3) 26 := ⟨1, by decide +kernel, rfl, rfl⟩
theorem F_101_26 : F 101 26 (.putfield 21) 29 := ⟨3, by decide +kernel, rfl, rfl⟩
theorem fl_4_21 : m_fl.lookup (4, 21) = some (4, 2, 1133) := by decide +kernel
theorem kd_66_2 : kd 66 2 = 0 := by decide +kernel
theorem pf_4_2 : pfT 4 2 .int = true := by decide +kernel
theorem F_101_29 : F 101 29 (.return_) 30 := ⟨1, by decide +kernel, rfl, rfl⟩
theorem rt_101 : m_r 101 = none := by decide +kernel
theorem t_get1 {X : m_X} {d : Nat} {s : m_St} {P : Option Value → m_St → Prop} {r j : Int} (h0 : 0 ≤ r) (h6 : r < 6) (hz : ¬ (s 2 r) = (-1)) (j0 : 0 ≤ j) (j1 : j ≤ ((s 2 r) - 1))
    (l1 : inR r)
    (l2 : inR (s 2 r))
    (l3 : inR j)
    (l4 : inR ((s 2 r) - 1))
    (l5 : j < 40)
    (l6 : P (some (vI (s (4 + r) j))) s)
    : Cl X (d + 4) 18 [vR 1, vI r, vI j] s P := by
  refine Cl_of n_18 rfl ?_
  show Rn _ _ _ _ [some (vR 1), some (vI r), some (vI j)] [] _ _
  refine r_ldR_n (m := 0) F_18_0 rfl ?_
  refine r_ldI_n (m := 1) F_18_1 rfl ?_
  refine r_ldI_n (m := 2) F_18_2 rfl ?_
  refine r_iconst F_18_3 ?_
  refine r_virt2 (A := [vI r, vI j, vI 1]) (r := []) (n := 3) F_18_4 o_18 il_3_39 rfl rfl rfl rfl ty_1 vy_17 (lay_le n_17 rfl) ?_
  refine Cl_of n_17 rfl ?_
  show Rn _ _ _ _ [some (vR 1), some (vI r), some (vI j), some (vI 1)] [] _ _
  refine r_ldR_n (m := 0) F_17_0 rfl ?_
  refine r_ldI_n (m := 1) F_17_1 rfl ?_
  refine r_virt2 (A := [vI r]) (r := []) (n := 1) F_17_2 o_17 il_3_36 rfl rfl rfl rfl ty_1 vy_15 (lay_le n_15 rfl) ?_
  refine Cl_of n_15 rfl ?_
  show Rn _ _ _ _ [some (vR 1), some (vI r)] [] _ _
  refine r_ldR_n (m := 0) F_15_0 rfl ?_
  refine r_ldI_n (m := 1) F_15_1 rfl ?_
  refine r_virt2 (A := [vI r]) (r := []) (n := 1) F_15_2 o_15 il_3_28 rfl rfl rfl rfl ty_1 vy_16 (lay_le n_16 rfl) ?_
  refine Cl_of n_16 rfl ?_
  show Rn _ _ _ _ [some (vR 1), some (vI r)] [] _ _
  refine r_ldR_n (m := 0) F_16_0 rfl ?_
  refine r_ldI_n (m := 1) F_16_1 rfl ?_
  refine r_virt2 (A := [vI r]) (r := []) (n := 1) F_16_2 o_16 il_3_32 rfl rfl rfl rfl ty_1 vy_9 (lay_le n_9 rfl) ?_
  refine Cl_of n_9 rfl ?_
  show Rn _ _ _ _ [some (vR 1), some (vI r)] [] _ _
  refine r_ldI_n (m := 1) F_9_0 rfl ?_
  refine r_ifF (t := 17) F_9_1 rfl l1 (Int.not_lt.mpr h0) ?_
  refine r_ldI_n (m := 1) F_9_4 rfl ?_
  refine r_ldR_n (m := 0) F_9_5 rfl ?_
  refine r_getR (J := 0) F_9_6 o_9 fl_3_19 ty_1 (by decide) rfl (kd2 kd_1_0 (by decide)) (kd9 kd_1_0 (by decide)) rf_1_0 ?_
  refine r_alen F_9_9 ty_2 (by decide) ln_2 ?_
  refine r_icmpF (t := 17) F_9_10 rfl l1 (by decide) (Int.not_le.mpr h6) ?_
  refine r_iconst F_9_13 ?_
  refine r_goto (t := 18) F_9_14 rfl ?_
  refine r_zreturn F_9_18 rt_9 (Or.inr rfl) ?_
  show Rn _ _ _ _ _ [vI 1] _ _
  refine r_ifF (t := 17) F_16_5 rfl (by decide) (by show ¬ ((1 : Int) = 0); decide) ?_
  refine r_ldR_n (m := 0) F_16_8 rfl ?_
  refine r_getR (J := 0) F_16_9 o_16 fl_3_19 ty_1 (by decide) rfl (kd2 kd_1_0 (by decide)) (kd9 kd_1_0 (by decide)) rf_1_0 ?_
  refine r_ldI_n (m := 1) F_16_12 rfl ?_
  refine r_iald (e := (s 2 r)) F_16_13 ty_2 h0 (lt_ln ln_2 h6) rfl ?_
  refine r_goto (t := 18) F_16_14 rfl ?_
  refine r_ireturn F_16_18 rt_16 ?_
  show Rn _ _ _ _ _ [vI (s 2 r)] _ _
  refine r_iconst F_15_5 ?_
  refine r_icmpF (t := 13) F_15_6 rfl l2 (by decide) hz ?_
  refine r_iconst F_15_9 ?_
  refine r_goto (t := 14) F_15_10 rfl ?_
  refine r_zreturn F_15_14 rt_15 (Or.inr rfl) ?_
  show Rn _ _ _ _ _ [vI 1] _ _
  refine r_ifF (t := 31) F_17_5 rfl (by decide) (by show ¬ ((1 : Int) = 0); decide) ?_
  refine r_ldI_n (m := 2) F_17_8 rfl ?_
  refine r_ifF (t := 31) F_17_9 rfl l3 (Int.not_lt.mpr j0) ?_
  refine r_ldI_n (m := 3) F_17_12 rfl ?_
  refine r_ifF (t := 31) F_17_13 rfl (by decide) (by show ¬ ((1 : Int) < 0); decide) ?_
  refine r_ldI_n (m := 2) F_17_16 rfl ?_
  refine r_ldR_n (m := 0) F_17_17 rfl ?_
  refine r_ldI_n (m := 1) F_17_18 rfl ?_
  refine r_virt2 (A := [vI r]) (r := [vI j]) (n := 1) F_17_19 o_17 il_3_28 rfl rfl rfl rfl ty_1 vy_16 (lay_le n_16 rfl) ?_
  refine Cl_of n_16 rfl ?_
  show Rn _ _ _ _ [some (vR 1), some (vI r)] [] _ _
  refine r_ldR_n (m := 0) F_16_0 rfl ?_
  refine r_ldI_n (m := 1) F_16_1 rfl ?_
  refine r_virt2 (A := [vI r]) (r := []) (n := 1) F_16_2 o_16 il_3_32 rfl rfl rfl rfl ty_1 vy_9 (lay_le n_9 rfl) ?_
  refine Cl_of n_9 rfl ?_
  show Rn _ _ _ _ [some (vR 1), some (vI r)] [] _ _
  refine r_ldI_n (m := 1) F_9_0 rfl ?_
  refine r_ifF (t := 17) F_9_1 rfl l1 (Int.not_lt.mpr h0) ?_
  refine r_ldI_n (m := 1) F_9_4 rfl ?_
  refine r_ldR_n (m := 0) F_9_5 rfl ?_
  refine r_getR (J := 0) F_9_6 o_9 fl_3_19 ty_1 (by decide) rfl (kd2 kd_1_0 (by decide)) (kd9 kd_1_0 (by decide)) rf_1_0 ?_
  refine r_alen F_9_9 ty_2 (by decide) ln_2 ?_
  refine r_icmpF (t := 17) F_9_10 rfl l1 (by decide) (Int.not_le.mpr h6) ?_
  refine r_iconst F_9_13 ?_
  refine r_goto (t := 18) F_9_14 rfl ?_
  refine r_zreturn F_9_18 rt_9 (Or.inr rfl) ?_
  show Rn _ _ _ _ _ [vI 1] _ _
  refine r_ifF (t := 17) F_16_5 rfl (by decide) (by show ¬ ((1 : Int) = 0); decide) ?_
  refine r_ldR_n (m := 0) F_16_8 rfl ?_
  refine r_getR (J := 0) F_16_9 o_16 fl_3_19 ty_1 (by decide) rfl (kd2 kd_1_0 (by decide)) (kd9 kd_1_0 (by decide)) rf_1_0 ?_
  refine r_ldI_n (m := 1) F_16_12 rfl ?_
  refine r_iald (e := (s 2 r)) F_16_13 ty_2 h0 (lt_ln ln_2 h6) rfl ?_
  refine r_goto (t := 18) F_16_14 rfl ?_
  refine r_ireturn F_16_18 rt_16 ?_
  show Rn _ _ _ _ _ [vI (s 2 r), vI j] _ _
  refine r_ldI_n (m := 3) F_17_22 rfl ?_
  refine r_isub F_17_23 rfl ?_
  refine r_icmpF (t := 31) F_17_24 rfl l3 l4 (Int.not_lt.mpr j1) ?_
  refine r_iconst F_17_27 ?_
  refine r_goto (t := 32) F_17_28 rfl ?_
  refine r_zreturn F_17_32 rt_17 (Or.inr rfl) ?_
  show Rn _ _ _ _ _ [vI 1] _ _
  refine r_ifF (t := 21) F_18_7 rfl (by decide) (by show ¬ ((1 : Int) = 0); decide) ?_
  refine r_ldR_n (m := 0) F_18_10 rfl ?_
  refine r_getR (J := 1) F_18_11 o_18 fl_3_25 ty_1 (by decide) rfl (kd2 kd_1_1 (by decide)) (kd9 kd_1_1 (by decide)) rf_1_1 ?_
  refine r_ldI_n (m := 1) F_18_14 rfl ?_
  refine r_aald F_18_15 ty_3 (by decide) h0 (lt_ln ln_3 h6) (rw_3 ⟨h0, h6⟩).2.2 ?_
  refine r_ldI_n (m := 2) F_18_16 rfl ?_
  refine r_iald (e := (s (4 + r) j)) F_18_17 (rw_3 ⟨h0, h6⟩).1 j0 (lt_ln (rw_3 ⟨h0, h6⟩).2.1 l5) rfl ?_
  refine r_goto (t := 22) F_18_18 rfl ?_
  refine r_ireturn F_18_22 rt_18 ?_
  exact l6
theorem t_set1 {X : m_X} {d : Nat} {s : m_St} {P : Option Value → m_St → Prop} {r j v : Int} (h0 : 0 ≤ r) (h6 : r < 6) (hz : ¬ (s 2 r) = (-1)) (j0 : 0 ≤ j) (j1 : j ≤ ((s 2 r) - 1))
    (l1 : inR r)
    (l2 : inR (s 2 r))
    (l3 : inR j)
    (l4 : inR ((s 2 r) - 1))
    (l5 : j < 40)
    (l6 : P none (m_upd s (4 + r) j v))
    : Cl X (d + 4) 19 [vR 1, vI r, vI j, vI v] s P := by
  refine Cl_of n_19 rfl ?_
  show Rn _ _ _ _ [some (vR 1), some (vI r), some (vI j), some (vI v)] [] _ _
  refine r_ldR_n (m := 0) F_19_0 rfl ?_
  refine r_ldI_n (m := 1) F_19_1 rfl ?_
  refine r_ldI_n (m := 2) F_19_2 rfl ?_
  refine r_iconst F_19_3 ?_
  refine r_virt2 (A := [vI r, vI j, vI 1]) (r := []) (n := 3) F_19_4 o_19 il_3_39 rfl rfl rfl rfl ty_1 vy_17 (lay_le n_17 rfl) ?_
  refine Cl_of n_17 rfl ?_
  show Rn _ _ _ _ [some (vR 1), some (vI r), some (vI j), some (vI 1)] [] _ _
  refine r_ldR_n (m := 0) F_17_0 rfl ?_
  refine r_ldI_n (m := 1) F_17_1 rfl ?_
  refine r_virt2 (A := [vI r]) (r := []) (n := 1) F_17_2 o_17 il_3_36 rfl rfl rfl rfl ty_1 vy_15 (lay_le n_15 rfl) ?_
  refine Cl_of n_15 rfl ?_
  show Rn _ _ _ _ [some (vR 1), some (vI r)] [] _ _
  refine r_ldR_n (m := 0) F_15_0 rfl ?_
  refine r_ldI_n (m := 1) F_15_1 rfl ?_
  refine r_virt2 (A := [vI r]) (r := []) (n := 1) F_15_2 o_15 il_3_28 rfl rfl rfl rfl ty_1 vy_16 (lay_le n_16 rfl) ?_
  refine Cl_of n_16 rfl ?_
  show Rn _ _ _ _ [some (vR 1), some (vI r)] [] _ _
  refine r_ldR_n (m := 0) F_16_0 rfl ?_
  refine r_ldI_n (m := 1) F_16_1 rfl ?_
  refine r_virt2 (A := [vI r]) (r := []) (n := 1) F_16_2 o_16 il_3_32 rfl rfl rfl rfl ty_1 vy_9 (lay_le n_9 rfl) ?_
  refine Cl_of n_9 rfl ?_
  show Rn _ _ _ _ [some (vR 1), some (vI r)] [] _ _
  refine r_ldI_n (m := 1) F_9_0 rfl ?_
  refine r_ifF (t := 17) F_9_1 rfl l1 (Int.not_lt.mpr h0) ?_
  refine r_ldI_n (m := 1) F_9_4 rfl ?_
  refine r_ldR_n (m := 0) F_9_5 rfl ?_
  refine r_getR (J := 0) F_9_6 o_9 fl_3_19 ty_1 (by decide) rfl (kd2 kd_1_0 (by decide)) (kd9 kd_1_0 (by decide)) rf_1_0 ?_
  refine r_alen F_9_9 ty_2 (by decide) ln_2 ?_
  refine r_icmpF (t := 17) F_9_10 rfl l1 (by decide) (Int.not_le.mpr h6) ?_
  refine r_iconst F_9_13 ?_
  refine r_goto (t := 18) F_9_14 rfl ?_
  refine r_zreturn F_9_18 rt_9 (Or.inr rfl) ?_
  show Rn _ _ _ _ _ [vI 1] _ _
  refine r_ifF (t := 17) F_16_5 rfl (by decide) (by show ¬ ((1 : Int) = 0); decide) ?_
  refine r_ldR_n (m := 0) F_16_8 rfl ?_
  refine r_getR (J := 0) F_16_9 o_16 fl_3_19 ty_1 (by decide) rfl (kd2 kd_1_0 (by decide)) (kd9 kd_1_0 (by decide)) rf_1_0 ?_
  refine r_ldI_n (m := 1) F_16_12 rfl ?_
  refine r_iald (e := (s 2 r)) F_16_13 ty_2 h0 (lt_ln ln_2 h6) rfl ?_
  refine r_goto (t := 18) F_16_14 rfl ?_
  refine r_ireturn F_16_18 rt_16 ?_
  show Rn _ _ _ _ _ [vI (s 2 r)] _ _
  refine r_iconst F_15_5 ?_
  refine r_icmpF (t := 13) F_15_6 rfl l2 (by decide) hz ?_
  refine r_iconst F_15_9 ?_
  refine r_goto (t := 14) F_15_10 rfl ?_
  refine r_zreturn F_15_14 rt_15 (Or.inr rfl) ?_
  show Rn _ _ _ _ _ [vI 1] _ _
  refine r_ifF (t := 31) F_17_5 rfl (by decide) (by show ¬ ((1 : Int) = 0); decide) ?_
  refine r_ldI_n (m := 2) F_17_8 rfl ?_
  refine r_ifF (t := 31) F_17_9 rfl l3 (Int.not_lt.mpr j0) ?_
  refine r_ldI_n (m := 3) F_17_12 rfl ?_
  refine r_ifF (t := 31) F_17_13 rfl (by decide) (by show ¬ ((1 : Int) < 0); decide) ?_
  refine r_ldI_n (m := 2) F_17_16 rfl ?_
  refine r_ldR_n (m := 0) F_17_17 rfl ?_
  refine r_ldI_n (m := 1) F_17_18 rfl ?_
  refine r_virt2 (A := [vI r]) (r := [vI j]) (n := 1) F_17_19 o_17 il_3_28 rfl rfl rfl rfl ty_1 vy_16 (lay_le n_16 rfl) ?_
  refine Cl_of n_16 rfl ?_
  show Rn _ _ _ _ [some (vR 1), some (vI r)] [] _ _
  refine r_ldR_n (m := 0) F_16_0 rfl ?_
  refine r_ldI_n (m := 1) F_16_1 rfl ?_
  refine r_virt2 (A := [vI r]) (r := []) (n := 1) F_16_2 o_16 il_3_32 rfl rfl rfl rfl ty_1 vy_9 (lay_le n_9 rfl) ?_
  refine Cl_of n_9 rfl ?_
  show Rn _ _ _ _ [some (vR 1), some (vI r)] [] _ _
  refine r_ldI_n (m := 1) F_9_0 rfl ?_
  refine r_ifF (t := 17) F_9_1 rfl l1 (Int.not_lt.mpr h0) ?_
  refine r_ldI_n (m := 1) F_9_4 rfl ?_
  refine r_ldR_n (m := 0) F_9_5 rfl ?_
  refine r_getR (J := 0) F_9_6 o_9 fl_3_19 ty_1 (by decide) rfl (kd2 kd_1_0 (by decide)) (kd9 kd_1_0 (by decide)) rf_1_0 ?_
  refine r_alen F_9_9 ty_2 (by decide) ln_2 ?_
  refine r_icmpF (t := 17) F_9_10 rfl l1 (by decide) (Int.not_le.mpr h6) ?_
  refine r_iconst F_9_13 ?_
  refine r_goto (t := 18) F_9_14 rfl ?_
  refine r_zreturn F_9_18 rt_9 (Or.inr rfl) ?_
  show Rn _ _ _ _ _ [vI 1] _ _
  refine r_ifF (t := 17) F_16_5 rfl (by decide) (by show ¬ ((1 : Int) = 0); decide) ?_
  refine r_ldR_n (m := 0) F_16_8 rfl ?_
  refine r_getR (J := 0) F_16_9 o_16 fl_3_19 ty_1 (by decide) rfl (kd2 kd_1_0 (by decide)) (kd9 kd_1_0 (by decide)) rf_1_0 ?_
  refine r_ldI_n (m := 1) F_16_12 rfl ?_
  refine r_iald (e := (s 2 r)) F_16_13 ty_2 h0 (lt_ln ln_2 h6) rfl ?_
  refine r_goto (t := 18) F_16_14 rfl ?_
  refine r_ireturn F_16_18 rt_16 ?_
  show Rn _ _ _ _ _ [vI (s 2 r), vI j] _ _
  refine r_ldI_n (m := 3) F_17_22 rfl ?_
  refine r_isub F_17_23 rfl ?_
  refine r_icmpF (t := 31) F_17_24 rfl l3 l4 (Int.not_lt.mpr j1) ?_
  refine r_iconst F_17_27 ?_
  refine r_goto (t := 32) F_17_28 rfl ?_
  refine r_zreturn F_17_32 rt_17 (Or.inr rfl) ?_
  show Rn _ _ _ _ _ [vI 1] _ _
  refine r_ifF (t := 19) F_19_7 rfl (by decide) (by show ¬ ((1 : Int) = 0); decide) ?_
  refine r_ldR_n (m := 0) F_19_10 rfl ?_
  refine r_getR (J := 1) F_19_11 o_19 fl_3_25 ty_1 (by decide) rfl (kd2 kd_1_1 (by decide)) (kd9 kd_1_1 (by decide)) rf_1_1 ?_
  refine r_ldI_n (m := 1) F_19_14 rfl ?_
  refine r_aald F_19_15 ty_3 (by decide) h0 (lt_ln ln_3 h6) (rw_3 ⟨h0, h6⟩).2.2 ?_
  refine r_ldI_n (m := 2) F_19_16 rfl ?_
  refine r_ldI_n (m := 3) F_19_17 rfl ?_
  refine r_iast F_19_18 (rw_3 ⟨h0, h6⟩).1 j0 (lt_ln (rw_3 ⟨h0, h6⟩).2.1 l5) ?_
  refine r_return F_19_19 rt_19 ?_
  exact l6
theorem t_get10 {X : m_X} {d : Nat} {s : m_St} {P : Option Value → m_St → Prop} {r j : Int} (h0 : 0 ≤ r) (h6 : r < 4) (hz : ¬ (s 11 r) = (-1)) (j0 : 0 ≤ j) (j1 : j ≤ ((s 11 r) - 1))
    (l1 : inR r)
    (l2 : inR (s 11 r))
    (l3 : inR j)
    (l4 : inR ((s 11 r) - 1))
    (l5 : j < 60)
    (l6 : P (some (vI (s (13 + r) j))) s)
    : Cl X (d + 4) 18 [vR 10, vI r, vI j] s P := by
  refine Cl_of n_18 rfl ?_
  show Rn _ _ _ _ [some (vR 10), some (vI r), some (vI j)] [] _ _
  refine r_ldR_n (m := 0) F_18_0 rfl ?_
  refine r_ldI_n (m := 1) F_18_1 rfl ?_
  refine r_ldI_n (m := 2) F_18_2 rfl ?_
  refine r_iconst F_18_3 ?_
  refine r_virt2 (A := [vI r, vI j, vI 1]) (r := []) (n := 3) F_18_4 o_18 il_3_39 rfl rfl rfl rfl ty_10 vy_17 (lay_le n_17 rfl) ?_
  refine Cl_of n_17 rfl ?_
  show Rn _ _ _ _ [some (vR 10), some (vI r), some (vI j), some (vI 1)] [] _ _
  refine r_ldR_n (m := 0) F_17_0 rfl ?_
  refine r_ldI_n (m := 1) F_17_1 rfl ?_
  refine r_virt2 (A := [vI r]) (r := []) (n := 1) F_17_2 o_17 il_3_36 rfl rfl rfl rfl ty_10 vy_15 (lay_le n_15 rfl) ?_
  refine Cl_of n_15 rfl ?_
  show Rn _ _ _ _ [some (vR 10), some (vI r)] [] _ _
  refine r_ldR_n (m := 0) F_15_0 rfl ?_
  refine r_ldI_n (m := 1) F_15_1 rfl ?_
  refine r_virt2 (A := [vI r]) (r := []) (n := 1) F_15_2 o_15 il_3_28 rfl rfl rfl rfl ty_10 vy_16 (lay_le n_16 rfl) ?_
  refine Cl_of n_16 rfl ?_
  show Rn _ _ _ _ [some (vR 10), some (vI r)] [] _ _
  refine r_ldR_n (m := 0) F_16_0 rfl ?_
  refine r_ldI_n (m := 1) F_16_1 rfl ?_
  refine r_virt2 (A := [vI r]) (r := []) (n := 1) F_16_2 o_16 il_3_32 rfl rfl rfl rfl ty_10 vy_9 (lay_le n_9 rfl) ?_
  refine Cl_of n_9 rfl ?_
  show Rn _ _ _ _ [some (vR 10), some (vI r)] [] _ _
  refine r_ldI_n (m := 1) F_9_0 rfl ?_
  refine r_ifF (t := 17) F_9_1 rfl l1 (Int.not_lt.mpr h0) ?_
  refine r_ldI_n (m := 1) F_9_4 rfl ?_
  refine r_ldR_n (m := 0) F_9_5 rfl ?_
  refine r_getR (J := 0) F_9_6 o_9 fl_3_19 ty_10 (by decide) rfl (kd2 kd_10_0 (by decide)) (kd9 kd_10_0 (by decide)) rf_10_0 ?_
  refine r_alen F_9_9 ty_11 (by decide) ln_11 ?_
  refine r_icmpF (t := 17) F_9_10 rfl l1 (by decide) (Int.not_le.mpr h6) ?_
  refine r_iconst F_9_13 ?_
  refine r_goto (t := 18) F_9_14 rfl ?_
  refine r_zreturn F_9_18 rt_9 (Or.inr rfl) ?_
  show Rn _ _ _ _ _ [vI 1] _ _
  refine r_ifF (t := 17) F_16_5 rfl (by decide) (by show ¬ ((1 : Int) = 0); decide) ?_
  refine r_ldR_n (m := 0) F_16_8 rfl ?_
  refine r_getR (J := 0) F_16_9 o_16 fl_3_19 ty_10 (by decide) rfl (kd2 kd_10_0 (by decide)) (kd9 kd_10_0 (by decide)) rf_10_0 ?_
  refine r_ldI_n (m := 1) F_16_12 rfl ?_
  refine r_iald (e := (s 11 r)) F_16_13 ty_11 h0 (lt_ln ln_11 h6) rfl ?_
  refine r_goto (t := 18) F_16_14 rfl ?_
  refine r_ireturn F_16_18 rt_16 ?_
  show Rn _ _ _ _ _ [vI (s 11 r)] _ _
  refine r_iconst F_15_5 ?_
  refine r_icmpF (t := 13) F_15_6 rfl l2 (by decide) hz ?_
  refine r_iconst F_15_9 ?_
  refine r_goto (t := 14) F_15_10 rfl ?_
  refine r_zreturn F_15_14 rt_15 (Or.inr rfl) ?_
  show Rn _ _ _ _ _ [vI 1] _ _
  refine r_ifF (t := 31) F_17_5 rfl (by decide) (by show ¬ ((1 : Int) = 0); decide) ?_
  refine r_ldI_n (m := 2) F_17_8 rfl ?_
  refine r_ifF (t := 31) F_17_9 rfl l3 (Int.not_lt.mpr j0) ?_
  refine r_ldI_n (m := 3) F_17_12 rfl ?_
  refine r_ifF (t := 31) F_17_13 rfl (by decide) (by show ¬ ((1 : Int) < 0); decide) ?_
  refine r_ldI_n (m := 2) F_17_16 rfl ?_
  refine r_ldR_n (m := 0) F_17_17 rfl ?_
  refine r_ldI_n (m := 1) F_17_18 rfl ?_
  refine r_virt2 (A := [vI r]) (r := [vI j]) (n := 1) F_17_19 o_17 il_3_28 rfl rfl rfl rfl ty_10 vy_16 (lay_le n_16 rfl) ?_
  refine Cl_of n_16 rfl ?_
  show Rn _ _ _ _ [some (vR 10), some (vI r)] [] _ _
  refine r_ldR_n (m := 0) F_16_0 rfl ?_
  refine r_ldI_n (m := 1) F_16_1 rfl ?_
  refine r_virt2 (A := [vI r]) (r := []) (n := 1) F_16_2 o_16 il_3_32 rfl rfl rfl rfl ty_10 vy_9 (lay_le n_9 rfl) ?_
  refine Cl_of n_9 rfl ?_
  show Rn _ _ _ _ [some (vR 10), some (vI r)] [] _ _
  refine r_ldI_n (m := 1) F_9_0 rfl ?_
  refine r_ifF (t := 17) F_9_1 rfl l1 (Int.not_lt.mpr h0) ?_
  refine r_ldI_n (m := 1) F_9_4 rfl ?_
  refine r_ldR_n (m := 0) F_9_5 rfl ?_
  refine r_getR (J := 0) F_9_6 o_9 fl_3_19 ty_10 (by decide) rfl (kd2 kd_10_0 (by decide)) (kd9 kd_10_0 (by decide)) rf_10_0 ?_
  refine r_alen F_9_9 ty_11 (by decide) ln_11 ?_
  refine r_icmpF (t := 17) F_9_10 rfl l1 (by decide) (Int.not_le.mpr h6) ?_
  refine r_iconst F_9_13 ?_
  refine r_goto (t := 18) F_9_14 rfl ?_
  refine r_zreturn F_9_18 rt_9 (Or.inr rfl) ?_
  show Rn _ _ _ _ _ [vI 1] _ _
  refine r_ifF (t := 17) F_16_5 rfl (by decide) (by show ¬ ((1 : Int) = 0); decide) ?_
  refine r_ldR_n (m := 0) F_16_8 rfl ?_
  refine r_getR (J := 0) F_16_9 o_16 fl_3_19 ty_10 (by decide) rfl (kd2 kd_10_0 (by decide)) (kd9 kd_10_0 (by decide)) rf_10_0 ?_
  refine r_ldI_n (m := 1) F_16_12 rfl ?_
  refine r_iald (e := (s 11 r)) F_16_13 ty_11 h0 (lt_ln ln_11 h6) rfl ?_
  refine r_goto (t := 18) F_16_14 rfl ?_
  refine r_ireturn F_16_18 rt_16 ?_
  show Rn _ _ _ _ _ [vI (s 11 r), vI j] _ _
  refine r_ldI_n (m := 3) F_17_22 rfl ?_
  refine r_isub F_17_23 rfl ?_
  refine r_icmpF (t := 31) F_17_24 rfl l3 l4 (Int.not_lt.mpr j1) ?_
  refine r_iconst F_17_27 ?_
  refine r_goto (t := 32) F_17_28 rfl ?_
  refine r_zreturn F_17_32 rt_17 (Or.inr rfl) ?_
  show Rn _ _ _ _ _ [vI 1] _ _
  refine r_ifF (t := 21) F_18_7 rfl (by decide) (by show ¬ ((1 : Int) = 0); decide) ?_
  refine r_ldR_n (m := 0) F_18_10 rfl ?_
  refine r_getR (J := 1) F_18_11 o_18 fl_3_25 ty_10 (by decide) rfl (kd2 kd_10_1 (by decide)) (kd9 kd_10_1 (by decide)) rf_10_1 ?_
  refine r_ldI_n (m := 1) F_18_14 rfl ?_
  refine r_aald F_18_15 ty_12 (by decide) h0 (lt_ln ln_12 h6) (rw_12 ⟨h0, h6⟩).2.2 ?_
  refine r_ldI_n (m := 2) F_18_16 rfl ?_
  refine r_iald (e := (s (13 + r) j)) F_18_17 (rw_12 ⟨h0, h6⟩).1 j0 (lt_ln (rw_12 ⟨h0, h6⟩).2.1 l5) rfl ?_
  refine r_goto (t := 22) F_18_18 rfl ?_
  refine r_ireturn F_18_22 rt_18 ?_
  exact l6
theorem t_set10 {X : m_X} {d : Nat} {s : m_St} {P : Option Value → m_St → Prop} {r j v : Int} (h0 : 0 ≤ r) (h6 : r < 4) (hz : ¬ (s 11 r) = (-1)) (j0 : 0 ≤ j) (j1 : j ≤ ((s 11 r) - 1))
    (l1 : inR r)
    (l2 : inR (s 11 r))
    (l3 : inR j)
    (l4 : inR ((s 11 r) - 1))
    (l5 : j < 60)
    (l6 : P none (m_upd s (13 + r) j v))
    : Cl X (d + 4) 19 [vR 10, vI r, vI j, vI v] s P := by
  refine Cl_of n_19 rfl ?_
  show Rn _ _ _ _ [some (vR 10), some (vI r), some (vI j), some (vI v)] [] _ _
  refine r_ldR_n (m := 0) F_19_0 rfl ?_
  refine r_ldI_n (m := 1) F_19_1 rfl ?_
  refine r_ldI_n (m := 2) F_19_2 rfl ?_
  refine r_iconst F_19_3 ?_
  refine r_virt2 (A := [vI r, vI j, vI 1]) (r := []) (n := 3) F_19_4 o_19 il_3_39 rfl rfl rfl rfl ty_10 vy_17 (lay_le n_17 rfl) ?_
  refine Cl_of n_17 rfl ?_
  show Rn _ _ _ _ [some (vR 10), some (vI r), some (vI j), some (vI 1)] [] _ _
  refine r_ldR_n (m := 0) F_17_0 rfl ?_
  refine r_ldI_n (m := 1) F_17_1 rfl ?_
  refine r_virt2 (A := [vI r]) (r := []) (n := 1) F_17_2 o_17 il_3_36 rfl rfl rfl rfl ty_10 vy_15 (lay_le n_15 rfl) ?_
  refine Cl_of n_15 rfl ?_
  show Rn _ _ _ _ [some (vR 10), some (vI r)] [] _ _
  refine r_ldR_n (m := 0) F_15_0 rfl ?_
  refine r_ldI_n (m := 1) F_15_1 rfl ?_
  refine r_virt2 (A := [vI r]) (r := []) (n := 1) F_15_2 o_15 il_3_28 rfl rfl rfl rfl ty_10 vy_16 (lay_le n_16 rfl) ?_
  refine Cl_of n_16 rfl ?_
  show Rn _ _ _ _ [some (vR 10), some (vI r)] [] _ _
  refine r_ldR_n (m := 0) F_16_0 rfl ?_
  refine r_ldI_n (m := 1) F_16_1 rfl ?_
  refine r_virt2 (A := [vI r]) (r := []) (n := 1) F_16_2 o_16 il_3_32 rfl rfl rfl rfl ty_10 vy_9 (lay_le n_9 rfl) ?_
  refine Cl_of n_9 rfl ?_
  show Rn _ _ _ _ [some (vR 10), some (vI r)] [] _ _
  refine r_ldI_n (m := 1) F_9_0 rfl ?_
  refine r_ifF (t := 17) F_9_1 rfl l1 (Int.not_lt.mpr h0) ?_
  refine r_ldI_n (m := 1) F_9_4 rfl ?_
  refine r_ldR_n (m := 0) F_9_5 rfl ?_
  refine r_getR (J := 0) F_9_6 o_9 fl_3_19 ty_10 (by decide) rfl (kd2 kd_10_0 (by decide)) (kd9 kd_10_0 (by decide)) rf_10_0 ?_
  refine r_alen F_9_9 ty_11 (by decide) ln_11 ?_
  refine r_icmpF (t := 17) F_9_10 rfl l1 (by decide) (Int.not_le.mpr h6) ?_
  refine r_iconst F_9_13 ?_
  refine r_goto (t := 18) F_9_14 rfl ?_
  refine r_zreturn F_9_18 rt_9 (Or.inr rfl) ?_
  show Rn _ _ _ _ _ [vI 1] _ _
  refine r_ifF (t := 17) F_16_5 rfl (by decide) (by show ¬ ((1 : Int) = 0); decide) ?_
  refine r_ldR_n (m := 0) F_16_8 rfl ?_
  refine r_getR (J := 0) F_16_9 o_16 fl_3_19 ty_10 (by decide) rfl (kd2 kd_10_0 (by decide)) (kd9 kd_10_0 (by decide)) rf_10_0 ?_
  refine r_ldI_n (m := 1) F_16_12 rfl ?_
  refine r_iald (e := (s 11 r)) F_16_13 ty_11 h0 (lt_ln ln_11 h6) rfl ?_
  refine r_goto (t := 18) F_16_14 rfl ?_
  refine r_ireturn F_16_18 rt_16 ?_
  show Rn _ _ _ _ _ [vI (s 11 r)] _ _
  refine r_iconst F_15_5 ?_
  refine r_icmpF (t := 13) F_15_6 rfl l2 (by decide) hz ?_
  refine r_iconst F_15_9 ?_
  refine r_goto (t := 14) F_15_10 rfl ?_
  refine r_zreturn F_15_14 rt_15 (Or.inr rfl) ?_
  show Rn _ _ _ _ _ [vI 1] _ _
  refine r_ifF (t := 31) F_17_5 rfl (by decide) (by show ¬ ((1 : Int) = 0); decide) ?_
  refine r_ldI_n (m := 2) F_17_8 rfl ?_
  refine r_ifF (t := 31) F_17_9 rfl l3 (Int.not_lt.mpr j0) ?_
  refine r_ldI_n (m := 3) F_17_12 rfl ?_
  refine r_ifF (t := 31) F_17_13 rfl (by decide) (by show ¬ ((1 : Int) < 0); decide) ?_
  refine r_ldI_n (m := 2) F_17_16 rfl ?_
  refine r_ldR_n (m := 0) F_17_17 rfl ?_
  refine r_ldI_n (m := 1) F_17_18 rfl ?_
  refine r_virt2 (A := [vI r]) (r := [vI j]) (n := 1) F_17_19 o_17 il_3_28 rfl rfl rfl rfl ty_10 vy_16 (lay_le n_16 rfl) ?_
  refine Cl_of n_16 rfl ?_
  show Rn _ _ _ _ [some (vR 10), some (vI r)] [] _ _
  refine r_ldR_n (m := 0) F_16_0 rfl ?_
  refine r_ldI_n (m := 1) F_16_1 rfl ?_
  refine r_virt2 (A := [vI r]) (r := []) (n := 1) F_16_2 o_16 il_3_32 rfl rfl rfl rfl ty_10 vy_9 (lay_le n_9 rfl) ?_
  refine Cl_of n_9 rfl ?_
  show Rn _ _ _ _ [some (vR 10), some (vI r)] [] _ _
  refine r_ldI_n (m := 1) F_9_0 rfl ?_
  refine r_ifF (t := 17) F_9_1 rfl l1 (Int.not_lt.mpr h0) ?_
  refine r_ldI_n (m := 1) F_9_4 rfl ?_
  refine r_ldR_n (m := 0) F_9_5 rfl ?_
  refine r_getR (J := 0) F_9_6 o_9 fl_3_19 ty_10 (by decide) rfl (kd2 kd_10_0 (by decide)) (kd9 kd_10_0 (by decide)) rf_10_0 ?_
  refine r_alen F_9_9 ty_11 (by decide) ln_11 ?_
  refine r_icmpF (t := 17) F_9_10 rfl l1 (by decide) (Int.not_le.mpr h6) ?_
  refine r_iconst F_9_13 ?_
  refine r_goto (t := 18) F_9_14 rfl ?_
  refine r_zreturn F_9_18 rt_9 (Or.inr rfl) ?_
  show Rn _ _ _ _ _ [vI 1] _ _
  refine r_ifF (t := 17) F_16_5 rfl (by decide) (by show ¬ ((1 : Int) = 0); decide) ?_
  refine r_ldR_n (m := 0) F_16_8 rfl ?_
  refine r_getR (J := 0) F_16_9 o_16 fl_3_19 ty_10 (by decide) rfl (kd2 kd_10_0 (by decide)) (kd9 kd_10_0 (by decide)) rf_10_0 ?_
  refine r_ldI_n (m := 1) F_16_12 rfl ?_
  refine r_iald (e := (s 11 r)) F_16_13 ty_11 h0 (lt_ln ln_11 h6) rfl ?_
  refine r_goto (t := 18) F_16_14 rfl ?_
  refine r_ireturn F_16_18 rt_16 ?_
  show Rn _ _ _ _ _ [vI (s 11 r), vI j] _ _
  refine r_ldI_n (m := 3) F_17_22 rfl ?_
  refine r_isub F_17_23 rfl ?_
  refine r_icmpF (t := 31) F_17_24 rfl l3 l4 (Int.not_lt.mpr j1) ?_
  refine r_iconst F_17_27 ?_
  refine r_goto (t := 32) F_17_28 rfl ?_
  refine r_zreturn F_17_32 rt_17 (Or.inr rfl) ?_
  show Rn _ _ _ _ _ [vI 1] _ _
  refine r_ifF (t := 19) F_19_7 rfl (by decide) (by show ¬ ((1 : Int) = 0); decide) ?_
  refine r_ldR_n (m := 0) F_19_10 rfl ?_
  refine r_getR (J := 1) F_19_11 o_19 fl_3_25 ty_10 (by decide) rfl (kd2 kd_10_1 (by decide)) (kd9 kd_10_1 (by decide)) rf_10_1 ?_
  refine r_ldI_n (m := 1) F_19_14 rfl ?_
  refine r_aald F_19_15 ty_12 (by decide) h0 (lt_ln ln_12 h6) (rw_12 ⟨h0, h6⟩).2.2 ?_
  refine r_ldI_n (m := 2) F_19_16 rfl ?_
  refine r_ldI_n (m := 3) F_19_17 rfl ?_
  refine r_iast F_19_18 (rw_12 ⟨h0, h6⟩).1 j0 (lt_ln (rw_12 ⟨h0, h6⟩).2.1 l5) ?_
  refine r_return F_19_19 rt_19 ?_
  exact l6
theorem t_get17 {X : m_X} {d : Nat} {s : m_St} {P : Option Value → m_St → Prop} {r j : Int} (h0 : 0 ≤ r) (h6 : r < 3) (hz : ¬ (s 18 r) = (-1)) (j0 : 0 ≤ j) (j1 : j ≤ ((s 18 r) - 1))
    (l1 : inR r)
    (l2 : inR (s 18 r))
    (l3 : inR j)
    (l4 : inR ((s 18 r) - 1))
    (l5 : j < 40)
    (l6 : P (some (vI (s (20 + r) j))) s)
    : Cl X (d + 4) 18 [vR 17, vI r, vI j] s P := by
  refine Cl_of n_18 rfl ?_
  show Rn _ _ _ _ [some (vR 17), some (vI r), some (vI j)] [] _ _
  refine r_ldR_n (m := 0) F_18_0 rfl ?_
  refine r_ldI_n (m := 1) F_18_1 rfl ?_
  refine r_ldI_n (m := 2) F_18_2 rfl ?_
  refine r_iconst F_18_3 ?_
  refine r_virt2 (A := [vI r, vI j, vI 1]) (r := []) (n := 3) F_18_4 o_18 il_3_39 rfl rfl rfl rfl ty_17 vy_17 (lay_le n_17 rfl) ?_
  refine Cl_of n_17 rfl ?_
  show Rn _ _ _ _ [some (vR 17), some (vI r), some (vI j), some (vI 1)] [] _ _
  refine r_ldR_n (m := 0) F_17_0 rfl ?_
  refine r_ldI_n (m := 1) F_17_1 rfl ?_
  refine r_virt2 (A := [vI r]) (r := []) (n := 1) F_17_2 o_17 il_3_36 rfl rfl rfl rfl ty_17 vy_15 (lay_le n_15 rfl) ?_
  refine Cl_of n_15 rfl ?_
  show Rn _ _ _ _ [some (vR 17), some (vI r)] [] _ _
  refine r_ldR_n (m := 0) F_15_0 rfl ?_
  refine r_ldI_n (m := 1) F_15_1 rfl ?_
  refine r_virt2 (A := [vI r]) (r := []) (n := 1) F_15_2 o_15 il_3_28 rfl rfl rfl rfl ty_17 vy_16 (lay_le n_16 rfl) ?_
  refine Cl_of n_16 rfl ?_
  show Rn _ _ _ _ [some (vR 17), some (vI r)] [] _ _
  refine r_ldR_n (m := 0) F_16_0 rfl ?_
  refine r_ldI_n (m := 1) F_16_1 rfl ?_
  refine r_virt2 (A := [vI r]) (r := []) (n := 1) F_16_2 o_16 il_3_32 rfl rfl rfl rfl ty_17 vy_9 (lay_le n_9 rfl) ?_
  refine Cl_of n_9 rfl ?_
  show Rn _ _ _ _ [some (vR 17), some (vI r)] [] _ _
  refine r_ldI_n (m := 1) F_9_0 rfl ?_
  refine r_ifF (t := 17) F_9_1 rfl l1 (Int.not_lt.mpr h0) ?_
  refine r_ldI_n (m := 1) F_9_4 rfl ?_
  refine r_ldR_n (m := 0) F_9_5 rfl ?_
  refine r_getR (J := 0) F_9_6 o_9 fl_3_19 ty_17 (by decide) rfl (kd2 kd_17_0 (by decide)) (kd9 kd_17_0 (by decide)) rf_17_0 ?_
  refine r_alen F_9_9 ty_18 (by decide) ln_18 ?_
  refine r_icmpF (t := 17) F_9_10 rfl l1 (by decide) (Int.not_le.mpr h6) ?_
  refine r_iconst F_9_13 ?_
  refine r_goto (t := 18) F_9_14 rfl ?_
  refine r_zreturn F_9_18 rt_9 (Or.inr rfl) ?_
  show Rn _ _ _ _ _ [vI 1] _ _
  refine r_ifF (t := 17) F_16_5 rfl (by decide) (by show ¬ ((1 : Int) = 0); decide) ?_
  refine r_ldR_n (m := 0) F_16_8 rfl ?_
  refine r_getR (J := 0) F_16_9 o_16 fl_3_19 ty_17 (by decide) rfl (kd2 kd_17_0 (by decide)) (kd9 kd_17_0 (by decide)) rf_17_0 ?_
  refine r_ldI_n (m := 1) F_16_12 rfl ?_
  refine r_iald (e := (s 18 r)) F_16_13 ty_18 h0 (lt_ln ln_18 h6) rfl ?_
  refine r_goto (t := 18) F_16_14 rfl ?_
  refine r_ireturn F_16_18 rt_16 ?_
  show Rn _ _ _ _ _ [vI (s 18 r)] _ _
  refine r_iconst F_15_5 ?_
  refine r_icmpF (t := 13) F_15_6 rfl l2 (by decide) hz ?_
  refine r_iconst F_15_9 ?_
  refine r_goto (t := 14) F_15_10 rfl ?_
  refine r_zreturn F_15_14 rt_15 (Or.inr rfl) ?_
  show Rn _ _ _ _ _ [vI 1] _ _
  refine r_ifF (t := 31) F_17_5 rfl (by decide) (by show ¬ ((1 : Int) = 0); decide) ?_
  refine r_ldI_n (m := 2) F_17_8 rfl ?_
  refine r_ifF (t := 31) F_17_9 rfl l3 (Int.not_lt.mpr j0) ?_
  refine r_ldI_n (m := 3) F_17_12 rfl ?_
  refine r_ifF (t := 31) F_17_13 rfl (by decide) (by show ¬ ((1 : Int) < 0); decide) ?_
  refine r_ldI_n (m := 2) F_17_16 rfl ?_
  refine r_ldR_n (m := 0) F_17_17 rfl ?_
  refine r_ldI_n (m := 1) F_17_18 rfl ?_
  refine r_virt2 (A := [vI r]) (r := [vI j]) (n := 1) F_17_19 o_17 il_3_28 rfl rfl rfl rfl ty_17 vy_16 (lay_le n_16 rfl) ?_
  refine Cl_of n_16 rfl ?_
  show Rn _ _ _ _ [some (vR 17), some (vI r)] [] _ _
  refine r_ldR_n (m := 0) F_16_0 rfl ?_
  refine r_ldI_n (m := 1) F_16_1 rfl ?_
  refine r_virt2 (A := [vI r]) (r := []) (n := 1) F_16_2 o_16 il_3_32 rfl rfl rfl rfl ty_17 vy_9 (lay_le n_9 rfl) ?_
  refine Cl_of n_9 rfl ?_
  show Rn _ _ _ _ [some (vR 17), some (vI r)] [] _ _
  refine r_ldI_n (m := 1) F_9_0 rfl ?_
  refine r_ifF (t := 17) F_9_1 rfl l1 (Int.not_lt.mpr h0) ?_
  refine r_ldI_n (m := 1) F_9_4 rfl ?_
  refine r_ldR_n (m := 0) F_9_5 rfl ?_
  refine r_getR (J := 0) F_9_6 o_9 fl_3_19 ty_17 (by decide) rfl (kd2 kd_17_0 (by decide)) (kd9 kd_17_0 (by decide)) rf_17_0 ?_
  refine r_alen F_9_9 ty_18 (by decide) ln_18 ?_
  refine r_icmpF (t := 17) F_9_10 rfl l1 (by decide) (Int.not_le.mpr h6) ?_
  refine r_iconst F_9_13 ?_
  refine r_goto (t := 18) F_9_14 rfl ?_
  refine r_zreturn F_9_18 rt_9 (Or.inr rfl) ?_
  show Rn _ _ _ _ _ [vI 1] _ _
  refine r_ifF (t := 17) F_16_5 rfl (by decide) (by show ¬ ((1 : Int) = 0); decide) ?_
  refine r_ldR_n (m := 0) F_16_8 rfl ?_
  refine r_getR (J := 0) F_16_9 o_16 fl_3_19 ty_17 (by decide) rfl (kd2 kd_17_0 (by decide)) (kd9 kd_17_0 (by decide)) rf_17_0 ?_
  refine r_ldI_n (m := 1) F_16_12 rfl ?_
  refine r_iald (e := (s 18 r)) F_16_13 ty_18 h0 (lt_ln ln_18 h6) rfl ?_
  refine r_goto (t := 18) F_16_14 rfl ?_
  refine r_ireturn F_16_18 rt_16 ?_
  show Rn _ _ _ _ _ [vI (s 18 r), vI j] _ _
  refine r_ldI_n (m := 3) F_17_22 rfl ?_
  refine r_isub F_17_23 rfl ?_
  refine r_icmpF (t := 31) F_17_24 rfl l3 l4 (Int.not_lt.mpr j1) ?_
  refine r_iconst F_17_27 ?_
  refine r_goto (t := 32) F_17_28 rfl ?_
  refine r_zreturn F_17_32 rt_17 (Or.inr rfl) ?_
  show Rn _ _ _ _ _ [vI 1] _ _
  refine r_ifF (t := 21) F_18_7 rfl (by decide) (by show ¬ ((1 : Int) = 0); decide) ?_
  refine r_ldR_n (m := 0) F_18_10 rfl ?_
  refine r_getR (J := 1) F_18_11 o_18 fl_3_25 ty_17 (by decide) rfl (kd2 kd_17_1 (by decide)) (kd9 kd_17_1 (by decide)) rf_17_1 ?_
  refine r_ldI_n (m := 1) F_18_14 rfl ?_
  refine r_aald F_18_15 ty_19 (by decide) h0 (lt_ln ln_19 h6) (rw_19 ⟨h0, h6⟩).2.2 ?_
  refine r_ldI_n (m := 2) F_18_16 rfl ?_
  refine r_iald (e := (s (20 + r) j)) F_18_17 (rw_19 ⟨h0, h6⟩).1 j0 (lt_ln (rw_19 ⟨h0, h6⟩).2.1 l5) rfl ?_
  refine r_goto (t := 22) F_18_18 rfl ?_
  refine r_ireturn F_18_22 rt_18 ?_
  exact l6
theorem t_set17 {X : m_X} {d : Nat} {s : m_St} {P : Option Value → m_St → Prop} {r j v : Int} (h0 : 0 ≤ r) (h6 : r < 3) (hz : ¬ (s 18 r) = (-1)) (j0 : 0 ≤ j) (j1 : j ≤ ((s 18 r) - 1))
    (l1 : inR r)
    (l2 : inR (s 18 r))
    (l3 : inR j)
    (l4 : inR ((s 18 r) - 1))
    (l5 : j < 40)
    (l6 : P none (m_upd s (20 + r) j v))
    : Cl X (d + 4) 19 [vR 17, vI r, vI j, vI v] s P := by
  refine Cl_of n_19 rfl ?_
  show Rn _ _ _ _ [some (vR 17), some (vI r), some (vI j), some (vI v)] [] _ _
  refine r_ldR_n (m := 0) F_19_0 rfl ?_
  refine r_ldI_n (m := 1) F_19_1 rfl ?_
  refine r_ldI_n (m := 2) F_19_2 rfl ?_
  refine r_iconst F_19_3 ?_
  refine r_virt2 (A := [vI r, vI j, vI 1]) (r := []) (n := 3) F_19_4 o_19 il_3_39 rfl rfl rfl rfl ty_17 vy_17 (lay_le n_17 rfl) ?_
  refine Cl_of n_17 rfl ?_
  show Rn _ _ _ _ [some (vR 17), some (vI r), some (vI j), some (vI 1)] [] _ _
  refine r_ldR_n (m := 0) F_17_0 rfl ?_
  refine r_ldI_n (m := 1) F_17_1 rfl ?_
  refine r_virt2 (A := [vI r]) (r := []) (n := 1) F_17_2 o_17 il_3_36 rfl rfl rfl rfl ty_17 vy_15 (lay_le n_15 rfl) ?_
  refine Cl_of n_15 rfl ?_
  show Rn _ _ _ _ [some (vR 17), some (vI r)] [] _ _
  refine r_ldR_n (m := 0) F_15_0 rfl ?_
  refine r_ldI_n (m := 1) F_15_1 rfl ?_
  refine r_virt2 (A := [vI r]) (r := []) (n := 1) F_15_2 o_15 il_3_28 rfl rfl rfl rfl ty_17 vy_16 (lay_le n_16 rfl) ?_
  refine Cl_of n_16 rfl ?_
  show Rn _ _ _ _ [some (vR 17), some (vI r)] [] _ _
  refine r_ldR_n (m := 0) F_16_0 rfl ?_
  refine r_ldI_n (m := 1) F_16_1 rfl ?_
  refine r_virt2 (A := [vI r]) (r := []) (n := 1) F_16_2 o_16 il_3_32 rfl rfl rfl rfl ty_17 vy_9 (lay_le n_9 rfl) ?_
  refine Cl_of n_9 rfl ?_
  show Rn _ _ _ _ [some (vR 17), some (vI r)] [] _ _
  refine r_ldI_n (m := 1) F_9_0 rfl ?_
  refine r_ifF (t := 17) F_9_1 rfl l1 (Int.not_lt.mpr h0) ?_
  refine r_ldI_n (m := 1) F_9_4 rfl ?_
  refine r_ldR_n (m := 0) F_9_5 rfl ?_
  refine r_getR (J := 0) F_9_6 o_9 fl_3_19 ty_17 (by decide) rfl (kd2 kd_17_0 (by decide)) (kd9 kd_17_0 (by decide)) rf_17_0 ?_
  refine r_alen F_9_9 ty_18 (by decide) ln_18 ?_
  refine r_icmpF (t := 17) F_9_10 rfl l1 (by decide) (Int.not_le.mpr h6) ?_
  refine r_iconst F_9_13 ?_
  refine r_goto (t := 18) F_9_14 rfl ?_
  refine r_zreturn F_9_18 rt_9 (Or.inr rfl) ?_
  show Rn _ _ _ _ _ [vI 1] _ _
  refine r_ifF (t := 17) F_16_5 rfl (by decide) (by show ¬ ((1 : Int) = 0); decide) ?_
  refine r_ldR_n (m := 0) F_16_8 rfl ?_
  refine r_getR (J := 0) F_16_9 o_16 fl_3_19 ty_17 (by decide) rfl (kd2 kd_17_0 (by decide)) (kd9 kd_17_0 (by decide)) rf_17_0 ?_
  refine r_ldI_n (m := 1) F_16_12 rfl ?_
  refine r_iald (e := (s 18 r)) F_16_13 ty_18 h0 (lt_ln ln_18 h6) rfl ?_
  refine r_goto (t := 18) F_16_14 rfl ?_
  refine r_ireturn F_16_18 rt_16 ?_
  show Rn _ _ _ _ _ [vI (s 18 r)] _ _
  refine r_iconst F_15_5 ?_
  refine r_icmpF (t := 13) F_15_6 rfl l2 (by decide) hz ?_
  refine r_iconst F_15_9 ?_
  refine r_goto (t := 14) F_15_10 rfl ?_
  refine r_zreturn F_15_14 rt_15 (Or.inr rfl) ?_
  show Rn _ _ _ _ _ [vI 1] _ _
  refine r_ifF (t := 31) F_17_5 rfl (by decide) (by show ¬ ((1 : Int) = 0); decide) ?_
  refine r_ldI_n (m := 2) F_17_8 rfl ?_
  refine r_ifF (t := 31) F_17_9 rfl l3 (Int.not_lt.mpr j0) ?_
  refine r_ldI_n (m := 3) F_17_12 rfl ?_
  refine r_ifF (t := 31) F_17_13 rfl (by decide) (by show ¬ ((1 : Int) < 0); decide) ?_
  refine r_ldI_n (m := 2) F_17_16 rfl ?_
  refine r_ldR_n (m := 0) F_17_17 rfl ?_
  refine r_ldI_n (m := 1) F_17_18 rfl ?_
  refine r_virt2 (A := [vI r]) (r := [vI j]) (n := 1) F_17_19 o_17 il_3_28 rfl rfl rfl rfl ty_17 vy_16 (lay_le n_16 rfl) ?_
  refine Cl_of n_16 rfl ?_
  show Rn _ _ _ _ [some (vR 17), some (vI r)] [] _ _
  refine r_ldR_n (m := 0) F_16_0 rfl ?_
  refine r_ldI_n (m := 1) F_16_1 rfl ?_
  refine r_virt2 (A := [vI r]) (r := []) (n := 1) F_16_2 o_16 il_3_32 rfl rfl rfl rfl ty_17 vy_9 (lay_le n_9 rfl) ?_
  refine Cl_of n_9 rfl ?_
  show Rn _ _ _ _ [some (vR 17), some (vI r)] [] _ _
  refine r_ldI_n (m := 1) F_9_0 rfl ?_
  refine r_ifF (t := 17) F_9_1 rfl l1 (Int.not_lt.mpr h0) ?_
  refine r_ldI_n (m := 1) F_9_4 rfl ?_
  refine r_ldR_n (m := 0) F_9_5 rfl ?_
  refine r_getR (J := 0) F_9_6 o_9 fl_3_19 ty_17 (by decide) rfl (kd2 kd_17_0 (by decide)) (kd9 kd_17_0 (by decide)) rf_17_0 ?_
  refine r_alen F_9_9 ty_18 (by decide) ln_18 ?_
  refine r_icmpF (t := 17) F_9_10 rfl l1 (by decide) (Int.not_le.mpr h6) ?_
  refine r_iconst F_9_13 ?_
  refine r_goto (t := 18) F_9_14 rfl ?_
  refine r_zreturn F_9_18 rt_9 (Or.inr rfl) ?_
  show Rn _ _ _ _ _ [vI 1] _ _
  refine r_ifF (t := 17) F_16_5 rfl (by decide) (by show ¬ ((1 : Int) = 0); decide) ?_
  refine r_ldR_n (m := 0) F_16_8 rfl ?_
  refine r_getR (J := 0) F_16_9 o_16 fl_3_19 ty_17 (by decide) rfl (kd2 kd_17_0 (by decide)) (kd9 kd_17_0 (by decide)) rf_17_0 ?_
  refine r_ldI_n (m := 1) F_16_12 rfl ?_
  refine r_iald (e := (s 18 r)) F_16_13 ty_18 h0 (lt_ln ln_18 h6) rfl ?_
  refine r_goto (t := 18) F_16_14 rfl ?_
  refine r_ireturn F_16_18 rt_16 ?_
  show Rn _ _ _ _ _ [vI (s 18 r), vI j] _ _
  refine r_ldI_n (m := 3) F_17_22 rfl ?_
  refine r_isub F_17_23 rfl ?_
  refine r_icmpF (t := 31) F_17_24 rfl l3 l4 (Int.not_lt.mpr j1) ?_
  refine r_iconst F_17_27 ?_
  refine r_goto (t := 32) F_17_28 rfl ?_
  refine r_zreturn F_17_32 rt_17 (Or.inr rfl) ?_
  show Rn _ _ _ _ _ [vI 1] _ _
  refine r_ifF (t := 19) F_19_7 rfl (by decide) (by show ¬ ((1 : Int) = 0); decide) ?_
  refine r_ldR_n (m := 0) F_19_10 rfl ?_
  refine r_getR (J := 1) F_19_11 o_19 fl_3_25 ty_17 (by decide) rfl (kd2 kd_17_1 (by decide)) (kd9 kd_17_1 (by decide)) rf_17_1 ?_
  refine r_ldI_n (m := 1) F_19_14 rfl ?_
  refine r_aald F_19_15 ty_19 (by decide) h0 (lt_ln ln_19 h6) (rw_19 ⟨h0, h6⟩).2.2 ?_
  refine r_ldI_n (m := 2) F_19_16 rfl ?_
  refine r_ldI_n (m := 3) F_19_17 rfl ?_
  refine r_iast F_19_18 (rw_19 ⟨h0, h6⟩).1 j0 (lt_ln (rw_19 ⟨h0, h6⟩).2.1 l5) ?_
  refine r_return F_19_19 rt_19 ?_
  exact l6
theorem t_X4_between {X : m_X} {d : Nat} {s : m_St} {P : Option Value → m_St → Prop} {g o a : Int} (hg : ty g = 0) (ho : ty o = 0)
    (l1 : 0 ≤ (s g 1))
    (l2 : (s g 1) < 6)
    (l3 : wr (s (g + 1)))
    (l4 : 0 ≤ ((lk s 67 g (s g 1)) o 1))
    (l5 : ((lk s 67 g (s g 1)) o 1) < 6)
    (l6 : wr ((lk s 67 g (s g 1)) (o + 1)))
    (l7 : P none (m_upd (lk (lk s 67 g (s g 1)) 69 o ((lk s 67 g (s g 1)) o 1)) 66 2 a))
    : Cl X (d + 4) 101 [vR 66, vR g, vR o, vI a] s P := by
  refine Cl_of n_101 rfl ?_
  show Rn _ _ _ _ [some (vR 66), some (vR g), some (vR o), some (vI a)] [] _ _
  refine r_ldR_n (m := 0) F_101_0 rfl ?_
  refine r_getR (J := 0) F_101_1 o_101 fl_4_12 ty_66 (by decide) rfl (kd2 kd_66_0 (by decide)) (kd9 kd_66_0 (by decide)) rf_66_0 ?_
  refine r_ldR_n (m := 1) F_101_4 rfl ?_
  refine r_ldR_n (m := 1) F_101_5 rfl ?_
  refine r_virt2 (A := []) (r := [vR g, vR 67]) (n := 0) F_101_6 o_101 il_4_52 rfl rfl rfl rfl hg vy_52 (lay_le n_52 rfl) ?_
  refine Cl_of n_52 rfl ?_
  show Rn _ _ _ _ [some (vR g)] [] _ _
  refine r_ldR_n (m := 0) F_52_0 rfl ?_
  refine r_getI (J := 1) (e := (s g 1)) F_52_1 o_52 fl_0_15 hg (by decide) rfl (gw hg).2.2.1 rfl ?_
  refine r_ireturn F_52_4 rt_52 ?_
  show Rn _ _ _ _ _ [vI (s g 1), vR g, vR 67] _ _
  refine r_virt2 (A := [vR g, vI (s g 1)]) (r := []) (n := 2) F_101_9 o_101 il_4_56 rfl rfl rfl rfl ty_67 vy_53 (lay_le n_53 rfl) ?_
  refine sp_beLike ty_67 hg l1 l2 l3 ?_
  show Rn _ _ _ _ _ [] _ _
  refine r_ldR_n (m := 0) F_101_12 rfl ?_
  refine r_getR (J := 1) F_101_13 o_101 fl_4_18 ty_66 (by decide) rfl (kd2 kd_66_1 (by decide)) (kd9 kd_66_1 (by decide)) rf_66_1 ?_
  refine r_ldR_n (m := 2) F_101_16 rfl ?_
  refine r_ldR_n (m := 2) F_101_17 rfl ?_
  refine r_virt2 (A := []) (r := [vR o, vR 69]) (n := 0) F_101_18 o_101 il_4_52 rfl rfl rfl rfl ho vy_52 (lay_le n_52 rfl) ?_
  refine Cl_of n_52 rfl ?_
  show Rn _ _ _ _ [some (vR o)] [] _ _
  refine r_ldR_n (m := 0) F_52_0 rfl ?_
  refine r_getI (J := 1) (e := ((lk s 67 g (s g 1)) o 1)) F_52_1 o_52 fl_0_15 ho (by decide) rfl (gw ho).2.2.1 rfl ?_
  refine r_ireturn F_52_4 rt_52 ?_
  show Rn _ _ _ _ _ [vI ((lk s 67 g (s g 1)) o 1), vR o, vR 69] _ _
  refine r_virt2 (A := [vR o, vI ((lk s 67 g (s g 1)) o 1)]) (r := []) (n := 2) F_101_21 o_101 il_4_56 rfl rfl rfl rfl ty_69 vy_53 (lay_le n_53 rfl) ?_
  refine sp_beLike ty_69 ho l4 l5 l6 ?_
  show Rn _ _ _ _ _ [] _ _
  refine r_ldR_n (m := 0) F_101_24 rfl ?_
  refine r_ldI_n (m := 3) F_101_25 rfl ?_
  refine r_putI (J := 2) F_101_26 o_101 fl_4_21 ty_66 (by decide) rfl kd_66_2 pf_4_2 ?_
  refine r_return F_101_29 rt_101 ?_
  exact l7
