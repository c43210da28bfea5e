/-! walks: talks, small ones -/
theorem n_109 : m_n 109 = 2 := by decide +kernel
theorem F_109_0 : F 109 0 (.iload_n 1) 1 := ⟨1, by decide +kernel, rfl, rfl⟩
theorem F_109_1 : F 109 1 (.iconst 4) 2 := ⟨1, by decide +kernel, rfl, rfl⟩
theorem F_109_2 : F 109 2 (.if_icmp .ge 10) 5 := ⟨3, by decide +kernel, rfl, rfl⟩
theorem F_109_12 : F 109 12 (.aload_n 0) 13 := ⟨1, by decide +kernel, rfl, rfl⟩
theorem F_109_13 : F 109 13 (.getfield 12) 16 := ⟨3, by decide +kernel, rfl, rfl⟩
theorem ty_66 : ty 66 = 4 := by decide +kernel
theorem fl_4_12 : m_fl.lookup (4, 12) = some (4, 0, 1133) := by decide +kernel
theorem kd_66_0 : kd 66 0 = 69 := by decide +kernel
theorem o_109 : m_o 109 = 4 := by decide +kernel
theorem rf_66_0 : rf 66 0 = 67 := by decide +kernel
theorem F_109_16 : F 109 16 (.iload_n 1) 17 := ⟨1, by decide +kernel, rfl, rfl⟩
theorem F_109_17 : F 109 17 (.iconst 4) 18 := ⟨1, by decide +kernel, rfl, rfl⟩
theorem F_109_18 : F 109 18 (.irem) 19 := ⟨1, by decide +kernel, rfl, rfl⟩
theorem F_109_19 : F 109 19 (.aload_n 0) 20 := ⟨1, by decide +kernel, rfl, rfl⟩
theorem F_109_20 : F 109 20 (.getfield 21) 23 := ⟨3, by decide +kernel, rfl, rfl⟩
theorem fl_4_21 : m_fl.lookup (4, 21) = some (4, 2, 1135) := by decide +kernel
theorem kd_66_2 : kd 66 2 = 0 := by decide +kernel
theorem F_109_23 : F 109 23 (.invokevirtual 79) 26 := ⟨3, by decide +kernel, rfl, rfl⟩
theorem ty_67 : ty 67 = 0 := by decide +kernel
theorem il_4_79 : ilq 4 79 0 59 2 = true := by decide +kernel
theorem F_109_26 : F 109 26 (.ireturn) 27 := ⟨1, by decide +kernel, rfl, rfl⟩
theorem rt_109 : m_r 109 = (some .int) := by decide +kernel
theorem F_109_5 : F 109 5 (.aload_n 0) 6 := ⟨1, by decide +kernel, rfl, rfl⟩
theorem F_109_6 : F 109 6 (.getfield 18) 9 := ⟨3, by decide +kernel, rfl, rfl⟩
theorem fl_4_18 : m_fl.lookup (4, 18) = some (4, 1, 1134) := by decide +kernel
theorem kd_66_1 : kd 66 1 = 71 := by decide +kernel
theorem rf_66_1 : rf 66 1 = 69 := by decide +kernel
theorem F_109_9 : F 109 9 (.goto 7) 12 := ⟨3, by decide +kernel, rfl, rfl⟩
theorem ty_69 : ty 69 = 0 := by decide +kernel
theorem n_114 : m_n 114 = 3 := by decide +kernel
theorem F_114_0 : F 114 0 (.iload_n 1) 1 := ⟨1, by decide +kernel, rfl, rfl⟩
theorem F_114_1 : F 114 1 (.iconst 4) 2 := ⟨1, by decide +kernel, rfl, rfl⟩
theorem F_114_2 : F 114 2 (.if_icmp .ge 10) 5 := ⟨3, by decide +kernel, rfl, rfl⟩
theorem F_114_12 : F 114 12 (.aload_n 0) 13 := ⟨1, by decide +kernel, rfl, rfl⟩
theorem F_114_13 : F 114 13 (.getfield 12) 16 := ⟨3, by decide +kernel, rfl, rfl⟩
theorem o_114 : m_o 114 = 4 := by decide +kernel
theorem F_114_16 : F 114 16 (.iload_n 1) 17 := ⟨1, by decide +kernel, rfl, rfl⟩
theorem F_114_17 : F 114 17 (.iconst 4) 18 := ⟨1, by decide +kernel, rfl, rfl⟩
theorem F_114_18 : F 114 18 (.irem) 19 := ⟨1, by decide +kernel, rfl, rfl⟩
theorem F_114_19 : F 114 19 (.iload_n 2) 20 := ⟨1, by decide +kernel, rfl, rfl⟩
theorem F_114_20 : F 114 20 (.invokevirtual 83) 23 := ⟨3, by decide +kernel, rfl, rfl⟩
theorem il_4_83 : ilq 4 83 0 45 2 = true := by decide +kernel
theorem F_114_23 : F 114 23 (.return_) 24 := ⟨1, by decide +kernel, rfl, rfl⟩
theorem rt_114 : m_r 114 = none := by decide +kernel
theorem F_114_5 : F 114 5 (.aload_n 0) 6 := ⟨1, by decide +kernel, rfl, rfl⟩
theorem F_114_6 : F 114 6 (.getfield 18) 9 := ⟨3, by decide +kernel, rfl, rfl⟩
theorem F_114_9 : F 114 9 (.goto 7) 12 := ⟨3, by decide +kernel, rfl, rfl⟩
theorem n_113 : m_n 113 = 1 := by decide +kernel
theorem F_113_0 : F 113 0 (.aload_n 0) 1 := ⟨1, by decide +kernel, rfl, rfl⟩
theorem F_113_1 : F 113 1 (.getfield 12) 4 := ⟨3, by decide +kernel, rfl, rfl⟩
theorem o_113 : m_o 113 = 4 := by decide +kernel
theorem F_113_4 : F 113 4 (.invokevirtual 67) 7 := ⟨3, by decide +kernel, rfl, rfl⟩
theorem il_4_67 : ilq 4 67 0 68 0 = true := by decide +kernel
theorem kd_67_2 : kd 67 2 = 0 := by decide +kernel
theorem F_113_7 : F 113 7 (.aload_n 0) 8 := ⟨1, by decide +kernel, rfl, rfl⟩
theorem F_113_8 : F 113 8 (.getfield 18) 11 := ⟨3, by decide +kernel, rfl, rfl⟩
theorem F_113_11 : F 113 11 (.invokevirtual 67) 14 := ⟨3, by decide +kernel, rfl, rfl⟩
theorem kd_69_2 : kd 69 2 = 0 := by decide +kernel
theorem F_113_14 : F 113 14 (.iconst (-1)) 15 := ⟨1, by decide +kernel, rfl, rfl⟩
theorem F_113_15 : F 113 15 (.ixor) 16 := ⟨1, by decide +kernel, rfl, rfl⟩
theorem F_113_16 : F 113 16 (.iand) 17 := ⟨1, by decide +kernel, rfl, rfl⟩
theorem F_113_17 : F 113 17 (.aload_n 0) 18 := ⟨1, by decide +kernel, rfl, rfl⟩
theorem F_113_18 : F 113 18 (.getfield 18) 21 := ⟨3, by decide +kernel, rfl, rfl⟩
theorem F_113_21 : F 113 21 (.invokevirtual 67) 24 := ⟨3, by decide +kernel, rfl, rfl⟩
theorem F_113_24 : F 113 24 (.aload_n 0) 25 := ⟨1, by decide +kernel, rfl, rfl⟩
theorem F_113_25 : F 113 25 (.getfield 12) 28 := ⟨3, by decide +kernel, rfl, rfl⟩
theorem F_113_28 : F 113 28 (.invokevirtual 67) 31 := ⟨3, by decide +kernel, rfl, rfl⟩
theorem F_113_31 : F 113 31 (.iconst (-1)) 32 := ⟨1, by decide +kernel, rfl, rfl⟩
theorem F_113_32 : F 113 32 (.ixor) 33 := ⟨1, by decide +kernel, rfl, rfl⟩
theorem F_113_33 : F 113 33 (.iand) 34 := ⟨1, by decide +kernel, rfl, rfl⟩
theorem F_113_34 : F 113 34 (.iconst 4) 35 := ⟨1, by decide +kernel, rfl, rfl⟩
theorem F_113_35 : F 113 35 (.ishl) 36 := ⟨1, by decide +kernel, rfl, rfl⟩
theorem F_113_36 : F 113 36 (.ior) 37 := ⟨1, by decide +kernel, rfl, rfl⟩
theorem F_113_37 : F 113 37 (.ireturn) 38 := ⟨1, by decide +kernel, rfl, rfl⟩
theorem rt_113 : m_r 113 = (some .int) := by decide +kernel
theorem n_108 : m_n 108 = 2 := by decide +kernel
theorem F_108_0 : F 108 0 (.iload_n 1) 1 := ⟨1, by decide +kernel, rfl, rfl⟩
theorem F_108_1 : F 108 1 (.invokestatic 60) 4 := ⟨3, by decide +kernel, rfl, rfl⟩
theorem o_108 : m_o 108 = 4 := by decide +kernel
theorem il_4_60 : ilq 4 60 3 86 1 = true := by decide +kernel
theorem n_86 : m_n 86 = 1 := by decide +kernel
theorem F_86_0 : F 86 0 (.iload_n 0) 1 := ⟨1, by decide +kernel, rfl, rfl⟩
theorem F_86_1 : F 86 1 (.ifCond .lt 13) 4 := ⟨3, by decide +kernel, rfl, rfl⟩
theorem F_86_14 : F 86 14 (.iconst 0) 15 := ⟨1, by decide +kernel, rfl, rfl⟩
theorem F_86_15 : F 86 15 (.ireturn) 16 := ⟨1, by decide +kernel, rfl, rfl⟩
theorem rt_86 : m_r 86 = (some .boolean) := by decide +kernel
theorem F_108_4 : F 108 4 (.ifCond .eq 32) 7 := ⟨3, by decide +kernel, rfl, rfl⟩
theorem F_108_36 : F 108 36 (.iconst 0) 37 := ⟨1, by decide +kernel, rfl, rfl⟩
theorem F_108_37 : F 108 37 (.ireturn) 38 := ⟨1, by decide +kernel, rfl, rfl⟩
theorem rt_108 : m_r 108 = (some .boolean) := by decide +kernel
theorem F_86_4 : F 86 4 (.iload_n 0) 5 := ⟨1, by decide +kernel, rfl, rfl⟩
theorem F_86_5 : F 86 5 (.bipush 8) 7 := ⟨2, by decide +kernel, rfl, rfl⟩
theorem F_86_7 : F 86 7 (.if_icmp .ge 7) 10 := ⟨3, by decide +kernel, rfl, rfl⟩
theorem F_86_10 : F 86 10 (.iconst 1) 11 := ⟨1, by decide +kernel, rfl, rfl⟩
theorem F_86_11 : F 86 11 (.goto 4) 14 := ⟨3, by decide +kernel, rfl, rfl⟩
theorem F_108_7 : F 108 7 (.iload_n 1) 8 := ⟨1, by decide +kernel, rfl, rfl⟩
theorem F_108_8 : F 108 8 (.iconst 4) 9 := ⟨1, by decide +kernel, rfl, rfl⟩
theorem F_108_9 : F 108 9 (.if_icmp .ge 10) 12 := ⟨3, by decide +kernel, rfl, rfl⟩
theorem F_108_19 : F 108 19 (.aload_n 0) 20 := ⟨1, by decide +kernel, rfl, rfl⟩
theorem F_108_20 : F 108 20 (.getfield 18) 23 := ⟨3, by decide +kernel, rfl, rfl⟩
theorem F_108_23 : F 108 23 (.iload_n 1) 24 := ⟨1, by decide +kernel, rfl, rfl⟩
theorem F_108_24 : F 108 24 (.iconst 4) 25 := ⟨1, by decide +kernel, rfl, rfl⟩
theorem F_108_25 : F 108 25 (.irem) 26 := ⟨1, by decide +kernel, rfl, rfl⟩
theorem F_108_26 : F 108 26 (.invokevirtual 64) 29 := ⟨3, by decide +kernel, rfl, rfl⟩
theorem il_4_64 : ilq 4 64 0 62 1 = true := by decide +kernel
theorem F_108_29 : F 108 29 (.ifCond .eq 7) 32 := ⟨3, by decide +kernel, rfl, rfl⟩
theorem F_108_32 : F 108 32 (.iconst 1) 33 := ⟨1, by decide +kernel, rfl, rfl⟩
theorem F_108_33 : F 108 33 (.goto 4) 36 := ⟨3, by decide +kernel, rfl, rfl⟩
theorem F_108_12 : F 108 12 (.aload_n 0) 13 := ⟨1, by decide +kernel, rfl, rfl⟩
theorem F_108_13 : F 108 13 (.getfield 12) 16 := ⟨3, by decide +kernel, rfl, rfl⟩
theorem F_108_16 : F 108 16 (.goto 7) 19 := ⟨3, by decide +kernel, rfl, rfl⟩
theorem t_X4_utter {X : List Int32} {d : Nat} {s : m_St} {P : Option Value → m_St → Prop} {a : Int}
    (l1 : inR a)
    (l2 : 4 ≤ a → 0 ≤ a)
    (l3 : 4 ≤ a → gok s 67)
    (l4 : 4 ≤ a → 0 ≤ (a % 4))
    (l5 : 4 ≤ a → (a % 4) < 4)
    (l6 : 4 ≤ a → P (some (vI (s (67 + 1) (a % 4)))) (wg s 67 (a % 4) ((s (67 + 1) (a % 4)) + mv (s 67 1) (s 67 2) (s 66 2) (a % 4))))
    (l7 : a < 4 → 0 ≤ a)
    (l8 : a < 4 → gok s 69)
    (l9 : a < 4 → 0 ≤ (a % 4))
    (l10 : a < 4 → (a % 4) < 4)
    (l11 : a < 4 → P (some (vI (s (69 + 1) (a % 4)))) (wg s 69 (a % 4) ((s (69 + 1) (a % 4)) + mv (s 69 1) (s 69 2) (s 66 2) (a % 4))))
    : Cl X (d + 3) 109 [vR 66, vI a] s P := by
  refine Cl_of n_109 rfl ?_
  show Rn _ _ _ _ [some (vR 66), some (vI a)] [] _ _
  refine r_ldI_n (m := 1) F_109_0 rfl ?_
  refine r_iconst F_109_1 ?_
  refine r_icmp (t := 12) F_109_2 rfl l1 (by decide) ?_ ?_
  · intro e1
    replace e1 : 4 ≤ a := e1
    refine r_ldR_n (m := 0) F_109_12 rfl ?_
    refine r_getR (J := 0) F_109_13 o_109 fl_4_12 ty_66 (by decide) rfl (kd2 kd_66_0 (by decide)) (kd9 kd_66_0 (by decide)) rf_66_0 ?_
    refine r_ldI_n (m := 1) F_109_16 rfl ?_
    refine r_iconst F_109_17 ?_
    refine r_irem F_109_18 l1 (l2 e1) (by decide) (by decide) ?_
    refine r_ldR_n (m := 0) F_109_19 rfl ?_
    refine r_getI (J := 2) (e := (s 66 2)) F_109_20 o_109 fl_4_21 ty_66 (by decide) rfl kd_66_2 rfl ?_
    refine r_virt2 (A := [vI (a % 4), vI (s 66 2)]) (r := []) (n := 2) F_109_23 o_109 il_4_79 rfl rfl rfl rfl ty_67 vy_59 (lay_le n_59 rfl) ?_
    refine sp_hears ty_67 (l3 e1) (l4 e1) (l5 e1) ?_
    show Rn _ _ _ _ _ [vI (s (67 + 1) (a % 4))] _ _
    refine r_ireturn F_109_26 rt_109 ?_
    exact (l6 e1)
  · intro e2
    replace e2 : a < 4 := (Int.not_le.mp e2)
    refine r_ldR_n (m := 0) F_109_5 rfl ?_
    refine r_getR (J := 1) F_109_6 o_109 fl_4_18 ty_66 (by decide) rfl (kd2 kd_66_1 (by decide)) (kd9 kd_66_1 (by decide)) rf_66_1 ?_
    refine r_goto (t := 16) F_109_9 rfl ?_
    refine r_ldI_n (m := 1) F_109_16 rfl ?_
    refine r_iconst F_109_17 ?_
    refine r_irem F_109_18 l1 (l7 e2) (by decide) (by decide) ?_
    refine r_ldR_n (m := 0) F_109_19 rfl ?_
    refine r_getI (J := 2) (e := (s 66 2)) F_109_20 o_109 fl_4_21 ty_66 (by decide) rfl kd_66_2 rfl ?_
    refine r_virt2 (A := [vI (a % 4), vI (s 66 2)]) (r := []) (n := 2) F_109_23 o_109 il_4_79 rfl rfl rfl rfl ty_69 vy_59 (lay_le n_59 rfl) ?_
    refine sp_hears ty_69 (l8 e2) (l9 e2) (l10 e2) ?_
    show Rn _ _ _ _ _ [vI (s (69 + 1) (a % 4))] _ _
    refine r_ireturn F_109_26 rt_109 ?_
    exact (l11 e2)
theorem t_X4_takeBack {X : List Int32} {d : Nat} {s : m_St} {P : Option Value → m_St → Prop} {a w : Int}
    (l1 : inR a)
    (l2 : 4 ≤ a → 0 ≤ a)
    (l3 : 4 ≤ a → gok s 67)
    (l4 : 4 ≤ a → 0 ≤ (a % 4))
    (l5 : 4 ≤ a → (a % 4) < 4)
    (l6 : 4 ≤ a → inR w)
    (l7 : 4 ≤ a → P none (wg s 67 (a % 4) w))
    (l8 : a < 4 → 0 ≤ a)
    (l9 : a < 4 → gok s 69)
    (l10 : a < 4 → 0 ≤ (a % 4))
    (l11 : a < 4 → (a % 4) < 4)
    (l12 : a < 4 → inR w)
    (l13 : a < 4 → P none (wg s 69 (a % 4) w))
    : Cl X (d + 2) 114 [vR 66, vI a, vI w] s P := by
  refine Cl_of n_114 rfl ?_
  show Rn _ _ _ _ [some (vR 66), some (vI a), some (vI w)] [] _ _
  refine r_ldI_n (m := 1) F_114_0 rfl ?_
  refine r_iconst F_114_1 ?_
  refine r_icmp (t := 12) F_114_2 rfl l1 (by decide) ?_ ?_
  · intro e1
    replace e1 : 4 ≤ a := e1
    refine r_ldR_n (m := 0) F_114_12 rfl ?_
    refine r_getR (J := 0) F_114_13 o_114 fl_4_12 ty_66 (by decide) rfl (kd2 kd_66_0 (by decide)) (kd9 kd_66_0 (by decide)) rf_66_0 ?_
    refine r_ldI_n (m := 1) F_114_16 rfl ?_
    refine r_iconst F_114_17 ?_
    refine r_irem F_114_18 l1 (l2 e1) (by decide) (by decide) ?_
    refine r_ldI_n (m := 2) F_114_19 rfl ?_
    refine r_virt2 (A := [vI (a % 4), vI w]) (r := []) (n := 2) F_114_20 o_114 il_4_83 rfl rfl rfl rfl ty_67 vy_45 (lay_le n_45 rfl) ?_
    refine sp_weigh ty_67 (l3 e1) (l4 e1) (l5 e1) (l6 e1) ?_
    show Rn _ _ _ _ _ [] _ _
    refine r_return F_114_23 rt_114 ?_
    exact (l7 e1)
  · intro e2
    replace e2 : a < 4 := (Int.not_le.mp e2)
    refine r_ldR_n (m := 0) F_114_5 rfl ?_
    refine r_getR (J := 1) F_114_6 o_114 fl_4_18 ty_66 (by decide) rfl (kd2 kd_66_1 (by decide)) (kd9 kd_66_1 (by decide)) rf_66_1 ?_
    refine r_goto (t := 16) F_114_9 rfl ?_
    refine r_ldI_n (m := 1) F_114_16 rfl ?_
    refine r_iconst F_114_17 ?_
    refine r_irem F_114_18 l1 (l8 e2) (by decide) (by decide) ?_
    refine r_ldI_n (m := 2) F_114_19 rfl ?_
    refine r_virt2 (A := [vI (a % 4), vI w]) (r := []) (n := 2) F_114_20 o_114 il_4_83 rfl rfl rfl rfl ty_69 vy_45 (lay_le n_45 rfl) ?_
    refine sp_weigh ty_69 (l9 e2) (l10 e2) (l11 e2) (l12 e2) ?_
    show Rn _ _ _ _ _ [] _ _
    refine r_return F_114_23 rt_114 ?_
    exact (l13 e2)
theorem t_X4_turning {X : List Int32} {d : Nat} {s : m_St} {P : Option Value → m_St → Prop}
    (l1 : P (some (vI (iOr (iAnd (s 67 2) (iXor (s 69 2) (-1))) (iShl (iAnd (s 69 2) (iXor (s 67 2) (-1))) 4)))) s)
    : Cl X (d + 1) 113 [vR 66] s P := by
  refine Cl_of n_113 rfl ?_
  show Rn _ _ _ _ [some (vR 66)] [] _ _
  refine r_ldR_n (m := 0) F_113_0 rfl ?_
  refine r_getR (J := 0) F_113_1 o_113 fl_4_12 ty_66 (by decide) rfl (kd2 kd_66_0 (by decide)) (kd9 kd_66_0 (by decide)) rf_66_0 ?_
  refine r_virt2 (A := []) (r := []) (n := 0) F_113_4 o_113 il_4_67 rfl rfl rfl rfl ty_67 vy_68 (lay_le n_68 rfl) ?_
  refine Cl_of n_68 rfl ?_
  show Rn _ _ _ _ [some (vR 67)] [] _ _
  refine r_ldR_n (m := 0) F_68_0 rfl ?_
  refine r_getI (J := 2) (e := (s 67 2)) F_68_1 o_68 fl_0_19 ty_67 (by decide) rfl kd_67_2 rfl ?_
  refine r_ireturn F_68_4 rt_68 ?_
  show Rn _ _ _ _ _ [vI (s 67 2)] _ _
  refine r_ldR_n (m := 0) F_113_7 rfl ?_
  refine r_getR (J := 1) F_113_8 o_113 fl_4_18 ty_66 (by decide) rfl (kd2 kd_66_1 (by decide)) (kd9 kd_66_1 (by decide)) rf_66_1 ?_
  refine r_virt2 (A := []) (r := [vI (s 67 2)]) (n := 0) F_113_11 o_113 il_4_67 rfl rfl rfl rfl ty_69 vy_68 (lay_le n_68 rfl) ?_
  refine Cl_of n_68 rfl ?_
  show Rn _ _ _ _ [some (vR 69)] [] _ _
  refine r_ldR_n (m := 0) F_68_0 rfl ?_
  refine r_getI (J := 2) (e := (s 69 2)) F_68_1 o_68 fl_0_19 ty_69 (by decide) rfl kd_69_2 rfl ?_
  refine r_ireturn F_68_4 rt_68 ?_
  show Rn _ _ _ _ _ [vI (s 69 2), vI (s 67 2)] _ _
  refine r_iconst F_113_14 ?_
  refine r_ixor F_113_15 rfl ?_
  refine r_iand F_113_16 rfl ?_
  refine r_ldR_n (m := 0) F_113_17 rfl ?_
  refine r_getR (J := 1) F_113_18 o_113 fl_4_18 ty_66 (by decide) rfl (kd2 kd_66_1 (by decide)) (kd9 kd_66_1 (by decide)) rf_66_1 ?_
  refine r_virt2 (A := []) (r := [vI (iAnd (s 67 2) (iXor (s 69 2) (-1)))]) (n := 0) F_113_21 o_113 il_4_67 rfl rfl rfl rfl ty_69 vy_68 (lay_le n_68 rfl) ?_
  refine Cl_of n_68 rfl ?_
  show Rn _ _ _ _ [some (vR 69)] [] _ _
  refine r_ldR_n (m := 0) F_68_0 rfl ?_
  refine r_getI (J := 2) (e := (s 69 2)) F_68_1 o_68 fl_0_19 ty_69 (by decide) rfl kd_69_2 rfl ?_
  refine r_ireturn F_68_4 rt_68 ?_
  show Rn _ _ _ _ _ [vI (s 69 2), vI (iAnd (s 67 2) (iXor (s 69 2) (-1)))] _ _
  refine r_ldR_n (m := 0) F_113_24 rfl ?_
  refine r_getR (J := 0) F_113_25 o_113 fl_4_12 ty_66 (by decide) rfl (kd2 kd_66_0 (by decide)) (kd9 kd_66_0 (by decide)) rf_66_0 ?_
  refine r_virt2 (A := []) (r := [vI (s 69 2), vI (iAnd (s 67 2) (iXor (s 69 2) (-1)))]) (n := 0) F_113_28 o_113 il_4_67 rfl rfl rfl rfl ty_67 vy_68 (lay_le n_68 rfl) ?_
  refine Cl_of n_68 rfl ?_
  show Rn _ _ _ _ [some (vR 67)] [] _ _
  refine r_ldR_n (m := 0) F_68_0 rfl ?_
  refine r_getI (J := 2) (e := (s 67 2)) F_68_1 o_68 fl_0_19 ty_67 (by decide) rfl kd_67_2 rfl ?_
  refine r_ireturn F_68_4 rt_68 ?_
  show Rn _ _ _ _ _ [vI (s 67 2), vI (s 69 2), vI (iAnd (s 67 2) (iXor (s 69 2) (-1)))] _ _
  refine r_iconst F_113_31 ?_
  refine r_ixor F_113_32 rfl ?_
  refine r_iand F_113_33 rfl ?_
  refine r_iconst F_113_34 ?_
  refine r_ishl F_113_35 rfl ?_
  refine r_ior F_113_36 rfl ?_
  refine r_ireturn F_113_37 rt_113 ?_
  exact l1
theorem t_X4_canSay {X : List Int32} {d : Nat} {s : m_St} {P : Option Value → m_St → Prop} {a : Int}
    (l1 : inR a)
    (l2 : a < 0 → P (some (vI 0)) s)
    (l3 : 0 ≤ a → 8 ≤ a → P (some (vI 0)) s)
    (l4 : 0 ≤ a → a < 8 → 4 ≤ a → (iAnd (iShr (s 69 2) (a % 4)) 1) = 0 → P (some (vI 0)) s)
    (l5 : 0 ≤ a → a < 8 → 4 ≤ a → ¬ (iAnd (iShr (s 69 2) (a % 4)) 1) = 0 → P (some (vI 1)) s)
    (l6 : 0 ≤ a → a < 8 → a < 4 → (iAnd (iShr (s 67 2) (a % 4)) 1) = 0 → P (some (vI 0)) s)
    (l7 : 0 ≤ a → a < 8 → a < 4 → ¬ (iAnd (iShr (s 67 2) (a % 4)) 1) = 0 → P (some (vI 1)) s)
    : Cl X (d + 1) 108 [vR 66, vI a] s P := by
  refine Cl_of n_108 rfl ?_
  show Rn _ _ _ _ [some (vR 66), some (vI a)] [] _ _
  refine r_ldI_n (m := 1) F_108_0 rfl ?_
  refine r_stat2 (A := [vI a]) (r := []) (n := 1) F_108_1 o_108 il_4_60 (by decide) rfl rfl rfl rfl (lay_le n_86 rfl) ?_
  refine Cl_of n_86 rfl ?_
  show Rn _ _ _ _ [some (vI a)] [] _ _
  refine r_ldI_n (m := 0) F_86_0 rfl ?_
  refine r_if (t := 14) F_86_1 rfl l1 ?_ ?_
  · intro e1
    replace e1 : a < 0 := e1
    refine r_iconst F_86_14 ?_
    refine r_zreturn F_86_15 rt_86 (Or.inl rfl) ?_
    show Rn _ _ _ _ _ [vI 0] _ _
    refine r_ifT (t := 36) F_108_4 rfl (by decide) (by show (0 : Int) = 0; decide) ?_
    refine r_iconst F_108_36 ?_
    refine r_zreturn F_108_37 rt_108 (Or.inl rfl) ?_
    exact (l2 e1)
  · intro e2
    replace e2 : 0 ≤ a := (Int.not_lt.mp e2)
    refine r_ldI_n (m := 0) F_86_4 rfl ?_
    refine r_bipush F_86_5 bi_8 ?_
    refine r_icmp (t := 14) F_86_7 rfl l1 (by decide) ?_ ?_
    · intro e3
      replace e3 : 8 ≤ a := e3
      refine r_iconst F_86_14 ?_
      refine r_zreturn F_86_15 rt_86 (Or.inl rfl) ?_
      show Rn _ _ _ _ _ [vI 0] _ _
      refine r_ifT (t := 36) F_108_4 rfl (by decide) (by show (0 : Int) = 0; decide) ?_
      refine r_iconst F_108_36 ?_
      refine r_zreturn F_108_37 rt_108 (Or.inl rfl) ?_
      exact (l3 e2 e3)
    · intro e4
      replace e4 : a < 8 := (Int.not_le.mp e4)
      refine r_iconst F_86_10 ?_
      refine r_goto (t := 15) F_86_11 rfl ?_
      refine r_zreturn F_86_15 rt_86 (Or.inr rfl) ?_
      show Rn _ _ _ _ _ [vI 1] _ _
      refine r_ifF (t := 36) F_108_4 rfl (by decide) (by show ¬ ((1 : Int) = 0); decide) ?_
      refine r_ldI_n (m := 1) F_108_7 rfl ?_
      refine r_iconst F_108_8 ?_
      refine r_icmp (t := 19) F_108_9 rfl l1 (by decide) ?_ ?_
      · intro e5
        replace e5 : 4 ≤ a := e5
        refine r_ldR_n (m := 0) F_108_19 rfl ?_
        refine r_getR (J := 1) F_108_20 o_108 fl_4_18 ty_66 (by decide) rfl (kd2 kd_66_1 (by decide)) (kd9 kd_66_1 (by decide)) rf_66_1 ?_
        refine r_ldI_n (m := 1) F_108_23 rfl ?_
        refine r_iconst F_108_24 ?_
        refine r_irem F_108_25 l1 e2 (by decide) (by decide) ?_
        refine r_virt2 (A := [vI (a % 4)]) (r := []) (n := 1) F_108_26 o_108 il_4_64 rfl rfl rfl rfl ty_69 vy_62 (lay_le n_62 rfl) ?_
        refine Cl_of n_62 rfl ?_
        show Rn _ _ _ _ [some (vR 69), some (vI (a % 4))] [] _ _
        refine r_ldR_n (m := 0) F_62_0 rfl ?_
        refine r_getI (J := 2) (e := (s 69 2)) F_62_1 o_62 fl_0_19 ty_69 (by decide) rfl kd_69_2 rfl ?_
        refine r_ldI_n (m := 1) F_62_4 rfl ?_
        refine r_ishr F_62_5 rfl ?_
        refine r_iconst F_62_6 ?_
        refine r_iand F_62_7 rfl ?_
        refine r_if (t := 15) F_62_8 rfl (inR_iAnd _ _) ?_ ?_
        · intro e6
          replace e6 : (iAnd (iShr (s 69 2) (a % 4)) 1) = 0 := e6
          refine r_iconst F_62_15 ?_
          refine r_zreturn F_62_16 rt_62 (Or.inl rfl) ?_
          show Rn _ _ _ _ _ [vI 0] _ _
          refine r_ifT (t := 36) F_108_29 rfl (by decide) (by show (0 : Int) = 0; decide) ?_
          refine r_iconst F_108_36 ?_
          refine r_zreturn F_108_37 rt_108 (Or.inl rfl) ?_
          exact (l4 e2 e4 e5 e6)
        · intro e7
          replace e7 : ¬ (iAnd (iShr (s 69 2) (a % 4)) 1) = 0 := e7
          refine r_iconst F_62_11 ?_
          refine r_goto (t := 16) F_62_12 rfl ?_
          refine r_zreturn F_62_16 rt_62 (Or.inr rfl) ?_
          show Rn _ _ _ _ _ [vI 1] _ _
          refine r_ifF (t := 36) F_108_29 rfl (by decide) (by show ¬ ((1 : Int) = 0); decide) ?_
          refine r_iconst F_108_32 ?_
          refine r_goto (t := 37) F_108_33 rfl ?_
          refine r_zreturn F_108_37 rt_108 (Or.inr rfl) ?_
          exact (l5 e2 e4 e5 e7)
      · intro e8
        replace e8 : a < 4 := (Int.not_le.mp e8)
        refine r_ldR_n (m := 0) F_108_12 rfl ?_
        refine r_getR (J := 0) F_108_13 o_108 fl_4_12 ty_66 (by decide) rfl (kd2 kd_66_0 (by decide)) (kd9 kd_66_0 (by decide)) rf_66_0 ?_
        refine r_goto (t := 23) F_108_16 rfl ?_
        refine r_ldI_n (m := 1) F_108_23 rfl ?_
        refine r_iconst F_108_24 ?_
        refine r_irem F_108_25 l1 e2 (by decide) (by decide) ?_
        refine r_virt2 (A := [vI (a % 4)]) (r := []) (n := 1) F_108_26 o_108 il_4_64 rfl rfl rfl rfl ty_67 vy_62 (lay_le n_62 rfl) ?_
        refine Cl_of n_62 rfl ?_
        show Rn _ _ _ _ [some (vR 67), some (vI (a % 4))] [] _ _
        refine r_ldR_n (m := 0) F_62_0 rfl ?_
        refine r_getI (J := 2) (e := (s 67 2)) F_62_1 o_62 fl_0_19 ty_67 (by decide) rfl kd_67_2 rfl ?_
        refine r_ldI_n (m := 1) F_62_4 rfl ?_
        refine r_ishr F_62_5 rfl ?_
        refine r_iconst F_62_6 ?_
        refine r_iand F_62_7 rfl ?_
        refine r_if (t := 15) F_62_8 rfl (inR_iAnd _ _) ?_ ?_
        · intro e9
          replace e9 : (iAnd (iShr (s 67 2) (a % 4)) 1) = 0 := e9
          refine r_iconst F_62_15 ?_
          refine r_zreturn F_62_16 rt_62 (Or.inl rfl) ?_
          show Rn _ _ _ _ _ [vI 0] _ _
          refine r_ifT (t := 36) F_108_29 rfl (by decide) (by show (0 : Int) = 0; decide) ?_
          refine r_iconst F_108_36 ?_
          refine r_zreturn F_108_37 rt_108 (Or.inl rfl) ?_
          exact (l6 e2 e4 e8 e9)
        · intro e10
          replace e10 : ¬ (iAnd (iShr (s 67 2) (a % 4)) 1) = 0 := e10
          refine r_iconst F_62_11 ?_
          refine r_goto (t := 16) F_62_12 rfl ?_
          refine r_zreturn F_62_16 rt_62 (Or.inr rfl) ?_
          show Rn _ _ _ _ _ [vI 1] _ _
          refine r_ifF (t := 36) F_108_29 rfl (by decide) (by show ¬ ((1 : Int) = 0); decide) ?_
          refine r_iconst F_108_32 ?_
          refine r_goto (t := 37) F_108_33 rfl ?_
          refine r_zreturn F_108_37 rt_108 (Or.inr rfl) ?_
          exact (l7 e2 e4 e8 e10)
