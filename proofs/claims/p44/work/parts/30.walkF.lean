/-! walks: going back -/
theorem n_55 : m_n 55 = 3 := by decide +kernel
theorem F_55_0 : F 55 0 (.iconst 0) 1 := ⟨1, by decide +kernel, rfl, rfl⟩
theorem F_55_1 : F 55 1 (.istore_n 2) 2 := ⟨1, by decide +kernel, rfl, rfl⟩
theorem F_55_2 : F 55 2 (.iload_n 2) 3 := ⟨1, by decide +kernel, rfl, rfl⟩
theorem F_55_3 : F 55 3 (.aload_n 0) 4 := ⟨1, by decide +kernel, rfl, rfl⟩
theorem F_55_4 : F 55 4 (.getfield 24) 7 := ⟨3, by decide +kernel, rfl, rfl⟩
theorem o_55 : m_o 55 = 1 := by decide +kernel
theorem F_55_7 : F 55 7 (.if_icmp .ge 33) 10 := ⟨3, by decide +kernel, rfl, rfl⟩
theorem F_55_40 : F 55 40 (.aload_n 0) 41 := ⟨1, by decide +kernel, rfl, rfl⟩
theorem F_55_41 : F 55 41 (.aload_n 0) 42 := ⟨1, by decide +kernel, rfl, rfl⟩
theorem F_55_42 : F 55 42 (.getfield 28) 45 := ⟨3, by decide +kernel, rfl, rfl⟩
theorem F_55_45 : F 55 45 (.putfield 34) 48 := ⟨3, by decide +kernel, rfl, rfl⟩
theorem F_55_48 : F 55 48 (.aload_n 0) 49 := ⟨1, by decide +kernel, rfl, rfl⟩
theorem F_55_49 : F 55 49 (.iconst (-1)) 50 := ⟨1, by decide +kernel, rfl, rfl⟩
theorem F_55_50 : F 55 50 (.putfield 37) 53 := ⟨3, by decide +kernel, rfl, rfl⟩
theorem F_55_53 : F 55 53 (.aload_n 0) 54 := ⟨1, by decide +kernel, rfl, rfl⟩
theorem F_55_54 : F 55 54 (.iconst (-1)) 55 := ⟨1, by decide +kernel, rfl, rfl⟩
theorem F_55_55 : F 55 55 (.putfield 40) 58 := ⟨3, by decide +kernel, rfl, rfl⟩
theorem F_55_58 : F 55 58 (.aload_n 0) 59 := ⟨1, by decide +kernel, rfl, rfl⟩
theorem F_55_59 : F 55 59 (.iconst 0) 60 := ⟨1, by decide +kernel, rfl, rfl⟩
theorem F_55_60 : F 55 60 (.iload_n 1) 61 := ⟨1, by decide +kernel, rfl, rfl⟩
theorem F_55_61 : F 55 61 (.bipush 40) 63 := ⟨2, by decide +kernel, rfl, rfl⟩
theorem bi_40 : (Int8.ofInt 40).toInt32 = Int32.ofInt 40 := by decide +kernel
theorem F_55_63 : F 55 63 (.invokestatic 52) 66 := ⟨3, by decide +kernel, rfl, rfl⟩
theorem mm_1_52 : m_mm.lookup (1, 52) = some (1, 3076) := by decide +kernel
theorem iln_1_52 : m_il.lookup (1, 52) = none := by decide +kernel
theorem F_55_66 : F 55 66 (.invokestatic 79) 69 := ⟨3, by decide +kernel, rfl, rfl⟩
theorem mm_1_79 : m_mm.lookup (1, 79) = some (0, 3091) := by decide +kernel
theorem iln_1_79 : m_il.lookup (1, 79) = none := by decide +kernel
theorem F_55_69 : F 55 69 (.putfield 43) 72 := ⟨3, by decide +kernel, rfl, rfl⟩
theorem pf_1_9 : pfT 1 9 .int = true := by decide +kernel
theorem F_55_72 : F 55 72 (.iconst 0) 73 := ⟨1, by decide +kernel, rfl, rfl⟩
theorem F_55_73 : F 55 73 (.istore_n 2) 74 := ⟨1, by decide +kernel, rfl, rfl⟩
theorem F_55_10 : F 55 10 (.aload_n 0) 11 := ⟨1, by decide +kernel, rfl, rfl⟩
theorem F_55_11 : F 55 11 (.getfield 17) 14 := ⟨3, by decide +kernel, rfl, rfl⟩
theorem F_55_14 : F 55 14 (.iload_n 2) 15 := ⟨1, by decide +kernel, rfl, rfl⟩
theorem F_55_15 : F 55 15 (.aaload) 16 := ⟨1, by decide +kernel, rfl, rfl⟩
theorem F_55_16 : F 55 16 (.aload_n 0) 17 := ⟨1, by decide +kernel, rfl, rfl⟩
theorem F_55_17 : F 55 17 (.getfield 11) 20 := ⟨3, by decide +kernel, rfl, rfl⟩
theorem fl_1_11 : m_fl.lookup (1, 11) = some (1, 0, 1092) := by decide +kernel
theorem kd_38_0 : kd 38 0 = 41 := by decide +kernel
theorem rf_38_0 : rf 38 0 = 39 := by decide +kernel
theorem F_55_20 : F 55 20 (.iload_n 2) 21 := ⟨1, by decide +kernel, rfl, rfl⟩
theorem F_55_21 : F 55 21 (.aaload) 22 := ⟨1, by decide +kernel, rfl, rfl⟩
theorem ln_39 : ln 39 = 6 := by decide +kernel
theorem ty_39 : ty 39 = 23 := by decide +kernel
theorem rw_39 : ∀ {i : Int}, 0 ≤ i ∧ i < 6 → ty (42 + 4 * i) = 0 ∧ rf 39 i = (42 + 4 * i) := fun {i} h => by rcases (show i = (0 : Int) ∨ i = (1 : Int) ∨ i = (2 : Int) ∨ i = (3 : Int) ∨ i = (4 : Int) ∨ i = (5 : Int) by omega) with rfl | rfl | rfl | rfl | rfl | rfl <;> decide +kernel
theorem F_55_22 : F 55 22 (.aload_n 0) 23 := ⟨1, by decide +kernel, rfl, rfl⟩
theorem F_55_23 : F 55 23 (.getfield 11) 26 := ⟨3, by decide +kernel, rfl, rfl⟩
theorem F_55_26 : F 55 26 (.iload_n 2) 27 := ⟨1, by decide +kernel, rfl, rfl⟩
theorem F_55_27 : F 55 27 (.aaload) 28 := ⟨1, by decide +kernel, rfl, rfl⟩
theorem F_55_28 : F 55 28 (.invokevirtual 68) 31 := ⟨3, by decide +kernel, rfl, rfl⟩
theorem il_1_68 : ilq 1 68 0 52 0 = true := by decide +kernel
theorem vy_52 : (m_cls 0).1 = (m_y 52).cls ∧ 0 < m_cl.length := by decide +kernel
theorem n_52 : m_n 52 = 1 := by decide +kernel
theorem F_52_0 : F 52 0 (.aload_n 0) 1 := ⟨1, by decide +kernel, rfl, rfl⟩
theorem F_52_1 : F 52 1 (.getfield 15) 4 := ⟨3, by decide +kernel, rfl, rfl⟩
theorem o_52 : m_o 52 = 0 := by decide +kernel
theorem F_52_4 : F 52 4 (.ireturn) 5 := ⟨1, by decide +kernel, rfl, rfl⟩
theorem rt_52 : m_r 52 = (some .int) := by decide +kernel
theorem F_55_31 : F 55 31 (.invokevirtual 71) 34 := ⟨3, by decide +kernel, rfl, rfl⟩
theorem il_1_71 : ilq 1 71 0 53 2 = true := by decide +kernel
theorem vy_53 : (m_cls 0).1 = (m_y 53).cls ∧ 0 < m_cl.length := by decide +kernel
theorem F_55_34 : F 55 34 (.iinc 2 1) 37 := ⟨3, by decide +kernel, rfl, rfl⟩
theorem F_55_37 : F 55 37 (.goto (-35)) 40 := ⟨3, by decide +kernel, rfl, rfl⟩
theorem F_55_74 : F 55 74 (.iload_n 2) 75 := ⟨1, by decide +kernel, rfl, rfl⟩
theorem F_55_75 : F 55 75 (.aload_n 0) 76 := ⟨1, by decide +kernel, rfl, rfl⟩
theorem F_55_76 : F 55 76 (.getfield 43) 79 := ⟨3, by decide +kernel, rfl, rfl⟩
theorem F_55_79 : F 55 79 (.if_icmp .ge 19) 82 := ⟨3, by decide +kernel, rfl, rfl⟩
theorem F_55_98 : F 55 98 (.return_) 99 := ⟨1, by decide +kernel, rfl, rfl⟩
theorem rt_55 : m_r 55 = none := by decide +kernel
theorem F_55_82 : F 55 82 (.aload_n 0) 83 := ⟨1, by decide +kernel, rfl, rfl⟩
theorem F_55_83 : F 55 83 (.aload_n 0) 84 := ⟨1, by decide +kernel, rfl, rfl⟩
theorem F_55_84 : F 55 84 (.getfield 20) 87 := ⟨3, by decide +kernel, rfl, rfl⟩
theorem F_55_87 : F 55 87 (.iload_n 2) 88 := ⟨1, by decide +kernel, rfl, rfl⟩
theorem F_55_88 : F 55 88 (.iaload) 89 := ⟨1, by decide +kernel, rfl, rfl⟩
theorem F_55_89 : F 55 89 (.invokevirtual 82) 92 := ⟨3, by decide +kernel, rfl, rfl⟩
theorem il_1_82 : ilq 1 82 0 56 1 = true := by decide +kernel
theorem vy_56 : (m_cls 1).1 = (m_y 56).cls ∧ 1 < m_cl.length := by decide +kernel
theorem F_55_92 : F 55 92 (.iinc 2 1) 95 := ⟨3, by decide +kernel, rfl, rfl⟩
theorem F_55_95 : F 55 95 (.goto (-21)) 98 := ⟨3, by decide +kernel, rfl, rfl⟩
theorem t_X1_goBack {X : m_X} {d : Nat} {s : m_St} {P : Option Value → m_St → Prop} {n : Int}
    (l1 : Rn X (d + 4) 55 2 [some (vR 38), some (vI n), some (vI 0)] [] s P)
    : Cl X (d + 4) 55 [vR 38, vI n] s P := by
  refine Cl_of n_55 rfl ?_
  show Rn _ _ _ _ [some (vR 38), some (vI n), none] [] _ _
  refine r_iconst F_55_0 ?_
  refine r_stI_n (m := 2) (L' := [some (vR 38), some (vI n), some (vI 0)]) F_55_1 rfl rfl ?_
  exact l1
theorem t_X1_goBack_2 {X : m_X} {d : Nat} {s : m_St} {P : Option Value → m_St → Prop} {n i : Int} (hi : 0 ≤ i)
    (l1 : inR i)
    (l2 : inR (s 38 3))
    (l3 : (s 38 3) ≤ i → inR n)
    (l4 : (s 38 3) ≤ i → inR (min n 40))
    (l5 : (s 38 3) ≤ i → Rn X (d + 4) 55 74 [some (vR 38), some (vI n), some (vI 0)] [] (m_upd (m_upd (m_upd (m_upd s 38 6 (s 38 4)) 38 7 (-1)) 38 8 (-1)) 38 9 (max 0 (min n 40))) P)
    (l6 : i < (s 38 3) → i < 6)
    (l7 : i < (s 38 3) → 0 ≤ (s (42 + 4 * i) 1))
    (l8 : i < (s 38 3) → (s (42 + 4 * i) 1) < 6)
    (l9 : i < (s 38 3) → wr (s ((42 + 4 * i) + 1)))
    (l10 : i < (s 38 3) → Rn X (d + 4) 55 2 [some (vR 38), some (vI n), some (vI (i + 1))] [] (lk s (44 + 4 * i) (42 + 4 * i) (s (42 + 4 * i) 1)) P)
    : Rn X (d + 4) 55 2 [some (vR 38), some (vI n), some (vI i)] [] s P := by
  refine r_ldI_n (m := 2) F_55_2 rfl ?_
  refine r_ldR_n (m := 0) F_55_3 rfl ?_
  refine r_getI (J := 3) (e := (s 38 3)) F_55_4 o_55 fl_1_24 ty_38 (by decide) rfl kd_38_3 rfl ?_
  refine r_icmp (t := 40) F_55_7 rfl l1 l2 ?_ ?_
  · intro e1
    replace e1 : (s 38 3) ≤ i := e1
    refine r_ldR_n (m := 0) F_55_40 rfl ?_
    refine r_ldR_n (m := 0) F_55_41 rfl ?_
    refine r_getI (J := 4) (e := (s 38 4)) F_55_42 o_55 fl_1_28 ty_38 (by decide) rfl kd_38_4 rfl ?_
    refine r_putI (J := 6) F_55_45 o_55 fl_1_34 ty_38 (by decide) rfl kd_38_6 pf_1_6 ?_
    refine r_ldR_n (m := 0) F_55_48 rfl ?_
    refine r_iconst F_55_49 ?_
    refine r_putI (J := 7) F_55_50 o_55 fl_1_37 ty_38 (by decide) rfl kd_38_7 pf_1_7 ?_
    refine r_ldR_n (m := 0) F_55_53 rfl ?_
    refine r_iconst F_55_54 ?_
    refine r_putI (J := 8) F_55_55 o_55 fl_1_40 ty_38 (by decide) rfl kd_38_8 pf_1_8 ?_
    refine r_ldR_n (m := 0) F_55_58 rfl ?_
    refine r_iconst F_55_59 ?_
    refine r_ldI_n (m := 1) F_55_60 rfl ?_
    refine r_bipush F_55_61 bi_40 ?_
    refine r_mmin F_55_63 o_55 iln_1_52 mm_1_52 rfl (l3 e1) (by decide) ?_
    refine r_mmax F_55_66 o_55 iln_1_79 mm_1_79 rfl (by decide) (l4 e1) ?_
    refine r_putI (J := 9) F_55_69 o_55 fl_1_43 ty_38 (by decide) rfl kd_38_9 pf_1_9 ?_
    refine r_iconst F_55_72 ?_
    refine r_stI_n (m := 2) (L' := [some (vR 38), some (vI n), some (vI 0)]) F_55_73 rfl rfl ?_
    exact (l5 e1)
  · intro e2
    replace e2 : i < (s 38 3) := (Int.not_le.mp e2)
    refine r_ldR_n (m := 0) F_55_10 rfl ?_
    refine r_getR (J := 1) F_55_11 o_55 fl_1_17 ty_38 (by decide) rfl (kd2 kd_38_1 (by decide)) (kd9 kd_38_1 (by decide)) rf_38_1 ?_
    refine r_ldI_n (m := 2) F_55_14 rfl ?_
    refine r_aald F_55_15 ty_40 (by decide) hi (lt_ln ln_40 (l6 e2)) (rw_40 ⟨hi, (l6 e2)⟩).2 ?_
    refine r_ldR_n (m := 0) F_55_16 rfl ?_
    refine r_getR (J := 0) F_55_17 o_55 fl_1_11 ty_38 (by decide) rfl (kd2 kd_38_0 (by decide)) (kd9 kd_38_0 (by decide)) rf_38_0 ?_
    refine r_ldI_n (m := 2) F_55_20 rfl ?_
    refine r_aald F_55_21 ty_39 (by decide) hi (lt_ln ln_39 (l6 e2)) (rw_39 ⟨hi, (l6 e2)⟩).2 ?_
    refine r_ldR_n (m := 0) F_55_22 rfl ?_
    refine r_getR (J := 0) F_55_23 o_55 fl_1_11 ty_38 (by decide) rfl (kd2 kd_38_0 (by decide)) (kd9 kd_38_0 (by decide)) rf_38_0 ?_
    refine r_ldI_n (m := 2) F_55_26 rfl ?_
    refine r_aald F_55_27 ty_39 (by decide) hi (lt_ln ln_39 (l6 e2)) (rw_39 ⟨hi, (l6 e2)⟩).2 ?_
    refine r_virt2 (A := []) (r := [vR (42 + 4 * i), vR (44 + 4 * i)]) (n := 0) F_55_28 o_55 il_1_68 rfl rfl rfl rfl (rw_39 ⟨hi, (l6 e2)⟩).1 vy_52 (lay_le n_52 rfl) ?_
    refine Cl_of n_52 rfl ?_
    show Rn _ _ _ _ [some (vR (42 + 4 * i))] [] _ _
    refine r_ldR_n (m := 0) F_52_0 rfl ?_
    refine r_getI (J := 1) (e := (s (42 + 4 * i) 1)) F_52_1 o_52 fl_0_15 (rw_39 ⟨hi, (l6 e2)⟩).1 (by decide) rfl (gw (rw_39 ⟨hi, (l6 e2)⟩).1).2.2.1 rfl ?_
    refine r_ireturn F_52_4 rt_52 ?_
    show Rn _ _ _ _ _ [vI (s (42 + 4 * i) 1), vR (42 + 4 * i), vR (44 + 4 * i)] _ _
    refine r_virt2 (A := [vR (42 + 4 * i), vI (s (42 + 4 * i) 1)]) (r := []) (n := 2) F_55_31 o_55 il_1_71 rfl rfl rfl rfl (rw_40 ⟨hi, (l6 e2)⟩).1 vy_53 (lay_le n_53 rfl) ?_
    refine sp_beLike (rw_40 ⟨hi, (l6 e2)⟩).1 (rw_39 ⟨hi, (l6 e2)⟩).1 (l7 e2) (l8 e2) (l9 e2) ?_
    show Rn _ _ _ _ _ [] _ _
    refine r_iinc (m := 2) (e := (i + 1)) (L' := [some (vR 38), some (vI n), some (vI (i + 1))]) F_55_34 rfl rfl rfl rfl ?_
    refine r_goto (t := 2) F_55_37 rfl ?_
    exact (l10 e2)
theorem t_X1_goBack_74 {X : m_X} {d : Nat} {s : m_St} {P : Option Value → m_St → Prop} {n i : Int} (hi : 0 ≤ i)
    (l1 : inR i)
    (l2 : inR (s 38 9))
    (l3 : (s 38 9) ≤ i → P none s)
    (l4 : i < (s 38 9) → i < 40)
    (l5 : i < (s 38 9) → 0 ≤ (s 41 i))
    (l6 : i < (s 38 9) → inR (s 41 i))
    (l7 : i < (s 38 9) → (s 41 i) < 8 → 0 ≤ s 38 7 ∧ s 38 7 < 6 ∧ 0 ≤ s 38 8 ∧ s 38 8 < 6)
    (l8 : i < (s 38 9) → (s 41 i) < 8 → ∀ i, 0 ≤ i → i < 6 → gok s (44 + 4 * i))
    (l9 : i < (s 38 9) → Rn X (d + 4) 55 74 [some (vR 38), some (vI n), some (vI (i + 1))] [] (pf s (s 41 i)) P)
    : Rn X (d + 4) 55 74 [some (vR 38), some (vI n), some (vI i)] [] s P := by
  refine r_ldI_n (m := 2) F_55_74 rfl ?_
  refine r_ldR_n (m := 0) F_55_75 rfl ?_
  refine r_getI (J := 9) (e := (s 38 9)) F_55_76 o_55 fl_1_43 ty_38 (by decide) rfl kd_38_9 rfl ?_
  refine r_icmp (t := 98) F_55_79 rfl l1 l2 ?_ ?_
  · intro e1
    replace e1 : (s 38 9) ≤ i := e1
    refine r_return F_55_98 rt_55 ?_
    exact (l3 e1)
  · intro e2
    replace e2 : i < (s 38 9) := (Int.not_le.mp e2)
    refine r_ldR_n (m := 0) F_55_82 rfl ?_
    refine r_ldR_n (m := 0) F_55_83 rfl ?_
    refine r_getR (J := 2) F_55_84 o_55 fl_1_20 ty_38 (by decide) rfl (kd2 kd_38_2 (by decide)) (kd9 kd_38_2 (by decide)) rf_38_2 ?_
    refine r_ldI_n (m := 2) F_55_87 rfl ?_
    refine r_iald (e := (s 41 i)) F_55_88 ty_41 hi (lt_ln ln_41 (l4 e2)) rfl ?_
    refine r_virt2 (A := [vI (s 41 i)]) (r := []) (n := 1) F_55_89 o_55 il_1_82 rfl rfl rfl rfl ty_38 vy_56 (lay_le n_56 rfl) ?_
    refine sp_perform (l5 e2) (l6 e2) (l7 e2) (l8 e2) ?_
    show Rn _ _ _ _ _ [] _ _
    refine r_iinc (m := 2) (e := (i + 1)) (L' := [some (vR 38), some (vI n), some (vI (i + 1))]) F_55_92 rfl rfl rfl rfl ?_
    refine r_goto (t := 74) F_55_95 rfl ?_
    exact (l9 e2)
