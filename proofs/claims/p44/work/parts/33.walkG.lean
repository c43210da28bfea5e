/-! walks: going on, opening -/
theorem n_48 : m_n 48 = 4 := by decide +kernel
theorem F_48_0 : F 48 0 (.aload_n 0) 1 := ⟨1, by decide +kernel, rfl, rfl⟩
theorem F_48_1 : F 48 1 (.aload_n 1) 2 := ⟨1, by decide +kernel, rfl, rfl⟩
theorem F_48_2 : F 48 2 (.invokevirtual 47) 5 := ⟨3, by decide +kernel, rfl, rfl⟩
theorem ty_23 : ty 23 = 2 := by decide +kernel
theorem o_48 : m_o 48 = 1 := by decide +kernel
theorem il_1_47 : ilq 1 47 0 49 0 = true := by decide +kernel
theorem vy_49 : (m_cls 2).1 = (m_y 49).cls ∧ 2 < m_cl.length := by decide +kernel
theorem n_49 : m_n 49 = 1 := by decide +kernel
theorem F_49_0 : F 49 0 (.aload_n 0) 1 := ⟨1, by decide +kernel, rfl, rfl⟩
theorem F_49_1 : F 49 1 (.getfield 28) 4 := ⟨3, by decide +kernel, rfl, rfl⟩
theorem fl_2_28 : m_fl.lookup (2, 28) = some (2, 4, 1066) := by decide +kernel
theorem kd_23_4 : kd 23 4 = 0 := by decide +kernel
theorem o_49 : m_o 49 = 2 := by decide +kernel
theorem F_49_4 : F 49 4 (.ireturn) 5 := ⟨1, by decide +kernel, rfl, rfl⟩
theorem rt_49 : m_r 49 = (some .int) := by decide +kernel
theorem F_48_5 : F 48 5 (.bipush 6) 7 := ⟨2, by decide +kernel, rfl, rfl⟩
theorem F_48_7 : F 48 7 (.invokestatic 52) 10 := ⟨3, by decide +kernel, rfl, rfl⟩
theorem F_48_10 : F 48 10 (.putfield 24) 13 := ⟨3, by decide +kernel, rfl, rfl⟩
theorem pf_1_3 : pfT 1 3 .int = true := by decide +kernel
theorem F_48_13 : F 48 13 (.aload_n 0) 14 := ⟨1, by decide +kernel, rfl, rfl⟩
theorem F_48_14 : F 48 14 (.aload_n 1) 15 := ⟨1, by decide +kernel, rfl, rfl⟩
theorem F_48_15 : F 48 15 (.invokevirtual 58) 18 := ⟨3, by decide +kernel, rfl, rfl⟩
theorem il_1_58 : ilq 1 58 0 50 0 = true := by decide +kernel
theorem vy_50 : (m_cls 2).1 = (m_y 50).cls ∧ 2 < m_cl.length := by decide +kernel
theorem n_50 : m_n 50 = 1 := by decide +kernel
theorem F_50_0 : F 50 0 (.aload_n 0) 1 := ⟨1, by decide +kernel, rfl, rfl⟩
theorem F_50_1 : F 50 1 (.getfield 31) 4 := ⟨3, by decide +kernel, rfl, rfl⟩
theorem fl_2_31 : m_fl.lookup (2, 31) = some (2, 5, 1067) := by decide +kernel
theorem kd_23_5 : kd 23 5 = 0 := by decide +kernel
theorem o_50 : m_o 50 = 2 := by decide +kernel
theorem F_50_4 : F 50 4 (.ireturn) 5 := ⟨1, by decide +kernel, rfl, rfl⟩
theorem rt_50 : m_r 50 = (some .int) := by decide +kernel
theorem F_48_18 : F 48 18 (.putfield 28) 21 := ⟨3, by decide +kernel, rfl, rfl⟩
theorem pf_1_4 : pfT 1 4 .int = true := by decide +kernel
theorem F_48_21 : F 48 21 (.aload_n 0) 22 := ⟨1, by decide +kernel, rfl, rfl⟩
theorem F_48_22 : F 48 22 (.aload_n 1) 23 := ⟨1, by decide +kernel, rfl, rfl⟩
theorem F_48_23 : F 48 23 (.invokevirtual 61) 26 := ⟨3, by decide +kernel, rfl, rfl⟩
theorem il_1_61 : ilq 1 61 0 51 0 = true := by decide +kernel
theorem vy_51 : (m_cls 2).1 = (m_y 51).cls ∧ 2 < m_cl.length := by decide +kernel
theorem n_51 : m_n 51 = 1 := by decide +kernel
theorem F_51_0 : F 51 0 (.aload_n 0) 1 := ⟨1, by decide +kernel, rfl, rfl⟩
theorem F_51_1 : F 51 1 (.getfield 34) 4 := ⟨3, by decide +kernel, rfl, rfl⟩
theorem fl_2_34 : m_fl.lookup (2, 34) = some (2, 6, 1068) := by decide +kernel
theorem kd_23_6 : kd 23 6 = 0 := by decide +kernel
theorem o_51 : m_o 51 = 2 := by decide +kernel
theorem F_51_4 : F 51 4 (.ireturn) 5 := ⟨1, by decide +kernel, rfl, rfl⟩
theorem rt_51 : m_r 51 = (some .int) := by decide +kernel
theorem F_48_26 : F 48 26 (.putfield 31) 29 := ⟨3, by decide +kernel, rfl, rfl⟩
theorem pf_1_5 : pfT 1 5 .int = true := by decide +kernel
theorem F_48_29 : F 48 29 (.iconst 0) 30 := ⟨1, by decide +kernel, rfl, rfl⟩
theorem F_48_30 : F 48 30 (.istore_n 2) 31 := ⟨1, by decide +kernel, rfl, rfl⟩
theorem F_48_31 : F 48 31 (.iload_n 2) 32 := ⟨1, by decide +kernel, rfl, rfl⟩
theorem F_48_32 : F 48 32 (.aload_n 0) 33 := ⟨1, by decide +kernel, rfl, rfl⟩
theorem F_48_33 : F 48 33 (.getfield 24) 36 := ⟨3, by decide +kernel, rfl, rfl⟩
theorem F_48_36 : F 48 36 (.if_icmp .ge 29) 39 := ⟨3, by decide +kernel, rfl, rfl⟩
theorem F_48_65 : F 48 65 (.aload_n 0) 66 := ⟨1, by decide +kernel, rfl, rfl⟩
theorem F_48_66 : F 48 66 (.iconst 0) 67 := ⟨1, by decide +kernel, rfl, rfl⟩
theorem F_48_67 : F 48 67 (.invokevirtual 75) 70 := ⟨3, by decide +kernel, rfl, rfl⟩
theorem il_1_75 : ilq 1 75 0 55 1 = true := by decide +kernel
theorem vy_55 : (m_cls 1).1 = (m_y 55).cls ∧ 1 < m_cl.length := by decide +kernel
theorem F_48_70 : F 48 70 (.return_) 71 := ⟨1, by decide +kernel, rfl, rfl⟩
theorem rt_48 : m_r 48 = none := by decide +kernel
theorem F_48_39 : F 48 39 (.aload_n 1) 40 := ⟨1, by decide +kernel, rfl, rfl⟩
theorem F_48_40 : F 48 40 (.iload_n 2) 41 := ⟨1, by decide +kernel, rfl, rfl⟩
theorem F_48_41 : F 48 41 (.invokevirtual 64) 44 := ⟨3, by decide +kernel, rfl, rfl⟩
theorem il_1_64 : ilq 1 64 0 41 1 = true := by decide +kernel
theorem vy_41 : (m_cls 2).1 = (m_y 41).cls ∧ 2 < m_cl.length := by decide +kernel
theorem n_41 : m_n 41 = 2 := by decide +kernel
theorem F_41_0 : F 41 0 (.aload_n 0) 1 := ⟨1, by decide +kernel, rfl, rfl⟩
theorem F_41_1 : F 41 1 (.getfield 11) 4 := ⟨3, by decide +kernel, rfl, rfl⟩
theorem fl_2_11 : m_fl.lookup (2, 11) = some (2, 0, 1062) := by decide +kernel
theorem kd_23_0 : kd 23 0 = 26 := by decide +kernel
theorem o_41 : m_o 41 = 2 := by decide +kernel
theorem rf_23_0 : rf 23 0 = 24 := by decide +kernel
theorem F_41_4 : F 41 4 (.iload_n 1) 5 := ⟨1, by decide +kernel, rfl, rfl⟩
theorem F_41_5 : F 41 5 (.ifCond .lt 13) 8 := ⟨3, by decide +kernel, rfl, rfl⟩
theorem F_41_8 : F 41 8 (.iload_n 1) 9 := ⟨1, by decide +kernel, rfl, rfl⟩
theorem F_41_9 : F 41 9 (.bipush 6) 11 := ⟨2, by decide +kernel, rfl, rfl⟩
theorem F_41_11 : F 41 11 (.if_icmp .ge 7) 14 := ⟨3, by decide +kernel, rfl, rfl⟩
theorem F_41_18 : F 41 18 (.iconst 0) 19 := ⟨1, by decide +kernel, rfl, rfl⟩
theorem F_41_19 : F 41 19 (.aaload) 20 := ⟨1, by decide +kernel, rfl, rfl⟩
theorem ln_24 : ln 24 = 6 := by decide +kernel
theorem ty_24 : ty 24 = 23 := by decide +kernel
theorem rf_24_0 : rf 24 0 = 26 := by decide +kernel
theorem F_41_20 : F 41 20 (.areturn) 21 := ⟨1, by decide +kernel, rfl, rfl⟩
theorem rob_41 : m_rob 41 = true := by decide +kernel
theorem F_48_44 : F 48 44 (.astore_n 3) 45 := ⟨1, by decide +kernel, rfl, rfl⟩
theorem F_48_45 : F 48 45 (.aload_n 0) 46 := ⟨1, by decide +kernel, rfl, rfl⟩
theorem F_48_46 : F 48 46 (.getfield 11) 49 := ⟨3, by decide +kernel, rfl, rfl⟩
theorem F_48_49 : F 48 49 (.iload_n 2) 50 := ⟨1, by decide +kernel, rfl, rfl⟩
theorem F_48_50 : F 48 50 (.aaload) 51 := ⟨1, by decide +kernel, rfl, rfl⟩
theorem F_48_51 : F 48 51 (.aload_n 3) 52 := ⟨1, by decide +kernel, rfl, rfl⟩
theorem F_48_52 : F 48 52 (.aload_n 3) 53 := ⟨1, by decide +kernel, rfl, rfl⟩
theorem F_48_53 : F 48 53 (.invokevirtual 68) 56 := ⟨3, by decide +kernel, rfl, rfl⟩
theorem ty_26 : ty 26 = 0 := by decide +kernel
theorem kd_26_1 : kd 26 1 = 0 := by decide +kernel
theorem F_48_56 : F 48 56 (.invokevirtual 71) 59 := ⟨3, by decide +kernel, rfl, rfl⟩
theorem F_48_59 : F 48 59 (.iinc 2 1) 62 := ⟨3, by decide +kernel, rfl, rfl⟩
theorem F_48_62 : F 48 62 (.goto (-31)) 65 := ⟨3, by decide +kernel, rfl, rfl⟩
theorem F_41_14 : F 41 14 (.iload_n 1) 15 := ⟨1, by decide +kernel, rfl, rfl⟩
theorem F_41_15 : F 41 15 (.goto 4) 18 := ⟨3, by decide +kernel, rfl, rfl⟩
theorem rw_24 : ∀ {i : Int}, 0 ≤ i ∧ i < 6 → ty (26 + 2 * i) = 0 ∧ rf 24 i = (26 + 2 * i) := fun {i} h => by rcases (show i = (0 : Int) ∨ i = (1 : Int) ∨ i = (2 : Int) ∨ i = (3 : Int) ∨ i = (4 : Int) ∨ i = (5 : Int) by omega) with rfl | rfl | rfl | rfl | rfl | rfl <;> decide +kernel
theorem t_X1_open {X : m_X} {d : Nat} {s : m_St} {P : Option Value → m_St → Prop}
    (l1 : inR (s 23 4))
    (l2 : Rn X (d + 5) 48 31 [some (vR 38), some (vR 23), some (vI 0), none] [] (m_upd (m_upd (m_upd s 38 3 (min (s 23 4) 6)) 38 4 (s 23 5)) 38 5 (s 23 6)) P)
    : Cl X (d + 5) 48 [vR 38, vR 23] s P := by
  refine Cl_of n_48 rfl ?_
  show Rn _ _ _ _ [some (vR 38), some (vR 23), none, none] [] _ _
  refine r_ldR_n (m := 0) F_48_0 rfl ?_
  refine r_ldR_n (m := 1) F_48_1 rfl ?_
  refine r_virt2 (A := []) (r := [vR 38]) (n := 0) F_48_2 o_48 il_1_47 rfl rfl rfl rfl ty_23 vy_49 (lay_le n_49 rfl) ?_
  refine Cl_of n_49 rfl ?_
  show Rn _ _ _ _ [some (vR 23)] [] _ _
  refine r_ldR_n (m := 0) F_49_0 rfl ?_
  refine r_getI (J := 4) (e := (s 23 4)) F_49_1 o_49 fl_2_28 ty_23 (by decide) rfl kd_23_4 rfl ?_
  refine r_ireturn F_49_4 rt_49 ?_
  show Rn _ _ _ _ _ [vI (s 23 4), vR 38] _ _
  refine r_bipush F_48_5 bi_6 ?_
  refine r_mmin F_48_7 o_48 iln_1_52 mm_1_52 rfl l1 (by decide) ?_
  refine r_putI (J := 3) F_48_10 o_48 fl_1_24 ty_38 (by decide) rfl kd_38_3 pf_1_3 ?_
  refine r_ldR_n (m := 0) F_48_13 rfl ?_
  refine r_ldR_n (m := 1) F_48_14 rfl ?_
  refine r_virt2 (A := []) (r := [vR 38]) (n := 0) F_48_15 o_48 il_1_58 rfl rfl rfl rfl ty_23 vy_50 (lay_le n_50 rfl) ?_
  refine Cl_of n_50 rfl ?_
  show Rn _ _ _ _ [some (vR 23)] [] _ _
  refine r_ldR_n (m := 0) F_50_0 rfl ?_
  refine r_getI (J := 5) (e := (s 23 5)) F_50_1 o_50 fl_2_31 ty_23 (by decide) rfl kd_23_5 (upd_nc (by decide)) ?_
  refine r_ireturn F_50_4 rt_50 ?_
  show Rn _ _ _ _ _ [vI (s 23 5), vR 38] _ _
  refine r_putI (J := 4) F_48_18 o_48 fl_1_28 ty_38 (by decide) rfl kd_38_4 pf_1_4 ?_
  refine r_ldR_n (m := 0) F_48_21 rfl ?_
  refine r_ldR_n (m := 1) F_48_22 rfl ?_
  refine r_virt2 (A := []) (r := [vR 38]) (n := 0) F_48_23 o_48 il_1_61 rfl rfl rfl rfl ty_23 vy_51 (lay_le n_51 rfl) ?_
  refine Cl_of n_51 rfl ?_
  show Rn _ _ _ _ [some (vR 23)] [] _ _
  refine r_ldR_n (m := 0) F_51_0 rfl ?_
  refine r_getI (J := 6) (e := (s 23 6)) F_51_1 o_51 fl_2_34 ty_23 (by decide) rfl kd_23_6 ((upd_nc (by decide)).trans (upd_nc (by decide))) ?_
  refine r_ireturn F_51_4 rt_51 ?_
  show Rn _ _ _ _ _ [vI (s 23 6), vR 38] _ _
  refine r_putI (J := 5) F_48_26 o_48 fl_1_31 ty_38 (by decide) rfl kd_38_5 pf_1_5 ?_
  refine r_iconst F_48_29 ?_
  refine r_stI_n (m := 2) (L' := [some (vR 38), some (vR 23), some (vI 0), none]) F_48_30 rfl rfl ?_
  exact l2
theorem t_X1_open_31 {X : m_X} {d : Nat} {s : m_St} {P : Option Value → m_St → Prop} {i : Int} {z3 : Option Value} (hi : 0 ≤ i)
    (l1 : inR i)
    (l2 : inR (s 38 3))
    (l3 : (s 38 3) ≤ i → bok s)
    (l4 : (s 38 3) ≤ i → gdok s 0)
    (l5 : (s 38 3) ≤ i → P none (gb s 0))
    (l6 : i < (s 38 3) → 6 ≤ i → i < 6)
    (l7 : i < (s 38 3) → 6 ≤ i → 0 ≤ (s 26 1))
    (l8 : i < (s 38 3) → 6 ≤ i → (s 26 1) < 6)
    (l9 : i < (s 38 3) → 6 ≤ i → wr (s (26 + 1)))
    (l10 : i < (s 38 3) → 6 ≤ i → Rn X (d + 5) 48 31 [some (vR 38), some (vR 23), some (vI (i + 1)), some (vR 26)] [] (lk s (42 + 4 * i) 26 (s 26 1)) P)
    (l11 : i < (s 38 3) → i < 6 → 0 ≤ (s (26 + 2 * i) 1))
    (l12 : i < (s 38 3) → i < 6 → (s (26 + 2 * i) 1) < 6)
    (l13 : i < (s 38 3) → i < 6 → wr (s ((26 + 2 * i) + 1)))
    (l14 : i < (s 38 3) → i < 6 → Rn X (d + 5) 48 31 [some (vR 38), some (vR 23), some (vI (i + 1)), some (vR (26 + 2 * i))] [] (lk s (42 + 4 * i) (26 + 2 * i) (s (26 + 2 * i) 1)) P)
    : Rn X (d + 5) 48 31 [some (vR 38), some (vR 23), some (vI i), z3] [] s P := by
  refine r_ldI_n (m := 2) F_48_31 rfl ?_
  refine r_ldR_n (m := 0) F_48_32 rfl ?_
  refine r_getI (J := 3) (e := (s 38 3)) F_48_33 o_48 fl_1_24 ty_38 (by decide) rfl kd_38_3 rfl ?_
  refine r_icmp (t := 65) F_48_36 rfl l1 l2 ?_ ?_
  · intro e1
    replace e1 : (s 38 3) ≤ i := e1
    refine r_ldR_n (m := 0) F_48_65 rfl ?_
    refine r_iconst F_48_66 ?_
    refine r_virt2 (A := [vI 0]) (r := []) (n := 1) F_48_67 o_48 il_1_75 rfl rfl rfl rfl ty_38 vy_55 (lay_le n_55 rfl) ?_
    refine sp_goBack (l3 e1) (by decide) (by decide) (l4 e1) ?_
    show Rn _ _ _ _ _ [] _ _
    refine r_return F_48_70 rt_48 ?_
    exact (l5 e1)
  · intro e2
    replace e2 : i < (s 38 3) := (Int.not_le.mp e2)
    refine r_ldR_n (m := 1) F_48_39 rfl ?_
    refine r_ldI_n (m := 2) F_48_40 rfl ?_
    refine r_virt2 (A := [vI i]) (r := []) (n := 1) F_48_41 o_48 il_1_64 rfl rfl rfl rfl ty_23 vy_41 (lay_le n_41 rfl) ?_
    refine Cl_of n_41 rfl ?_
    show Rn _ _ _ _ [some (vR 23), some (vI i)] [] _ _
    refine r_ldR_n (m := 0) F_41_0 rfl ?_
    refine r_getR (J := 0) F_41_1 o_41 fl_2_11 ty_23 (by decide) rfl (kd2 kd_23_0 (by decide)) (kd9 kd_23_0 (by decide)) rf_23_0 ?_
    refine r_ldI_n (m := 1) F_41_4 rfl ?_
    refine r_ifF (t := 18) F_41_5 rfl l1 (Int.not_lt.mpr hi) ?_
    refine r_ldI_n (m := 1) F_41_8 rfl ?_
    refine r_bipush F_41_9 bi_6 ?_
    refine r_icmp (t := 18) F_41_11 rfl l1 (by decide) ?_ ?_
    · intro e3
      replace e3 : 6 ≤ i := e3
      refine r_iconst F_41_18 ?_
      refine r_aald F_41_19 ty_24 (by decide) (by decide) (lt_ln ln_24 (by decide)) rf_24_0 ?_
      refine r_areturn F_41_20 rob_41 ?_
      show Rn _ _ _ _ _ [vR 26] _ _
      refine r_stR_n (m := 3) (L' := [some (vR 38), some (vR 23), some (vI i), some (vR 26)]) F_48_44 rfl rfl ?_
      refine r_ldR_n (m := 0) F_48_45 rfl ?_
      refine r_getR (J := 0) F_48_46 o_48 fl_1_11 ty_38 (by decide) rfl (kd2 kd_38_0 (by decide)) (kd9 kd_38_0 (by decide)) rf_38_0 ?_
      refine r_ldI_n (m := 2) F_48_49 rfl ?_
      refine r_aald F_48_50 ty_39 (by decide) hi (lt_ln ln_39 (l6 e2 e3)) (rw_39 ⟨hi, (l6 e2 e3)⟩).2 ?_
      refine r_ldR_n (m := 3) F_48_51 rfl ?_
      refine r_ldR_n (m := 3) F_48_52 rfl ?_
      refine r_virt2 (A := []) (r := [vR 26, vR (42 + 4 * i)]) (n := 0) F_48_53 o_48 il_1_68 rfl rfl rfl rfl ty_26 vy_52 (lay_le n_52 rfl) ?_
      refine Cl_of n_52 rfl ?_
      show Rn _ _ _ _ [some (vR 26)] [] _ _
      refine r_ldR_n (m := 0) F_52_0 rfl ?_
      refine r_getI (J := 1) (e := (s 26 1)) F_52_1 o_52 fl_0_15 ty_26 (by decide) rfl kd_26_1 rfl ?_
      refine r_ireturn F_52_4 rt_52 ?_
      show Rn _ _ _ _ _ [vI (s 26 1), vR 26, vR (42 + 4 * i)] _ _
      refine r_virt2 (A := [vR 26, vI (s 26 1)]) (r := []) (n := 2) F_48_56 o_48 il_1_71 rfl rfl rfl rfl (rw_39 ⟨hi, (l6 e2 e3)⟩).1 vy_53 (lay_le n_53 rfl) ?_
      refine sp_beLike (rw_39 ⟨hi, (l6 e2 e3)⟩).1 ty_26 (l7 e2 e3) (l8 e2 e3) (l9 e2 e3) ?_
      show Rn _ _ _ _ _ [] _ _
      refine r_iinc (m := 2) (e := (i + 1)) (L' := [some (vR 38), some (vR 23), some (vI (i + 1)), some (vR 26)]) F_48_59 rfl rfl rfl rfl ?_
      refine r_goto (t := 31) F_48_62 rfl ?_
      exact (l10 e2 e3)
    · intro e4
      replace e4 : i < 6 := (Int.not_le.mp e4)
      refine r_ldI_n (m := 1) F_41_14 rfl ?_
      refine r_goto (t := 19) F_41_15 rfl ?_
      refine r_aald F_41_19 ty_24 (by decide) hi (lt_ln ln_24 e4) (rw_24 ⟨hi, e4⟩).2 ?_
      refine r_areturn F_41_20 rob_41 ?_
      show Rn _ _ _ _ _ [vR (26 + 2 * i)] _ _
      refine r_stR_n (m := 3) (L' := [some (vR 38), some (vR 23), some (vI i), some (vR (26 + 2 * i))]) F_48_44 rfl rfl ?_
      refine r_ldR_n (m := 0) F_48_45 rfl ?_
      refine r_getR (J := 0) F_48_46 o_48 fl_1_11 ty_38 (by decide) rfl (kd2 kd_38_0 (by decide)) (kd9 kd_38_0 (by decide)) rf_38_0 ?_
      refine r_ldI_n (m := 2) F_48_49 rfl ?_
      refine r_aald F_48_50 ty_39 (by decide) hi (lt_ln ln_39 e4) (rw_39 ⟨hi, e4⟩).2 ?_
      refine r_ldR_n (m := 3) F_48_51 rfl ?_
      refine r_ldR_n (m := 3) F_48_52 rfl ?_
      refine r_virt2 (A := []) (r := [vR (26 + 2 * i), vR (42 + 4 * i)]) (n := 0) F_48_53 o_48 il_1_68 rfl rfl rfl rfl (rw_24 ⟨hi, e4⟩).1 vy_52 (lay_le n_52 rfl) ?_
      refine Cl_of n_52 rfl ?_
      show Rn _ _ _ _ [some (vR (26 + 2 * i))] [] _ _
      refine r_ldR_n (m := 0) F_52_0 rfl ?_
      refine r_getI (J := 1) (e := (s (26 + 2 * i) 1)) F_52_1 o_52 fl_0_15 (rw_24 ⟨hi, e4⟩).1 (by decide) rfl (gw (rw_24 ⟨hi, e4⟩).1).2.2.1 rfl ?_
      refine r_ireturn F_52_4 rt_52 ?_
      show Rn _ _ _ _ _ [vI (s (26 + 2 * i) 1), vR (26 + 2 * i), vR (42 + 4 * i)] _ _
      refine r_virt2 (A := [vR (26 + 2 * i), vI (s (26 + 2 * i) 1)]) (r := []) (n := 2) F_48_56 o_48 il_1_71 rfl rfl rfl rfl (rw_39 ⟨hi, e4⟩).1 vy_53 (lay_le n_53 rfl) ?_
      refine sp_beLike (rw_39 ⟨hi, e4⟩).1 (rw_24 ⟨hi, e4⟩).1 (l11 e2 e4) (l12 e2 e4) (l13 e2 e4) ?_
      show Rn _ _ _ _ _ [] _ _
      refine r_iinc (m := 2) (e := (i + 1)) (L' := [some (vR 38), some (vR 23), some (vI (i + 1)), some (vR (26 + 2 * i))]) F_48_59 rfl rfl rfl rfl ?_
      refine r_goto (t := 31) F_48_62 rfl ?_
      exact (l14 e2 e4)
