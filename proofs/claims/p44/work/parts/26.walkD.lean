/-! walks: guests, shelves -/
theorem n_59 : m_n 59 = 4 := by decide +kernel
theorem F_59_0 : F 59 0 (.aload_n 0) 1 := ⟨1, by decide +kernel, rfl, rfl⟩
theorem F_59_1 : F 59 1 (.iload_n 1) 2 := ⟨1, by decide +kernel, rfl, rfl⟩
theorem F_59_2 : F 59 2 (.invokevirtual 26) 5 := ⟨3, by decide +kernel, rfl, rfl⟩
theorem o_59 : m_o 59 = 0 := by decide +kernel
theorem F_59_5 : F 59 5 (.istore_n 3) 6 := ⟨1, by decide +kernel, rfl, rfl⟩
theorem F_59_6 : F 59 6 (.aload_n 0) 7 := ⟨1, by decide +kernel, rfl, rfl⟩
theorem F_59_7 : F 59 7 (.iload_n 1) 8 := ⟨1, by decide +kernel, rfl, rfl⟩
theorem F_59_8 : F 59 8 (.iload_n 3) 9 := ⟨1, by decide +kernel, rfl, rfl⟩
theorem F_59_9 : F 59 9 (.aload_n 0) 10 := ⟨1, by decide +kernel, rfl, rfl⟩
theorem F_59_10 : F 59 10 (.iload_n 1) 11 := ⟨1, by decide +kernel, rfl, rfl⟩
theorem F_59_11 : F 59 11 (.iload_n 2) 12 := ⟨1, by decide +kernel, rfl, rfl⟩
theorem F_59_12 : F 59 12 (.invokevirtual 55) 15 := ⟨3, by decide +kernel, rfl, rfl⟩
theorem il_0_55 : ilq 0 55 0 60 2 = true := by decide +kernel
theorem vy_60 : (m_cls 0).1 = (m_y 60).cls ∧ 0 < m_cl.length := by decide +kernel
theorem F_59_15 : F 59 15 (.iadd) 16 := ⟨1, by decide +kernel, rfl, rfl⟩
theorem F_59_16 : F 59 16 (.invokevirtual 58) 19 := ⟨3, by decide +kernel, rfl, rfl⟩
theorem il_0_58 : ilq 0 58 0 45 2 = true := by decide +kernel
theorem vy_45 : (m_cls 0).1 = (m_y 45).cls ∧ 0 < m_cl.length := by decide +kernel
theorem F_59_19 : F 59 19 (.iload_n 3) 20 := ⟨1, by decide +kernel, rfl, rfl⟩
theorem F_59_20 : F 59 20 (.ireturn) 21 := ⟨1, by decide +kernel, rfl, rfl⟩
theorem rt_59 : m_r 59 = (some .int) := by decide +kernel
theorem n_11 : m_n 11 = 5 := by decide +kernel
theorem F_11_0 : F 11 0 (.aload_n 0) 1 := ⟨1, by decide +kernel, rfl, rfl⟩
theorem F_11_1 : F 11 1 (.iload_n 1) 2 := ⟨1, by decide +kernel, rfl, rfl⟩
theorem F_11_2 : F 11 2 (.invokevirtual 32) 5 := ⟨3, by decide +kernel, rfl, rfl⟩
theorem ty_1 : ty 1 = 3 := by decide +kernel
theorem o_11 : m_o 11 = 3 := by decide +kernel
theorem il_3_32 : ilq 3 32 0 9 1 = true := by decide +kernel
theorem vy_9 : (m_cls 3).1 = (m_y 9).cls ∧ 3 < m_cl.length := by decide +kernel
theorem n_9 : m_n 9 = 2 := by decide +kernel
theorem F_9_0 : F 9 0 (.iload_n 1) 1 := ⟨1, by decide +kernel, rfl, rfl⟩
theorem F_9_1 : F 9 1 (.ifCond .lt 16) 4 := ⟨3, by decide +kernel, rfl, rfl⟩
theorem F_9_4 : F 9 4 (.iload_n 1) 5 := ⟨1, by decide +kernel, rfl, rfl⟩
theorem F_9_5 : F 9 5 (.aload_n 0) 6 := ⟨1, by decide +kernel, rfl, rfl⟩
theorem F_9_6 : F 9 6 (.getfield 19) 9 := ⟨3, by decide +kernel, rfl, rfl⟩
theorem fl_3_19 : m_fl.lookup (3, 19) = some (3, 0, 1028) := by decide +kernel
theorem kd_1_0 : kd 1 0 = 4 := by decide +kernel
theorem o_9 : m_o 9 = 3 := by decide +kernel
theorem rf_1_0 : rf 1 0 = 2 := by decide +kernel
theorem F_9_9 : F 9 9 (.arraylength) 10 := ⟨1, by decide +kernel, rfl, rfl⟩
theorem ln_2 : ln 2 = 6 := by decide +kernel
theorem ty_2 : ty 2 = 20 := by decide +kernel
theorem F_9_10 : F 9 10 (.if_icmp .ge 7) 13 := ⟨3, by decide +kernel, rfl, rfl⟩
theorem F_9_13 : F 9 13 (.iconst 1) 14 := ⟨1, by decide +kernel, rfl, rfl⟩
theorem F_9_14 : F 9 14 (.goto 4) 17 := ⟨3, by decide +kernel, rfl, rfl⟩
theorem F_9_18 : F 9 18 (.ireturn) 19 := ⟨1, by decide +kernel, rfl, rfl⟩
theorem rt_9 : m_r 9 = (some .boolean) := by decide +kernel
theorem F_11_5 : F 11 5 (.ifCond .eq 47) 8 := ⟨3, by decide +kernel, rfl, rfl⟩
theorem F_11_8 : F 11 8 (.iload_n 2) 9 := ⟨1, by decide +kernel, rfl, rfl⟩
theorem F_11_9 : F 11 9 (.ifCond .lt 43) 12 := ⟨3, by decide +kernel, rfl, rfl⟩
theorem F_11_12 : F 11 12 (.iload_n 2) 13 := ⟨1, by decide +kernel, rfl, rfl⟩
theorem F_11_13 : F 11 13 (.aload_n 0) 14 := ⟨1, by decide +kernel, rfl, rfl⟩
theorem F_11_14 : F 11 14 (.getfield 13) 17 := ⟨3, by decide +kernel, rfl, rfl⟩
theorem fl_3_13 : m_fl.lookup (3, 13) = some (3, 2, 1030) := by decide +kernel
theorem kd_1_2 : kd 1 2 = 0 := by decide +kernel
theorem F_11_17 : F 11 17 (.if_icmp .gt 35) 20 := ⟨3, by decide +kernel, rfl, rfl⟩
theorem F_11_52 : F 11 52 (.return_) 53 := ⟨1, by decide +kernel, rfl, rfl⟩
theorem rt_11 : m_r 11 = none := by decide +kernel
theorem F_11_20 : F 11 20 (.aload_n 0) 21 := ⟨1, by decide +kernel, rfl, rfl⟩
theorem F_11_21 : F 11 21 (.getfield 19) 24 := ⟨3, by decide +kernel, rfl, rfl⟩
theorem F_11_24 : F 11 24 (.iload_n 1) 25 := ⟨1, by decide +kernel, rfl, rfl⟩
theorem F_11_25 : F 11 25 (.iload_n 2) 26 := ⟨1, by decide +kernel, rfl, rfl⟩
theorem F_11_26 : F 11 26 (.iastore) 27 := ⟨1, by decide +kernel, rfl, rfl⟩
theorem F_11_27 : F 11 27 (.iconst 0) 28 := ⟨1, by decide +kernel, rfl, rfl⟩
theorem F_11_28 : F 11 28 (.istore 4) 30 := ⟨2, by decide +kernel, rfl, rfl⟩
theorem F_11_30 : F 11 30 (.iload 4) 32 := ⟨2, by decide +kernel, rfl, rfl⟩
theorem F_11_32 : F 11 32 (.iload_n 2) 33 := ⟨1, by decide +kernel, rfl, rfl⟩
theorem F_11_33 : F 11 33 (.if_icmp .ge 19) 36 := ⟨3, by decide +kernel, rfl, rfl⟩
theorem F_11_36 : F 11 36 (.aload_n 0) 37 := ⟨1, by decide +kernel, rfl, rfl⟩
theorem F_11_37 : F 11 37 (.getfield 25) 40 := ⟨3, by decide +kernel, rfl, rfl⟩
theorem fl_3_25 : m_fl.lookup (3, 25) = some (3, 1, 1029) := by decide +kernel
theorem kd_1_1 : kd 1 1 = 5 := by decide +kernel
theorem rf_1_1 : rf 1 1 = 3 := by decide +kernel
theorem F_11_40 : F 11 40 (.iload_n 1) 41 := ⟨1, by decide +kernel, rfl, rfl⟩
theorem F_11_41 : F 11 41 (.aaload) 42 := ⟨1, by decide +kernel, rfl, rfl⟩
theorem ln_3 : ln 3 = 6 := by decide +kernel
theorem ty_3 : ty 3 = 24 := by decide +kernel
theorem rw_3 : ∀ {i : Int}, 0 ≤ i ∧ i < 6 → ty (4 + i) = 20 ∧ ln (4 + i) = 40 ∧ rf 3 i = (4 + i) := fun {i} h => by rcases (show i = (0 : Int) ∨ i = (1 : Int) ∨ i = (2 : Int) ∨ i = (3 : Int) ∨ i = (4 : Int) ∨ i = (5 : Int) by omega) with rfl | rfl | rfl | rfl | rfl | rfl <;> decide +kernel
theorem F_11_42 : F 11 42 (.iload 4) 44 := ⟨2, by decide +kernel, rfl, rfl⟩
theorem F_11_44 : F 11 44 (.iload_n 3) 45 := ⟨1, by decide +kernel, rfl, rfl⟩
theorem F_11_45 : F 11 45 (.iastore) 46 := ⟨1, by decide +kernel, rfl, rfl⟩
theorem F_11_46 : F 11 46 (.iinc 4 1) 49 := ⟨3, by decide +kernel, rfl, rfl⟩
theorem F_11_49 : F 11 49 (.goto (-19)) 52 := ⟨3, by decide +kernel, rfl, rfl⟩
theorem ty_10 : ty 10 = 3 := by decide +kernel
theorem kd_10_0 : kd 10 0 = 13 := by decide +kernel
theorem rf_10_0 : rf 10 0 = 11 := by decide +kernel
theorem ln_11 : ln 11 = 4 := by decide +kernel
theorem ty_11 : ty 11 = 20 := by decide +kernel
theorem kd_10_2 : kd 10 2 = 0 := by decide +kernel
theorem kd_10_1 : kd 10 1 = 14 := by decide +kernel
theorem rf_10_1 : rf 10 1 = 12 := by decide +kernel
theorem ln_12 : ln 12 = 4 := by decide +kernel
theorem ty_12 : ty 12 = 24 := by decide +kernel
theorem rw_12 : ∀ {i : Int}, 0 ≤ i ∧ i < 4 → ty (13 + i) = 20 ∧ ln (13 + i) = 60 ∧ rf 12 i = (13 + i) := fun {i} h => by rcases (show i = (0 : Int) ∨ i = (1 : Int) ∨ i = (2 : Int) ∨ i = (3 : Int) by omega) with rfl | rfl | rfl | rfl <;> decide +kernel
theorem ty_17 : ty 17 = 3 := by decide +kernel
theorem kd_17_0 : kd 17 0 = 20 := by decide +kernel
theorem rf_17_0 : rf 17 0 = 18 := by decide +kernel
theorem ln_18 : ln 18 = 3 := by decide +kernel
theorem ty_18 : ty 18 = 20 := by decide +kernel
theorem kd_17_2 : kd 17 2 = 0 := by decide +kernel
theorem kd_17_1 : kd 17 1 = 21 := by decide +kernel
theorem rf_17_1 : rf 17 1 = 19 := by decide +kernel
theorem ln_19 : ln 19 = 3 := by decide +kernel
theorem ty_19 : ty 19 = 24 := by decide +kernel
theorem rw_19 : ∀ {i : Int}, 0 ≤ i ∧ i < 3 → ty (20 + i) = 20 ∧ ln (20 + i) = 40 ∧ rf 19 i = (20 + i) := fun {i} h => by rcases (show i = (0 : Int) ∨ i = (1 : Int) ∨ i = (2 : Int) by omega) with rfl | rfl | rfl <;> decide +kernel
theorem n_63 : m_n 63 = 2 := by decide +kernel
theorem F_63_0 : F 63 0 (.iconst 0) 1 := ⟨1, by decide +kernel, rfl, rfl⟩
theorem F_63_1 : F 63 1 (.istore_n 1) 2 := ⟨1, by decide +kernel, rfl, rfl⟩
theorem F_63_2 : F 63 2 (.iload_n 1) 3 := ⟨1, by decide +kernel, rfl, rfl⟩
theorem F_63_3 : F 63 3 (.aload_n 0) 4 := ⟨1, by decide +kernel, rfl, rfl⟩
theorem F_63_4 : F 63 4 (.getfield 19) 7 := ⟨3, by decide +kernel, rfl, rfl⟩
theorem o_63 : m_o 63 = 3 := by decide +kernel
theorem F_63_7 : F 63 7 (.arraylength) 8 := ⟨1, by decide +kernel, rfl, rfl⟩
theorem F_63_8 : F 63 8 (.if_icmp .ge 16) 11 := ⟨3, by decide +kernel, rfl, rfl⟩
theorem F_63_24 : F 63 24 (.return_) 25 := ⟨1, by decide +kernel, rfl, rfl⟩
theorem rt_63 : m_r 63 = none := by decide +kernel
theorem F_63_11 : F 63 11 (.aload_n 0) 12 := ⟨1, by decide +kernel, rfl, rfl⟩
theorem F_63_12 : F 63 12 (.getfield 19) 15 := ⟨3, by decide +kernel, rfl, rfl⟩
theorem F_63_15 : F 63 15 (.iload_n 1) 16 := ⟨1, by decide +kernel, rfl, rfl⟩
theorem F_63_16 : F 63 16 (.iconst (-1)) 17 := ⟨1, by decide +kernel, rfl, rfl⟩
theorem F_63_17 : F 63 17 (.iastore) 18 := ⟨1, by decide +kernel, rfl, rfl⟩
theorem F_63_18 : F 63 18 (.iinc 1 1) 21 := ⟨3, by decide +kernel, rfl, rfl⟩
theorem F_63_21 : F 63 21 (.goto (-19)) 24 := ⟨3, by decide +kernel, rfl, rfl⟩
theorem n_152 : m_n 152 = 3 := by decide +kernel
theorem F_152_0 : F 152 0 (.iconst 0) 1 := ⟨1, by decide +kernel, rfl, rfl⟩
theorem F_152_1 : F 152 1 (.istore_n 1) 2 := ⟨1, by decide +kernel, rfl, rfl⟩
theorem F_152_2 : F 152 2 (.iconst 0) 3 := ⟨1, by decide +kernel, rfl, rfl⟩
theorem F_152_3 : F 152 3 (.istore_n 2) 4 := ⟨1, by decide +kernel, rfl, rfl⟩
theorem F_152_4 : F 152 4 (.iload_n 2) 5 := ⟨1, by decide +kernel, rfl, rfl⟩
theorem F_152_5 : F 152 5 (.aload_n 0) 6 := ⟨1, by decide +kernel, rfl, rfl⟩
theorem F_152_6 : F 152 6 (.getfield 19) 9 := ⟨3, by decide +kernel, rfl, rfl⟩
theorem o_152 : m_o 152 = 3 := by decide +kernel
theorem F_152_9 : F 152 9 (.arraylength) 10 := ⟨1, by decide +kernel, rfl, rfl⟩
theorem F_152_10 : F 152 10 (.if_icmp .ge 25) 13 := ⟨3, by decide +kernel, rfl, rfl⟩
theorem F_152_35 : F 152 35 (.iload_n 1) 36 := ⟨1, by decide +kernel, rfl, rfl⟩
theorem F_152_36 : F 152 36 (.ireturn) 37 := ⟨1, by decide +kernel, rfl, rfl⟩
theorem rt_152 : m_r 152 = (some .int) := by decide +kernel
theorem F_152_13 : F 152 13 (.iload_n 1) 14 := ⟨1, by decide +kernel, rfl, rfl⟩
theorem F_152_14 : F 152 14 (.aload_n 0) 15 := ⟨1, by decide +kernel, rfl, rfl⟩
theorem F_152_15 : F 152 15 (.iload_n 2) 16 := ⟨1, by decide +kernel, rfl, rfl⟩
theorem F_152_16 : F 152 16 (.invokevirtual 36) 19 := ⟨3, by decide +kernel, rfl, rfl⟩
theorem il_3_36 : ilq 3 36 0 15 1 = true := by decide +kernel
theorem vy_15 : (m_cls 3).1 = (m_y 15).cls ∧ 3 < m_cl.length := by decide +kernel
theorem n_15 : m_n 15 = 2 := by decide +kernel
theorem F_15_0 : F 15 0 (.aload_n 0) 1 := ⟨1, by decide +kernel, rfl, rfl⟩
theorem F_15_1 : F 15 1 (.iload_n 1) 2 := ⟨1, by decide +kernel, rfl, rfl⟩
theorem F_15_2 : F 15 2 (.invokevirtual 28) 5 := ⟨3, by decide +kernel, rfl, rfl⟩
theorem o_15 : m_o 15 = 3 := by decide +kernel
theorem il_3_28 : ilq 3 28 0 16 1 = true := by decide +kernel
theorem vy_16 : (m_cls 3).1 = (m_y 16).cls ∧ 3 < m_cl.length := by decide +kernel
theorem n_16 : m_n 16 = 2 := by decide +kernel
theorem F_16_0 : F 16 0 (.aload_n 0) 1 := ⟨1, by decide +kernel, rfl, rfl⟩
theorem F_16_1 : F 16 1 (.iload_n 1) 2 := ⟨1, by decide +kernel, rfl, rfl⟩
theorem F_16_2 : F 16 2 (.invokevirtual 32) 5 := ⟨3, by decide +kernel, rfl, rfl⟩
theorem o_16 : m_o 16 = 3 := by decide +kernel
theorem F_16_5 : F 16 5 (.ifCond .eq 12) 8 := ⟨3, by decide +kernel, rfl, rfl⟩
theorem F_16_8 : F 16 8 (.aload_n 0) 9 := ⟨1, by decide +kernel, rfl, rfl⟩
theorem F_16_9 : F 16 9 (.getfield 19) 12 := ⟨3, by decide +kernel, rfl, rfl⟩
theorem F_16_12 : F 16 12 (.iload_n 1) 13 := ⟨1, by decide +kernel, rfl, rfl⟩
theorem F_16_13 : F 16 13 (.iaload) 14 := ⟨1, by decide +kernel, rfl, rfl⟩
theorem F_16_14 : F 16 14 (.goto 4) 17 := ⟨3, by decide +kernel, rfl, rfl⟩
theorem F_16_18 : F 16 18 (.ireturn) 19 := ⟨1, by decide +kernel, rfl, rfl⟩
theorem rt_16 : m_r 16 = (some .int) := by decide +kernel
theorem F_15_5 : F 15 5 (.iconst (-1)) 6 := ⟨1, by decide +kernel, rfl, rfl⟩
theorem F_15_6 : F 15 6 (.if_icmp .eq 7) 9 := ⟨3, by decide +kernel, rfl, rfl⟩
theorem F_15_13 : F 15 13 (.iconst 0) 14 := ⟨1, by decide +kernel, rfl, rfl⟩
theorem F_15_14 : F 15 14 (.ireturn) 15 := ⟨1, by decide +kernel, rfl, rfl⟩
theorem rt_15 : m_r 15 = (some .boolean) := by decide +kernel
theorem F_152_19 : F 152 19 (.ifCond .eq 7) 22 := ⟨3, by decide +kernel, rfl, rfl⟩
theorem F_152_26 : F 152 26 (.iconst 0) 27 := ⟨1, by decide +kernel, rfl, rfl⟩
theorem F_152_27 : F 152 27 (.iadd) 28 := ⟨1, by decide +kernel, rfl, rfl⟩
theorem F_152_28 : F 152 28 (.istore_n 1) 29 := ⟨1, by decide +kernel, rfl, rfl⟩
theorem F_152_29 : F 152 29 (.iinc 2 1) 32 := ⟨3, by decide +kernel, rfl, rfl⟩
theorem F_152_32 : F 152 32 (.goto (-28)) 35 := ⟨3, by decide +kernel, rfl, rfl⟩
theorem F_15_9 : F 15 9 (.iconst 1) 10 := ⟨1, by decide +kernel, rfl, rfl⟩
theorem F_15_10 : F 15 10 (.goto 4) 13 := ⟨3, by decide +kernel, rfl, rfl⟩
theorem F_152_22 : F 152 22 (.iconst 1) 23 := ⟨1, by decide +kernel, rfl, rfl⟩
theorem F_152_23 : F 152 23 (.goto 4) 26 := ⟨3, by decide +kernel, rfl, rfl⟩
theorem t_X0_hears {X : m_X} {d : Nat} {s : m_St} {P : Option Value → m_St → Prop} {g a b : Int} (hg : ty g = 0) (h0 : 0 ≤ a) (h4 : a < 4)
    (l1 : inR a)
    (l2 : 0 ≤ (s g 1))
    (l3 : (s g 1) < 6)
    (l4 : gok s g)
    (l5 : inR ((s (g + 1) a) + (mv (s g 1) (s g 2) b a)))
    (l6 : P (some (vI (s (g + 1) a))) (wg s g a ((s (g + 1) a) + (mv (s g 1) (s g 2) b a))))
    : Cl X (d + 2) 59 [vR g, vI a, vI b] s P := by
  refine Cl_of n_59 rfl ?_
  show Rn _ _ _ _ [some (vR g), some (vI a), some (vI b), none] [] _ _
  refine r_ldR_n (m := 0) F_59_0 rfl ?_
  refine r_ldI_n (m := 1) F_59_1 rfl ?_
  refine r_virt2 (A := [vI a]) (r := []) (n := 1) F_59_2 o_59 il_0_26 rfl rfl rfl rfl hg vy_54 (lay_le n_54 rfl) ?_
  refine Cl_of n_54 rfl ?_
  show Rn _ _ _ _ [some (vR g), some (vI a)] [] _ _
  refine r_ldI_n (m := 1) F_54_0 rfl ?_
  refine r_stat2 (A := [vI a]) (r := []) (n := 1) F_54_1 o_54 il_0_33 (by decide) rfl rfl rfl rfl (lay_le n_46 rfl) ?_
  refine Cl_of n_46 rfl ?_
  show Rn _ _ _ _ [some (vI a)] [] _ _
  refine r_ldI_n (m := 0) F_46_0 rfl ?_
  refine r_ifF (t := 13) F_46_1 rfl l1 (Int.not_lt.mpr h0) ?_
  refine r_ldI_n (m := 0) F_46_4 rfl ?_
  refine r_iconst F_46_5 ?_
  refine r_icmpF (t := 13) F_46_6 rfl l1 (by decide) (Int.not_le.mpr h4) ?_
  refine r_iconst F_46_9 ?_
  refine r_goto (t := 14) F_46_10 rfl ?_
  refine r_zreturn F_46_14 rt_46 (Or.inr rfl) ?_
  show Rn _ _ _ _ _ [vI 1] _ _
  refine r_ifF (t := 16) F_54_4 rfl (by decide) (by show ¬ ((1 : Int) = 0); decide) ?_
  refine r_ldR_n (m := 0) F_54_7 rfl ?_
  refine r_getR (J := 0) F_54_8 o_54 fl_0_9 hg (by decide) rfl (gw2 hg).1 (gw2 hg).2 (gw hg).2.2.2.2.2.2.1 ?_
  refine r_ldI_n (m := 1) F_54_11 rfl ?_
  refine r_iald (e := (s (g + 1) a)) F_54_12 (gw hg).2.2.2.2.1 h0 (lt_ln (gw hg).2.2.2.2.2.1 h4) rfl ?_
  refine r_goto (t := 17) F_54_13 rfl ?_
  refine r_ireturn F_54_17 rt_54 ?_
  show Rn _ _ _ _ _ [vI (s (g + 1) a)] _ _
  refine r_stI_n (m := 3) (L' := [some (vR g), some (vI a), some (vI b), some (vI (s (g + 1) a))]) F_59_5 rfl rfl ?_
  refine r_ldR_n (m := 0) F_59_6 rfl ?_
  refine r_ldI_n (m := 1) F_59_7 rfl ?_
  refine r_ldI_n (m := 3) F_59_8 rfl ?_
  refine r_ldR_n (m := 0) F_59_9 rfl ?_
  refine r_ldI_n (m := 1) F_59_10 rfl ?_
  refine r_ldI_n (m := 2) F_59_11 rfl ?_
  refine r_virt2 (A := [vI a, vI b]) (r := [vI (s (g + 1) a), vI a, vR g]) (n := 2) F_59_12 o_59 il_0_55 rfl rfl rfl rfl hg vy_60 (lay_le n_60 rfl) ?_
  refine sp_moves hg l2 l3 ?_
  show Rn _ _ _ _ _ [vI (mv (s g 1) (s g 2) b a), vI (s (g + 1) a), vI a, vR g] _ _
  refine r_iadd F_59_15 rfl ?_
  refine r_virt2 (A := [vI a, vI ((s (g + 1) a) + (mv (s g 1) (s g 2) b a))]) (r := []) (n := 2) F_59_16 o_59 il_0_58 rfl rfl rfl rfl hg vy_45 (lay_le n_45 rfl) ?_
  refine sp_weigh hg l4 h0 h4 l5 ?_
  show Rn _ _ _ _ _ [] _ _
  refine r_ldI_n (m := 3) F_59_19 rfl ?_
  refine r_ireturn F_59_20 rt_59 ?_
  exact l6
theorem t_make1 {X : m_X} {d : Nat} {s : m_St} {P : Option Value → m_St → Prop} {r n f : Int} (h0 : 0 ≤ r) (h6 : r < 6) (hn : 0 ≤ n)
    (l1 : inR r)
    (l2 : inR n)
    (l3 : inR (s 1 2))
    (l4 : (s 1 2) < n → P none s)
    (l5 : n ≤ (s 1 2) → Rn X (d + 1) 11 30 [some (vR 1), some (vI r), some (vI n), some (vI f), some (vI 0)] [] (m_upd s 2 r n) P)
    : Cl X (d + 1) 11 [vR 1, vI r, vI n, vI f] s P := by
  refine Cl_of n_11 rfl ?_
  show Rn _ _ _ _ [some (vR 1), some (vI r), some (vI n), some (vI f), none] [] _ _
  refine r_ldR_n (m := 0) F_11_0 rfl ?_
  refine r_ldI_n (m := 1) F_11_1 rfl ?_
  refine r_virt2 (A := [vI r]) (r := []) (n := 1) F_11_2 o_11 il_3_32 rfl rfl rfl rfl ty_1 vy_9 (lay_le n_9 rfl) ?_
  refine Cl_of n_9 rfl ?_
  show Rn _ _ _ _ [some (vR 1), some (vI r)] [] _ _
  refine r_ldI_n (m := 1) F_9_0 rfl ?_
  refine r_ifF (t := 17) F_9_1 rfl l1 (Int.not_lt.mpr h0) ?_
  refine r_ldI_n (m := 1) F_9_4 rfl ?_
  refine r_ldR_n (m := 0) F_9_5 rfl ?_
  refine r_getR (J := 0) F_9_6 o_9 fl_3_19 ty_1 (by decide) rfl (kd2 kd_1_0 (by decide)) (kd9 kd_1_0 (by decide)) rf_1_0 ?_
  refine r_alen F_9_9 ty_2 (by decide) ln_2 ?_
  refine r_icmpF (t := 17) F_9_10 rfl l1 (by decide) (Int.not_le.mpr h6) ?_
  refine r_iconst F_9_13 ?_
  refine r_goto (t := 18) F_9_14 rfl ?_
  refine r_zreturn F_9_18 rt_9 (Or.inr rfl) ?_
  show Rn _ _ _ _ _ [vI 1] _ _
  refine r_ifF (t := 52) F_11_5 rfl (by decide) (by show ¬ ((1 : Int) = 0); decide) ?_
  refine r_ldI_n (m := 2) F_11_8 rfl ?_
  refine r_ifF (t := 52) F_11_9 rfl l2 (Int.not_lt.mpr hn) ?_
  refine r_ldI_n (m := 2) F_11_12 rfl ?_
  refine r_ldR_n (m := 0) F_11_13 rfl ?_
  refine r_getI (J := 2) (e := (s 1 2)) F_11_14 o_11 fl_3_13 ty_1 (by decide) rfl kd_1_2 rfl ?_
  refine r_icmp (t := 52) F_11_17 rfl l2 l3 ?_ ?_
  · intro e1
    replace e1 : (s 1 2) < n := e1
    refine r_return F_11_52 rt_11 ?_
    exact (l4 e1)
  · intro e2
    replace e2 : n ≤ (s 1 2) := (Int.not_lt.mp e2)
    refine r_ldR_n (m := 0) F_11_20 rfl ?_
    refine r_getR (J := 0) F_11_21 o_11 fl_3_19 ty_1 (by decide) rfl (kd2 kd_1_0 (by decide)) (kd9 kd_1_0 (by decide)) rf_1_0 ?_
    refine r_ldI_n (m := 1) F_11_24 rfl ?_
    refine r_ldI_n (m := 2) F_11_25 rfl ?_
    refine r_iast F_11_26 ty_2 h0 (lt_ln ln_2 h6) ?_
    refine r_iconst F_11_27 ?_
    refine r_stI (m := 4) (L' := [some (vR 1), some (vI r), some (vI n), some (vI f), some (vI 0)]) F_11_28 rfl rfl ?_
    exact (l5 e2)
theorem t_make1_30 {X : m_X} {d : Nat} {s : m_St} {P : Option Value → m_St → Prop} {r n f i : Int} (h0 : 0 ≤ r) (h6 : r < 6) (hi : 0 ≤ i)
    (l1 : inR i)
    (l2 : inR n)
    (l3 : n ≤ i → P none s)
    (l4 : i < n → i < 40)
    (l5 : i < n → Rn X (d + 1) 11 30 [some (vR 1), some (vI r), some (vI n), some (vI f), some (vI (i + 1))] [] (m_upd s (4 + r) i f) P)
    : Rn X (d + 1) 11 30 [some (vR 1), some (vI r), some (vI n), some (vI f), some (vI i)] [] s P := by
  refine r_ldI (m := 4) F_11_30 rfl ?_
  refine r_ldI_n (m := 2) F_11_32 rfl ?_
  refine r_icmp (t := 52) F_11_33 rfl l1 l2 ?_ ?_
  · intro e1
    replace e1 : n ≤ i := e1
    refine r_return F_11_52 rt_11 ?_
    exact (l3 e1)
  · intro e2
    replace e2 : i < n := (Int.not_le.mp e2)
    refine r_ldR_n (m := 0) F_11_36 rfl ?_
    refine r_getR (J := 1) F_11_37 o_11 fl_3_25 ty_1 (by decide) rfl (kd2 kd_1_1 (by decide)) (kd9 kd_1_1 (by decide)) rf_1_1 ?_
    refine r_ldI_n (m := 1) F_11_40 rfl ?_
    refine r_aald F_11_41 ty_3 (by decide) h0 (lt_ln ln_3 h6) (rw_3 ⟨h0, h6⟩).2.2 ?_
    refine r_ldI (m := 4) F_11_42 rfl ?_
    refine r_ldI_n (m := 3) F_11_44 rfl ?_
    refine r_iast F_11_45 (rw_3 ⟨h0, h6⟩).1 hi (lt_ln (rw_3 ⟨h0, h6⟩).2.1 (l4 e2)) ?_
    refine r_iinc (m := 4) (e := (i + 1)) (L' := [some (vR 1), some (vI r), some (vI n), some (vI f), some (vI (i + 1))]) F_11_46 rfl rfl rfl rfl ?_
    refine r_goto (t := 30) F_11_49 rfl ?_
    exact (l5 e2)
theorem t_make10 {X : m_X} {d : Nat} {s : m_St} {P : Option Value → m_St → Prop} {r n f : Int} (h0 : 0 ≤ r) (h6 : r < 4) (hn : 0 ≤ n)
    (l1 : inR r)
    (l2 : inR n)
    (l3 : inR (s 10 2))
    (l4 : (s 10 2) < n → P none s)
    (l5 : n ≤ (s 10 2) → Rn X (d + 1) 11 30 [some (vR 10), some (vI r), some (vI n), some (vI f), some (vI 0)] [] (m_upd s 11 r n) P)
    : Cl X (d + 1) 11 [vR 10, vI r, vI n, vI f] s P := by
  refine Cl_of n_11 rfl ?_
  show Rn _ _ _ _ [some (vR 10), some (vI r), some (vI n), some (vI f), none] [] _ _
  refine r_ldR_n (m := 0) F_11_0 rfl ?_
  refine r_ldI_n (m := 1) F_11_1 rfl ?_
  refine r_virt2 (A := [vI r]) (r := []) (n := 1) F_11_2 o_11 il_3_32 rfl rfl rfl rfl ty_10 vy_9 (lay_le n_9 rfl) ?_
  refine Cl_of n_9 rfl ?_
  show Rn _ _ _ _ [some (vR 10), some (vI r)] [] _ _
  refine r_ldI_n (m := 1) F_9_0 rfl ?_
  refine r_ifF (t := 17) F_9_1 rfl l1 (Int.not_lt.mpr h0) ?_
  refine r_ldI_n (m := 1) F_9_4 rfl ?_
  refine r_ldR_n (m := 0) F_9_5 rfl ?_
  refine r_getR (J := 0) F_9_6 o_9 fl_3_19 ty_10 (by decide) rfl (kd2 kd_10_0 (by decide)) (kd9 kd_10_0 (by decide)) rf_10_0 ?_
  refine r_alen F_9_9 ty_11 (by decide) ln_11 ?_
  refine r_icmpF (t := 17) F_9_10 rfl l1 (by decide) (Int.not_le.mpr h6) ?_
  refine r_iconst F_9_13 ?_
  refine r_goto (t := 18) F_9_14 rfl ?_
  refine r_zreturn F_9_18 rt_9 (Or.inr rfl) ?_
  show Rn _ _ _ _ _ [vI 1] _ _
  refine r_ifF (t := 52) F_11_5 rfl (by decide) (by show ¬ ((1 : Int) = 0); decide) ?_
  refine r_ldI_n (m := 2) F_11_8 rfl ?_
  refine r_ifF (t := 52) F_11_9 rfl l2 (Int.not_lt.mpr hn) ?_
  refine r_ldI_n (m := 2) F_11_12 rfl ?_
  refine r_ldR_n (m := 0) F_11_13 rfl ?_
  refine r_getI (J := 2) (e := (s 10 2)) F_11_14 o_11 fl_3_13 ty_10 (by decide) rfl kd_10_2 rfl ?_
  refine r_icmp (t := 52) F_11_17 rfl l2 l3 ?_ ?_
  · intro e1
    replace e1 : (s 10 2) < n := e1
    refine r_return F_11_52 rt_11 ?_
    exact (l4 e1)
  · intro e2
    replace e2 : n ≤ (s 10 2) := (Int.not_lt.mp e2)
    refine r_ldR_n (m := 0) F_11_20 rfl ?_
    refine r_getR (J := 0) F_11_21 o_11 fl_3_19 ty_10 (by decide) rfl (kd2 kd_10_0 (by decide)) (kd9 kd_10_0 (by decide)) rf_10_0 ?_
    refine r_ldI_n (m := 1) F_11_24 rfl ?_
    refine r_ldI_n (m := 2) F_11_25 rfl ?_
    refine r_iast F_11_26 ty_11 h0 (lt_ln ln_11 h6) ?_
    refine r_iconst F_11_27 ?_
    refine r_stI (m := 4) (L' := [some (vR 10), some (vI r), some (vI n), some (vI f), some (vI 0)]) F_11_28 rfl rfl ?_
    exact (l5 e2)
theorem t_make10_30 {X : m_X} {d : Nat} {s : m_St} {P : Option Value → m_St → Prop} {r n f i : Int} (h0 : 0 ≤ r) (h6 : r < 4) (hi : 0 ≤ i)
    (l1 : inR i)
    (l2 : inR n)
    (l3 : n ≤ i → P none s)
    (l4 : i < n → i < 60)
    (l5 : i < n → Rn X (d + 1) 11 30 [some (vR 10), some (vI r), some (vI n), some (vI f), some (vI (i + 1))] [] (m_upd s (13 + r) i f) P)
    : Rn X (d + 1) 11 30 [some (vR 10), some (vI r), some (vI n), some (vI f), some (vI i)] [] s P := by
  refine r_ldI (m := 4) F_11_30 rfl ?_
  refine r_ldI_n (m := 2) F_11_32 rfl ?_
  refine r_icmp (t := 52) F_11_33 rfl l1 l2 ?_ ?_
  · intro e1
    replace e1 : n ≤ i := e1
    refine r_return F_11_52 rt_11 ?_
    exact (l3 e1)
  · intro e2
    replace e2 : i < n := (Int.not_le.mp e2)
    refine r_ldR_n (m := 0) F_11_36 rfl ?_
    refine r_getR (J := 1) F_11_37 o_11 fl_3_25 ty_10 (by decide) rfl (kd2 kd_10_1 (by decide)) (kd9 kd_10_1 (by decide)) rf_10_1 ?_
    refine r_ldI_n (m := 1) F_11_40 rfl ?_
    refine r_aald F_11_41 ty_12 (by decide) h0 (lt_ln ln_12 h6) (rw_12 ⟨h0, h6⟩).2.2 ?_
    refine r_ldI (m := 4) F_11_42 rfl ?_
    refine r_ldI_n (m := 3) F_11_44 rfl ?_
    refine r_iast F_11_45 (rw_12 ⟨h0, h6⟩).1 hi (lt_ln (rw_12 ⟨h0, h6⟩).2.1 (l4 e2)) ?_
    refine r_iinc (m := 4) (e := (i + 1)) (L' := [some (vR 10), some (vI r), some (vI n), some (vI f), some (vI (i + 1))]) F_11_46 rfl rfl rfl rfl ?_
    refine r_goto (t := 30) F_11_49 rfl ?_
    exact (l5 e2)
theorem t_make17 {X : m_X} {d : Nat} {s : m_St} {P : Option Value → m_St → Prop} {r n f : Int} (h0 : 0 ≤ r) (h6 : r < 3) (hn : 0 ≤ n)
    (l1 : inR r)
    (l2 : inR n)
    (l3 : inR (s 17 2))
    (l4 : (s 17 2) < n → P none s)
    (l5 : n ≤ (s 17 2) → Rn X (d + 1) 11 30 [some (vR 17), some (vI r), some (vI n), some (vI f), some (vI 0)] [] (m_upd s 18 r n) P)
    : Cl X (d + 1) 11 [vR 17, vI r, vI n, vI f] s P := by
  refine Cl_of n_11 rfl ?_
  show Rn _ _ _ _ [some (vR 17), some (vI r), some (vI n), some (vI f), none] [] _ _
  refine r_ldR_n (m := 0) F_11_0 rfl ?_
  refine r_ldI_n (m := 1) F_11_1 rfl ?_
  refine r_virt2 (A := [vI r]) (r := []) (n := 1) F_11_2 o_11 il_3_32 rfl rfl rfl rfl ty_17 vy_9 (lay_le n_9 rfl) ?_
  refine Cl_of n_9 rfl ?_
  show Rn _ _ _ _ [some (vR 17), some (vI r)] [] _ _
  refine r_ldI_n (m := 1) F_9_0 rfl ?_
  refine r_ifF (t := 17) F_9_1 rfl l1 (Int.not_lt.mpr h0) ?_
  refine r_ldI_n (m := 1) F_9_4 rfl ?_
  refine r_ldR_n (m := 0) F_9_5 rfl ?_
  refine r_getR (J := 0) F_9_6 o_9 fl_3_19 ty_17 (by decide) rfl (kd2 kd_17_0 (by decide)) (kd9 kd_17_0 (by decide)) rf_17_0 ?_
  refine r_alen F_9_9 ty_18 (by decide) ln_18 ?_
  refine r_icmpF (t := 17) F_9_10 rfl l1 (by decide) (Int.not_le.mpr h6) ?_
  refine r_iconst F_9_13 ?_
  refine r_goto (t := 18) F_9_14 rfl ?_
  refine r_zreturn F_9_18 rt_9 (Or.inr rfl) ?_
  show Rn _ _ _ _ _ [vI 1] _ _
  refine r_ifF (t := 52) F_11_5 rfl (by decide) (by show ¬ ((1 : Int) = 0); decide) ?_
  refine r_ldI_n (m := 2) F_11_8 rfl ?_
  refine r_ifF (t := 52) F_11_9 rfl l2 (Int.not_lt.mpr hn) ?_
  refine r_ldI_n (m := 2) F_11_12 rfl ?_
  refine r_ldR_n (m := 0) F_11_13 rfl ?_
  refine r_getI (J := 2) (e := (s 17 2)) F_11_14 o_11 fl_3_13 ty_17 (by decide) rfl kd_17_2 rfl ?_
  refine r_icmp (t := 52) F_11_17 rfl l2 l3 ?_ ?_
  · intro e1
    replace e1 : (s 17 2) < n := e1
    refine r_return F_11_52 rt_11 ?_
    exact (l4 e1)
  · intro e2
    replace e2 : n ≤ (s 17 2) := (Int.not_lt.mp e2)
    refine r_ldR_n (m := 0) F_11_20 rfl ?_
    refine r_getR (J := 0) F_11_21 o_11 fl_3_19 ty_17 (by decide) rfl (kd2 kd_17_0 (by decide)) (kd9 kd_17_0 (by decide)) rf_17_0 ?_
    refine r_ldI_n (m := 1) F_11_24 rfl ?_
    refine r_ldI_n (m := 2) F_11_25 rfl ?_
    refine r_iast F_11_26 ty_18 h0 (lt_ln ln_18 h6) ?_
    refine r_iconst F_11_27 ?_
    refine r_stI (m := 4) (L' := [some (vR 17), some (vI r), some (vI n), some (vI f), some (vI 0)]) F_11_28 rfl rfl ?_
    exact (l5 e2)
theorem t_make17_30 {X : m_X} {d : Nat} {s : m_St} {P : Option Value → m_St → Prop} {r n f i : Int} (h0 : 0 ≤ r) (h6 : r < 3) (hi : 0 ≤ i)
    (l1 : inR i)
    (l2 : inR n)
    (l3 : n ≤ i → P none s)
    (l4 : i < n → i < 40)
    (l5 : i < n → Rn X (d + 1) 11 30 [some (vR 17), some (vI r), some (vI n), some (vI f), some (vI (i + 1))] [] (m_upd s (20 + r) i f) P)
    : Rn X (d + 1) 11 30 [some (vR 17), some (vI r), some (vI n), some (vI f), some (vI i)] [] s P := by
  refine r_ldI (m := 4) F_11_30 rfl ?_
  refine r_ldI_n (m := 2) F_11_32 rfl ?_
  refine r_icmp (t := 52) F_11_33 rfl l1 l2 ?_ ?_
  · intro e1
    replace e1 : n ≤ i := e1
    refine r_return F_11_52 rt_11 ?_
    exact (l3 e1)
  · intro e2
    replace e2 : i < n := (Int.not_le.mp e2)
    refine r_ldR_n (m := 0) F_11_36 rfl ?_
    refine r_getR (J := 1) F_11_37 o_11 fl_3_25 ty_17 (by decide) rfl (kd2 kd_17_1 (by decide)) (kd9 kd_17_1 (by decide)) rf_17_1 ?_
    refine r_ldI_n (m := 1) F_11_40 rfl ?_
    refine r_aald F_11_41 ty_19 (by decide) h0 (lt_ln ln_19 h6) (rw_19 ⟨h0, h6⟩).2.2 ?_
    refine r_ldI (m := 4) F_11_42 rfl ?_
    refine r_ldI_n (m := 3) F_11_44 rfl ?_
    refine r_iast F_11_45 (rw_19 ⟨h0, h6⟩).1 hi (lt_ln (rw_19 ⟨h0, h6⟩).2.1 (l4 e2)) ?_
    refine r_iinc (m := 4) (e := (i + 1)) (L' := [some (vR 17), some (vI r), some (vI n), some (vI f), some (vI (i + 1))]) F_11_46 rfl rfl rfl rfl ?_
    refine r_goto (t := 30) F_11_49 rfl ?_
    exact (l5 e2)
theorem t_dropAll17 {X : m_X} {d : Nat} {s : m_St} {P : Option Value → m_St → Prop}
    (l1 : Rn X d 63 2 [some (vR 17), some (vI 0)] [] s P)
    : Cl X d 63 [vR 17] s P := by
  refine Cl_of n_63 rfl ?_
  show Rn _ _ _ _ [some (vR 17), none] [] _ _
  refine r_iconst F_63_0 ?_
  refine r_stI_n (m := 1) (L' := [some (vR 17), some (vI 0)]) F_63_1 rfl rfl ?_
  exact l1
theorem t_dropAll17_2 {X : m_X} {d : Nat} {s : m_St} {P : Option Value → m_St → Prop} {r : Int}
    (l1 : inR r)
    (l2 : 3 ≤ r → P none s)
    (l3 : r < 3 → 0 ≤ r)
    (l4 : r < 3 → Rn X d 63 2 [some (vR 17), some (vI (r + 1))] [] (m_upd s 18 r (-1)) P)
    : Rn X d 63 2 [some (vR 17), some (vI r)] [] s P := by
  refine r_ldI_n (m := 1) F_63_2 rfl ?_
  refine r_ldR_n (m := 0) F_63_3 rfl ?_
  refine r_getR (J := 0) F_63_4 o_63 fl_3_19 ty_17 (by decide) rfl (kd2 kd_17_0 (by decide)) (kd9 kd_17_0 (by decide)) rf_17_0 ?_
  refine r_alen F_63_7 ty_18 (by decide) ln_18 ?_
  refine r_icmp (t := 24) F_63_8 rfl l1 (by decide) ?_ ?_
  · intro e1
    replace e1 : 3 ≤ r := e1
    refine r_return F_63_24 rt_63 ?_
    exact (l2 e1)
  · intro e2
    replace e2 : r < 3 := (Int.not_le.mp e2)
    refine r_ldR_n (m := 0) F_63_11 rfl ?_
    refine r_getR (J := 0) F_63_12 o_63 fl_3_19 ty_17 (by decide) rfl (kd2 kd_17_0 (by decide)) (kd9 kd_17_0 (by decide)) rf_17_0 ?_
    refine r_ldI_n (m := 1) F_63_15 rfl ?_
    refine r_iconst F_63_16 ?_
    refine r_iast F_63_17 ty_18 (l3 e2) (lt_ln ln_18 e2) ?_
    refine r_iinc (m := 1) (e := (r + 1)) (L' := [some (vR 17), some (vI (r + 1))]) F_63_18 rfl rfl rfl rfl ?_
    refine r_goto (t := 2) F_63_21 rfl ?_
    exact (l4 e2)
theorem t_there1 {X : m_X} {d : Nat} {s : m_St} {P : Option Value → m_St → Prop}
    (l1 : Rn X (d + 3) 152 4 [some (vR 1), some (vI 0), some (vI 0)] [] s P)
    : Cl X (d + 3) 152 [vR 1] s P := by
  refine Cl_of n_152 rfl ?_
  show Rn _ _ _ _ [some (vR 1), none, none] [] _ _
  refine r_iconst F_152_0 ?_
  refine r_stI_n (m := 1) (L' := [some (vR 1), some (vI 0), none]) F_152_1 rfl rfl ?_
  refine r_iconst F_152_2 ?_
  refine r_stI_n (m := 2) (L' := [some (vR 1), some (vI 0), some (vI 0)]) F_152_3 rfl rfl ?_
  exact l1
theorem t_there1_4 {X : m_X} {d : Nat} {s : m_St} {P : Option Value → m_St → Prop} {n r : Int} (h0 : 0 ≤ r)
    (l1 : inR r)
    (l2 : 6 ≤ r → P (some (vI n)) s)
    (l3 : r < 6 → inR (s 2 r))
    (l4 : r < 6 → (s 2 r) = (-1) → Rn X (d + 3) 152 4 [some (vR 1), some (vI n), some (vI (r + 1))] [] s P)
    (l5 : r < 6 → ¬ (s 2 r) = (-1) → Rn X (d + 3) 152 4 [some (vR 1), some (vI (n + 1)), some (vI (r + 1))] [] s P)
    : Rn X (d + 3) 152 4 [some (vR 1), some (vI n), some (vI r)] [] s P := by
  refine r_ldI_n (m := 2) F_152_4 rfl ?_
  refine r_ldR_n (m := 0) F_152_5 rfl ?_
  refine r_getR (J := 0) F_152_6 o_152 fl_3_19 ty_1 (by decide) rfl (kd2 kd_1_0 (by decide)) (kd9 kd_1_0 (by decide)) rf_1_0 ?_
  refine r_alen F_152_9 ty_2 (by decide) ln_2 ?_
  refine r_icmp (t := 35) F_152_10 rfl l1 (by decide) ?_ ?_
  · intro e1
    replace e1 : 6 ≤ r := e1
    refine r_ldI_n (m := 1) F_152_35 rfl ?_
    refine r_ireturn F_152_36 rt_152 ?_
    exact (l2 e1)
  · intro e2
    replace e2 : r < 6 := (Int.not_le.mp e2)
    refine r_ldI_n (m := 1) F_152_13 rfl ?_
    refine r_ldR_n (m := 0) F_152_14 rfl ?_
    refine r_ldI_n (m := 2) F_152_15 rfl ?_
    refine r_virt2 (A := [vI r]) (r := [vI n]) (n := 1) F_152_16 o_152 il_3_36 rfl rfl rfl rfl ty_1 vy_15 (lay_le n_15 rfl) ?_
    refine Cl_of n_15 rfl ?_
    show Rn _ _ _ _ [some (vR 1), some (vI r)] [] _ _
    refine r_ldR_n (m := 0) F_15_0 rfl ?_
    refine r_ldI_n (m := 1) F_15_1 rfl ?_
    refine r_virt2 (A := [vI r]) (r := []) (n := 1) F_15_2 o_15 il_3_28 rfl rfl rfl rfl ty_1 vy_16 (lay_le n_16 rfl) ?_
    refine Cl_of n_16 rfl ?_
    show Rn _ _ _ _ [some (vR 1), some (vI r)] [] _ _
    refine r_ldR_n (m := 0) F_16_0 rfl ?_
    refine r_ldI_n (m := 1) F_16_1 rfl ?_
    refine r_virt2 (A := [vI r]) (r := []) (n := 1) F_16_2 o_16 il_3_32 rfl rfl rfl rfl ty_1 vy_9 (lay_le n_9 rfl) ?_
    refine Cl_of n_9 rfl ?_
    show Rn _ _ _ _ [some (vR 1), some (vI r)] [] _ _
    refine r_ldI_n (m := 1) F_9_0 rfl ?_
    refine r_ifF (t := 17) F_9_1 rfl l1 (Int.not_lt.mpr h0) ?_
    refine r_ldI_n (m := 1) F_9_4 rfl ?_
    refine r_ldR_n (m := 0) F_9_5 rfl ?_
    refine r_getR (J := 0) F_9_6 o_9 fl_3_19 ty_1 (by decide) rfl (kd2 kd_1_0 (by decide)) (kd9 kd_1_0 (by decide)) rf_1_0 ?_
    refine r_alen F_9_9 ty_2 (by decide) ln_2 ?_
    refine r_icmpF (t := 17) F_9_10 rfl l1 (by decide) (Int.not_le.mpr e2) ?_
    refine r_iconst F_9_13 ?_
    refine r_goto (t := 18) F_9_14 rfl ?_
    refine r_zreturn F_9_18 rt_9 (Or.inr rfl) ?_
    show Rn _ _ _ _ _ [vI 1] _ _
    refine r_ifF (t := 17) F_16_5 rfl (by decide) (by show ¬ ((1 : Int) = 0); decide) ?_
    refine r_ldR_n (m := 0) F_16_8 rfl ?_
    refine r_getR (J := 0) F_16_9 o_16 fl_3_19 ty_1 (by decide) rfl (kd2 kd_1_0 (by decide)) (kd9 kd_1_0 (by decide)) rf_1_0 ?_
    refine r_ldI_n (m := 1) F_16_12 rfl ?_
    refine r_iald (e := (s 2 r)) F_16_13 ty_2 h0 (lt_ln ln_2 e2) rfl ?_
    refine r_goto (t := 18) F_16_14 rfl ?_
    refine r_ireturn F_16_18 rt_16 ?_
    show Rn _ _ _ _ _ [vI (s 2 r)] _ _
    refine r_iconst F_15_5 ?_
    refine r_icmp (t := 13) F_15_6 rfl (l3 e2) (by decide) ?_ ?_
    · intro e3
      replace e3 : (s 2 r) = (-1) := e3
      refine r_iconst F_15_13 ?_
      refine r_zreturn F_15_14 rt_15 (Or.inl rfl) ?_
      show Rn _ _ _ _ _ [vI 0, vI n] _ _
      refine r_ifT (t := 26) F_152_19 rfl (by decide) (by show (0 : Int) = 0; decide) ?_
      refine r_iconst F_152_26 ?_
      refine r_iadd (e := n) F_152_27 (Int.add_zero _) ?_
      refine r_stI_n (m := 1) (L' := [some (vR 1), some (vI n), some (vI r)]) F_152_28 rfl rfl ?_
      refine r_iinc (m := 2) (e := (r + 1)) (L' := [some (vR 1), some (vI n), some (vI (r + 1))]) F_152_29 rfl rfl rfl rfl ?_
      refine r_goto (t := 4) F_152_32 rfl ?_
      exact (l4 e2 e3)
    · intro e4
      replace e4 : ¬ (s 2 r) = (-1) := e4
      refine r_iconst F_15_9 ?_
      refine r_goto (t := 14) F_15_10 rfl ?_
      refine r_zreturn F_15_14 rt_15 (Or.inr rfl) ?_
      show Rn _ _ _ _ _ [vI 1, vI n] _ _
      refine r_ifF (t := 26) F_152_19 rfl (by decide) (by show ¬ ((1 : Int) = 0); decide) ?_
      refine r_iconst F_152_22 ?_
      refine r_goto (t := 27) F_152_23 rfl ?_
      refine r_iadd F_152_27 rfl ?_
      refine r_stI_n (m := 1) (L' := [some (vR 1), some (vI (n + 1)), some (vI r)]) F_152_28 rfl rfl ?_
      refine r_iinc (m := 2) (e := (r + 1)) (L' := [some (vR 1), some (vI (n + 1)), some (vI (r + 1))]) F_152_29 rfl rfl rfl rfl ?_
      refine r_goto (t := 4) F_152_32 rfl ?_
      exact (l5 e2 e4)
theorem t_there10 {X : m_X} {d : Nat} {s : m_St} {P : Option Value → m_St → Prop}
    (l1 : Rn X (d + 3) 152 4 [some (vR 10), some (vI 0), some (vI 0)] [] s P)
    : Cl X (d + 3) 152 [vR 10] s P := by
  refine Cl_of n_152 rfl ?_
  show Rn _ _ _ _ [some (vR 10), none, none] [] _ _
  refine r_iconst F_152_0 ?_
  refine r_stI_n (m := 1) (L' := [some (vR 10), some (vI 0), none]) F_152_1 rfl rfl ?_
  refine r_iconst F_152_2 ?_
  refine r_stI_n (m := 2) (L' := [some (vR 10), some (vI 0), some (vI 0)]) F_152_3 rfl rfl ?_
  exact l1
theorem t_there10_4 {X : m_X} {d : Nat} {s : m_St} {P : Option Value → m_St → Prop} {n r : Int} (h0 : 0 ≤ r)
    (l1 : inR r)
    (l2 : 4 ≤ r → P (some (vI n)) s)
    (l3 : r < 4 → inR (s 11 r))
    (l4 : r < 4 → (s 11 r) = (-1) → Rn X (d + 3) 152 4 [some (vR 10), some (vI n), some (vI (r + 1))] [] s P)
    (l5 : r < 4 → ¬ (s 11 r) = (-1) → Rn X (d + 3) 152 4 [some (vR 10), some (vI (n + 1)), some (vI (r + 1))] [] s P)
    : Rn X (d + 3) 152 4 [some (vR 10), some (vI n), some (vI r)] [] s P := by
  refine r_ldI_n (m := 2) F_152_4 rfl ?_
  refine r_ldR_n (m := 0) F_152_5 rfl ?_
  refine r_getR (J := 0) F_152_6 o_152 fl_3_19 ty_10 (by decide) rfl (kd2 kd_10_0 (by decide)) (kd9 kd_10_0 (by decide)) rf_10_0 ?_
  refine r_alen F_152_9 ty_11 (by decide) ln_11 ?_
  refine r_icmp (t := 35) F_152_10 rfl l1 (by decide) ?_ ?_
  · intro e1
    replace e1 : 4 ≤ r := e1
    refine r_ldI_n (m := 1) F_152_35 rfl ?_
    refine r_ireturn F_152_36 rt_152 ?_
    exact (l2 e1)
  · intro e2
    replace e2 : r < 4 := (Int.not_le.mp e2)
    refine r_ldI_n (m := 1) F_152_13 rfl ?_
    refine r_ldR_n (m := 0) F_152_14 rfl ?_
    refine r_ldI_n (m := 2) F_152_15 rfl ?_
    refine r_virt2 (A := [vI r]) (r := [vI n]) (n := 1) F_152_16 o_152 il_3_36 rfl rfl rfl rfl ty_10 vy_15 (lay_le n_15 rfl) ?_
    refine Cl_of n_15 rfl ?_
    show Rn _ _ _ _ [some (vR 10), some (vI r)] [] _ _
    refine r_ldR_n (m := 0) F_15_0 rfl ?_
    refine r_ldI_n (m := 1) F_15_1 rfl ?_
    refine r_virt2 (A := [vI r]) (r := []) (n := 1) F_15_2 o_15 il_3_28 rfl rfl rfl rfl ty_10 vy_16 (lay_le n_16 rfl) ?_
    refine Cl_of n_16 rfl ?_
    show Rn _ _ _ _ [some (vR 10), some (vI r)] [] _ _
    refine r_ldR_n (m := 0) F_16_0 rfl ?_
    refine r_ldI_n (m := 1) F_16_1 rfl ?_
    refine r_virt2 (A := [vI r]) (r := []) (n := 1) F_16_2 o_16 il_3_32 rfl rfl rfl rfl ty_10 vy_9 (lay_le n_9 rfl) ?_
    refine Cl_of n_9 rfl ?_
    show Rn _ _ _ _ [some (vR 10), some (vI r)] [] _ _
    refine r_ldI_n (m := 1) F_9_0 rfl ?_
    refine r_ifF (t := 17) F_9_1 rfl l1 (Int.not_lt.mpr h0) ?_
    refine r_ldI_n (m := 1) F_9_4 rfl ?_
    refine r_ldR_n (m := 0) F_9_5 rfl ?_
    refine r_getR (J := 0) F_9_6 o_9 fl_3_19 ty_10 (by decide) rfl (kd2 kd_10_0 (by decide)) (kd9 kd_10_0 (by decide)) rf_10_0 ?_
    refine r_alen F_9_9 ty_11 (by decide) ln_11 ?_
    refine r_icmpF (t := 17) F_9_10 rfl l1 (by decide) (Int.not_le.mpr e2) ?_
    refine r_iconst F_9_13 ?_
    refine r_goto (t := 18) F_9_14 rfl ?_
    refine r_zreturn F_9_18 rt_9 (Or.inr rfl) ?_
    show Rn _ _ _ _ _ [vI 1] _ _
    refine r_ifF (t := 17) F_16_5 rfl (by decide) (by show ¬ ((1 : Int) = 0); decide) ?_
    refine r_ldR_n (m := 0) F_16_8 rfl ?_
    refine r_getR (J := 0) F_16_9 o_16 fl_3_19 ty_10 (by decide) rfl (kd2 kd_10_0 (by decide)) (kd9 kd_10_0 (by decide)) rf_10_0 ?_
    refine r_ldI_n (m := 1) F_16_12 rfl ?_
    refine r_iald (e := (s 11 r)) F_16_13 ty_11 h0 (lt_ln ln_11 e2) rfl ?_
    refine r_goto (t := 18) F_16_14 rfl ?_
    refine r_ireturn F_16_18 rt_16 ?_
    show Rn _ _ _ _ _ [vI (s 11 r)] _ _
    refine r_iconst F_15_5 ?_
    refine r_icmp (t := 13) F_15_6 rfl (l3 e2) (by decide) ?_ ?_
    · intro e3
      replace e3 : (s 11 r) = (-1) := e3
      refine r_iconst F_15_13 ?_
      refine r_zreturn F_15_14 rt_15 (Or.inl rfl) ?_
      show Rn _ _ _ _ _ [vI 0, vI n] _ _
      refine r_ifT (t := 26) F_152_19 rfl (by decide) (by show (0 : Int) = 0; decide) ?_
      refine r_iconst F_152_26 ?_
      refine r_iadd (e := n) F_152_27 (Int.add_zero _) ?_
      refine r_stI_n (m := 1) (L' := [some (vR 10), some (vI n), some (vI r)]) F_152_28 rfl rfl ?_
      refine r_iinc (m := 2) (e := (r + 1)) (L' := [some (vR 10), some (vI n), some (vI (r + 1))]) F_152_29 rfl rfl rfl rfl ?_
      refine r_goto (t := 4) F_152_32 rfl ?_
      exact (l4 e2 e3)
    · intro e4
      replace e4 : ¬ (s 11 r) = (-1) := e4
      refine r_iconst F_15_9 ?_
      refine r_goto (t := 14) F_15_10 rfl ?_
      refine r_zreturn F_15_14 rt_15 (Or.inr rfl) ?_
      show Rn _ _ _ _ _ [vI 1, vI n] _ _
      refine r_ifF (t := 26) F_152_19 rfl (by decide) (by show ¬ ((1 : Int) = 0); decide) ?_
      refine r_iconst F_152_22 ?_
      refine r_goto (t := 27) F_152_23 rfl ?_
      refine r_iadd F_152_27 rfl ?_
      refine r_stI_n (m := 1) (L' := [some (vR 10), some (vI (n + 1)), some (vI r)]) F_152_28 rfl rfl ?_
      refine r_iinc (m := 2) (e := (r + 1)) (L' := [some (vR 10), some (vI (n + 1)), some (vI (r + 1))]) F_152_29 rfl rfl rfl rfl ?_
      refine r_goto (t := 4) F_152_32 rfl ?_
      exact (l5 e2 e4)
theorem t_there17 {X : m_X} {d : Nat} {s : m_St} {P : Option Value → m_St → Prop}
    (l1 : Rn X (d + 3) 152 4 [some (vR 17), some (vI 0), some (vI 0)] [] s P)
    : Cl X (d + 3) 152 [vR 17] s P := by
  refine Cl_of n_152 rfl ?_
  show Rn _ _ _ _ [some (vR 17), none, none] [] _ _
  refine r_iconst F_152_0 ?_
  refine r_stI_n (m := 1) (L' := [some (vR 17), some (vI 0), none]) F_152_1 rfl rfl ?_
  refine r_iconst F_152_2 ?_
  refine r_stI_n (m := 2) (L' := [some (vR 17), some (vI 0), some (vI 0)]) F_152_3 rfl rfl ?_
  exact l1
theorem t_there17_4 {X : m_X} {d : Nat} {s : m_St} {P : Option Value → m_St → Prop} {n r : Int} (h0 : 0 ≤ r)
    (l1 : inR r)
    (l2 : 3 ≤ r → P (some (vI n)) s)
    (l3 : r < 3 → inR (s 18 r))
    (l4 : r < 3 → (s 18 r) = (-1) → Rn X (d + 3) 152 4 [some (vR 17), some (vI n), some (vI (r + 1))] [] s P)
    (l5 : r < 3 → ¬ (s 18 r) = (-1) → Rn X (d + 3) 152 4 [some (vR 17), some (vI (n + 1)), some (vI (r + 1))] [] s P)
    : Rn X (d + 3) 152 4 [some (vR 17), some (vI n), some (vI r)] [] s P := by
  refine r_ldI_n (m := 2) F_152_4 rfl ?_
  refine r_ldR_n (m := 0) F_152_5 rfl ?_
  refine r_getR (J := 0) F_152_6 o_152 fl_3_19 ty_17 (by decide) rfl (kd2 kd_17_0 (by decide)) (kd9 kd_17_0 (by decide)) rf_17_0 ?_
  refine r_alen F_152_9 ty_18 (by decide) ln_18 ?_
  refine r_icmp (t := 35) F_152_10 rfl l1 (by decide) ?_ ?_
  · intro e1
    replace e1 : 3 ≤ r := e1
    refine r_ldI_n (m := 1) F_152_35 rfl ?_
    refine r_ireturn F_152_36 rt_152 ?_
    exact (l2 e1)
  · intro e2
    replace e2 : r < 3 := (Int.not_le.mp e2)
    refine r_ldI_n (m := 1) F_152_13 rfl ?_
    refine r_ldR_n (m := 0) F_152_14 rfl ?_
    refine r_ldI_n (m := 2) F_152_15 rfl ?_
    refine r_virt2 (A := [vI r]) (r := [vI n]) (n := 1) F_152_16 o_152 il_3_36 rfl rfl rfl rfl ty_17 vy_15 (lay_le n_15 rfl) ?_
    refine Cl_of n_15 rfl ?_
    show Rn _ _ _ _ [some (vR 17), some (vI r)] [] _ _
    refine r_ldR_n (m := 0) F_15_0 rfl ?_
    refine r_ldI_n (m := 1) F_15_1 rfl ?_
    refine r_virt2 (A := [vI r]) (r := []) (n := 1) F_15_2 o_15 il_3_28 rfl rfl rfl rfl ty_17 vy_16 (lay_le n_16 rfl) ?_
    refine Cl_of n_16 rfl ?_
    show Rn _ _ _ _ [some (vR 17), some (vI r)] [] _ _
    refine r_ldR_n (m := 0) F_16_0 rfl ?_
    refine r_ldI_n (m := 1) F_16_1 rfl ?_
    refine r_virt2 (A := [vI r]) (r := []) (n := 1) F_16_2 o_16 il_3_32 rfl rfl rfl rfl ty_17 vy_9 (lay_le n_9 rfl) ?_
    refine Cl_of n_9 rfl ?_
    show Rn _ _ _ _ [some (vR 17), some (vI r)] [] _ _
    refine r_ldI_n (m := 1) F_9_0 rfl ?_
    refine r_ifF (t := 17) F_9_1 rfl l1 (Int.not_lt.mpr h0) ?_
    refine r_ldI_n (m := 1) F_9_4 rfl ?_
    refine r_ldR_n (m := 0) F_9_5 rfl ?_
    refine r_getR (J := 0) F_9_6 o_9 fl_3_19 ty_17 (by decide) rfl (kd2 kd_17_0 (by decide)) (kd9 kd_17_0 (by decide)) rf_17_0 ?_
    refine r_alen F_9_9 ty_18 (by decide) ln_18 ?_
    refine r_icmpF (t := 17) F_9_10 rfl l1 (by decide) (Int.not_le.mpr e2) ?_
    refine r_iconst F_9_13 ?_
    refine r_goto (t := 18) F_9_14 rfl ?_
    refine r_zreturn F_9_18 rt_9 (Or.inr rfl) ?_
    show Rn _ _ _ _ _ [vI 1] _ _
    refine r_ifF (t := 17) F_16_5 rfl (by decide) (by show ¬ ((1 : Int) = 0); decide) ?_
    refine r_ldR_n (m := 0) F_16_8 rfl ?_
    refine r_getR (J := 0) F_16_9 o_16 fl_3_19 ty_17 (by decide) rfl (kd2 kd_17_0 (by decide)) (kd9 kd_17_0 (by decide)) rf_17_0 ?_
    refine r_ldI_n (m := 1) F_16_12 rfl ?_
    refine r_iald (e := (s 18 r)) F_16_13 ty_18 h0 (lt_ln ln_18 e2) rfl ?_
    refine r_goto (t := 18) F_16_14 rfl ?_
    refine r_ireturn F_16_18 rt_16 ?_
    show Rn _ _ _ _ _ [vI (s 18 r)] _ _
    refine r_iconst F_15_5 ?_
    refine r_icmp (t := 13) F_15_6 rfl (l3 e2) (by decide) ?_ ?_
    · intro e3
      replace e3 : (s 18 r) = (-1) := e3
      refine r_iconst F_15_13 ?_
      refine r_zreturn F_15_14 rt_15 (Or.inl rfl) ?_
      show Rn _ _ _ _ _ [vI 0, vI n] _ _
      refine r_ifT (t := 26) F_152_19 rfl (by decide) (by show (0 : Int) = 0; decide) ?_
      refine r_iconst F_152_26 ?_
      refine r_iadd (e := n) F_152_27 (Int.add_zero _) ?_
      refine r_stI_n (m := 1) (L' := [some (vR 17), some (vI n), some (vI r)]) F_152_28 rfl rfl ?_
      refine r_iinc (m := 2) (e := (r + 1)) (L' := [some (vR 17), some (vI n), some (vI (r + 1))]) F_152_29 rfl rfl rfl rfl ?_
      refine r_goto (t := 4) F_152_32 rfl ?_
      exact (l4 e2 e3)
    · intro e4
      replace e4 : ¬ (s 18 r) = (-1) := e4
      refine r_iconst F_15_9 ?_
      refine r_goto (t := 14) F_15_10 rfl ?_
      refine r_zreturn F_15_14 rt_15 (Or.inr rfl) ?_
      show Rn _ _ _ _ _ [vI 1, vI n] _ _
      refine r_ifF (t := 26) F_152_19 rfl (by decide) (by show ¬ ((1 : Int) = 0); decide) ?_
      refine r_iconst F_152_22 ?_
      refine r_goto (t := 27) F_152_23 rfl ?_
      refine r_iadd F_152_27 rfl ?_
      refine r_stI_n (m := 1) (L' := [some (vR 17), some (vI (n + 1)), some (vI r)]) F_152_28 rfl rfl ?_
      refine r_iinc (m := 2) (e := (r + 1)) (L' := [some (vR 17), some (vI (n + 1)), some (vI (r + 1))]) F_152_29 rfl rfl rfl rfl ?_
      refine r_goto (t := 4) F_152_32 rfl ?_
      exact (l5 e2 e4)
