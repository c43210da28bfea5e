/-! walks: the reference, rows -/
theorem n_162 : m_n 162 = 4 := by decide +kernel
theorem F_162_0 : F 162 0 (.aload_n 0) 1 := ⟨1, by decide +kernel, rfl, rfl⟩
theorem F_162_1 : F 162 1 (.getfield 7) 4 := ⟨3, by decide +kernel, rfl, rfl⟩
theorem fl_6_7 : m_fl.lookup (6, 7) = some (6, 0, 4145) := by decide +kernel
theorem kd_77_0 : kd 77 0 = 80 := by decide +kernel
theorem o_162 : m_o 162 = 6 := by decide +kernel
theorem rf_77_0 : rf 77 0 = 78 := by decide +kernel
theorem F_162_4 : F 162 4 (.iload_n 1) 5 := ⟨1, by decide +kernel, rfl, rfl⟩
theorem F_162_5 : F 162 5 (.iload_n 2) 6 := ⟨1, by decide +kernel, rfl, rfl⟩
theorem F_162_6 : F 162 6 (.iastore) 7 := ⟨1, by decide +kernel, rfl, rfl⟩
theorem ln_78 : ln 78 = 6 := by decide +kernel
theorem ty_78 : ty 78 = 20 := by decide +kernel
theorem F_162_7 : F 162 7 (.iconst 0) 8 := ⟨1, by decide +kernel, rfl, rfl⟩
theorem F_162_8 : F 162 8 (.istore_n 3) 9 := ⟨1, by decide +kernel, rfl, rfl⟩
theorem F_162_9 : F 162 9 (.iload_n 3) 10 := ⟨1, by decide +kernel, rfl, rfl⟩
theorem F_162_10 : F 162 10 (.bipush 40) 12 := ⟨2, by decide +kernel, rfl, rfl⟩
theorem F_162_12 : F 162 12 (.if_icmp .ge 21) 15 := ⟨3, by decide +kernel, rfl, rfl⟩
theorem F_162_33 : F 162 33 (.return_) 34 := ⟨1, by decide +kernel, rfl, rfl⟩
theorem rt_162 : m_r 162 = none := by decide +kernel
theorem F_162_15 : F 162 15 (.aload_n 0) 16 := ⟨1, by decide +kernel, rfl, rfl⟩
theorem F_162_16 : F 162 16 (.getfield 13) 19 := ⟨3, by decide +kernel, rfl, rfl⟩
theorem fl_6_13 : m_fl.lookup (6, 13) = some (6, 1, 4146) := by decide +kernel
theorem kd_77_1 : kd 77 1 = 81 := by decide +kernel
theorem rf_77_1 : rf 77 1 = 79 := by decide +kernel
theorem F_162_19 : F 162 19 (.bipush 40) 21 := ⟨2, by decide +kernel, rfl, rfl⟩
theorem F_162_21 : F 162 21 (.iload_n 1) 22 := ⟨1, by decide +kernel, rfl, rfl⟩
theorem F_162_22 : F 162 22 (.imul) 23 := ⟨1, by decide +kernel, rfl, rfl⟩
theorem F_162_23 : F 162 23 (.iload_n 3) 24 := ⟨1, by decide +kernel, rfl, rfl⟩
theorem F_162_24 : F 162 24 (.iadd) 25 := ⟨1, by decide +kernel, rfl, rfl⟩
theorem F_162_25 : F 162 25 (.iconst 0) 26 := ⟨1, by decide +kernel, rfl, rfl⟩
theorem F_162_26 : F 162 26 (.iastore) 27 := ⟨1, by decide +kernel, rfl, rfl⟩
theorem ln_79 : ln 79 = 240 := by decide +kernel
theorem ty_79 : ty 79 = 20 := by decide +kernel
theorem F_162_27 : F 162 27 (.iinc 3 1) 30 := ⟨3, by decide +kernel, rfl, rfl⟩
theorem F_162_30 : F 162 30 (.goto (-21)) 33 := ⟨3, by decide +kernel, rfl, rfl⟩
theorem t_X6_lays {X : List Int32} {d : Nat} {s : m_St} {P : Option Value → m_St → Prop} {r n : Int} (h0 : 0 ≤ r) (h6 : r < 6)
    (l1 : Rn X d 162 9 [some (vR 77), some (vI r), some (vI n), some (vI 0)] [] (m_upd s 78 r n) P)
    : Cl X d 162 [vR 77, vI r, vI n] s P := by
  refine Cl_of n_162 rfl ?_
  show Rn _ _ _ _ [some (vR 77), some (vI r), some (vI n), none] [] _ _
  refine r_ldR_n (m := 0) F_162_0 rfl ?_
  refine r_getR (J := 0) F_162_1 o_162 fl_6_7 ty_77 (by decide) rfl (kd2 kd_77_0 (by decide)) (kd9 kd_77_0 (by decide)) rf_77_0 ?_
  refine r_ldI_n (m := 1) F_162_4 rfl ?_
  refine r_ldI_n (m := 2) F_162_5 rfl ?_
  refine r_iast F_162_6 ty_78 h0 (lt_ln ln_78 h6) ?_
  refine r_iconst F_162_7 ?_
  refine r_stI_n (m := 3) (L' := [some (vR 77), some (vI r), some (vI n), some (vI 0)]) F_162_8 rfl rfl ?_
  exact l1
theorem t_X6_lays_9 {X : List Int32} {d : Nat} {s : m_St} {P : Option Value → m_St → Prop} {r n k : Int} (h0 : 0 ≤ r) (h6 : r < 6) (k0 : 0 ≤ k)
    (l1 : inR k)
    (l2 : 40 ≤ k → P none s)
    (l3 : k < 40 → 0 ≤ ((40 * r) + k))
    (l4 : k < 40 → ((40 * r) + k) < 240)
    (l5 : k < 40 → Rn X d 162 9 [some (vR 77), some (vI r), some (vI n), some (vI (k + 1))] [] (m_upd s 79 ((40 * r) + k) 0) P)
    : Rn X d 162 9 [some (vR 77), some (vI r), some (vI n), some (vI k)] [] s P := by
  refine r_ldI_n (m := 3) F_162_9 rfl ?_
  refine r_bipush F_162_10 bi_40 ?_
  refine r_icmp (t := 33) F_162_12 rfl l1 (by decide) ?_ ?_
  · intro e1
    replace e1 : 40 ≤ k := e1
    refine r_return F_162_33 rt_162 ?_
    exact (l2 e1)
  · intro e2
    replace e2 : k < 40 := (Int.not_le.mp e2)
    refine r_ldR_n (m := 0) F_162_15 rfl ?_
    refine r_getR (J := 1) F_162_16 o_162 fl_6_13 ty_77 (by decide) rfl (kd2 kd_77_1 (by decide)) (kd9 kd_77_1 (by decide)) rf_77_1 ?_
    refine r_bipush F_162_19 bi_40 ?_
    refine r_ldI_n (m := 1) F_162_21 rfl ?_
    refine r_imul F_162_22 rfl ?_
    refine r_ldI_n (m := 3) F_162_23 rfl ?_
    refine r_iadd F_162_24 rfl ?_
    refine r_iconst F_162_25 ?_
    refine r_iast F_162_26 ty_79 (l3 e2) (lt_ln ln_79 (l4 e2)) ?_
    refine r_iinc (m := 3) (e := (k + 1)) (L' := [some (vR 77), some (vI r), some (vI n), some (vI (k + 1))]) F_162_27 rfl rfl rfl rfl ?_
    refine r_goto (t := 9) F_162_30 rfl ?_
    exact (l5 e2)
