/-! walks: the reference, who is up -/
theorem n_202 : m_n 202 = 2 := by decide +kernel
theorem F_202_0 : F 202 0 (.aload_n 0) 1 := ⟨1, by decide +kernel, rfl, rfl⟩
theorem F_202_1 : F 202 1 (.aload_n 0) 2 := ⟨1, by decide +kernel, rfl, rfl⟩
theorem F_202_2 : F 202 2 (.getfield 25) 5 := ⟨3, by decide +kernel, rfl, rfl⟩
theorem o_202 : m_o 202 = 6 := by decide +kernel
theorem F_202_5 : F 202 5 (.iconst 5) 6 := ⟨1, by decide +kernel, rfl, rfl⟩
theorem F_202_6 : F 202 6 (.iload_n 1) 7 := ⟨1, by decide +kernel, rfl, rfl⟩
theorem F_202_7 : F 202 7 (.iadd) 8 := ⟨1, by decide +kernel, rfl, rfl⟩
theorem F_202_8 : F 202 8 (.iaload) 9 := ⟨1, by decide +kernel, rfl, rfl⟩
theorem F_202_9 : F 202 9 (.iconst 1) 10 := ⟨1, by decide +kernel, rfl, rfl⟩
theorem F_202_10 : F 202 10 (.isub) 11 := ⟨1, by decide +kernel, rfl, rfl⟩
theorem F_202_11 : F 202 11 (.invokevirtual 143) 14 := ⟨3, by decide +kernel, rfl, rfl⟩
theorem F_202_14 : F 202 14 (.ireturn) 15 := ⟨1, by decide +kernel, rfl, rfl⟩
theorem rt_202 : m_r 202 = (some .int) := by decide +kernel
theorem n_205 : m_n 205 = 2 := by decide +kernel
theorem F_205_0 : F 205 0 (.aload_n 0) 1 := ⟨1, by decide +kernel, rfl, rfl⟩
theorem F_205_1 : F 205 1 (.iload_n 1) 2 := ⟨1, by decide +kernel, rfl, rfl⟩
theorem F_205_2 : F 205 2 (.iconst 4) 3 := ⟨1, by decide +kernel, rfl, rfl⟩
theorem F_205_3 : F 205 3 (.idiv) 4 := ⟨1, by decide +kernel, rfl, rfl⟩
theorem F_205_4 : F 205 4 (.invokevirtual 168) 7 := ⟨3, by decide +kernel, rfl, rfl⟩
theorem o_205 : m_o 205 = 6 := by decide +kernel
theorem il_6_168 : ilq 6 168 0 202 1 = true := by decide +kernel
theorem vy_202 : (m_cls 6).1 = (m_y 202).cls ∧ 6 < m_cl.length := by decide +kernel
theorem F_205_7 : F 205 7 (.iload_n 1) 8 := ⟨1, by decide +kernel, rfl, rfl⟩
theorem F_205_8 : F 205 8 (.iconst 4) 9 := ⟨1, by decide +kernel, rfl, rfl⟩
theorem F_205_9 : F 205 9 (.irem) 10 := ⟨1, by decide +kernel, rfl, rfl⟩
theorem F_205_10 : F 205 10 (.invokestatic 132) 13 := ⟨3, by decide +kernel, rfl, rfl⟩
theorem F_205_13 : F 205 13 (.ireturn) 14 := ⟨1, by decide +kernel, rfl, rfl⟩
theorem rt_205 : m_r 205 = (some .boolean) := by decide +kernel
theorem t_X6_upHolds {X : List Int32} {d : Nat} {s : m_St} {P : Option Value → m_St → Prop} {w : Int} (w0 : 0 ≤ w) (w1 : w < 2)
    (l1 : 0 ≤ (5 + w))
    (l2 : (5 + w) < 198)
    (l3 : mok s)
    (l4 : 0 ≤ ((s 83 (5 + w)) - 1))
    (l5 : ((s 83 (5 + w)) - 1) < (s 83 0))
    (l6 : P (some (vI (hld (s 83) ((s 83 (5 + w)) - 1)))) s)
    : Cl X (d + 3) 202 [vR 77, vI w] s P := by
  refine Cl_of n_202 rfl ?_
  show Rn _ _ _ _ [some (vR 77), some (vI w)] [] _ _
  refine r_ldR_n (m := 0) F_202_0 rfl ?_
  refine r_ldR_n (m := 0) F_202_1 rfl ?_
  refine r_getR (J := 5) F_202_2 o_202 fl_6_25 ty_77 (by decide) rfl (kd2 kd_77_5 (by decide)) (kd9 kd_77_5 (by decide)) rf_77_5 ?_
  refine r_iconst F_202_5 ?_
  refine r_ldI_n (m := 1) F_202_6 rfl ?_
  refine r_iadd F_202_7 rfl ?_
  refine r_iald (e := (s 83 (5 + w))) F_202_8 ty_83 l1 (lt_ln ln_83 l2) rfl ?_
  refine r_iconst F_202_9 ?_
  refine r_isub F_202_10 rfl ?_
  refine r_virt2 (A := [vI ((s 83 (5 + w)) - 1)]) (r := []) (n := 1) F_202_11 o_202 il_6_143 rfl rfl rfl rfl ty_77 vy_186 (lay_le n_186 rfl) ?_
  refine sp_holdsM l3 l4 l5 ?_
  show Rn _ _ _ _ _ [vI (hld (s 83) ((s 83 (5 + w)) - 1))] _ _
  refine r_ireturn F_202_14 rt_202 ?_
  exact l6
theorem t_X6_canBe {X : List Int32} {d : Nat} {s : m_St} {P : Option Value → m_St → Prop} {z : Int} (z0 : 0 ≤ z) (z8 : z < 8)
    (l1 : inR z)
    (l2 : 0 ≤ (5 + (z / 4)))
    (l3 : (5 + (z / 4)) < 198)
    (l4 : mok s)
    (l5 : 0 ≤ ((s 83 (5 + (z / 4))) - 1))
    (l6 : ((s 83 (5 + (z / 4))) - 1) < (s 83 0))
    (l7 : ¬ (iAnd (iShr (hld (s 83) ((s 83 (5 + (z / 4))) - 1)) (z % 4)) 1) = 1 → P (some (vI 0)) s)
    (l8 : (iAnd (iShr (hld (s 83) ((s 83 (5 + (z / 4))) - 1)) (z % 4)) 1) = 1 → P (some (vI 1)) s)
    : Cl X (d + 4) 205 [vR 77, vI z] s P := by
  refine Cl_of n_205 rfl ?_
  show Rn _ _ _ _ [some (vR 77), some (vI z)] [] _ _
  refine r_ldR_n (m := 0) F_205_0 rfl ?_
  refine r_ldI_n (m := 1) F_205_1 rfl ?_
  refine r_iconst F_205_2 ?_
  refine r_idiv F_205_3 l1 z0 (by decide) (by decide) ?_
  refine r_virt2 (A := [vI (z / 4)]) (r := []) (n := 1) F_205_4 o_205 il_6_168 rfl rfl rfl rfl ty_77 vy_202 (lay_le n_202 rfl) ?_
  refine Cl_of n_202 rfl ?_
  show Rn _ _ _ _ [some (vR 77), some (vI (z / 4))] [] _ _
  refine r_ldR_n (m := 0) F_202_0 rfl ?_
  refine r_ldR_n (m := 0) F_202_1 rfl ?_
  refine r_getR (J := 5) F_202_2 o_202 fl_6_25 ty_77 (by decide) rfl (kd2 kd_77_5 (by decide)) (kd9 kd_77_5 (by decide)) rf_77_5 ?_
  refine r_iconst F_202_5 ?_
  refine r_ldI_n (m := 1) F_202_6 rfl ?_
  refine r_iadd F_202_7 rfl ?_
  refine r_iald (e := (s 83 (5 + (z / 4)))) F_202_8 ty_83 l2 (lt_ln ln_83 l3) rfl ?_
  refine r_iconst F_202_9 ?_
  refine r_isub F_202_10 rfl ?_
  refine r_virt2 (A := [vI ((s 83 (5 + (z / 4))) - 1)]) (r := []) (n := 1) F_202_11 o_202 il_6_143 rfl rfl rfl rfl ty_77 vy_186 (lay_le n_186 rfl) ?_
  refine sp_holdsM l4 l5 l6 ?_
  show Rn _ _ _ _ _ [vI (hld (s 83) ((s 83 (5 + (z / 4))) - 1))] _ _
  refine r_ireturn F_202_14 rt_202 ?_
  show Rn _ _ _ _ _ [vI (hld (s 83) ((s 83 (5 + (z / 4))) - 1))] _ _
  refine r_ldI_n (m := 1) F_205_7 rfl ?_
  refine r_iconst F_205_8 ?_
  refine r_irem F_205_9 l1 z0 (by decide) (by decide) ?_
  refine r_stat2 (A := [vI (hld (s 83) ((s 83 (5 + (z / 4))) - 1)), vI (z % 4)]) (r := []) (n := 2) F_205_10 o_205 il_6_132 (by decide) rfl rfl rfl rfl (lay_le n_194 rfl) ?_
  refine Cl_of n_194 rfl ?_
  show Rn _ _ _ _ [some (vI (hld (s 83) ((s 83 (5 + (z / 4))) - 1))), some (vI (z % 4))] [] _ _
  refine r_ldI_n (m := 0) F_194_0 rfl ?_
  refine r_ldI_n (m := 1) F_194_1 rfl ?_
  refine r_ishr F_194_2 rfl ?_
  refine r_iconst F_194_3 ?_
  refine r_iand F_194_4 rfl ?_
  refine r_iconst F_194_5 ?_
  refine r_icmp (t := 13) F_194_6 rfl (inR_iAnd _ _) (by decide) ?_ ?_
  · intro e1
    replace e1 : ¬ (iAnd (iShr (hld (s 83) ((s 83 (5 + (z / 4))) - 1)) (z % 4)) 1) = 1 := e1
    refine r_iconst F_194_13 ?_
    refine r_zreturn F_194_14 rt_194 (Or.inl rfl) ?_
    show Rn _ _ _ _ _ [vI 0] _ _
    refine r_zreturn F_205_13 rt_205 (Or.inl rfl) ?_
    exact (l7 e1)
  · intro e2
    replace e2 : (iAnd (iShr (hld (s 83) ((s 83 (5 + (z / 4))) - 1)) (z % 4)) 1) = 1 := (Classical.not_not.mp e2)
    refine r_iconst F_194_9 ?_
    refine r_goto (t := 14) F_194_10 rfl ?_
    refine r_zreturn F_194_14 rt_194 (Or.inr rfl) ?_
    show Rn _ _ _ _ _ [vI 1] _ _
    refine r_zreturn F_205_13 rt_205 (Or.inr rfl) ?_
    exact (l8 e2)
