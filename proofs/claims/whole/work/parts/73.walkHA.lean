/-! walks: the reference, who holds what -/
theorem n_186 : m_n 186 = 2 := by decide +kernel
theorem F_186_0 : F 186 0 (.aload_n 0) 1 := ⟨1, by decide +kernel, rfl, rfl⟩
theorem F_186_1 : F 186 1 (.iload_n 1) 2 := ⟨1, by decide +kernel, rfl, rfl⟩
theorem F_186_2 : F 186 2 (.invokevirtual 136) 5 := ⟨3, by decide +kernel, rfl, rfl⟩
theorem o_186 : m_o 186 = 6 := by decide +kernel
theorem il_6_136 : ilq 6 136 0 187 1 = true := by decide +kernel
theorem vy_187 : (m_cls 6).1 = (m_y 187).cls ∧ 6 < m_cl.length := by decide +kernel
theorem n_187 : m_n 187 = 2 := by decide +kernel
theorem F_187_0 : F 187 0 (.aload_n 0) 1 := ⟨1, by decide +kernel, rfl, rfl⟩
theorem F_187_1 : F 187 1 (.getfield 25) 4 := ⟨3, by decide +kernel, rfl, rfl⟩
theorem o_187 : m_o 187 = 6 := by decide +kernel
theorem F_187_4 : F 187 4 (.bipush 8) 6 := ⟨2, by decide +kernel, rfl, rfl⟩
theorem F_187_6 : F 187 6 (.iconst 5) 7 := ⟨1, by decide +kernel, rfl, rfl⟩
theorem F_187_7 : F 187 7 (.iload_n 1) 8 := ⟨1, by decide +kernel, rfl, rfl⟩
theorem F_187_8 : F 187 8 (.imul) 9 := ⟨1, by decide +kernel, rfl, rfl⟩
theorem F_187_9 : F 187 9 (.iadd) 10 := ⟨1, by decide +kernel, rfl, rfl⟩
theorem F_187_10 : F 187 10 (.iaload) 11 := ⟨1, by decide +kernel, rfl, rfl⟩
theorem F_187_11 : F 187 11 (.ireturn) 12 := ⟨1, by decide +kernel, rfl, rfl⟩
theorem rt_187 : m_r 187 = (some .int) := by decide +kernel
theorem F_186_5 : F 186 5 (.aload_n 0) 6 := ⟨1, by decide +kernel, rfl, rfl⟩
theorem F_186_6 : F 186 6 (.getfield 25) 9 := ⟨3, by decide +kernel, rfl, rfl⟩
theorem F_186_9 : F 186 9 (.bipush 8) 11 := ⟨2, by decide +kernel, rfl, rfl⟩
theorem F_186_11 : F 186 11 (.iconst 5) 12 := ⟨1, by decide +kernel, rfl, rfl⟩
theorem F_186_12 : F 186 12 (.iload_n 1) 13 := ⟨1, by decide +kernel, rfl, rfl⟩
theorem F_186_13 : F 186 13 (.imul) 14 := ⟨1, by decide +kernel, rfl, rfl⟩
theorem F_186_14 : F 186 14 (.iadd) 15 := ⟨1, by decide +kernel, rfl, rfl⟩
theorem F_186_15 : F 186 15 (.iconst 1) 16 := ⟨1, by decide +kernel, rfl, rfl⟩
theorem F_186_16 : F 186 16 (.iadd) 17 := ⟨1, by decide +kernel, rfl, rfl⟩
theorem F_186_17 : F 186 17 (.invokestatic 139) 20 := ⟨3, by decide +kernel, rfl, rfl⟩
theorem il_6_139 : ilq 6 139 1 188 3 = true := by decide +kernel
theorem F_186_20 : F 186 20 (.ireturn) 21 := ⟨1, by decide +kernel, rfl, rfl⟩
theorem rt_186 : m_r 186 = (some .int) := by decide +kernel
theorem n_192 : m_n 192 = 3 := by decide +kernel
theorem F_192_0 : F 192 0 (.aload_n 0) 1 := ⟨1, by decide +kernel, rfl, rfl⟩
theorem F_192_1 : F 192 1 (.aload_n 0) 2 := ⟨1, by decide +kernel, rfl, rfl⟩
theorem F_192_2 : F 192 2 (.iload_n 1) 3 := ⟨1, by decide +kernel, rfl, rfl⟩
theorem F_192_3 : F 192 3 (.invokevirtual 136) 6 := ⟨3, by decide +kernel, rfl, rfl⟩
theorem o_192 : m_o 192 = 6 := by decide +kernel
theorem F_192_6 : F 192 6 (.aload_n 0) 7 := ⟨1, by decide +kernel, rfl, rfl⟩
theorem F_192_7 : F 192 7 (.iload_n 1) 8 := ⟨1, by decide +kernel, rfl, rfl⟩
theorem F_192_8 : F 192 8 (.invokevirtual 143) 11 := ⟨3, by decide +kernel, rfl, rfl⟩
theorem il_6_143 : ilq 6 143 0 186 1 = true := by decide +kernel
theorem vy_186 : (m_cls 6).1 = (m_y 186).cls ∧ 6 < m_cl.length := by decide +kernel
theorem F_192_11 : F 192 11 (.iload_n 2) 12 := ⟨1, by decide +kernel, rfl, rfl⟩
theorem F_192_12 : F 192 12 (.invokevirtual 146) 15 := ⟨3, by decide +kernel, rfl, rfl⟩
theorem il_6_146 : ilq 6 146 0 193 3 = true := by decide +kernel
theorem vy_193 : (m_cls 6).1 = (m_y 193).cls ∧ 6 < m_cl.length := by decide +kernel
theorem F_192_15 : F 192 15 (.ireturn) 16 := ⟨1, by decide +kernel, rfl, rfl⟩
theorem rt_192 : m_r 192 = (some .int) := by decide +kernel
theorem t_X6_holds {X : List Int32} {d : Nat} {s : m_St} {P : Option Value → m_St → Prop} {i : Int} (i0 : 0 ≤ i) (i6 : i < 6)
    (l1 : 0 ≤ (8 + (5 * i)))
    (l2 : (8 + (5 * i)) < 198)
    (l3 : inR (s 83 (8 + (5 * i))))
    (l4 : 0 ≤ ((8 + (5 * i)) + 1))
    (l5 : (((8 + (5 * i)) + 1) : Int) + 3 < 198)
    (l6 : wr (fun c => s 83 (((8 + (5 * i)) + 1) + c)))
    (l7 : P (some (vI (hset (fun c => s 83 (((8 + (5 * i)) + 1) + c)) (hf (s 83 (8 + (5 * i))))))) s)
    : Cl X (d + 2) 186 [vR 77, vI i] s P := by
  refine Cl_of n_186 rfl ?_
  show Rn _ _ _ _ [some (vR 77), some (vI i)] [] _ _
  refine r_ldR_n (m := 0) F_186_0 rfl ?_
  refine r_ldI_n (m := 1) F_186_1 rfl ?_
  refine r_virt2 (A := [vI i]) (r := []) (n := 1) F_186_2 o_186 il_6_136 rfl rfl rfl rfl ty_77 vy_187 (lay_le n_187 rfl) ?_
  refine Cl_of n_187 rfl ?_
  show Rn _ _ _ _ [some (vR 77), some (vI i)] [] _ _
  refine r_ldR_n (m := 0) F_187_0 rfl ?_
  refine r_getR (J := 5) F_187_1 o_187 fl_6_25 ty_77 (by decide) rfl (kd2 kd_77_5 (by decide)) (kd9 kd_77_5 (by decide)) rf_77_5 ?_
  refine r_bipush F_187_4 bi_8 ?_
  refine r_iconst F_187_6 ?_
  refine r_ldI_n (m := 1) F_187_7 rfl ?_
  refine r_imul F_187_8 rfl ?_
  refine r_iadd F_187_9 rfl ?_
  refine r_iald (e := (s 83 (8 + (5 * i)))) F_187_10 ty_83 l1 (lt_ln ln_83 l2) rfl ?_
  refine r_ireturn F_187_11 rt_187 ?_
  show Rn _ _ _ _ _ [vI (s 83 (8 + (5 * i)))] _ _
  refine r_ldR_n (m := 0) F_186_5 rfl ?_
  refine r_getR (J := 5) F_186_6 o_186 fl_6_25 ty_77 (by decide) rfl (kd2 kd_77_5 (by decide)) (kd9 kd_77_5 (by decide)) rf_77_5 ?_
  refine r_bipush F_186_9 bi_8 ?_
  refine r_iconst F_186_11 ?_
  refine r_ldI_n (m := 1) F_186_12 rfl ?_
  refine r_imul F_186_13 rfl ?_
  refine r_iadd F_186_14 rfl ?_
  refine r_iconst F_186_15 ?_
  refine r_iadd F_186_16 rfl ?_
  refine r_stat2 (A := [vI (s 83 (8 + (5 * i))), vR 83, vI ((8 + (5 * i)) + 1)]) (r := []) (n := 3) F_186_17 o_186 il_6_139 (by decide) rfl rfl rfl rfl (lay_le n_188 rfl) ?_
  refine sp_held83 l3 l4 l5 l6 ?_
  show Rn _ _ _ _ _ [vI (hset (fun c => s 83 (((8 + (5 * i)) + 1) + c)) (hf (s 83 (8 + (5 * i)))))] _ _
  refine r_ireturn F_186_20 rt_186 ?_
  exact l7
theorem t_X6_movedOf {X : List Int32} {d : Nat} {s : m_St} {P : Option Value → m_St → Prop} {i c : Int} (i0 : 0 ≤ i) (i6 : i < 6)
    (l1 : 0 ≤ (8 + (5 * i)))
    (l2 : (8 + (5 * i)) < 198)
    (l3 : inR (s 83 (8 + (5 * i))))
    (l4 : 0 ≤ ((8 + (5 * i)) + 1))
    (l5 : (((8 + (5 * i)) + 1) : Int) + 3 < 198)
    (l6 : wr (fun c => s 83 (((8 + (5 * i)) + 1) + c)))
    (l7 : tr (s 38 5) (s 83 7))
    (l8 : 0 ≤ (s 83 (8 + (5 * i))))
    (l9 : (s 83 (8 + (5 * i))) < 6)
    (l10 : 0 ≤ (hset (fun c => s 83 (((8 + (5 * i)) + 1) + c)) (hf (s 83 (8 + (5 * i))))))
    (l11 : (hset (fun c => s 83 (((8 + (5 * i)) + 1) + c)) (hf (s 83 (8 + (5 * i))))) < 16)
    (l12 : 0 ≤ c)
    (l13 : c < 4)
    (l14 : P (some (vI (mv (s 83 (8 + (5 * i))) (hset (fun c => s 83 (((8 + (5 * i)) + 1) + c)) (hf (s 83 (8 + (5 * i))))) (s 38 5) c))) s)
    : Cl X (d + 3) 192 [vR 77, vI i, vI c] s P := by
  refine Cl_of n_192 rfl ?_
  show Rn _ _ _ _ [some (vR 77), some (vI i), some (vI c)] [] _ _
  refine r_ldR_n (m := 0) F_192_0 rfl ?_
  refine r_ldR_n (m := 0) F_192_1 rfl ?_
  refine r_ldI_n (m := 1) F_192_2 rfl ?_
  refine r_virt2 (A := [vI i]) (r := [vR 77]) (n := 1) F_192_3 o_192 il_6_136 rfl rfl rfl rfl ty_77 vy_187 (lay_le n_187 rfl) ?_
  refine Cl_of n_187 rfl ?_
  show Rn _ _ _ _ [some (vR 77), some (vI i)] [] _ _
  refine r_ldR_n (m := 0) F_187_0 rfl ?_
  refine r_getR (J := 5) F_187_1 o_187 fl_6_25 ty_77 (by decide) rfl (kd2 kd_77_5 (by decide)) (kd9 kd_77_5 (by decide)) rf_77_5 ?_
  refine r_bipush F_187_4 bi_8 ?_
  refine r_iconst F_187_6 ?_
  refine r_ldI_n (m := 1) F_187_7 rfl ?_
  refine r_imul F_187_8 rfl ?_
  refine r_iadd F_187_9 rfl ?_
  refine r_iald (e := (s 83 (8 + (5 * i)))) F_187_10 ty_83 l1 (lt_ln ln_83 l2) rfl ?_
  refine r_ireturn F_187_11 rt_187 ?_
  show Rn _ _ _ _ _ [vI (s 83 (8 + (5 * i))), vR 77] _ _
  refine r_ldR_n (m := 0) F_192_6 rfl ?_
  refine r_ldI_n (m := 1) F_192_7 rfl ?_
  refine r_virt2 (A := [vI i]) (r := [vI (s 83 (8 + (5 * i))), vR 77]) (n := 1) F_192_8 o_192 il_6_143 rfl rfl rfl rfl ty_77 vy_186 (lay_le n_186 rfl) ?_
  refine Cl_of n_186 rfl ?_
  show Rn _ _ _ _ [some (vR 77), some (vI i)] [] _ _
  refine r_ldR_n (m := 0) F_186_0 rfl ?_
  refine r_ldI_n (m := 1) F_186_1 rfl ?_
  refine r_virt2 (A := [vI i]) (r := []) (n := 1) F_186_2 o_186 il_6_136 rfl rfl rfl rfl ty_77 vy_187 (lay_le n_187 rfl) ?_
  refine Cl_of n_187 rfl ?_
  show Rn _ _ _ _ [some (vR 77), some (vI i)] [] _ _
  refine r_ldR_n (m := 0) F_187_0 rfl ?_
  refine r_getR (J := 5) F_187_1 o_187 fl_6_25 ty_77 (by decide) rfl (kd2 kd_77_5 (by decide)) (kd9 kd_77_5 (by decide)) rf_77_5 ?_
  refine r_bipush F_187_4 bi_8 ?_
  refine r_iconst F_187_6 ?_
  refine r_ldI_n (m := 1) F_187_7 rfl ?_
  refine r_imul F_187_8 rfl ?_
  refine r_iadd F_187_9 rfl ?_
  refine r_iald (e := (s 83 (8 + (5 * i)))) F_187_10 ty_83 l1 (lt_ln ln_83 l2) rfl ?_
  refine r_ireturn F_187_11 rt_187 ?_
  show Rn _ _ _ _ _ [vI (s 83 (8 + (5 * i)))] _ _
  refine r_ldR_n (m := 0) F_186_5 rfl ?_
  refine r_getR (J := 5) F_186_6 o_186 fl_6_25 ty_77 (by decide) rfl (kd2 kd_77_5 (by decide)) (kd9 kd_77_5 (by decide)) rf_77_5 ?_
  refine r_bipush F_186_9 bi_8 ?_
  refine r_iconst F_186_11 ?_
  refine r_ldI_n (m := 1) F_186_12 rfl ?_
  refine r_imul F_186_13 rfl ?_
  refine r_iadd F_186_14 rfl ?_
  refine r_iconst F_186_15 ?_
  refine r_iadd F_186_16 rfl ?_
  refine r_stat2 (A := [vI (s 83 (8 + (5 * i))), vR 83, vI ((8 + (5 * i)) + 1)]) (r := []) (n := 3) F_186_17 o_186 il_6_139 (by decide) rfl rfl rfl rfl (lay_le n_188 rfl) ?_
  refine sp_held83 l3 l4 l5 l6 ?_
  show Rn _ _ _ _ _ [vI (hset (fun c => s 83 (((8 + (5 * i)) + 1) + c)) (hf (s 83 (8 + (5 * i)))))] _ _
  refine r_ireturn F_186_20 rt_186 ?_
  show Rn _ _ _ _ _ [vI (hset (fun c => s 83 (((8 + (5 * i)) + 1) + c)) (hf (s 83 (8 + (5 * i))))), vI (s 83 (8 + (5 * i))), vR 77] _ _
  refine r_ldI_n (m := 2) F_192_11 rfl ?_
  refine r_virt2 (A := [vI (s 83 (8 + (5 * i))), vI (hset (fun c => s 83 (((8 + (5 * i)) + 1) + c)) (hf (s 83 (8 + (5 * i))))), vI c]) (r := []) (n := 3) F_192_12 o_192 il_6_146 rfl rfl rfl rfl ty_77 vy_193 (lay_le n_193 rfl) ?_
  refine sp_movedBy l7 l8 l9 l10 l11 l12 l13 ?_
  show Rn _ _ _ _ _ [vI (mv (s 83 (8 + (5 * i))) (hset (fun c => s 83 (((8 + (5 * i)) + 1) + c)) (hf (s 83 (8 + (5 * i))))) (s 38 5) c)] _ _
  refine r_ireturn F_192_15 rt_192 ?_
  exact l14
