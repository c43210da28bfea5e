/-! walks: notes of the reference -/
theorem n_200 : m_n 200 = 6 := by decide +kernel
theorem F_200_0 : F 200 0 (.bipush 38) 2 := ⟨2, by decide +kernel, rfl, rfl⟩
theorem bi_38 : (Int8.ofInt 38).toInt32 = Int32.ofInt 38 := by decide +kernel
theorem F_200_2 : F 200 2 (.iconst 4) 3 := ⟨1, by decide +kernel, rfl, rfl⟩
theorem F_200_3 : F 200 3 (.aload_n 0) 4 := ⟨1, by decide +kernel, rfl, rfl⟩
theorem F_200_4 : F 200 4 (.getfield 25) 7 := ⟨3, by decide +kernel, rfl, rfl⟩
theorem o_200 : m_o 200 = 6 := by decide +kernel
theorem F_200_7 : F 200 7 (.iconst 3) 8 := ⟨1, by decide +kernel, rfl, rfl⟩
theorem F_200_8 : F 200 8 (.iaload) 9 := ⟨1, by decide +kernel, rfl, rfl⟩
theorem F_200_9 : F 200 9 (.imul) 10 := ⟨1, by decide +kernel, rfl, rfl⟩
theorem F_200_10 : F 200 10 (.iadd) 11 := ⟨1, by decide +kernel, rfl, rfl⟩
theorem F_200_11 : F 200 11 (.istore 5) 13 := ⟨2, by decide +kernel, rfl, rfl⟩
theorem F_200_13 : F 200 13 (.aload_n 0) 14 := ⟨1, by decide +kernel, rfl, rfl⟩
theorem F_200_14 : F 200 14 (.getfield 25) 17 := ⟨3, by decide +kernel, rfl, rfl⟩
theorem F_200_17 : F 200 17 (.iload 5) 19 := ⟨2, by decide +kernel, rfl, rfl⟩
theorem F_200_19 : F 200 19 (.iload_n 1) 20 := ⟨1, by decide +kernel, rfl, rfl⟩
theorem F_200_20 : F 200 20 (.iastore) 21 := ⟨1, by decide +kernel, rfl, rfl⟩
theorem F_200_21 : F 200 21 (.aload_n 0) 22 := ⟨1, by decide +kernel, rfl, rfl⟩
theorem F_200_22 : F 200 22 (.getfield 25) 25 := ⟨3, by decide +kernel, rfl, rfl⟩
theorem F_200_25 : F 200 25 (.iload 5) 27 := ⟨2, by decide +kernel, rfl, rfl⟩
theorem F_200_27 : F 200 27 (.iconst 1) 28 := ⟨1, by decide +kernel, rfl, rfl⟩
theorem F_200_28 : F 200 28 (.iadd) 29 := ⟨1, by decide +kernel, rfl, rfl⟩
theorem F_200_29 : F 200 29 (.iload_n 2) 30 := ⟨1, by decide +kernel, rfl, rfl⟩
theorem F_200_30 : F 200 30 (.iastore) 31 := ⟨1, by decide +kernel, rfl, rfl⟩
theorem F_200_31 : F 200 31 (.aload_n 0) 32 := ⟨1, by decide +kernel, rfl, rfl⟩
theorem F_200_32 : F 200 32 (.getfield 25) 35 := ⟨3, by decide +kernel, rfl, rfl⟩
theorem F_200_35 : F 200 35 (.iload 5) 37 := ⟨2, by decide +kernel, rfl, rfl⟩
theorem F_200_37 : F 200 37 (.iconst 2) 38 := ⟨1, by decide +kernel, rfl, rfl⟩
theorem F_200_38 : F 200 38 (.iadd) 39 := ⟨1, by decide +kernel, rfl, rfl⟩
theorem F_200_39 : F 200 39 (.iload_n 3) 40 := ⟨1, by decide +kernel, rfl, rfl⟩
theorem F_200_40 : F 200 40 (.iastore) 41 := ⟨1, by decide +kernel, rfl, rfl⟩
theorem F_200_41 : F 200 41 (.aload_n 0) 42 := ⟨1, by decide +kernel, rfl, rfl⟩
theorem F_200_42 : F 200 42 (.getfield 25) 45 := ⟨3, by decide +kernel, rfl, rfl⟩
theorem F_200_45 : F 200 45 (.iload 5) 47 := ⟨2, by decide +kernel, rfl, rfl⟩
theorem F_200_47 : F 200 47 (.iconst 3) 48 := ⟨1, by decide +kernel, rfl, rfl⟩
theorem F_200_48 : F 200 48 (.iadd) 49 := ⟨1, by decide +kernel, rfl, rfl⟩
theorem F_200_49 : F 200 49 (.iload 4) 51 := ⟨2, by decide +kernel, rfl, rfl⟩
theorem F_200_51 : F 200 51 (.iastore) 52 := ⟨1, by decide +kernel, rfl, rfl⟩
theorem F_200_52 : F 200 52 (.aload_n 0) 53 := ⟨1, by decide +kernel, rfl, rfl⟩
theorem F_200_53 : F 200 53 (.getfield 25) 56 := ⟨3, by decide +kernel, rfl, rfl⟩
theorem F_200_56 : F 200 56 (.iconst 3) 57 := ⟨1, by decide +kernel, rfl, rfl⟩
theorem F_200_57 : F 200 57 (.dup2) 58 := ⟨1, by decide +kernel, rfl, rfl⟩
theorem F_200_58 : F 200 58 (.iaload) 59 := ⟨1, by decide +kernel, rfl, rfl⟩
theorem F_200_59 : F 200 59 (.iconst 1) 60 := ⟨1, by decide +kernel, rfl, rfl⟩
theorem F_200_60 : F 200 60 (.iadd) 61 := ⟨1, by decide +kernel, rfl, rfl⟩
theorem F_200_61 : F 200 61 (.iastore) 62 := ⟨1, by decide +kernel, rfl, rfl⟩
theorem F_200_62 : F 200 62 (.return_) 63 := ⟨1, by decide +kernel, rfl, rfl⟩
theorem rt_200 : m_r 200 = none := by decide +kernel
theorem t_X6_notes {X : List Int32} {d : Nat} {s : m_St} {P : Option Value → m_St → Prop} {e a b c : Int}
    (l1 : 0 ≤ (38 + (4 * (s 83 3))))
    (l2 : (38 + (4 * (s 83 3))) < 198)
    (l3 : 0 ≤ ((38 + (4 * (s 83 3))) + 1))
    (l4 : ((38 + (4 * (s 83 3))) + 1) < 198)
    (l5 : 0 ≤ ((38 + (4 * (s 83 3))) + 2))
    (l6 : ((38 + (4 * (s 83 3))) + 2) < 198)
    (l7 : 0 ≤ ((38 + (4 * (s 83 3))) + 3))
    (l8 : ((38 + (4 * (s 83 3))) + 3) < 198)
    (l9 : P none (m_upd (m_upd (m_upd (m_upd (m_upd s 83 (38 + (4 * (s 83 3))) e) 83 ((38 + (4 * (s 83 3))) + 1) a) 83 ((38 + (4 * (s 83 3))) + 2) b) 83 ((38 + (4 * (s 83 3))) + 3) c) 83 3 (((m_upd (m_upd (m_upd (m_upd s 83 (38 + (4 * (s 83 3))) e) 83 ((38 + (4 * (s 83 3))) + 1) a) 83 ((38 + (4 * (s 83 3))) + 2) b) 83 ((38 + (4 * (s 83 3))) + 3) c) 83 3) + 1)))
    : Cl X d 200 [vR 77, vI e, vI a, vI b, vI c] s P := by
  refine Cl_of n_200 rfl ?_
  show Rn _ _ _ _ [some (vR 77), some (vI e), some (vI a), some (vI b), some (vI c), none] [] _ _
  refine r_bipush F_200_0 bi_38 ?_
  refine r_iconst F_200_2 ?_
  refine r_ldR_n (m := 0) F_200_3 rfl ?_
  refine r_getR (J := 5) F_200_4 o_200 fl_6_25 ty_77 (by decide) rfl (kd2 kd_77_5 (by decide)) (kd9 kd_77_5 (by decide)) rf_77_5 ?_
  refine r_iconst F_200_7 ?_
  refine r_iald (e := (s 83 3)) F_200_8 ty_83 (by decide) (lt_ln ln_83 (by decide)) rfl ?_
  refine r_imul F_200_9 rfl ?_
  refine r_iadd F_200_10 rfl ?_
  refine r_stI (m := 5) (L' := [some (vR 77), some (vI e), some (vI a), some (vI b), some (vI c), some (vI (38 + (4 * (s 83 3))))]) F_200_11 rfl rfl ?_
  refine r_ldR_n (m := 0) F_200_13 rfl ?_
  refine r_getR (J := 5) F_200_14 o_200 fl_6_25 ty_77 (by decide) rfl (kd2 kd_77_5 (by decide)) (kd9 kd_77_5 (by decide)) rf_77_5 ?_
  refine r_ldI (m := 5) F_200_17 rfl ?_
  refine r_ldI_n (m := 1) F_200_19 rfl ?_
  refine r_iast F_200_20 ty_83 l1 (lt_ln ln_83 l2) ?_
  refine r_ldR_n (m := 0) F_200_21 rfl ?_
  refine r_getR (J := 5) F_200_22 o_200 fl_6_25 ty_77 (by decide) rfl (kd2 kd_77_5 (by decide)) (kd9 kd_77_5 (by decide)) rf_77_5 ?_
  refine r_ldI (m := 5) F_200_25 rfl ?_
  refine r_iconst F_200_27 ?_
  refine r_iadd F_200_28 rfl ?_
  refine r_ldI_n (m := 2) F_200_29 rfl ?_
  refine r_iast F_200_30 ty_83 l3 (lt_ln ln_83 l4) ?_
  refine r_ldR_n (m := 0) F_200_31 rfl ?_
  refine r_getR (J := 5) F_200_32 o_200 fl_6_25 ty_77 (by decide) rfl (kd2 kd_77_5 (by decide)) (kd9 kd_77_5 (by decide)) rf_77_5 ?_
  refine r_ldI (m := 5) F_200_35 rfl ?_
  refine r_iconst F_200_37 ?_
  refine r_iadd F_200_38 rfl ?_
  refine r_ldI_n (m := 3) F_200_39 rfl ?_
  refine r_iast F_200_40 ty_83 l5 (lt_ln ln_83 l6) ?_
  refine r_ldR_n (m := 0) F_200_41 rfl ?_
  refine r_getR (J := 5) F_200_42 o_200 fl_6_25 ty_77 (by decide) rfl (kd2 kd_77_5 (by decide)) (kd9 kd_77_5 (by decide)) rf_77_5 ?_
  refine r_ldI (m := 5) F_200_45 rfl ?_
  refine r_iconst F_200_47 ?_
  refine r_iadd F_200_48 rfl ?_
  refine r_ldI (m := 4) F_200_49 rfl ?_
  refine r_iast F_200_51 ty_83 l7 (lt_ln ln_83 l8) ?_
  refine r_ldR_n (m := 0) F_200_52 rfl ?_
  refine r_getR (J := 5) F_200_53 o_200 fl_6_25 ty_77 (by decide) rfl (kd2 kd_77_5 (by decide)) (kd9 kd_77_5 (by decide)) rf_77_5 ?_
  refine r_iconst F_200_56 ?_
  refine r_dup2 F_200_57 ?_
  refine r_iald (e := ((m_upd (m_upd (m_upd (m_upd s 83 (38 + (4 * (s 83 3))) e) 83 ((38 + (4 * (s 83 3))) + 1) a) 83 ((38 + (4 * (s 83 3))) + 2) b) 83 ((38 + (4 * (s 83 3))) + 3) c) 83 3)) F_200_58 ty_83 (by decide) (lt_ln ln_83 (by decide)) rfl ?_
  refine r_iconst F_200_59 ?_
  refine r_iadd F_200_60 rfl ?_
  refine r_iast F_200_61 ty_83 (by decide) (lt_ln ln_83 (by decide)) ?_
  refine r_return F_200_62 rt_200 ?_
  exact l9
