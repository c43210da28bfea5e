/-! walks: counting bits -/
theorem n_74 : m_n 74 = 1 := by decide +kernel
theorem F_74_0 : F 74 0 (.iload_n 0) 1 := ⟨1, by decide +kernel, rfl, rfl⟩
theorem F_74_1 : F 74 1 (.iload_n 0) 2 := ⟨1, by decide +kernel, rfl, rfl⟩
theorem F_74_2 : F 74 2 (.iconst 1) 3 := ⟨1, by decide +kernel, rfl, rfl⟩
theorem F_74_3 : F 74 3 (.iushr) 4 := ⟨1, by decide +kernel, rfl, rfl⟩
theorem F_74_4 : F 74 4 (.ldc_w 265) 7 := ⟨3, by decide +kernel, rfl, rfl⟩
theorem ki_7_265 : m_k32.lookup (7, 265) = some (1431655765, 2164) := by decide +kernel
theorem oi_1431655765 : (1431655765 : Int32) = Int32.ofInt 1431655765 := by decide +kernel
theorem o_74 : m_o 74 = 7 := by decide +kernel
theorem F_74_7 : F 74 7 (.iand) 8 := ⟨1, by decide +kernel, rfl, rfl⟩
theorem F_74_8 : F 74 8 (.isub) 9 := ⟨1, by decide +kernel, rfl, rfl⟩
theorem F_74_9 : F 74 9 (.istore_n 0) 10 := ⟨1, by decide +kernel, rfl, rfl⟩
theorem F_74_10 : F 74 10 (.iload_n 0) 11 := ⟨1, by decide +kernel, rfl, rfl⟩
theorem F_74_11 : F 74 11 (.ldc_w 266) 14 := ⟨3, by decide +kernel, rfl, rfl⟩
theorem ki_7_266 : m_k32.lookup (7, 266) = some (858993459, 2165) := by decide +kernel
theorem oi_858993459 : (858993459 : Int32) = Int32.ofInt 858993459 := by decide +kernel
theorem F_74_14 : F 74 14 (.iand) 15 := ⟨1, by decide +kernel, rfl, rfl⟩
theorem F_74_15 : F 74 15 (.iload_n 0) 16 := ⟨1, by decide +kernel, rfl, rfl⟩
theorem F_74_16 : F 74 16 (.iconst 2) 17 := ⟨1, by decide +kernel, rfl, rfl⟩
theorem F_74_17 : F 74 17 (.iushr) 18 := ⟨1, by decide +kernel, rfl, rfl⟩
theorem F_74_18 : F 74 18 (.ldc_w 266) 21 := ⟨3, by decide +kernel, rfl, rfl⟩
theorem F_74_21 : F 74 21 (.iand) 22 := ⟨1, by decide +kernel, rfl, rfl⟩
theorem F_74_22 : F 74 22 (.iadd) 23 := ⟨1, by decide +kernel, rfl, rfl⟩
theorem F_74_23 : F 74 23 (.istore_n 0) 24 := ⟨1, by decide +kernel, rfl, rfl⟩
theorem F_74_24 : F 74 24 (.iload_n 0) 25 := ⟨1, by decide +kernel, rfl, rfl⟩
theorem F_74_25 : F 74 25 (.iload_n 0) 26 := ⟨1, by decide +kernel, rfl, rfl⟩
theorem F_74_26 : F 74 26 (.iconst 4) 27 := ⟨1, by decide +kernel, rfl, rfl⟩
theorem F_74_27 : F 74 27 (.iushr) 28 := ⟨1, by decide +kernel, rfl, rfl⟩
theorem F_74_28 : F 74 28 (.iadd) 29 := ⟨1, by decide +kernel, rfl, rfl⟩
theorem F_74_29 : F 74 29 (.ldc_w 267) 32 := ⟨3, by decide +kernel, rfl, rfl⟩
theorem ki_7_267 : m_k32.lookup (7, 267) = some (252645135, 2166) := by decide +kernel
theorem oi_252645135 : (252645135 : Int32) = Int32.ofInt 252645135 := by decide +kernel
theorem F_74_32 : F 74 32 (.iand) 33 := ⟨1, by decide +kernel, rfl, rfl⟩
theorem F_74_33 : F 74 33 (.istore_n 0) 34 := ⟨1, by decide +kernel, rfl, rfl⟩
theorem F_74_34 : F 74 34 (.iload_n 0) 35 := ⟨1, by decide +kernel, rfl, rfl⟩
theorem F_74_35 : F 74 35 (.iload_n 0) 36 := ⟨1, by decide +kernel, rfl, rfl⟩
theorem F_74_36 : F 74 36 (.bipush 8) 38 := ⟨2, by decide +kernel, rfl, rfl⟩
theorem F_74_38 : F 74 38 (.iushr) 39 := ⟨1, by decide +kernel, rfl, rfl⟩
theorem F_74_39 : F 74 39 (.iadd) 40 := ⟨1, by decide +kernel, rfl, rfl⟩
theorem F_74_40 : F 74 40 (.istore_n 0) 41 := ⟨1, by decide +kernel, rfl, rfl⟩
theorem F_74_41 : F 74 41 (.iload_n 0) 42 := ⟨1, by decide +kernel, rfl, rfl⟩
theorem F_74_42 : F 74 42 (.iload_n 0) 43 := ⟨1, by decide +kernel, rfl, rfl⟩
theorem F_74_43 : F 74 43 (.bipush 16) 45 := ⟨2, by decide +kernel, rfl, rfl⟩
theorem bi_16 : (Int8.ofInt 16).toInt32 = Int32.ofInt 16 := by decide +kernel
theorem F_74_45 : F 74 45 (.iushr) 46 := ⟨1, by decide +kernel, rfl, rfl⟩
theorem F_74_46 : F 74 46 (.iadd) 47 := ⟨1, by decide +kernel, rfl, rfl⟩
theorem F_74_47 : F 74 47 (.istore_n 0) 48 := ⟨1, by decide +kernel, rfl, rfl⟩
theorem F_74_48 : F 74 48 (.iload_n 0) 49 := ⟨1, by decide +kernel, rfl, rfl⟩
theorem F_74_49 : F 74 49 (.bipush 63) 51 := ⟨2, by decide +kernel, rfl, rfl⟩
theorem bi_63 : (Int8.ofInt 63).toInt32 = Int32.ofInt 63 := by decide +kernel
theorem F_74_51 : F 74 51 (.iand) 52 := ⟨1, by decide +kernel, rfl, rfl⟩
theorem F_74_52 : F 74 52 (.ireturn) 53 := ⟨1, by decide +kernel, rfl, rfl⟩
theorem rt_74 : m_r 74 = (some .int) := by decide +kernel
theorem t_bitCount {X : m_X} {d : Nat} {s : m_St} {P : Option Value → m_St → Prop} {a : Int}
    (l1 : P (some (vI (iAnd (((iAnd (((iAnd (a - (iAnd (iUshr a 1) 1431655765)) 858993459) + (iAnd (iUshr (a - (iAnd (iUshr a 1) 1431655765)) 2) 858993459)) + (iUshr ((iAnd (a - (iAnd (iUshr a 1) 1431655765)) 858993459) + (iAnd (iUshr (a - (iAnd (iUshr a 1) 1431655765)) 2) 858993459)) 4)) 252645135) + (iUshr (iAnd (((iAnd (a - (iAnd (iUshr a 1) 1431655765)) 858993459) + (iAnd (iUshr (a - (iAnd (iUshr a 1) 1431655765)) 2) 858993459)) + (iUshr ((iAnd (a - (iAnd (iUshr a 1) 1431655765)) 858993459) + (iAnd (iUshr (a - (iAnd (iUshr a 1) 1431655765)) 2) 858993459)) 4)) 252645135) 8)) + (iUshr ((iAnd (((iAnd (a - (iAnd (iUshr a 1) 1431655765)) 858993459) + (iAnd (iUshr (a - (iAnd (iUshr a 1) 1431655765)) 2) 858993459)) + (iUshr ((iAnd (a - (iAnd (iUshr a 1) 1431655765)) 858993459) + (iAnd (iUshr (a - (iAnd (iUshr a 1) 1431655765)) 2) 858993459)) 4)) 252645135) + (iUshr (iAnd (((iAnd (a - (iAnd (iUshr a 1) 1431655765)) 858993459) + (iAnd (iUshr (a - (iAnd (iUshr a 1) 1431655765)) 2) 858993459)) + (iUshr ((iAnd (a - (iAnd (iUshr a 1) 1431655765)) 858993459) + (iAnd (iUshr (a - (iAnd (iUshr a 1) 1431655765)) 2) 858993459)) 4)) 252645135) 8)) 16)) 63))) s)
    : Cl X d 74 [vI a] s P := by
  refine Cl_of n_74 rfl ?_
  show Rn _ _ _ _ [some (vI a)] [] _ _
  refine r_ldI_n (m := 0) F_74_0 rfl ?_
  refine r_ldI_n (m := 0) F_74_1 rfl ?_
  refine r_iconst F_74_2 ?_
  refine r_iushr F_74_3 rfl ?_
  refine r_ldcI F_74_4 o_74 ki_7_265 oi_1431655765 ?_
  refine r_iand F_74_7 rfl ?_
  refine r_isub F_74_8 rfl ?_
  refine r_stI_n (m := 0) (L' := [some (vI (a - (iAnd (iUshr a 1) 1431655765)))]) F_74_9 rfl rfl ?_
  refine r_ldI_n (m := 0) F_74_10 rfl ?_
  refine r_ldcI F_74_11 o_74 ki_7_266 oi_858993459 ?_
  refine r_iand F_74_14 rfl ?_
  refine r_ldI_n (m := 0) F_74_15 rfl ?_
  refine r_iconst F_74_16 ?_
  refine r_iushr F_74_17 rfl ?_
  refine r_ldcI F_74_18 o_74 ki_7_266 oi_858993459 ?_
  refine r_iand F_74_21 rfl ?_
  refine r_iadd F_74_22 rfl ?_
  refine r_stI_n (m := 0) (L' := [some (vI ((iAnd (a - (iAnd (iUshr a 1) 1431655765)) 858993459) + (iAnd (iUshr (a - (iAnd (iUshr a 1) 1431655765)) 2) 858993459)))]) F_74_23 rfl rfl ?_
  refine r_ldI_n (m := 0) F_74_24 rfl ?_
  refine r_ldI_n (m := 0) F_74_25 rfl ?_
  refine r_iconst F_74_26 ?_
  refine r_iushr F_74_27 rfl ?_
  refine r_iadd F_74_28 rfl ?_
  refine r_ldcI F_74_29 o_74 ki_7_267 oi_252645135 ?_
  refine r_iand F_74_32 rfl ?_
  refine r_stI_n (m := 0) (L' := [some (vI (iAnd (((iAnd (a - (iAnd (iUshr a 1) 1431655765)) 858993459) + (iAnd (iUshr (a - (iAnd (iUshr a 1) 1431655765)) 2) 858993459)) + (iUshr ((iAnd (a - (iAnd (iUshr a 1) 1431655765)) 858993459) + (iAnd (iUshr (a - (iAnd (iUshr a 1) 1431655765)) 2) 858993459)) 4)) 252645135))]) F_74_33 rfl rfl ?_
  refine r_ldI_n (m := 0) F_74_34 rfl ?_
  refine r_ldI_n (m := 0) F_74_35 rfl ?_
  refine r_bipush F_74_36 bi_8 ?_
  refine r_iushr F_74_38 rfl ?_
  refine r_iadd F_74_39 rfl ?_
  refine r_stI_n (m := 0) (L' := [some (vI ((iAnd (((iAnd (a - (iAnd (iUshr a 1) 1431655765)) 858993459) + (iAnd (iUshr (a - (iAnd (iUshr a 1) 1431655765)) 2) 858993459)) + (iUshr ((iAnd (a - (iAnd (iUshr a 1) 1431655765)) 858993459) + (iAnd (iUshr (a - (iAnd (iUshr a 1) 1431655765)) 2) 858993459)) 4)) 252645135) + (iUshr (iAnd (((iAnd (a - (iAnd (iUshr a 1) 1431655765)) 858993459) + (iAnd (iUshr (a - (iAnd (iUshr a 1) 1431655765)) 2) 858993459)) + (iUshr ((iAnd (a - (iAnd (iUshr a 1) 1431655765)) 858993459) + (iAnd (iUshr (a - (iAnd (iUshr a 1) 1431655765)) 2) 858993459)) 4)) 252645135) 8)))]) F_74_40 rfl rfl ?_
  refine r_ldI_n (m := 0) F_74_41 rfl ?_
  refine r_ldI_n (m := 0) F_74_42 rfl ?_
  refine r_bipush F_74_43 bi_16 ?_
  refine r_iushr F_74_45 rfl ?_
  refine r_iadd F_74_46 rfl ?_
  refine r_stI_n (m := 0) (L' := [some (vI (((iAnd (((iAnd (a - (iAnd (iUshr a 1) 1431655765)) 858993459) + (iAnd (iUshr (a - (iAnd (iUshr a 1) 1431655765)) 2) 858993459)) + (iUshr ((iAnd (a - (iAnd (iUshr a 1) 1431655765)) 858993459) + (iAnd (iUshr (a - (iAnd (iUshr a 1) 1431655765)) 2) 858993459)) 4)) 252645135) + (iUshr (iAnd (((iAnd (a - (iAnd (iUshr a 1) 1431655765)) 858993459) + (iAnd (iUshr (a - (iAnd (iUshr a 1) 1431655765)) 2) 858993459)) + (iUshr ((iAnd (a - (iAnd (iUshr a 1) 1431655765)) 858993459) + (iAnd (iUshr (a - (iAnd (iUshr a 1) 1431655765)) 2) 858993459)) 4)) 252645135) 8)) + (iUshr ((iAnd (((iAnd (a - (iAnd (iUshr a 1) 1431655765)) 858993459) + (iAnd (iUshr (a - (iAnd (iUshr a 1) 1431655765)) 2) 858993459)) + (iUshr ((iAnd (a - (iAnd (iUshr a 1) 1431655765)) 858993459) + (iAnd (iUshr (a - (iAnd (iUshr a 1) 1431655765)) 2) 858993459)) 4)) 252645135) + (iUshr (iAnd (((iAnd (a - (iAnd (iUshr a 1) 1431655765)) 858993459) + (iAnd (iUshr (a - (iAnd (iUshr a 1) 1431655765)) 2) 858993459)) + (iUshr ((iAnd (a - (iAnd (iUshr a 1) 1431655765)) 858993459) + (iAnd (iUshr (a - (iAnd (iUshr a 1) 1431655765)) 2) 858993459)) 4)) 252645135) 8)) 16)))]) F_74_47 rfl rfl ?_
  refine r_ldI_n (m := 0) F_74_48 rfl ?_
  refine r_bipush F_74_49 bi_63 ?_
  refine r_iand F_74_51 rfl ?_
  refine r_ireturn F_74_52 rt_74 ?_
  exact l1
