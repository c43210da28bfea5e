/-! walks: the reference, what is heard and what not -/
theorem n_244 : m_n 244 = 11 := by decide +kernel
theorem F_244_0 : F 244 0 (.lload_n 1) 1 := ⟨1, by decide +kernel, rfl, rfl⟩
theorem F_244_1 : F 244 1 (.lstore 5) 3 := ⟨2, by decide +kernel, rfl, rfl⟩
theorem F_244_3 : F 244 3 (.lload_n 3) 4 := ⟨1, by decide +kernel, rfl, rfl⟩
theorem F_244_4 : F 244 4 (.lstore 7) 6 := ⟨2, by decide +kernel, rfl, rfl⟩
theorem F_244_6 : F 244 6 (.lload 7) 8 := ⟨2, by decide +kernel, rfl, rfl⟩
theorem F_244_8 : F 244 8 (.lconst 0) 9 := ⟨1, by decide +kernel, rfl, rfl⟩
theorem F_244_9 : F 244 9 (.lcmp) 10 := ⟨1, by decide +kernel, rfl, rfl⟩
theorem F_244_10 : F 244 10 (.ifCond .eq 21) 13 := ⟨3, by decide +kernel, rfl, rfl⟩
theorem F_244_31 : F 244 31 (.aload_n 0) 32 := ⟨1, by decide +kernel, rfl, rfl⟩
theorem F_244_32 : F 244 32 (.lload_n 1) 33 := ⟨1, by decide +kernel, rfl, rfl⟩
theorem F_244_33 : F 244 33 (.lload 5) 35 := ⟨2, by decide +kernel, rfl, rfl⟩
theorem F_244_35 : F 244 35 (.ldiv) 36 := ⟨1, by decide +kernel, rfl, rfl⟩
theorem F_244_36 : F 244 36 (.putfield 64) 39 := ⟨3, by decide +kernel, rfl, rfl⟩
theorem o_244 : m_o 244 = 6 := by decide +kernel
theorem F_244_39 : F 244 39 (.aload_n 0) 40 := ⟨1, by decide +kernel, rfl, rfl⟩
theorem F_244_40 : F 244 40 (.lload_n 3) 41 := ⟨1, by decide +kernel, rfl, rfl⟩
theorem F_244_41 : F 244 41 (.lload 5) 43 := ⟨2, by decide +kernel, rfl, rfl⟩
theorem F_244_43 : F 244 43 (.ldiv) 44 := ⟨1, by decide +kernel, rfl, rfl⟩
theorem F_244_44 : F 244 44 (.putfield 53) 47 := ⟨3, by decide +kernel, rfl, rfl⟩
theorem F_244_47 : F 244 47 (.iconst 1) 48 := ⟨1, by decide +kernel, rfl, rfl⟩
theorem F_244_48 : F 244 48 (.ireturn) 49 := ⟨1, by decide +kernel, rfl, rfl⟩
theorem rt_244 : m_r 244 = (some .int) := by decide +kernel
theorem F_244_13 : F 244 13 (.lload 5) 15 := ⟨2, by decide +kernel, rfl, rfl⟩
theorem F_244_15 : F 244 15 (.lload 7) 17 := ⟨2, by decide +kernel, rfl, rfl⟩
theorem F_244_17 : F 244 17 (.lrem) 18 := ⟨1, by decide +kernel, rfl, rfl⟩
theorem F_244_18 : F 244 18 (.lstore 9) 20 := ⟨2, by decide +kernel, rfl, rfl⟩
theorem F_244_20 : F 244 20 (.lload 7) 22 := ⟨2, by decide +kernel, rfl, rfl⟩
theorem F_244_22 : F 244 22 (.lstore 5) 24 := ⟨2, by decide +kernel, rfl, rfl⟩
theorem F_244_24 : F 244 24 (.lload 9) 26 := ⟨2, by decide +kernel, rfl, rfl⟩
theorem F_244_26 : F 244 26 (.lstore 7) 28 := ⟨2, by decide +kernel, rfl, rfl⟩
theorem F_244_28 : F 244 28 (.goto (-22)) 31 := ⟨3, by decide +kernel, rfl, rfl⟩
theorem n_241 : m_n 241 = 2 := by decide +kernel
theorem F_241_0 : F 241 0 (.aload_n 0) 1 := ⟨1, by decide +kernel, rfl, rfl⟩
theorem F_241_1 : F 241 1 (.invokevirtual 182) 4 := ⟨3, by decide +kernel, rfl, rfl⟩
theorem o_241 : m_o 241 = 6 := by decide +kernel
theorem F_241_4 : F 241 4 (.ifCond .ne 6) 7 := ⟨3, by decide +kernel, rfl, rfl⟩
theorem F_241_7 : F 241 7 (.bipush (-4)) 9 := ⟨2, by decide +kernel, rfl, rfl⟩
theorem F_241_9 : F 241 9 (.ireturn) 10 := ⟨1, by decide +kernel, rfl, rfl⟩
theorem rt_241 : m_r 241 = (some .int) := by decide +kernel
theorem F_241_10 : F 241 10 (.aload_n 0) 11 := ⟨1, by decide +kernel, rfl, rfl⟩
theorem F_241_11 : F 241 11 (.getfield 7) 14 := ⟨3, by decide +kernel, rfl, rfl⟩
theorem F_241_14 : F 241 14 (.iload_n 1) 15 := ⟨1, by decide +kernel, rfl, rfl⟩
theorem F_241_15 : F 241 15 (.iaload) 16 := ⟨1, by decide +kernel, rfl, rfl⟩
theorem F_241_16 : F 241 16 (.ifCond .ge 9) 19 := ⟨3, by decide +kernel, rfl, rfl⟩
theorem F_241_25 : F 241 25 (.aload_n 0) 26 := ⟨1, by decide +kernel, rfl, rfl⟩
theorem F_241_26 : F 241 26 (.getfield 7) 29 := ⟨3, by decide +kernel, rfl, rfl⟩
theorem F_241_29 : F 241 29 (.iload_n 1) 30 := ⟨1, by decide +kernel, rfl, rfl⟩
theorem F_241_30 : F 241 30 (.iaload) 31 := ⟨1, by decide +kernel, rfl, rfl⟩
theorem F_241_31 : F 241 31 (.bipush 6) 33 := ⟨2, by decide +kernel, rfl, rfl⟩
theorem F_241_33 : F 241 33 (.if_icmp .le 9) 36 := ⟨3, by decide +kernel, rfl, rfl⟩
theorem F_241_42 : F 241 42 (.aload_n 0) 43 := ⟨1, by decide +kernel, rfl, rfl⟩
theorem F_241_43 : F 241 43 (.iload_n 1) 44 := ⟨1, by decide +kernel, rfl, rfl⟩
theorem F_241_44 : F 241 44 (.invokevirtual 207) 47 := ⟨3, by decide +kernel, rfl, rfl⟩
theorem F_241_47 : F 241 47 (.ifCond .eq 7) 50 := ⟨3, by decide +kernel, rfl, rfl⟩
theorem F_241_54 : F 241 54 (.aload_n 0) 55 := ⟨1, by decide +kernel, rfl, rfl⟩
theorem F_241_55 : F 241 55 (.iconst 3) 56 := ⟨1, by decide +kernel, rfl, rfl⟩
theorem F_241_56 : F 241 56 (.invokevirtual 75) 59 := ⟨3, by decide +kernel, rfl, rfl⟩
theorem F_241_59 : F 241 59 (.ireturn) 60 := ⟨1, by decide +kernel, rfl, rfl⟩
theorem F_241_50 : F 241 50 (.iconst 0) 51 := ⟨1, by decide +kernel, rfl, rfl⟩
theorem F_241_51 : F 241 51 (.goto 8) 54 := ⟨3, by decide +kernel, rfl, rfl⟩
theorem F_241_36 : F 241 36 (.aload_n 0) 37 := ⟨1, by decide +kernel, rfl, rfl⟩
theorem F_241_37 : F 241 37 (.iconst 5) 38 := ⟨1, by decide +kernel, rfl, rfl⟩
theorem F_241_38 : F 241 38 (.invokevirtual 75) 41 := ⟨3, by decide +kernel, rfl, rfl⟩
theorem F_241_41 : F 241 41 (.ireturn) 42 := ⟨1, by decide +kernel, rfl, rfl⟩
theorem F_241_19 : F 241 19 (.aload_n 0) 20 := ⟨1, by decide +kernel, rfl, rfl⟩
theorem F_241_20 : F 241 20 (.iconst 1) 21 := ⟨1, by decide +kernel, rfl, rfl⟩
theorem F_241_21 : F 241 21 (.invokevirtual 75) 24 := ⟨3, by decide +kernel, rfl, rfl⟩
theorem F_241_24 : F 241 24 (.ireturn) 25 := ⟨1, by decide +kernel, rfl, rfl⟩
theorem n_243 : m_n 243 = 5 := by decide +kernel
theorem F_243_0 : F 243 0 (.aload_n 0) 1 := ⟨1, by decide +kernel, rfl, rfl⟩
theorem F_243_1 : F 243 1 (.invokevirtual 210) 4 := ⟨3, by decide +kernel, rfl, rfl⟩
theorem o_243 : m_o 243 = 6 := by decide +kernel
theorem F_243_4 : F 243 4 (.iconst 0) 5 := ⟨1, by decide +kernel, rfl, rfl⟩
theorem F_243_5 : F 243 5 (.istore_n 3) 6 := ⟨1, by decide +kernel, rfl, rfl⟩
theorem F_243_6 : F 243 6 (.iload_n 3) 7 := ⟨1, by decide +kernel, rfl, rfl⟩
theorem F_243_7 : F 243 7 (.aload_n 0) 8 := ⟨1, by decide +kernel, rfl, rfl⟩
theorem F_243_8 : F 243 8 (.getfield 7) 11 := ⟨3, by decide +kernel, rfl, rfl⟩
theorem F_243_11 : F 243 11 (.iload_n 1) 12 := ⟨1, by decide +kernel, rfl, rfl⟩
theorem F_243_12 : F 243 12 (.iaload) 13 := ⟨1, by decide +kernel, rfl, rfl⟩
theorem F_243_13 : F 243 13 (.if_icmp .ge 52) 16 := ⟨3, by decide +kernel, rfl, rfl⟩
theorem F_243_65 : F 243 65 (.aload_n 0) 66 := ⟨1, by decide +kernel, rfl, rfl⟩
theorem F_243_66 : F 243 66 (.aload_n 0) 67 := ⟨1, by decide +kernel, rfl, rfl⟩
theorem F_243_67 : F 243 67 (.getfield 7) 70 := ⟨3, by decide +kernel, rfl, rfl⟩
theorem F_243_70 : F 243 70 (.iload_n 1) 71 := ⟨1, by decide +kernel, rfl, rfl⟩
theorem F_243_71 : F 243 71 (.iaload) 72 := ⟨1, by decide +kernel, rfl, rfl⟩
theorem F_243_72 : F 243 72 (.invokevirtual 220) 75 := ⟨3, by decide +kernel, rfl, rfl⟩
theorem F_243_75 : F 243 75 (.ireturn) 76 := ⟨1, by decide +kernel, rfl, rfl⟩
theorem rt_243 : m_r 243 = (some .int) := by decide +kernel
theorem F_243_16 : F 243 16 (.aload_n 0) 17 := ⟨1, by decide +kernel, rfl, rfl⟩
theorem F_243_17 : F 243 17 (.getfield 13) 20 := ⟨3, by decide +kernel, rfl, rfl⟩
theorem F_243_20 : F 243 20 (.bipush 40) 22 := ⟨2, by decide +kernel, rfl, rfl⟩
theorem F_243_22 : F 243 22 (.iload_n 1) 23 := ⟨1, by decide +kernel, rfl, rfl⟩
theorem F_243_23 : F 243 23 (.imul) 24 := ⟨1, by decide +kernel, rfl, rfl⟩
theorem F_243_24 : F 243 24 (.iload_n 3) 25 := ⟨1, by decide +kernel, rfl, rfl⟩
theorem F_243_25 : F 243 25 (.iadd) 26 := ⟨1, by decide +kernel, rfl, rfl⟩
theorem F_243_26 : F 243 26 (.iaload) 27 := ⟨1, by decide +kernel, rfl, rfl⟩
theorem F_243_27 : F 243 27 (.istore 4) 29 := ⟨2, by decide +kernel, rfl, rfl⟩
theorem F_243_29 : F 243 29 (.aload_n 0) 30 := ⟨1, by decide +kernel, rfl, rfl⟩
theorem F_243_30 : F 243 30 (.iload_n 3) 31 := ⟨1, by decide +kernel, rfl, rfl⟩
theorem F_243_31 : F 243 31 (.iload 4) 33 := ⟨2, by decide +kernel, rfl, rfl⟩
theorem F_243_33 : F 243 33 (.iload_n 2) 34 := ⟨1, by decide +kernel, rfl, rfl⟩
theorem F_243_34 : F 243 34 (.iload_n 3) 35 := ⟨1, by decide +kernel, rfl, rfl⟩
theorem F_243_35 : F 243 35 (.invokestatic 132) 38 := ⟨3, by decide +kernel, rfl, rfl⟩
theorem F_243_38 : F 243 38 (.ifCond .ne 17) 41 := ⟨3, by decide +kernel, rfl, rfl⟩
theorem F_243_41 : F 243 41 (.aload_n 0) 42 := ⟨1, by decide +kernel, rfl, rfl⟩
theorem F_243_42 : F 243 42 (.iload_n 3) 43 := ⟨1, by decide +kernel, rfl, rfl⟩
theorem F_243_43 : F 243 43 (.iload 4) 45 := ⟨2, by decide +kernel, rfl, rfl⟩
theorem F_243_45 : F 243 45 (.invokevirtual 213) 48 := ⟨3, by decide +kernel, rfl, rfl⟩
theorem F_243_48 : F 243 48 (.ifCond .eq 7) 51 := ⟨3, by decide +kernel, rfl, rfl⟩
theorem F_243_55 : F 243 55 (.iconst 0) 56 := ⟨1, by decide +kernel, rfl, rfl⟩
theorem F_243_56 : F 243 56 (.invokevirtual 216) 59 := ⟨3, by decide +kernel, rfl, rfl⟩
theorem F_243_59 : F 243 59 (.iinc 3 1) 62 := ⟨3, by decide +kernel, rfl, rfl⟩
theorem F_243_62 : F 243 62 (.goto (-56)) 65 := ⟨3, by decide +kernel, rfl, rfl⟩
theorem F_243_51 : F 243 51 (.iconst 1) 52 := ⟨1, by decide +kernel, rfl, rfl⟩
theorem F_243_52 : F 243 52 (.goto 4) 55 := ⟨3, by decide +kernel, rfl, rfl⟩
theorem t_X6_tellsParts {X : List Int32} {d : Nat} {s : m_St} {P : Option Value → m_St → Prop} {a b : Int}
    (l1 : Rn X d 244 6 [some (vR 77), some (vJ a), none, some (vJ b), none, some (vJ a), none, some (vJ b), none, none, none] [] s P)
    : Cl X d 244 [vR 77, vJ a, vJ b] s P := by
  refine Cl_of n_244 rfl ?_
  show Rn _ _ _ _ [some (vR 77), some (vJ a), none, some (vJ b), none, none, none, none, none, none, none] [] _ _
  refine r_ldJ_n (m := 1) F_244_0 rfl ?_
  refine r_stJ (m := 5) (L' := [some (vR 77), some (vJ a), none, some (vJ b), none, some (vJ a), none, none, none, none, none]) F_244_1 rfl rfl ?_
  refine r_ldJ_n (m := 3) F_244_3 rfl ?_
  refine r_stJ (m := 7) (L' := [some (vR 77), some (vJ a), none, some (vJ b), none, some (vJ a), none, some (vJ b), none, none, none]) F_244_4 rfl rfl ?_
  exact l1
theorem t_X6_tellsParts_6 {X : List Int32} {d : Nat} {s : m_St} {P : Option Value → m_St → Prop} {a b x y : Int} {z9 : Option Value} (x0 : 0 ≤ x) (y0 : 0 ≤ y)
    (l1 : (cmpJ y 0) = 0 → 0 < x)
    (l2 : (cmpJ y 0) = 0 → 0 ≤ a)
    (l3 : (cmpJ y 0) = 0 → inJ a)
    (l4 : (cmpJ y 0) = 0 → inJ x)
    (l5 : (cmpJ y 0) = 0 → 0 ≤ b)
    (l6 : (cmpJ y 0) = 0 → inJ b)
    (l7 : (cmpJ y 0) = 0 → P (some (vI 1)) (m_upd (m_upd s 77 12 (a / x)) 77 13 (b / x)))
    (l8 : ¬ (cmpJ y 0) = 0 → 0 < y)
    (l9 : ¬ (cmpJ y 0) = 0 → inJ x)
    (l10 : ¬ (cmpJ y 0) = 0 → inJ y)
    (l11 : ¬ (cmpJ y 0) = 0 → Rn X d 244 6 [some (vR 77), some (vJ a), none, some (vJ b), none, some (vJ y), none, some (vJ (x % y)), none, some (vJ (x % y)), none] [] s P)
    : Rn X d 244 6 [some (vR 77), some (vJ a), none, some (vJ b), none, some (vJ x), none, some (vJ y), none, z9, none] [] s P := by
  refine r_ldJ (m := 7) F_244_6 rfl ?_
  refine r_lconst (e := 0) F_244_8 rfl ?_
  refine r_lcmp F_244_9 ?_
  refine r_if (t := 31) F_244_10 rfl (inR_cmpJ _ _) ?_ ?_
  · intro e1
    replace e1 : (cmpJ y 0) = 0 := e1
    refine r_ldR_n (m := 0) F_244_31 rfl ?_
    refine r_ldJ_n (m := 1) F_244_32 rfl ?_
    refine r_ldJ (m := 5) F_244_33 rfl ?_
    refine r_ldiv F_244_35 (l3 e1) (l2 e1) (l4 e1) (l1 e1) ?_
    refine r_putJ (J := 12) F_244_36 o_244 fl_6_64 ty_77 (by decide) rfl kd_77_12 pf_6_12 ?_
    refine r_ldR_n (m := 0) F_244_39 rfl ?_
    refine r_ldJ_n (m := 3) F_244_40 rfl ?_
    refine r_ldJ (m := 5) F_244_41 rfl ?_
    refine r_ldiv F_244_43 (l6 e1) (l5 e1) (l4 e1) (l1 e1) ?_
    refine r_putJ (J := 13) F_244_44 o_244 fl_6_53 ty_77 (by decide) rfl kd_77_13 pf_6_13 ?_
    refine r_iconst F_244_47 ?_
    refine r_ireturn F_244_48 rt_244 ?_
    exact (l7 e1)
  · intro e2
    replace e2 : ¬ (cmpJ y 0) = 0 := e2
    refine r_ldJ (m := 5) F_244_13 rfl ?_
    refine r_ldJ (m := 7) F_244_15 rfl ?_
    refine r_lrem F_244_17 (l9 e2) x0 (l10 e2) (l8 e2) ?_
    refine r_stJ (m := 9) (L' := [some (vR 77), some (vJ a), none, some (vJ b), none, some (vJ x), none, some (vJ y), none, some (vJ (x % y)), none]) F_244_18 rfl rfl ?_
    refine r_ldJ (m := 7) F_244_20 rfl ?_
    refine r_stJ (m := 5) (L' := [some (vR 77), some (vJ a), none, some (vJ b), none, some (vJ y), none, some (vJ y), none, some (vJ (x % y)), none]) F_244_22 rfl rfl ?_
    refine r_ldJ (m := 9) F_244_24 rfl ?_
    refine r_stJ (m := 7) (L' := [some (vR 77), some (vJ a), none, some (vJ b), none, some (vJ y), none, some (vJ (x % y)), none, some (vJ (x % y)), none]) F_244_26 rfl rfl ?_
    refine r_goto (t := 6) F_244_28 rfl ?_
    exact (l11 e2)
theorem t_X6_barredTalk {X : List Int32} {d : Nat} {s : m_St} {P : Option Value → m_St → Prop} {r : Int} (h0 : 0 ≤ r) (h6 : r < 6)
    (l1 : inR (s 83 5))
    (l2 : (s 83 5) ≤ 0 → P (some (vI (-4))) s)
    (l3 : 0 < (s 83 5) → inR (s 78 r))
    (l4 : 0 < (s 83 5) → 0 ≤ (s 78 r) → (s 78 r) ≤ 6 → rwM s r)
    (l5 : 0 < (s 83 5) → 0 ≤ (s 78 r) → (s 78 r) ≤ 6 → (asv s r) = 0 → P (some (vI (-3))) (m_upd (m_upd s 77 10 3) 87 3 ((s 87 3) + 1)))
    (l6 : 0 < (s 83 5) → 0 ≤ (s 78 r) → (s 78 r) ≤ 6 → ¬ (asv s r) = 0 → P (some (vI 0)) s)
    (l7 : 0 < (s 83 5) → 0 ≤ (s 78 r) → 6 < (s 78 r) → P (some (vI (-3))) (m_upd (m_upd s 77 10 5) 87 5 ((s 87 5) + 1)))
    (l8 : 0 < (s 83 5) → (s 78 r) < 0 → P (some (vI (-3))) (m_upd (m_upd s 77 10 1) 87 1 ((s 87 1) + 1)))
    : Cl X (d + 2) 241 [vR 77, vI r] s P := by
  refine Cl_of n_241 rfl ?_
  show Rn _ _ _ _ [some (vR 77), some (vI r)] [] _ _
  refine r_ldR_n (m := 0) F_241_0 rfl ?_
  refine r_virt2 (A := []) (r := []) (n := 0) F_241_1 o_241 il_6_182 rfl rfl rfl rfl ty_77 vy_204 (lay_le n_204 rfl) ?_
  refine Cl_of n_204 rfl ?_
  show Rn _ _ _ _ [some (vR 77)] [] _ _
  refine r_ldR_n (m := 0) F_204_0 rfl ?_
  refine r_getR (J := 5) F_204_1 o_204 fl_6_25 ty_77 (by decide) rfl (kd2 kd_77_5 (by decide)) (kd9 kd_77_5 (by decide)) rf_77_5 ?_
  refine r_iconst F_204_4 ?_
  refine r_iald (e := (s 83 5)) F_204_5 ty_83 (by decide) (lt_ln ln_83 (by decide)) rfl ?_
  refine r_if (t := 13) F_204_6 rfl l1 ?_ ?_
  · intro e1
    replace e1 : (s 83 5) ≤ 0 := e1
    refine r_iconst F_204_13 ?_
    refine r_zreturn F_204_14 rt_204 (Or.inl rfl) ?_
    show Rn _ _ _ _ _ [vI 0] _ _
    refine r_ifF (t := 10) F_241_4 rfl (by decide) (by show ¬ (¬ (0 : Int) = 0); decide) ?_
    refine r_bipush F_241_7 bi__4 ?_
    refine r_ireturn F_241_9 rt_241 ?_
    exact (l2 e1)
  · intro e2
    replace e2 : 0 < (s 83 5) := (Int.not_le.mp e2)
    refine r_iconst F_204_9 ?_
    refine r_goto (t := 14) F_204_10 rfl ?_
    refine r_zreturn F_204_14 rt_204 (Or.inr rfl) ?_
    show Rn _ _ _ _ _ [vI 1] _ _
    refine r_ifT (t := 10) F_241_4 rfl (by decide) (by show ¬ (1 : Int) = 0; decide) ?_
    refine r_ldR_n (m := 0) F_241_10 rfl ?_
    refine r_getR (J := 0) F_241_11 o_241 fl_6_7 ty_77 (by decide) rfl (kd2 kd_77_0 (by decide)) (kd9 kd_77_0 (by decide)) rf_77_0 ?_
    refine r_ldI_n (m := 1) F_241_14 rfl ?_
    refine r_iald (e := (s 78 r)) F_241_15 ty_78 h0 (lt_ln ln_78 h6) rfl ?_
    refine r_if (t := 25) F_241_16 rfl (l3 e2) ?_ ?_
    · intro e3
      replace e3 : 0 ≤ (s 78 r) := e3
      refine r_ldR_n (m := 0) F_241_25 rfl ?_
      refine r_getR (J := 0) F_241_26 o_241 fl_6_7 ty_77 (by decide) rfl (kd2 kd_77_0 (by decide)) (kd9 kd_77_0 (by decide)) rf_77_0 ?_
      refine r_ldI_n (m := 1) F_241_29 rfl ?_
      refine r_iald (e := (s 78 r)) F_241_30 ty_78 h0 (lt_ln ln_78 h6) rfl ?_
      refine r_bipush F_241_31 bi_6 ?_
      refine r_icmp (t := 42) F_241_33 rfl (l3 e2) (by decide) ?_ ?_
      · intro e4
        replace e4 : (s 78 r) ≤ 6 := e4
        refine r_ldR_n (m := 0) F_241_42 rfl ?_
        refine r_ldI_n (m := 1) F_241_43 rfl ?_
        refine r_virt2 (A := [vI r]) (r := []) (n := 1) F_241_44 o_241 il_6_207 rfl rfl rfl rfl ty_77 vy_218 (lay_le n_218 rfl) ?_
        refine sp_areSayingsV h0 h6 (l4 e2 e3 e4) ?_
        show Rn _ _ _ _ _ [vI (asv s r)] _ _
        refine r_if (t := 54) F_241_47 rfl (inR_asv _ _) ?_ ?_
        · intro e5
          replace e5 : (asv s r) = 0 := e5
          refine r_ldR_n (m := 0) F_241_54 rfl ?_
          refine r_iconst F_241_55 ?_
          refine r_virt2 (A := [vI 3]) (r := []) (n := 1) F_241_56 o_241 il_6_75 rfl rfl rfl rfl ty_77 vy_161 (lay_le n_161 rfl) ?_
          refine Cl_of n_161 rfl ?_
          show Rn _ _ _ _ [some (vR 77), some (vI 3)] [] _ _
          refine r_ldR_n (m := 0) F_161_0 rfl ?_
          refine r_ldI_n (m := 1) F_161_1 rfl ?_
          refine r_putI (J := 10) F_161_2 o_161 fl_6_57 ty_77 (by decide) rfl kd_77_10 pf_6_10 ?_
          refine r_ldR_n (m := 0) F_161_5 rfl ?_
          refine r_getR (J := 9) F_161_6 o_161 fl_6_38 ty_77 (by decide) rfl (kd2 kd_77_9 (by decide)) (kd9 kd_77_9 (by decide)) rf_77_9 ?_
          refine r_ldI_n (m := 1) F_161_9 rfl ?_
          refine r_dup2 F_161_10 ?_
          refine r_iald (e := (s 87 3)) F_161_11 ty_87 (by decide) (lt_ln ln_87 (by decide)) (upd_nc (by decide)) ?_
          refine r_iconst F_161_12 ?_
          refine r_iadd F_161_13 rfl ?_
          refine r_iast F_161_14 ty_87 (by decide) (lt_ln ln_87 (by decide)) ?_
          refine r_bipush F_161_15 bi__3 ?_
          refine r_ireturn F_161_17 rt_161 ?_
          show Rn _ _ _ _ _ [vI (-3)] _ _
          refine r_ireturn F_241_59 rt_241 ?_
          exact (l5 e2 e3 e4 e5)
        · intro e6
          replace e6 : ¬ (asv s r) = 0 := e6
          refine r_iconst F_241_50 ?_
          refine r_goto (t := 59) F_241_51 rfl ?_
          refine r_ireturn F_241_59 rt_241 ?_
          exact (l6 e2 e3 e4 e6)
      · intro e7
        replace e7 : 6 < (s 78 r) := (Int.not_le.mp e7)
        refine r_ldR_n (m := 0) F_241_36 rfl ?_
        refine r_iconst F_241_37 ?_
        refine r_virt2 (A := [vI 5]) (r := []) (n := 1) F_241_38 o_241 il_6_75 rfl rfl rfl rfl ty_77 vy_161 (lay_le n_161 rfl) ?_
        refine Cl_of n_161 rfl ?_
        show Rn _ _ _ _ [some (vR 77), some (vI 5)] [] _ _
        refine r_ldR_n (m := 0) F_161_0 rfl ?_
        refine r_ldI_n (m := 1) F_161_1 rfl ?_
        refine r_putI (J := 10) F_161_2 o_161 fl_6_57 ty_77 (by decide) rfl kd_77_10 pf_6_10 ?_
        refine r_ldR_n (m := 0) F_161_5 rfl ?_
        refine r_getR (J := 9) F_161_6 o_161 fl_6_38 ty_77 (by decide) rfl (kd2 kd_77_9 (by decide)) (kd9 kd_77_9 (by decide)) rf_77_9 ?_
        refine r_ldI_n (m := 1) F_161_9 rfl ?_
        refine r_dup2 F_161_10 ?_
        refine r_iald (e := (s 87 5)) F_161_11 ty_87 (by decide) (lt_ln ln_87 (by decide)) (upd_nc (by decide)) ?_
        refine r_iconst F_161_12 ?_
        refine r_iadd F_161_13 rfl ?_
        refine r_iast F_161_14 ty_87 (by decide) (lt_ln ln_87 (by decide)) ?_
        refine r_bipush F_161_15 bi__3 ?_
        refine r_ireturn F_161_17 rt_161 ?_
        show Rn _ _ _ _ _ [vI (-3)] _ _
        refine r_ireturn F_241_41 rt_241 ?_
        exact (l7 e2 e3 e7)
    · intro e8
      replace e8 : (s 78 r) < 0 := (Int.not_le.mp e8)
      refine r_ldR_n (m := 0) F_241_19 rfl ?_
      refine r_iconst F_241_20 ?_
      refine r_virt2 (A := [vI 1]) (r := []) (n := 1) F_241_21 o_241 il_6_75 rfl rfl rfl rfl ty_77 vy_161 (lay_le n_161 rfl) ?_
      refine Cl_of n_161 rfl ?_
      show Rn _ _ _ _ [some (vR 77), some (vI 1)] [] _ _
      refine r_ldR_n (m := 0) F_161_0 rfl ?_
      refine r_ldI_n (m := 1) F_161_1 rfl ?_
      refine r_putI (J := 10) F_161_2 o_161 fl_6_57 ty_77 (by decide) rfl kd_77_10 pf_6_10 ?_
      refine r_ldR_n (m := 0) F_161_5 rfl ?_
      refine r_getR (J := 9) F_161_6 o_161 fl_6_38 ty_77 (by decide) rfl (kd2 kd_77_9 (by decide)) (kd9 kd_77_9 (by decide)) rf_77_9 ?_
      refine r_ldI_n (m := 1) F_161_9 rfl ?_
      refine r_dup2 F_161_10 ?_
      refine r_iald (e := (s 87 1)) F_161_11 ty_87 (by decide) (lt_ln ln_87 (by decide)) (upd_nc (by decide)) ?_
      refine r_iconst F_161_12 ?_
      refine r_iadd F_161_13 rfl ?_
      refine r_iast F_161_14 ty_87 (by decide) (lt_ln ln_87 (by decide)) ?_
      refine r_bipush F_161_15 bi__3 ?_
      refine r_ireturn F_161_17 rt_161 ?_
      show Rn _ _ _ _ _ [vI (-3)] _ _
      refine r_ireturn F_241_24 rt_241 ?_
      exact (l8 e2 e8)
theorem t_X6_bothBy {X : List Int32} {d : Nat} {s : m_St} {P : Option Value → m_St → Prop} {r l : Int} (h0 : 0 ≤ r) (h6 : r < 6)
    (l1 : 0 ≤ ((s 83 5) - 1))
    (l2 : ((s 83 5) - 1) < 6)
    (l3 : 0 ≤ ((s 83 6) - 1))
    (l4 : ((s 83 6) - 1) < 6)
    (l5 : ∀ (s1 : m_St), qOp s ((s 83 5) - 1) ((s 83 6) - 1) s1 → Rn X (d + 4) 243 6 [some (vR 77), some (vI r), some (vI l), some (vI 0), none] [] s1 P)
    : Cl X (d + 4) 243 [vR 77, vI r, vI l] s P := by
  refine Cl_of n_243 rfl ?_
  show Rn _ _ _ _ [some (vR 77), some (vI r), some (vI l), none, none] [] _ _
  refine r_ldR_n (m := 0) F_243_0 rfl ?_
  refine r_virt2 (A := []) (r := []) (n := 0) F_243_1 o_243 il_6_210 rfl rfl rfl rfl ty_77 vy_219 (lay_le n_219 rfl) ?_
  refine Cl_of n_219 rfl ?_
  show Rn _ _ _ _ [some (vR 77)] [] _ _
  refine r_ldR_n (m := 0) F_219_0 rfl ?_
  refine r_ldR_n (m := 0) F_219_1 rfl ?_
  refine r_getR (J := 5) F_219_2 o_219 fl_6_25 ty_77 (by decide) rfl (kd2 kd_77_5 (by decide)) (kd9 kd_77_5 (by decide)) rf_77_5 ?_
  refine r_iconst F_219_5 ?_
  refine r_iald (e := (s 83 5)) F_219_6 ty_83 (by decide) (lt_ln ln_83 (by decide)) rfl ?_
  refine r_iconst F_219_7 ?_
  refine r_isub F_219_8 rfl ?_
  refine r_ldR_n (m := 0) F_219_9 rfl ?_
  refine r_getR (J := 5) F_219_10 o_219 fl_6_25 ty_77 (by decide) rfl (kd2 kd_77_5 (by decide)) (kd9 kd_77_5 (by decide)) rf_77_5 ?_
  refine r_bipush F_219_13 bi_6 ?_
  refine r_iald (e := (s 83 6)) F_219_15 ty_83 (by decide) (lt_ln ln_83 (by decide)) rfl ?_
  refine r_iconst F_219_16 ?_
  refine r_isub F_219_17 rfl ?_
  refine r_virt2 (A := [vI ((s 83 5) - 1), vI ((s 83 6) - 1)]) (r := []) (n := 2) F_219_18 o_219 il_6_201 rfl rfl rfl rfl ty_77 vy_220 (lay_le n_220 rfl) ?_
  refine sp_opens l1 l2 l3 l4 ?_
  intro s1 q1
  show Rn _ _ _ _ _ [] _ _
  refine r_return F_219_21 rt_219 ?_
  show Rn _ _ _ _ _ [] _ _
  refine r_iconst F_243_4 ?_
  refine r_stI_n (m := 3) (L' := [some (vR 77), some (vI r), some (vI l), some (vI 0), none]) F_243_5 rfl rfl ?_
  exact (l5 s1 q1)
theorem t_X6_bothBy_6 {X : List Int32} {d : Nat} {s : m_St} {P : Option Value → m_St → Prop} {r l k : Int} {z4 : Option Value} (h0 : 0 ≤ r) (h6 : r < 6) (k0 : 0 ≤ k)
    (l1 : inR k)
    (l2 : inR (s 78 r))
    (l3 : (s 78 r) ≤ k → opS s)
    (l4 : (s 78 r) ≤ k → 0 ≤ (s 78 r))
    (l5 : (s 78 r) ≤ k → ((s 78 r) : Int) ≤ 6)
    (l6 : (s 78 r) ≤ k → w8 (wt s (s 78 r)))
    (l7 : (s 78 r) ≤ k → P (some (vI (iAnd (hW s (s 78 r) 0) (hW s (s 78 r) 1)))) s)
    (l8 : k < (s 78 r) → 0 ≤ ((40 * r) + k))
    (l9 : k < (s 78 r) → ((40 * r) + k) < 240)
    (l10 : k < (s 78 r) → ¬ (iAnd (iShr l k) 1) = 1 → 0 ≤ (s 79 ((40 * r) + k)))
    (l11 : k < (s 78 r) → ¬ (iAnd (iShr l k) 1) = 1 → inR (s 79 ((40 * r) + k)))
    (l12 : k < (s 78 r) → ¬ (iAnd (iShr l k) 1) = 1 → opS s)
    (l13 : k < (s 78 r) → ¬ (iAnd (iShr l k) 1) = 1 → (k : Int) ≤ 6)
    (l14 : k < (s 78 r) → ¬ (iAnd (iShr l k) 1) = 1 → w8 (wt s k))
    (l15 : k < (s 78 r) → ¬ (iAnd (iShr l k) 1) = 1 → 0 ≤ ((s 79 ((40 * r) + k)) / 4))
    (l16 : k < (s 78 r) → ¬ (iAnd (iShr l k) 1) = 1 → ((s 79 ((40 * r) + k)) / 4) < 2)
    (l17 : k < (s 78 r) → ¬ (iAnd (iShr l k) 1) = 1 → ¬ (iAnd (iShr (hW s k ((s 79 ((40 * r) + k)) / 4)) ((s 79 ((40 * r) + k)) % 4)) 1) = 1 → (0 : Int) ≤ k)
    (l18 : k < (s 78 r) → ¬ (iAnd (iShr l k) 1) = 1 → ¬ (iAnd (iShr (hW s k ((s 79 ((40 * r) + k)) / 4)) ((s 79 ((40 * r) + k)) % 4)) 1) = 1 → (k : Int) ≤ 5)
    (l19 : k < (s 78 r) → ¬ (iAnd (iShr l k) 1) = 1 → ¬ (iAnd (iShr (hW s k ((s 79 ((40 * r) + k)) / 4)) ((s 79 ((40 * r) + k)) % 4)) 1) = 1 → (0 : Int) ≤ (s 79 ((40 * r) + k)))
    (l20 : k < (s 78 r) → ¬ (iAnd (iShr l k) 1) = 1 → ¬ (iAnd (iShr (hW s k ((s 79 ((40 * r) + k)) / 4)) ((s 79 ((40 * r) + k)) % 4)) 1) = 1 → ((s 79 ((40 * r) + k)) : Int) < 8)
    (l21 : k < (s 78 r) → ¬ (iAnd (iShr l k) 1) = 1 → ¬ (iAnd (iShr (hW s k ((s 79 ((40 * r) + k)) / 4)) ((s 79 ((40 * r) + k)) % 4)) 1) = 1 → ∀ (s5 : m_St), qGo s k (if 0 = 0 then wt s k else uW s k (s 79 ((40 * r) + k))) s5 → Rn X (d + 4) 243 6 [some (vR 77), some (vI r), some (vI l), some (vI (k + 1)), some (vI (s 79 ((40 * r) + k)))] [] s5 P)
    (l22 : k < (s 78 r) → ¬ (iAnd (iShr l k) 1) = 1 → (iAnd (iShr (hW s k ((s 79 ((40 * r) + k)) / 4)) ((s 79 ((40 * r) + k)) % 4)) 1) = 1 → (0 : Int) ≤ k)
    (l23 : k < (s 78 r) → ¬ (iAnd (iShr l k) 1) = 1 → (iAnd (iShr (hW s k ((s 79 ((40 * r) + k)) / 4)) ((s 79 ((40 * r) + k)) % 4)) 1) = 1 → (k : Int) ≤ 5)
    (l24 : k < (s 78 r) → ¬ (iAnd (iShr l k) 1) = 1 → (iAnd (iShr (hW s k ((s 79 ((40 * r) + k)) / 4)) ((s 79 ((40 * r) + k)) % 4)) 1) = 1 → (0 : Int) ≤ (s 79 ((40 * r) + k)))
    (l25 : k < (s 78 r) → ¬ (iAnd (iShr l k) 1) = 1 → (iAnd (iShr (hW s k ((s 79 ((40 * r) + k)) / 4)) ((s 79 ((40 * r) + k)) % 4)) 1) = 1 → ((s 79 ((40 * r) + k)) : Int) < 8)
    (l26 : k < (s 78 r) → ¬ (iAnd (iShr l k) 1) = 1 → (iAnd (iShr (hW s k ((s 79 ((40 * r) + k)) / 4)) ((s 79 ((40 * r) + k)) % 4)) 1) = 1 → ∀ (s7 : m_St), qGo s k (uW s k (s 79 ((40 * r) + k))) s7 → Rn X (d + 4) 243 6 [some (vR 77), some (vI r), some (vI l), some (vI (k + 1)), some (vI (s 79 ((40 * r) + k)))] [] s7 P)
    (l27 : k < (s 78 r) → (iAnd (iShr l k) 1) = 1 → opS s)
    (l28 : k < (s 78 r) → (iAnd (iShr l k) 1) = 1 → (0 : Int) ≤ k)
    (l29 : k < (s 78 r) → (iAnd (iShr l k) 1) = 1 → (k : Int) ≤ 5)
    (l30 : k < (s 78 r) → (iAnd (iShr l k) 1) = 1 → (0 : Int) ≤ (s 79 ((40 * r) + k)))
    (l31 : k < (s 78 r) → (iAnd (iShr l k) 1) = 1 → ((s 79 ((40 * r) + k)) : Int) < 8)
    (l32 : k < (s 78 r) → (iAnd (iShr l k) 1) = 1 → w8 (wt s k))
    (l33 : k < (s 78 r) → (iAnd (iShr l k) 1) = 1 → ∀ (s9 : m_St), qGo s k (if 0 = 0 then wt s k else uW s k (s 79 ((40 * r) + k))) s9 → Rn X (d + 4) 243 6 [some (vR 77), some (vI r), some (vI l), some (vI (k + 1)), some (vI (s 79 ((40 * r) + k)))] [] s9 P)
    : Rn X (d + 4) 243 6 [some (vR 77), some (vI r), some (vI l), some (vI k), z4] [] s P := by
  refine r_ldI_n (m := 3) F_243_6 rfl ?_
  refine r_ldR_n (m := 0) F_243_7 rfl ?_
  refine r_getR (J := 0) F_243_8 o_243 fl_6_7 ty_77 (by decide) rfl (kd2 kd_77_0 (by decide)) (kd9 kd_77_0 (by decide)) rf_77_0 ?_
  refine r_ldI_n (m := 1) F_243_11 rfl ?_
  refine r_iald (e := (s 78 r)) F_243_12 ty_78 h0 (lt_ln ln_78 h6) rfl ?_
  refine r_icmp (t := 65) F_243_13 rfl l1 l2 ?_ ?_
  · intro e1
    replace e1 : (s 78 r) ≤ k := e1
    refine r_ldR_n (m := 0) F_243_65 rfl ?_
    refine r_ldR_n (m := 0) F_243_66 rfl ?_
    refine r_getR (J := 0) F_243_67 o_243 fl_6_7 ty_77 (by decide) rfl (kd2 kd_77_0 (by decide)) (kd9 kd_77_0 (by decide)) rf_77_0 ?_
    refine r_ldI_n (m := 1) F_243_70 rfl ?_
    refine r_iald (e := (s 78 r)) F_243_71 ty_78 h0 (lt_ln ln_78 h6) rfl ?_
    refine r_virt2 (A := [vI (s 78 r)]) (r := []) (n := 1) F_243_72 o_243 il_6_220 rfl rfl rfl rfl ty_77 vy_224 (lay_le n_224 rfl) ?_
    refine Cl_of n_224 rfl ?_
    show Rn _ _ _ _ [some (vR 77), some (vI (s 78 r))] [] _ _
    refine r_ldR_n (m := 0) F_224_0 rfl ?_
    refine r_ldI_n (m := 1) F_224_1 rfl ?_
    refine r_iconst F_224_2 ?_
    refine r_virt2 (A := [vI (s 78 r), vI 0]) (r := []) (n := 2) F_224_3 o_224 il_6_204 rfl rfl rfl rfl ty_77 vy_222 (lay_le n_222 rfl) ?_
    refine sp_heldAtS (l3 e1) (l4 e1) (l5 e1) (l6 e1) (by decide) (by decide) ?_
    show Rn _ _ _ _ _ [vI (hW s (s 78 r) 0)] _ _
    refine r_ldR_n (m := 0) F_224_6 rfl ?_
    refine r_ldI_n (m := 1) F_224_7 rfl ?_
    refine r_iconst F_224_8 ?_
    refine r_virt2 (A := [vI (s 78 r), vI 1]) (r := [vI (hW s (s 78 r) 0)]) (n := 2) F_224_9 o_224 il_6_204 rfl rfl rfl rfl ty_77 vy_222 (lay_le n_222 rfl) ?_
    refine sp_heldAtS (l3 e1) (l4 e1) (l5 e1) (l6 e1) (by decide) (by decide) ?_
    show Rn _ _ _ _ _ [vI (hW s (s 78 r) 1), vI (hW s (s 78 r) 0)] _ _
    refine r_iand F_224_12 rfl ?_
    refine r_ireturn F_224_13 rt_224 ?_
    show Rn _ _ _ _ _ [vI (iAnd (hW s (s 78 r) 0) (hW s (s 78 r) 1))] _ _
    refine r_ireturn F_243_75 rt_243 ?_
    exact (l7 e1)
  · intro e2
    replace e2 : k < (s 78 r) := (Int.not_le.mp e2)
    refine r_ldR_n (m := 0) F_243_16 rfl ?_
    refine r_getR (J := 1) F_243_17 o_243 fl_6_13 ty_77 (by decide) rfl (kd2 kd_77_1 (by decide)) (kd9 kd_77_1 (by decide)) rf_77_1 ?_
    refine r_bipush F_243_20 bi_40 ?_
    refine r_ldI_n (m := 1) F_243_22 rfl ?_
    refine r_imul F_243_23 rfl ?_
    refine r_ldI_n (m := 3) F_243_24 rfl ?_
    refine r_iadd F_243_25 rfl ?_
    refine r_iald (e := (s 79 ((40 * r) + k))) F_243_26 ty_79 (l8 e2) (lt_ln ln_79 (l9 e2)) rfl ?_
    refine r_stI (m := 4) (L' := [some (vR 77), some (vI r), some (vI l), some (vI k), some (vI (s 79 ((40 * r) + k)))]) F_243_27 rfl rfl ?_
    refine r_ldR_n (m := 0) F_243_29 rfl ?_
    refine r_ldI_n (m := 3) F_243_30 rfl ?_
    refine r_ldI (m := 4) F_243_31 rfl ?_
    refine r_ldI_n (m := 2) F_243_33 rfl ?_
    refine r_ldI_n (m := 3) F_243_34 rfl ?_
    refine r_stat2 (A := [vI l, vI k]) (r := [vI (s 79 ((40 * r) + k)), vI k, vR 77]) (n := 2) F_243_35 o_243 il_6_132 (by decide) rfl rfl rfl rfl (lay_le n_194 rfl) ?_
    refine Cl_of n_194 rfl ?_
    show Rn _ _ _ _ [some (vI l), some (vI k)] [] _ _
    refine r_ldI_n (m := 0) F_194_0 rfl ?_
    refine r_ldI_n (m := 1) F_194_1 rfl ?_
    refine r_ishr F_194_2 rfl ?_
    refine r_iconst F_194_3 ?_
    refine r_iand F_194_4 rfl ?_
    refine r_iconst F_194_5 ?_
    refine r_icmp (t := 13) F_194_6 rfl (inR_iAnd _ _) (by decide) ?_ ?_
    · intro e3
      replace e3 : ¬ (iAnd (iShr l k) 1) = 1 := e3
      refine r_iconst F_194_13 ?_
      refine r_zreturn F_194_14 rt_194 (Or.inl rfl) ?_
      show Rn _ _ _ _ _ [vI 0, vI (s 79 ((40 * r) + k)), vI k, vR 77] _ _
      refine r_ifF (t := 55) F_243_38 rfl (by decide) (by show ¬ (¬ (0 : Int) = 0); decide) ?_
      refine r_ldR_n (m := 0) F_243_41 rfl ?_
      refine r_ldI_n (m := 3) F_243_42 rfl ?_
      refine r_ldI (m := 4) F_243_43 rfl ?_
      refine r_virt2 (A := [vI k, vI (s 79 ((40 * r) + k))]) (r := [vI (s 79 ((40 * r) + k)), vI k, vR 77]) (n := 2) F_243_45 o_243 il_6_213 rfl rfl rfl rfl ty_77 vy_221 (lay_le n_221 rfl) ?_
      refine Cl_of n_221 rfl ?_
      show Rn _ _ _ _ [some (vR 77), some (vI k), some (vI (s 79 ((40 * r) + k)))] [] _ _
      refine r_ldR_n (m := 0) F_221_0 rfl ?_
      refine r_ldI_n (m := 1) F_221_1 rfl ?_
      refine r_ldI_n (m := 2) F_221_2 rfl ?_
      refine r_iconst F_221_3 ?_
      refine r_idiv F_221_4 (l11 e2 e3) (l10 e2 e3) (by decide) (by decide) ?_
      refine r_virt2 (A := [vI k, vI ((s 79 ((40 * r) + k)) / 4)]) (r := []) (n := 2) F_221_5 o_221 il_6_204 rfl rfl rfl rfl ty_77 vy_222 (lay_le n_222 rfl) ?_
      refine sp_heldAtS (l12 e2 e3) k0 (l13 e2 e3) (l14 e2 e3) (l15 e2 e3) (l16 e2 e3) ?_
      show Rn _ _ _ _ _ [vI (hW s k ((s 79 ((40 * r) + k)) / 4))] _ _
      refine r_ldI_n (m := 2) F_221_8 rfl ?_
      refine r_iconst F_221_9 ?_
      refine r_irem F_221_10 (l11 e2 e3) (l10 e2 e3) (by decide) (by decide) ?_
      refine r_stat2 (A := [vI (hW s k ((s 79 ((40 * r) + k)) / 4)), vI ((s 79 ((40 * r) + k)) % 4)]) (r := []) (n := 2) F_221_11 o_221 il_6_132 (by decide) rfl rfl rfl rfl (lay_le n_194 rfl) ?_
      refine Cl_of n_194 rfl ?_
      show Rn _ _ _ _ [some (vI (hW s k ((s 79 ((40 * r) + k)) / 4))), some (vI ((s 79 ((40 * r) + k)) % 4))] [] _ _
      refine r_ldI_n (m := 0) F_194_0 rfl ?_
      refine r_ldI_n (m := 1) F_194_1 rfl ?_
      refine r_ishr F_194_2 rfl ?_
      refine r_iconst F_194_3 ?_
      refine r_iand F_194_4 rfl ?_
      refine r_iconst F_194_5 ?_
      refine r_icmp (t := 13) F_194_6 rfl (inR_iAnd _ _) (by decide) ?_ ?_
      · intro e4
        replace e4 : ¬ (iAnd (iShr (hW s k ((s 79 ((40 * r) + k)) / 4)) ((s 79 ((40 * r) + k)) % 4)) 1) = 1 := e4
        refine r_iconst F_194_13 ?_
        refine r_zreturn F_194_14 rt_194 (Or.inl rfl) ?_
        show Rn _ _ _ _ _ [vI 0] _ _
        refine r_zreturn F_221_14 rt_221 (Or.inl rfl) ?_
        show Rn _ _ _ _ _ [vI 0, vI (s 79 ((40 * r) + k)), vI k, vR 77] _ _
        refine r_ifT (t := 55) F_243_48 rfl (by decide) (by show (0 : Int) = 0; decide) ?_
        refine r_iconst F_243_55 ?_
        refine r_virt2 (A := [vI k, vI (s 79 ((40 * r) + k)), vI 0]) (r := []) (n := 3) F_243_56 o_243 il_6_216 rfl rfl rfl rfl ty_77 vy_223 (lay_le n_223 rfl) ?_
        refine sp_goesF (l12 e2 e3) (l17 e2 e3 e4) (l18 e2 e3 e4) (l19 e2 e3 e4) (l20 e2 e3 e4) (l14 e2 e3) (by decide) ?_
        intro s5 q5
        show Rn _ _ _ _ _ [] _ _
        refine r_iinc (m := 3) (e := (k + 1)) (L' := [some (vR 77), some (vI r), some (vI l), some (vI (k + 1)), some (vI (s 79 ((40 * r) + k)))]) F_243_59 rfl rfl rfl rfl ?_
        refine r_goto (t := 6) F_243_62 rfl ?_
        exact (l21 e2 e3 e4 s5 q5)
      · intro e6
        replace e6 : (iAnd (iShr (hW s k ((s 79 ((40 * r) + k)) / 4)) ((s 79 ((40 * r) + k)) % 4)) 1) = 1 := (Classical.not_not.mp e6)
        refine r_iconst F_194_9 ?_
        refine r_goto (t := 14) F_194_10 rfl ?_
        refine r_zreturn F_194_14 rt_194 (Or.inr rfl) ?_
        show Rn _ _ _ _ _ [vI 1] _ _
        refine r_zreturn F_221_14 rt_221 (Or.inr rfl) ?_
        show Rn _ _ _ _ _ [vI 1, vI (s 79 ((40 * r) + k)), vI k, vR 77] _ _
        refine r_ifF (t := 55) F_243_48 rfl (by decide) (by show ¬ ((1 : Int) = 0); decide) ?_
        refine r_iconst F_243_51 ?_
        refine r_goto (t := 56) F_243_52 rfl ?_
        refine r_virt2 (A := [vI k, vI (s 79 ((40 * r) + k)), vI 1]) (r := []) (n := 3) F_243_56 o_243 il_6_216 rfl rfl rfl rfl ty_77 vy_223 (lay_le n_223 rfl) ?_
        refine sp_goesT (l12 e2 e3) (l22 e2 e3 e6) (l23 e2 e3 e6) (l24 e2 e3 e6) (l25 e2 e3 e6) (l14 e2 e3) ?_
        intro s7 q7
        show Rn _ _ _ _ _ [] _ _
        refine r_iinc (m := 3) (e := (k + 1)) (L' := [some (vR 77), some (vI r), some (vI l), some (vI (k + 1)), some (vI (s 79 ((40 * r) + k)))]) F_243_59 rfl rfl rfl rfl ?_
        refine r_goto (t := 6) F_243_62 rfl ?_
        exact (l26 e2 e3 e6 s7 q7)
    · intro e8
      replace e8 : (iAnd (iShr l k) 1) = 1 := (Classical.not_not.mp e8)
      refine r_iconst F_194_9 ?_
      refine r_goto (t := 14) F_194_10 rfl ?_
      refine r_zreturn F_194_14 rt_194 (Or.inr rfl) ?_
      show Rn _ _ _ _ _ [vI 1, vI (s 79 ((40 * r) + k)), vI k, vR 77] _ _
      refine r_ifT (t := 55) F_243_38 rfl (by decide) (by show ¬ (1 : Int) = 0; decide) ?_
      refine r_iconst F_243_55 ?_
      refine r_virt2 (A := [vI k, vI (s 79 ((40 * r) + k)), vI 0]) (r := []) (n := 3) F_243_56 o_243 il_6_216 rfl rfl rfl rfl ty_77 vy_223 (lay_le n_223 rfl) ?_
      refine sp_goesF (l27 e2 e8) (l28 e2 e8) (l29 e2 e8) (l30 e2 e8) (l31 e2 e8) (l32 e2 e8) (by decide) ?_
      intro s9 q9
      show Rn _ _ _ _ _ [] _ _
      refine r_iinc (m := 3) (e := (k + 1)) (L' := [some (vR 77), some (vI r), some (vI l), some (vI (k + 1)), some (vI (s 79 ((40 * r) + k)))]) F_243_59 rfl rfl rfl rfl ?_
      refine r_goto (t := 6) F_243_62 rfl ?_
      exact (l33 e2 e8 s9 q9)
