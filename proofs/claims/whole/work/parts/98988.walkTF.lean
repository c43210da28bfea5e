/-! walks: turns of the reference -/
theorem n_239 : m_n 239 = 4 := by decide +kernel
theorem F_239_0 : F 239 0 (.aload_n 0) 1 := ⟨1, by decide +kernel, rfl, rfl⟩
theorem F_239_1 : F 239 1 (.getfield 50) 4 := ⟨3, by decide +kernel, rfl, rfl⟩
theorem fl_6_50 : m_fl.lookup (6, 50) = some (6, 17, 4162) := by decide +kernel
theorem kd_77_17 : kd 77 17 = 93 := by decide +kernel
theorem o_239 : m_o 239 = 6 := by decide +kernel
theorem rf_77_17 : rf 77 17 = 91 := by decide +kernel
theorem F_239_4 : F 239 4 (.iload_n 1) 5 := ⟨1, by decide +kernel, rfl, rfl⟩
theorem F_239_5 : F 239 5 (.iaload) 6 := ⟨1, by decide +kernel, rfl, rfl⟩
theorem ln_91 : ln 91 = 6 := by decide +kernel
theorem ty_91 : ty 91 = 20 := by decide +kernel
theorem F_239_6 : F 239 6 (.bipush (-9)) 8 := ⟨2, by decide +kernel, rfl, rfl⟩
theorem F_239_8 : F 239 8 (.if_icmp .eq 32) 11 := ⟨3, by decide +kernel, rfl, rfl⟩
theorem F_239_40 : F 239 40 (.iconst 1) 41 := ⟨1, by decide +kernel, rfl, rfl⟩
theorem F_239_41 : F 239 41 (.goto 4) 44 := ⟨3, by decide +kernel, rfl, rfl⟩
theorem F_239_45 : F 239 45 (.istore_n 3) 46 := ⟨1, by decide +kernel, rfl, rfl⟩
theorem F_239_46 : F 239 46 (.aload_n 0) 47 := ⟨1, by decide +kernel, rfl, rfl⟩
theorem F_239_47 : F 239 47 (.getfield 50) 50 := ⟨3, by decide +kernel, rfl, rfl⟩
theorem F_239_50 : F 239 50 (.iload_n 1) 51 := ⟨1, by decide +kernel, rfl, rfl⟩
theorem F_239_51 : F 239 51 (.iload_n 3) 52 := ⟨1, by decide +kernel, rfl, rfl⟩
theorem F_239_52 : F 239 52 (.ifCond .eq 7) 55 := ⟨3, by decide +kernel, rfl, rfl⟩
theorem F_239_55 : F 239 55 (.iload_n 2) 56 := ⟨1, by decide +kernel, rfl, rfl⟩
theorem F_239_56 : F 239 56 (.goto 9) 59 := ⟨3, by decide +kernel, rfl, rfl⟩
theorem F_239_65 : F 239 65 (.iastore) 66 := ⟨1, by decide +kernel, rfl, rfl⟩
theorem F_239_66 : F 239 66 (.return_) 67 := ⟨1, by decide +kernel, rfl, rfl⟩
theorem rt_239 : m_r 239 = none := by decide +kernel
theorem F_239_11 : F 239 11 (.iload_n 1) 12 := ⟨1, by decide +kernel, rfl, rfl⟩
theorem F_239_12 : F 239 12 (.iconst 2) 13 := ⟨1, by decide +kernel, rfl, rfl⟩
theorem F_239_13 : F 239 13 (.irem) 14 := ⟨1, by decide +kernel, rfl, rfl⟩
theorem F_239_14 : F 239 14 (.ifCond .ne 16) 17 := ⟨3, by decide +kernel, rfl, rfl⟩
theorem F_239_30 : F 239 30 (.iload_n 2) 31 := ⟨1, by decide +kernel, rfl, rfl⟩
theorem F_239_31 : F 239 31 (.aload_n 0) 32 := ⟨1, by decide +kernel, rfl, rfl⟩
theorem F_239_32 : F 239 32 (.getfield 50) 35 := ⟨3, by decide +kernel, rfl, rfl⟩
theorem F_239_35 : F 239 35 (.iload_n 1) 36 := ⟨1, by decide +kernel, rfl, rfl⟩
theorem F_239_36 : F 239 36 (.iaload) 37 := ⟨1, by decide +kernel, rfl, rfl⟩
theorem F_239_37 : F 239 37 (.if_icmp .ge 7) 40 := ⟨3, by decide +kernel, rfl, rfl⟩
theorem F_239_44 : F 239 44 (.iconst 0) 45 := ⟨1, by decide +kernel, rfl, rfl⟩
theorem F_239_59 : F 239 59 (.aload_n 0) 60 := ⟨1, by decide +kernel, rfl, rfl⟩
theorem F_239_60 : F 239 60 (.getfield 50) 63 := ⟨3, by decide +kernel, rfl, rfl⟩
theorem F_239_63 : F 239 63 (.iload_n 1) 64 := ⟨1, by decide +kernel, rfl, rfl⟩
theorem F_239_64 : F 239 64 (.iaload) 65 := ⟨1, by decide +kernel, rfl, rfl⟩
theorem F_239_17 : F 239 17 (.iload_n 2) 18 := ⟨1, by decide +kernel, rfl, rfl⟩
theorem F_239_18 : F 239 18 (.aload_n 0) 19 := ⟨1, by decide +kernel, rfl, rfl⟩
theorem F_239_19 : F 239 19 (.getfield 50) 22 := ⟨3, by decide +kernel, rfl, rfl⟩
theorem F_239_22 : F 239 22 (.iload_n 1) 23 := ⟨1, by decide +kernel, rfl, rfl⟩
theorem F_239_23 : F 239 23 (.iaload) 24 := ⟨1, by decide +kernel, rfl, rfl⟩
theorem F_239_24 : F 239 24 (.if_icmp .le 20) 27 := ⟨3, by decide +kernel, rfl, rfl⟩
theorem F_239_27 : F 239 27 (.goto 13) 30 := ⟨3, by decide +kernel, rfl, rfl⟩
theorem t_X6_comes {X : List Int32} {d : Nat} {s : m_St} {P : Option Value → m_St → Prop} {q v : Int} (q0 : 0 ≤ q) (q6 : q < 6)
    (l1 : inR (s 91 q))
    (l2 : (s 91 q) = (-9) → P none (m_upd s 91 q v))
    (l3 : ¬ (s 91 q) = (-9) → inR q)
    (l4 : ¬ (s 91 q) = (-9) → inR (q % 2))
    (l5 : ¬ (s 91 q) = (-9) → ¬ (q % 2) = 0 → inR v)
    (l6 : ¬ (s 91 q) = (-9) → ¬ (q % 2) = 0 → (s 91 q) ≤ v → P none (m_upd s 91 q (s 91 q)))
    (l7 : ¬ (s 91 q) = (-9) → ¬ (q % 2) = 0 → v < (s 91 q) → P none (m_upd s 91 q v))
    (l8 : ¬ (s 91 q) = (-9) → (q % 2) = 0 → inR v)
    (l9 : ¬ (s 91 q) = (-9) → (q % 2) = 0 → v ≤ (s 91 q) → P none (m_upd s 91 q (s 91 q)))
    (l10 : ¬ (s 91 q) = (-9) → (q % 2) = 0 → (s 91 q) < v → P none (m_upd s 91 q v))
    : Cl X d 239 [vR 77, vI q, vI v] s P := by
  refine Cl_of n_239 rfl ?_
  show Rn _ _ _ _ [some (vR 77), some (vI q), some (vI v), none] [] _ _
  refine r_ldR_n (m := 0) F_239_0 rfl ?_
  refine r_getR (J := 17) F_239_1 o_239 fl_6_50 ty_77 (by decide) rfl (kd2 kd_77_17 (by decide)) (kd9 kd_77_17 (by decide)) rf_77_17 ?_
  refine r_ldI_n (m := 1) F_239_4 rfl ?_
  refine r_iald (e := (s 91 q)) F_239_5 ty_91 q0 (lt_ln ln_91 q6) rfl ?_
  refine r_bipush F_239_6 bi__9 ?_
  refine r_icmp (t := 40) F_239_8 rfl l1 (by decide) ?_ ?_
  · intro e1
    replace e1 : (s 91 q) = (-9) := e1
    refine r_iconst F_239_40 ?_
    refine r_goto (t := 45) F_239_41 rfl ?_
    refine r_stI_n (m := 3) (L' := [some (vR 77), some (vI q), some (vI v), some (vI 1)]) F_239_45 rfl rfl ?_
    refine r_ldR_n (m := 0) F_239_46 rfl ?_
    refine r_getR (J := 17) F_239_47 o_239 fl_6_50 ty_77 (by decide) rfl (kd2 kd_77_17 (by decide)) (kd9 kd_77_17 (by decide)) rf_77_17 ?_
    refine r_ldI_n (m := 1) F_239_50 rfl ?_
    refine r_ldI_n (m := 3) F_239_51 rfl ?_
    refine r_ifF (t := 59) F_239_52 rfl (by decide) (by show ¬ ((1 : Int) = 0); decide) ?_
    refine r_ldI_n (m := 2) F_239_55 rfl ?_
    refine r_goto (t := 65) F_239_56 rfl ?_
    refine r_iast F_239_65 ty_91 q0 (lt_ln ln_91 q6) ?_
    refine r_return F_239_66 rt_239 ?_
    exact (l2 e1)
  · intro e2
    replace e2 : ¬ (s 91 q) = (-9) := e2
    refine r_ldI_n (m := 1) F_239_11 rfl ?_
    refine r_iconst F_239_12 ?_
    refine r_irem F_239_13 (l3 e2) q0 (by decide) (by decide) ?_
    refine r_if (t := 30) F_239_14 rfl (l4 e2) ?_ ?_
    · intro e3
      replace e3 : ¬ (q % 2) = 0 := e3
      refine r_ldI_n (m := 2) F_239_30 rfl ?_
      refine r_ldR_n (m := 0) F_239_31 rfl ?_
      refine r_getR (J := 17) F_239_32 o_239 fl_6_50 ty_77 (by decide) rfl (kd2 kd_77_17 (by decide)) (kd9 kd_77_17 (by decide)) rf_77_17 ?_
      refine r_ldI_n (m := 1) F_239_35 rfl ?_
      refine r_iald (e := (s 91 q)) F_239_36 ty_91 q0 (lt_ln ln_91 q6) rfl ?_
      refine r_icmp (t := 44) F_239_37 rfl (l5 e2 e3) l1 ?_ ?_
      · intro e4
        replace e4 : (s 91 q) ≤ v := e4
        refine r_iconst F_239_44 ?_
        refine r_stI_n (m := 3) (L' := [some (vR 77), some (vI q), some (vI v), some (vI 0)]) F_239_45 rfl rfl ?_
        refine r_ldR_n (m := 0) F_239_46 rfl ?_
        refine r_getR (J := 17) F_239_47 o_239 fl_6_50 ty_77 (by decide) rfl (kd2 kd_77_17 (by decide)) (kd9 kd_77_17 (by decide)) rf_77_17 ?_
        refine r_ldI_n (m := 1) F_239_50 rfl ?_
        refine r_ldI_n (m := 3) F_239_51 rfl ?_
        refine r_ifT (t := 59) F_239_52 rfl (by decide) (by show (0 : Int) = 0; decide) ?_
        refine r_ldR_n (m := 0) F_239_59 rfl ?_
        refine r_getR (J := 17) F_239_60 o_239 fl_6_50 ty_77 (by decide) rfl (kd2 kd_77_17 (by decide)) (kd9 kd_77_17 (by decide)) rf_77_17 ?_
        refine r_ldI_n (m := 1) F_239_63 rfl ?_
        refine r_iald (e := (s 91 q)) F_239_64 ty_91 q0 (lt_ln ln_91 q6) rfl ?_
        refine r_iast F_239_65 ty_91 q0 (lt_ln ln_91 q6) ?_
        refine r_return F_239_66 rt_239 ?_
        exact (l6 e2 e3 e4)
      · intro e5
        replace e5 : v < (s 91 q) := (Int.not_le.mp e5)
        refine r_iconst F_239_40 ?_
        refine r_goto (t := 45) F_239_41 rfl ?_
        refine r_stI_n (m := 3) (L' := [some (vR 77), some (vI q), some (vI v), some (vI 1)]) F_239_45 rfl rfl ?_
        refine r_ldR_n (m := 0) F_239_46 rfl ?_
        refine r_getR (J := 17) F_239_47 o_239 fl_6_50 ty_77 (by decide) rfl (kd2 kd_77_17 (by decide)) (kd9 kd_77_17 (by decide)) rf_77_17 ?_
        refine r_ldI_n (m := 1) F_239_50 rfl ?_
        refine r_ldI_n (m := 3) F_239_51 rfl ?_
        refine r_ifF (t := 59) F_239_52 rfl (by decide) (by show ¬ ((1 : Int) = 0); decide) ?_
        refine r_ldI_n (m := 2) F_239_55 rfl ?_
        refine r_goto (t := 65) F_239_56 rfl ?_
        refine r_iast F_239_65 ty_91 q0 (lt_ln ln_91 q6) ?_
        refine r_return F_239_66 rt_239 ?_
        exact (l7 e2 e3 e5)
    · intro e6
      replace e6 : (q % 2) = 0 := (Classical.not_not.mp e6)
      refine r_ldI_n (m := 2) F_239_17 rfl ?_
      refine r_ldR_n (m := 0) F_239_18 rfl ?_
      refine r_getR (J := 17) F_239_19 o_239 fl_6_50 ty_77 (by decide) rfl (kd2 kd_77_17 (by decide)) (kd9 kd_77_17 (by decide)) rf_77_17 ?_
      refine r_ldI_n (m := 1) F_239_22 rfl ?_
      refine r_iald (e := (s 91 q)) F_239_23 ty_91 q0 (lt_ln ln_91 q6) rfl ?_
      refine r_icmp (t := 44) F_239_24 rfl (l8 e2 e6) l1 ?_ ?_
      · intro e7
        replace e7 : v ≤ (s 91 q) := e7
        refine r_iconst F_239_44 ?_
        refine r_stI_n (m := 3) (L' := [some (vR 77), some (vI q), some (vI v), some (vI 0)]) F_239_45 rfl rfl ?_
        refine r_ldR_n (m := 0) F_239_46 rfl ?_
        refine r_getR (J := 17) F_239_47 o_239 fl_6_50 ty_77 (by decide) rfl (kd2 kd_77_17 (by decide)) (kd9 kd_77_17 (by decide)) rf_77_17 ?_
        refine r_ldI_n (m := 1) F_239_50 rfl ?_
        refine r_ldI_n (m := 3) F_239_51 rfl ?_
        refine r_ifT (t := 59) F_239_52 rfl (by decide) (by show (0 : Int) = 0; decide) ?_
        refine r_ldR_n (m := 0) F_239_59 rfl ?_
        refine r_getR (J := 17) F_239_60 o_239 fl_6_50 ty_77 (by decide) rfl (kd2 kd_77_17 (by decide)) (kd9 kd_77_17 (by decide)) rf_77_17 ?_
        refine r_ldI_n (m := 1) F_239_63 rfl ?_
        refine r_iald (e := (s 91 q)) F_239_64 ty_91 q0 (lt_ln ln_91 q6) rfl ?_
        refine r_iast F_239_65 ty_91 q0 (lt_ln ln_91 q6) ?_
        refine r_return F_239_66 rt_239 ?_
        exact (l9 e2 e6 e7)
      · intro e8
        replace e8 : (s 91 q) < v := (Int.not_le.mp e8)
        refine r_goto (t := 40) F_239_27 rfl ?_
        refine r_iconst F_239_40 ?_
        refine r_goto (t := 45) F_239_41 rfl ?_
        refine r_stI_n (m := 3) (L' := [some (vR 77), some (vI q), some (vI v), some (vI 1)]) F_239_45 rfl rfl ?_
        refine r_ldR_n (m := 0) F_239_46 rfl ?_
        refine r_getR (J := 17) F_239_47 o_239 fl_6_50 ty_77 (by decide) rfl (kd2 kd_77_17 (by decide)) (kd9 kd_77_17 (by decide)) rf_77_17 ?_
        refine r_ldI_n (m := 1) F_239_50 rfl ?_
        refine r_ldI_n (m := 3) F_239_51 rfl ?_
        refine r_ifF (t := 59) F_239_52 rfl (by decide) (by show ¬ ((1 : Int) = 0); decide) ?_
        refine r_ldI_n (m := 2) F_239_55 rfl ?_
        refine r_goto (t := 65) F_239_56 rfl ?_
        refine r_iast F_239_65 ty_91 q0 (lt_ln ln_91 q6) ?_
        refine r_return F_239_66 rt_239 ?_
        exact (l10 e2 e6 e8)
