/-! walks: signs -/
theorem n_35 : m_n 35 = 1 := by decide +kernel
theorem F_35_0 : F 35 0 (.aload_n 0) 1 := ⟨1, by decide +kernel, rfl, rfl⟩
theorem F_35_1 : F 35 1 (.getfield 25) 4 := ⟨3, by decide +kernel, rfl, rfl⟩
theorem fl_2_25 : m_fl.lookup (2, 25) = some (2, 3, 1065) := by decide +kernel
theorem kd_23_3 : kd 23 3 = 0 := by decide +kernel
theorem o_35 : m_o 35 = 2 := by decide +kernel
theorem F_35_4 : F 35 4 (.ifCond .lt 26) 7 := ⟨3, by decide +kernel, rfl, rfl⟩
theorem F_35_30 : F 35 30 (.sipush 1000) 33 := ⟨3, by decide +kernel, rfl, rfl⟩
theorem si_1000 : (Int16.ofInt 1000).toInt32 = Int32.ofInt 1000 := by decide +kernel
theorem F_35_33 : F 35 33 (.ireturn) 34 := ⟨1, by decide +kernel, rfl, rfl⟩
theorem rt_35 : m_r 35 = (some .int) := by decide +kernel
theorem F_35_7 : F 35 7 (.aload_n 0) 8 := ⟨1, by decide +kernel, rfl, rfl⟩
theorem F_35_8 : F 35 8 (.getfield 25) 11 := ⟨3, by decide +kernel, rfl, rfl⟩
theorem F_35_11 : F 35 11 (.aload_n 0) 12 := ⟨1, by decide +kernel, rfl, rfl⟩
theorem F_35_12 : F 35 12 (.getfield 21) 15 := ⟨3, by decide +kernel, rfl, rfl⟩
theorem fl_2_21 : m_fl.lookup (2, 21) = some (2, 2, 1064) := by decide +kernel
theorem kd_23_2 : kd 23 2 = 0 := by decide +kernel
theorem F_35_15 : F 35 15 (.if_icmp .ge 15) 18 := ⟨3, by decide +kernel, rfl, rfl⟩
theorem F_35_18 : F 35 18 (.aload_n 0) 19 := ⟨1, by decide +kernel, rfl, rfl⟩
theorem F_35_19 : F 35 19 (.getfield 17) 22 := ⟨3, by decide +kernel, rfl, rfl⟩
theorem fl_2_17 : m_fl.lookup (2, 17) = some (2, 1, 1063) := by decide +kernel
theorem kd_23_1 : kd 23 1 = 27 := by decide +kernel
theorem rf_23_1 : rf 23 1 = 25 := by decide +kernel
theorem F_35_22 : F 35 22 (.aload_n 0) 23 := ⟨1, by decide +kernel, rfl, rfl⟩
theorem F_35_23 : F 35 23 (.getfield 25) 26 := ⟨3, by decide +kernel, rfl, rfl⟩
theorem F_35_26 : F 35 26 (.iaload) 27 := ⟨1, by decide +kernel, rfl, rfl⟩
theorem ln_25 : ln 25 = 60 := by decide +kernel
theorem ty_25 : ty 25 = 20 := by decide +kernel
theorem F_35_27 : F 35 27 (.goto 6) 30 := ⟨3, by decide +kernel, rfl, rfl⟩
theorem n_40 : m_n 40 = 2 := by decide +kernel
theorem F_40_0 : F 40 0 (.iconst 0) 1 := ⟨1, by decide +kernel, rfl, rfl⟩
theorem F_40_1 : F 40 1 (.istore_n 1) 2 := ⟨1, by decide +kernel, rfl, rfl⟩
theorem F_40_2 : F 40 2 (.iload_n 1) 3 := ⟨1, by decide +kernel, rfl, rfl⟩
theorem F_40_3 : F 40 3 (.bipush 6) 5 := ⟨2, by decide +kernel, rfl, rfl⟩
theorem F_40_5 : F 40 5 (.if_icmp .ge 20) 8 := ⟨3, by decide +kernel, rfl, rfl⟩
theorem F_40_8 : F 40 8 (.getstatic 90) 11 := ⟨3, by decide +kernel, rfl, rfl⟩
theorem gl_2_90 : m_gl.lookup (2, 90) = some 1002 := by decide +kernel
theorem o_40 : m_o 40 = 2 := by decide +kernel
theorem F_40_11 : F 40 11 (.iload_n 1) 12 := ⟨1, by decide +kernel, rfl, rfl⟩
theorem F_40_12 : F 40 12 (.iaload) 13 := ⟨1, by decide +kernel, rfl, rfl⟩
theorem F_40_13 : F 40 13 (.iload_n 0) 14 := ⟨1, by decide +kernel, rfl, rfl⟩
theorem F_40_14 : F 40 14 (.if_icmp .ne 5) 17 := ⟨3, by decide +kernel, rfl, rfl⟩
theorem F_40_19 : F 40 19 (.iinc 1 1) 22 := ⟨3, by decide +kernel, rfl, rfl⟩
theorem F_40_22 : F 40 22 (.goto (-20)) 25 := ⟨3, by decide +kernel, rfl, rfl⟩
theorem F_40_25 : F 40 25 (.bipush (-9)) 27 := ⟨2, by decide +kernel, rfl, rfl⟩
theorem bi__9 : (Int8.ofInt (-9)).toInt32 = Int32.ofInt (-9) := by decide +kernel
theorem F_40_27 : F 40 27 (.ireturn) 28 := ⟨1, by decide +kernel, rfl, rfl⟩
theorem rt_40 : m_r 40 = (some .int) := by decide +kernel
theorem F_40_17 : F 40 17 (.iload_n 1) 18 := ⟨1, by decide +kernel, rfl, rfl⟩
theorem F_40_18 : F 40 18 (.ireturn) 19 := ⟨1, by decide +kernel, rfl, rfl⟩
theorem t_X2_sign {X : m_X} {d : Nat} {s : m_St} {P : Option Value → m_St → Prop}
    (l1 : inR (s 23 3))
    (l2 : (s 23 3) < 0 → P (some (vI 1000)) s)
    (l3 : 0 ≤ (s 23 3) → inR (s 23 2))
    (l4 : 0 ≤ (s 23 3) → (s 23 2) ≤ (s 23 3) → P (some (vI 1000)) s)
    (l5 : 0 ≤ (s 23 3) → (s 23 3) < (s 23 2) → (s 23 3) < 60)
    (l6 : 0 ≤ (s 23 3) → (s 23 3) < (s 23 2) → P (some (vI (s 25 (s 23 3)))) s)
    : Cl X d 35 [vR 23] s P := by
  refine Cl_of n_35 rfl ?_
  show Rn _ _ _ _ [some (vR 23)] [] _ _
  refine r_ldR_n (m := 0) F_35_0 rfl ?_
  refine r_getI (J := 3) (e := (s 23 3)) F_35_1 o_35 fl_2_25 ty_23 (by decide) rfl kd_23_3 rfl ?_
  refine r_if (t := 30) F_35_4 rfl l1 ?_ ?_
  · intro e1
    replace e1 : (s 23 3) < 0 := e1
    refine r_sipush F_35_30 si_1000 ?_
    refine r_ireturn F_35_33 rt_35 ?_
    exact (l2 e1)
  · intro e2
    replace e2 : 0 ≤ (s 23 3) := (Int.not_lt.mp e2)
    refine r_ldR_n (m := 0) F_35_7 rfl ?_
    refine r_getI (J := 3) (e := (s 23 3)) F_35_8 o_35 fl_2_25 ty_23 (by decide) rfl kd_23_3 rfl ?_
    refine r_ldR_n (m := 0) F_35_11 rfl ?_
    refine r_getI (J := 2) (e := (s 23 2)) F_35_12 o_35 fl_2_21 ty_23 (by decide) rfl kd_23_2 rfl ?_
    refine r_icmp (t := 30) F_35_15 rfl l1 (l3 e2) ?_ ?_
    · intro e3
      replace e3 : (s 23 2) ≤ (s 23 3) := e3
      refine r_sipush F_35_30 si_1000 ?_
      refine r_ireturn F_35_33 rt_35 ?_
      exact (l4 e2 e3)
    · intro e4
      replace e4 : (s 23 3) < (s 23 2) := (Int.not_le.mp e4)
      refine r_ldR_n (m := 0) F_35_18 rfl ?_
      refine r_getR (J := 1) F_35_19 o_35 fl_2_17 ty_23 (by decide) rfl (kd2 kd_23_1 (by decide)) (kd9 kd_23_1 (by decide)) rf_23_1 ?_
      refine r_ldR_n (m := 0) F_35_22 rfl ?_
      refine r_getI (J := 3) (e := (s 23 3)) F_35_23 o_35 fl_2_25 ty_23 (by decide) rfl kd_23_3 rfl ?_
      refine r_iald (e := (s 25 (s 23 3))) F_35_26 ty_25 e2 (lt_ln ln_25 (l5 e2 e4)) rfl ?_
      refine r_goto (t := 33) F_35_27 rfl ?_
      refine r_ireturn F_35_33 rt_35 ?_
      exact (l6 e2 e4)
theorem t_X2_kindOf {X : m_X} {d : Nat} {s : m_St} {P : Option Value → m_St → Prop} {a : Int}
    (l1 : inR a)
    (l2 : ¬ 103 = a → ¬ 98 = a → ¬ 97 = a → ¬ 109 = a → ¬ 99 = a → ¬ 104 = a → P (some (vI (-9))) s)
    (l3 : ¬ 103 = a → ¬ 98 = a → ¬ 97 = a → ¬ 109 = a → ¬ 99 = a → 104 = a → P (some (vI 5)) s)
    (l4 : ¬ 103 = a → ¬ 98 = a → ¬ 97 = a → ¬ 109 = a → 99 = a → P (some (vI 4)) s)
    (l5 : ¬ 103 = a → ¬ 98 = a → ¬ 97 = a → 109 = a → P (some (vI 3)) s)
    (l6 : ¬ 103 = a → ¬ 98 = a → 97 = a → P (some (vI 2)) s)
    (l7 : ¬ 103 = a → 98 = a → P (some (vI 1)) s)
    (l8 : 103 = a → P (some (vI 0)) s)
    : Cl X d 40 [vI a] s P := by
  refine Cl_of n_40 rfl ?_
  show Rn _ _ _ _ [some (vI a), none] [] _ _
  refine r_iconst F_40_0 ?_
  refine r_stI_n (m := 1) (L' := [some (vI a), some (vI 0)]) F_40_1 rfl rfl ?_
  refine r_ldI_n (m := 1) F_40_2 rfl ?_
  refine r_bipush F_40_3 bi_6 ?_
  refine r_icmpF (t := 25) F_40_5 rfl (by decide) (by decide) (by show ¬ ((6 : Int) ≤ 0); decide) ?_
  refine r_gets (e := 1002) F_40_8 o_40 gl_2_90 rfl ?_
  refine r_ldI_n (m := 1) F_40_11 rfl ?_
  refine r_ialdS (l := [103, 98, 97, 109, 99, 104]) (e := 103) F_40_12 rfl (by decide) (by decide) (by decide) (by decide) rfl ?_
  refine r_ldI_n (m := 0) F_40_13 rfl ?_
  refine r_icmp (t := 19) F_40_14 rfl (by decide) l1 ?_ ?_
  · intro e1
    replace e1 : ¬ 103 = a := e1
    refine r_iinc (m := 1) (e := 1) (L' := [some (vI a), some (vI 1)]) F_40_19 rfl rfl rfl rfl ?_
    refine r_goto (t := 2) F_40_22 rfl ?_
    refine r_ldI_n (m := 1) F_40_2 rfl ?_
    refine r_bipush F_40_3 bi_6 ?_
    refine r_icmpF (t := 25) F_40_5 rfl (by decide) (by decide) (by show ¬ ((6 : Int) ≤ 1); decide) ?_
    refine r_gets (e := 1002) F_40_8 o_40 gl_2_90 rfl ?_
    refine r_ldI_n (m := 1) F_40_11 rfl ?_
    refine r_ialdS (l := [103, 98, 97, 109, 99, 104]) (e := 98) F_40_12 rfl (by decide) (by decide) (by decide) (by decide) rfl ?_
    refine r_ldI_n (m := 0) F_40_13 rfl ?_
    refine r_icmp (t := 19) F_40_14 rfl (by decide) l1 ?_ ?_
    · intro e2
      replace e2 : ¬ 98 = a := e2
      refine r_iinc (m := 1) (e := 2) (L' := [some (vI a), some (vI 2)]) F_40_19 rfl rfl rfl rfl ?_
      refine r_goto (t := 2) F_40_22 rfl ?_
      refine r_ldI_n (m := 1) F_40_2 rfl ?_
      refine r_bipush F_40_3 bi_6 ?_
      refine r_icmpF (t := 25) F_40_5 rfl (by decide) (by decide) (by show ¬ ((6 : Int) ≤ 2); decide) ?_
      refine r_gets (e := 1002) F_40_8 o_40 gl_2_90 rfl ?_
      refine r_ldI_n (m := 1) F_40_11 rfl ?_
      refine r_ialdS (l := [103, 98, 97, 109, 99, 104]) (e := 97) F_40_12 rfl (by decide) (by decide) (by decide) (by decide) rfl ?_
      refine r_ldI_n (m := 0) F_40_13 rfl ?_
      refine r_icmp (t := 19) F_40_14 rfl (by decide) l1 ?_ ?_
      · intro e3
        replace e3 : ¬ 97 = a := e3
        refine r_iinc (m := 1) (e := 3) (L' := [some (vI a), some (vI 3)]) F_40_19 rfl rfl rfl rfl ?_
        refine r_goto (t := 2) F_40_22 rfl ?_
        refine r_ldI_n (m := 1) F_40_2 rfl ?_
        refine r_bipush F_40_3 bi_6 ?_
        refine r_icmpF (t := 25) F_40_5 rfl (by decide) (by decide) (by show ¬ ((6 : Int) ≤ 3); decide) ?_
        refine r_gets (e := 1002) F_40_8 o_40 gl_2_90 rfl ?_
        refine r_ldI_n (m := 1) F_40_11 rfl ?_
        refine r_ialdS (l := [103, 98, 97, 109, 99, 104]) (e := 109) F_40_12 rfl (by decide) (by decide) (by decide) (by decide) rfl ?_
        refine r_ldI_n (m := 0) F_40_13 rfl ?_
        refine r_icmp (t := 19) F_40_14 rfl (by decide) l1 ?_ ?_
        · intro e4
          replace e4 : ¬ 109 = a := e4
          refine r_iinc (m := 1) (e := 4) (L' := [some (vI a), some (vI 4)]) F_40_19 rfl rfl rfl rfl ?_
          refine r_goto (t := 2) F_40_22 rfl ?_
          refine r_ldI_n (m := 1) F_40_2 rfl ?_
          refine r_bipush F_40_3 bi_6 ?_
          refine r_icmpF (t := 25) F_40_5 rfl (by decide) (by decide) (by show ¬ ((6 : Int) ≤ 4); decide) ?_
          refine r_gets (e := 1002) F_40_8 o_40 gl_2_90 rfl ?_
          refine r_ldI_n (m := 1) F_40_11 rfl ?_
          refine r_ialdS (l := [103, 98, 97, 109, 99, 104]) (e := 99) F_40_12 rfl (by decide) (by decide) (by decide) (by decide) rfl ?_
          refine r_ldI_n (m := 0) F_40_13 rfl ?_
          refine r_icmp (t := 19) F_40_14 rfl (by decide) l1 ?_ ?_
          · intro e5
            replace e5 : ¬ 99 = a := e5
            refine r_iinc (m := 1) (e := 5) (L' := [some (vI a), some (vI 5)]) F_40_19 rfl rfl rfl rfl ?_
            refine r_goto (t := 2) F_40_22 rfl ?_
            refine r_ldI_n (m := 1) F_40_2 rfl ?_
            refine r_bipush F_40_3 bi_6 ?_
            refine r_icmpF (t := 25) F_40_5 rfl (by decide) (by decide) (by show ¬ ((6 : Int) ≤ 5); decide) ?_
            refine r_gets (e := 1002) F_40_8 o_40 gl_2_90 rfl ?_
            refine r_ldI_n (m := 1) F_40_11 rfl ?_
            refine r_ialdS (l := [103, 98, 97, 109, 99, 104]) (e := 104) F_40_12 rfl (by decide) (by decide) (by decide) (by decide) rfl ?_
            refine r_ldI_n (m := 0) F_40_13 rfl ?_
            refine r_icmp (t := 19) F_40_14 rfl (by decide) l1 ?_ ?_
            · intro e6
              replace e6 : ¬ 104 = a := e6
              refine r_iinc (m := 1) (e := 6) (L' := [some (vI a), some (vI 6)]) F_40_19 rfl rfl rfl rfl ?_
              refine r_goto (t := 2) F_40_22 rfl ?_
              refine r_ldI_n (m := 1) F_40_2 rfl ?_
              refine r_bipush F_40_3 bi_6 ?_
              refine r_icmpT (t := 25) F_40_5 rfl (by decide) (by decide) (by show (6 : Int) ≤ 6; decide) ?_
              refine r_bipush F_40_25 bi__9 ?_
              refine r_ireturn F_40_27 rt_40 ?_
              exact (l2 e1 e2 e3 e4 e5 e6)
            · intro e7
              replace e7 : 104 = a := (Classical.not_not.mp e7)
              refine r_ldI_n (m := 1) F_40_17 rfl ?_
              refine r_ireturn F_40_18 rt_40 ?_
              exact (l3 e1 e2 e3 e4 e5 e7)
          · intro e8
            replace e8 : 99 = a := (Classical.not_not.mp e8)
            refine r_ldI_n (m := 1) F_40_17 rfl ?_
            refine r_ireturn F_40_18 rt_40 ?_
            exact (l4 e1 e2 e3 e4 e8)
        · intro e9
          replace e9 : 109 = a := (Classical.not_not.mp e9)
          refine r_ldI_n (m := 1) F_40_17 rfl ?_
          refine r_ireturn F_40_18 rt_40 ?_
          exact (l5 e1 e2 e3 e9)
      · intro e10
        replace e10 : 97 = a := (Classical.not_not.mp e10)
        refine r_ldI_n (m := 1) F_40_17 rfl ?_
        refine r_ireturn F_40_18 rt_40 ?_
        exact (l6 e1 e2 e10)
    · intro e11
      replace e11 : 98 = a := (Classical.not_not.mp e11)
      refine r_ldI_n (m := 1) F_40_17 rfl ?_
      refine r_ireturn F_40_18 rt_40 ?_
      exact (l7 e1 e11)
  · intro e12
    replace e12 : 103 = a := (Classical.not_not.mp e12)
    refine r_ldI_n (m := 1) F_40_17 rfl ?_
    refine r_ireturn F_40_18 rt_40 ?_
    exact (l8 e12)
