/-! walks: reading it all -/
theorem n_31 : m_n 31 = 5 := by decide +kernel
theorem F_31_0 : F 31 0 (.aload_n 0) 1 := ⟨1, by decide +kernel, rfl, rfl⟩
theorem F_31_1 : F 31 1 (.aload_n 1) 2 := ⟨1, by decide +kernel, rfl, rfl⟩
theorem F_31_2 : F 31 2 (.iload_n 2) 3 := ⟨1, by decide +kernel, rfl, rfl⟩
theorem F_31_3 : F 31 3 (.invokevirtual 38) 6 := ⟨3, by decide +kernel, rfl, rfl⟩
theorem o_31 : m_o 31 = 2 := by decide +kernel
theorem il_2_38 : ilq 2 38 0 32 2 = true := by decide +kernel
theorem vy_32 : (m_cls 2).1 = (m_y 32).cls ∧ 2 < m_cl.length := by decide +kernel
theorem F_31_6 : F 31 6 (.aload_n 0) 7 := ⟨1, by decide +kernel, rfl, rfl⟩
theorem F_31_7 : F 31 7 (.invokevirtual 42) 10 := ⟨3, by decide +kernel, rfl, rfl⟩
theorem il_2_42 : ilq 2 42 0 34 0 = true := by decide +kernel
theorem vy_34 : (m_cls 2).1 = (m_y 34).cls ∧ 2 < m_cl.length := by decide +kernel
theorem F_31_10 : F 31 10 (.aload_n 0) 11 := ⟨1, by decide +kernel, rfl, rfl⟩
theorem F_31_11 : F 31 11 (.invokevirtual 45) 14 := ⟨3, by decide +kernel, rfl, rfl⟩
theorem il_2_45 : ilq 2 45 0 36 0 = true := by decide +kernel
theorem vy_36 : (m_cls 2).1 = (m_y 36).cls ∧ 2 < m_cl.length := by decide +kernel
theorem F_31_14 : F 31 14 (.istore_n 3) 15 := ⟨1, by decide +kernel, rfl, rfl⟩
theorem F_31_15 : F 31 15 (.aload_n 0) 16 := ⟨1, by decide +kernel, rfl, rfl⟩
theorem F_31_16 : F 31 16 (.invokevirtual 42) 19 := ⟨3, by decide +kernel, rfl, rfl⟩
theorem F_31_19 : F 31 19 (.iconst 0) 20 := ⟨1, by decide +kernel, rfl, rfl⟩
theorem F_31_20 : F 31 20 (.istore 4) 22 := ⟨2, by decide +kernel, rfl, rfl⟩
theorem F_31_22 : F 31 22 (.iload 4) 24 := ⟨2, by decide +kernel, rfl, rfl⟩
theorem F_31_24 : F 31 24 (.bipush 60) 26 := ⟨2, by decide +kernel, rfl, rfl⟩
theorem F_31_26 : F 31 26 (.if_icmp .ge 50) 29 := ⟨3, by decide +kernel, rfl, rfl⟩
theorem F_31_76 : F 31 76 (.iload_n 3) 77 := ⟨1, by decide +kernel, rfl, rfl⟩
theorem F_31_77 : F 31 77 (.bipush (-9)) 79 := ⟨2, by decide +kernel, rfl, rfl⟩
theorem F_31_79 : F 31 79 (.if_icmp .ne 16) 82 := ⟨3, by decide +kernel, rfl, rfl⟩
theorem F_31_95 : F 31 95 (.iload_n 3) 96 := ⟨1, by decide +kernel, rfl, rfl⟩
theorem F_31_96 : F 31 96 (.ireturn) 97 := ⟨1, by decide +kernel, rfl, rfl⟩
theorem rt_31 : m_r 31 = (some .int) := by decide +kernel
theorem F_31_82 : F 31 82 (.aload_n 0) 83 := ⟨1, by decide +kernel, rfl, rfl⟩
theorem F_31_83 : F 31 83 (.getfield 28) 86 := ⟨3, by decide +kernel, rfl, rfl⟩
theorem F_31_86 : F 31 86 (.iconst 2) 87 := ⟨1, by decide +kernel, rfl, rfl⟩
theorem F_31_87 : F 31 87 (.if_icmp .ge 8) 90 := ⟨3, by decide +kernel, rfl, rfl⟩
theorem F_31_90 : F 31 90 (.aload_n 0) 91 := ⟨1, by decide +kernel, rfl, rfl⟩
theorem F_31_91 : F 31 91 (.getfield 21) 94 := ⟨3, by decide +kernel, rfl, rfl⟩
theorem F_31_94 : F 31 94 (.ireturn) 95 := ⟨1, by decide +kernel, rfl, rfl⟩
theorem F_31_29 : F 31 29 (.iload_n 3) 30 := ⟨1, by decide +kernel, rfl, rfl⟩
theorem F_31_30 : F 31 30 (.bipush (-9)) 32 := ⟨2, by decide +kernel, rfl, rfl⟩
theorem F_31_32 : F 31 32 (.if_icmp .ne 44) 35 := ⟨3, by decide +kernel, rfl, rfl⟩
theorem F_31_35 : F 31 35 (.aload_n 0) 36 := ⟨1, by decide +kernel, rfl, rfl⟩
theorem F_31_36 : F 31 36 (.invokevirtual 49) 39 := ⟨3, by decide +kernel, rfl, rfl⟩
theorem F_31_39 : F 31 39 (.sipush 1000) 42 := ⟨3, by decide +kernel, rfl, rfl⟩
theorem F_31_42 : F 31 42 (.if_icmp .eq 34) 45 := ⟨3, by decide +kernel, rfl, rfl⟩
theorem F_31_45 : F 31 45 (.aload_n 0) 46 := ⟨1, by decide +kernel, rfl, rfl⟩
theorem F_31_46 : F 31 46 (.invokevirtual 49) 49 := ⟨3, by decide +kernel, rfl, rfl⟩
theorem F_31_49 : F 31 49 (.bipush 102) 51 := ⟨2, by decide +kernel, rfl, rfl⟩
theorem bi_102 : (Int8.ofInt 102).toInt32 = Int32.ofInt 102 := by decide +kernel
theorem F_31_51 : F 31 51 (.if_icmp .ne 10) 54 := ⟨3, by decide +kernel, rfl, rfl⟩
theorem F_31_61 : F 31 61 (.aload_n 0) 62 := ⟨1, by decide +kernel, rfl, rfl⟩
theorem F_31_62 : F 31 62 (.invokevirtual 55) 65 := ⟨3, by decide +kernel, rfl, rfl⟩
theorem il_2_55 : ilq 2 55 0 39 0 = true := by decide +kernel
theorem vy_39 : (m_cls 2).1 = (m_y 39).cls ∧ 2 < m_cl.length := by decide +kernel
theorem F_31_65 : F 31 65 (.istore_n 3) 66 := ⟨1, by decide +kernel, rfl, rfl⟩
theorem F_31_66 : F 31 66 (.aload_n 0) 67 := ⟨1, by decide +kernel, rfl, rfl⟩
theorem F_31_67 : F 31 67 (.invokevirtual 42) 70 := ⟨3, by decide +kernel, rfl, rfl⟩
theorem F_31_70 : F 31 70 (.iinc 4 1) 73 := ⟨3, by decide +kernel, rfl, rfl⟩
theorem F_31_73 : F 31 73 (.goto (-51)) 76 := ⟨3, by decide +kernel, rfl, rfl⟩
theorem F_31_54 : F 31 54 (.aload_n 0) 55 := ⟨1, by decide +kernel, rfl, rfl⟩
theorem F_31_55 : F 31 55 (.invokevirtual 52) 58 := ⟨3, by decide +kernel, rfl, rfl⟩
theorem il_2_52 : ilq 2 52 0 38 0 = true := by decide +kernel
theorem vy_38 : (m_cls 2).1 = (m_y 38).cls ∧ 2 < m_cl.length := by decide +kernel
theorem F_31_58 : F 31 58 (.goto 7) 61 := ⟨3, by decide +kernel, rfl, rfl⟩
theorem t_X2_read {X : m_X} {d : Nat} {s : m_St} {P : Option Value → m_St → Prop} {t : Int} (h0 : 0 ≤ t) (h4 : t < 4)
    (l1 : tok (s 11 t) (s (13 + t)))
    (l2 : sok (opR s t))
    (l3 : sok (m_upd (opR s t) 23 3 (skb ((opR s t) 23 2) ((opR s t) 25) ((opR s t) 23 3))))
    (l4 : (m_upd (opR s t) 23 3 (skb ((opR s t) 23 2) ((opR s t) 25) ((opR s t) 23 3))) 23 3 ≤ (m_upd (opR s t) 23 3 (skb ((opR s t) 23 2) ((opR s t) 25) ((opR s t) 23 3))) 23 2)
    (l5 : ∀ (v1 : Int) (s1 : m_St), qW (m_upd (opR s t) 23 3 (skb ((opR s t) 23 2) ((opR s t) 25) ((opR s t) 23 3))) v1 s1 → sok s1)
    (l6 : ∀ (v1 : Int) (s1 : m_St), qW (m_upd (opR s t) 23 3 (skb ((opR s t) 23 2) ((opR s t) 25) ((opR s t) 23 3))) v1 s1 → Rn X (d + 6) 31 22 [some (vR 23), some (vR 10), some (vI t), some (vI v1), some (vI 0)] [] (m_upd s1 23 3 (skb (s1 23 2) (s1 25) (s1 23 3))) P)
    : Cl X (d + 6) 31 [vR 23, vR 10, vI t] s P := by
  refine Cl_of n_31 rfl ?_
  show Rn _ _ _ _ [some (vR 23), some (vR 10), some (vI t), none, none] [] _ _
  refine r_ldR_n (m := 0) F_31_0 rfl ?_
  refine r_ldR_n (m := 1) F_31_1 rfl ?_
  refine r_ldI_n (m := 2) F_31_2 rfl ?_
  refine r_virt2 (A := [vR 10, vI t]) (r := []) (n := 2) F_31_3 o_31 il_2_38 rfl rfl rfl rfl ty_23 vy_32 (lay_le n_32 rfl) ?_
  refine sp_openR h0 h4 l1 ?_
  show Rn _ _ _ _ _ [] _ _
  refine r_ldR_n (m := 0) F_31_6 rfl ?_
  refine r_virt2 (A := []) (r := []) (n := 0) F_31_7 o_31 il_2_42 rfl rfl rfl rfl ty_23 vy_34 (lay_le n_34 rfl) ?_
  refine sp_skipBlanks l2 ?_
  show Rn _ _ _ _ _ [] _ _
  refine r_ldR_n (m := 0) F_31_10 rfl ?_
  refine r_virt2 (A := []) (r := []) (n := 0) F_31_11 o_31 il_2_45 rfl rfl rfl rfl ty_23 vy_36 (lay_le n_36 rfl) ?_
  refine sp_readWood l3 l4 ?_
  intro v1 s1 q1
  show Rn _ _ _ _ _ [vI v1] _ _
  refine r_stI_n (m := 3) (L' := [some (vR 23), some (vR 10), some (vI t), some (vI v1), none]) F_31_14 rfl rfl ?_
  refine r_ldR_n (m := 0) F_31_15 rfl ?_
  refine r_virt2 (A := []) (r := []) (n := 0) F_31_16 o_31 il_2_42 rfl rfl rfl rfl ty_23 vy_34 (lay_le n_34 rfl) ?_
  refine sp_skipBlanks (l5 v1 s1 q1) ?_
  show Rn _ _ _ _ _ [] _ _
  refine r_iconst F_31_19 ?_
  refine r_stI (m := 4) (L' := [some (vR 23), some (vR 10), some (vI t), some (vI v1), some (vI 0)]) F_31_20 rfl rfl ?_
  exact (l6 v1 s1 q1)
theorem t_X2_read_22 {X : m_X} {d : Nat} {s : m_St} {P : Option Value → m_St → Prop} {t f i : Int} (h0 : 0 ≤ t) (h4 : t < 4)
    (l1 : inR i)
    (l2 : 60 ≤ i → inR f)
    (l3 : 60 ≤ i → ¬ f = (-9) → P (some (vI f)) s)
    (l4 : 60 ≤ i → f = (-9) → inR (s 23 4))
    (l5 : 60 ≤ i → f = (-9) → 2 ≤ (s 23 4) → P (some (vI f)) s)
    (l6 : 60 ≤ i → f = (-9) → (s 23 4) < 2 → P (some (vI (s 23 2))) s)
    (l7 : i < 60 → inR f)
    (l8 : i < 60 → ¬ f = (-9) → P (some (vI f)) s)
    (l9 : i < 60 → f = (-9) → sok s)
    (l10 : i < 60 → f = (-9) → inR (sgn s))
    (l11 : i < 60 → f = (-9) → (sgn s) = 1000 → inR (s 23 4))
    (l12 : i < 60 → f = (-9) → (sgn s) = 1000 → 2 ≤ (s 23 4) → P (some (vI f)) s)
    (l13 : i < 60 → f = (-9) → (sgn s) = 1000 → (s 23 4) < 2 → P (some (vI (s 23 2))) s)
    (l14 : i < 60 → f = (-9) → ¬ (sgn s) = 1000 → ¬ (sgn s) = 102 → s 23 3 < s 23 2)
    (l15 : i < 60 → f = (-9) → ¬ (sgn s) = 1000 → ¬ (sgn s) = 102 → rgk s)
    (l16 : i < 60 → f = (-9) → ¬ (sgn s) = 1000 → ¬ (sgn s) = 102 → 0 ≤ s 23 4)
    (l17 : i < 60 → f = (-9) → ¬ (sgn s) = 1000 → ¬ (sgn s) = 102 → s 23 4 ≤ 6)
    (l18 : i < 60 → f = (-9) → ¬ (sgn s) = 1000 → ¬ (sgn s) = 102 → ∀ (v14 : Int) (s14 : m_St), qG s v14 s14 → sok s14)
    (l19 : i < 60 → f = (-9) → ¬ (sgn s) = 1000 → ¬ (sgn s) = 102 → ∀ (v14 : Int) (s14 : m_St), qG s v14 s14 → Rn X (d + 6) 31 22 [some (vR 23), some (vR 10), some (vI t), some (vI v14), some (vI (i + 1))] [] (m_upd s14 23 3 (skb (s14 23 2) (s14 25) (s14 23 3))) P)
    (l20 : i < 60 → f = (-9) → ¬ (sgn s) = 1000 → (sgn s) = 102 → s 23 3 < s 23 2)
    (l21 : i < 60 → f = (-9) → ¬ (sgn s) = 1000 → (sgn s) = 102 → ∀ (v16 : Int) (s16 : m_St), qR s v16 s16 → sok s16)
    (l22 : i < 60 → f = (-9) → ¬ (sgn s) = 1000 → (sgn s) = 102 → ∀ (v16 : Int) (s16 : m_St), qR s v16 s16 → Rn X (d + 6) 31 22 [some (vR 23), some (vR 10), some (vI t), some (vI v16), some (vI (i + 1))] [] (m_upd s16 23 3 (skb (s16 23 2) (s16 25) (s16 23 3))) P)
    : Rn X (d + 6) 31 22 [some (vR 23), some (vR 10), some (vI t), some (vI f), some (vI i)] [] s P := by
  refine r_ldI (m := 4) F_31_22 rfl ?_
  refine r_bipush F_31_24 bi_60 ?_
  refine r_icmp (t := 76) F_31_26 rfl l1 (by decide) ?_ ?_
  · intro e1
    replace e1 : 60 ≤ i := e1
    refine r_ldI_n (m := 3) F_31_76 rfl ?_
    refine r_bipush F_31_77 bi__9 ?_
    refine r_icmp (t := 95) F_31_79 rfl (l2 e1) (by decide) ?_ ?_
    · intro e2
      replace e2 : ¬ f = (-9) := e2
      refine r_ldI_n (m := 3) F_31_95 rfl ?_
      refine r_ireturn F_31_96 rt_31 ?_
      exact (l3 e1 e2)
    · intro e3
      replace e3 : f = (-9) := (Classical.not_not.mp e3)
      refine r_ldR_n (m := 0) F_31_82 rfl ?_
      refine r_getI (J := 4) (e := (s 23 4)) F_31_83 o_31 fl_2_28 ty_23 (by decide) rfl kd_23_4 rfl ?_
      refine r_iconst F_31_86 ?_
      refine r_icmp (t := 95) F_31_87 rfl (l4 e1 e3) (by decide) ?_ ?_
      · intro e4
        replace e4 : 2 ≤ (s 23 4) := e4
        refine r_ldI_n (m := 3) F_31_95 rfl ?_
        refine r_ireturn F_31_96 rt_31 ?_
        exact (l5 e1 e3 e4)
      · intro e5
        replace e5 : (s 23 4) < 2 := (Int.not_le.mp e5)
        refine r_ldR_n (m := 0) F_31_90 rfl ?_
        refine r_getI (J := 2) (e := (s 23 2)) F_31_91 o_31 fl_2_21 ty_23 (by decide) rfl kd_23_2 rfl ?_
        refine r_ireturn F_31_94 rt_31 ?_
        exact (l6 e1 e3 e5)
  · intro e6
    replace e6 : i < 60 := (Int.not_le.mp e6)
    refine r_ldI_n (m := 3) F_31_29 rfl ?_
    refine r_bipush F_31_30 bi__9 ?_
    refine r_icmp (t := 76) F_31_32 rfl (l7 e6) (by decide) ?_ ?_
    · intro e7
      replace e7 : ¬ f = (-9) := e7
      refine r_ldI_n (m := 3) F_31_76 rfl ?_
      refine r_bipush F_31_77 bi__9 ?_
      refine r_icmpT (t := 95) F_31_79 rfl (l7 e6) (by decide) e7 ?_
      refine r_ldI_n (m := 3) F_31_95 rfl ?_
      refine r_ireturn F_31_96 rt_31 ?_
      exact (l8 e6 e7)
    · intro e8
      replace e8 : f = (-9) := (Classical.not_not.mp e8)
      refine r_ldR_n (m := 0) F_31_35 rfl ?_
      refine r_virt2 (A := []) (r := []) (n := 0) F_31_36 o_31 il_2_49 rfl rfl rfl rfl ty_23 vy_35 (lay_le n_35 rfl) ?_
      refine sp_sign (l9 e6 e8) ?_
      show Rn _ _ _ _ _ [vI (sgn s)] _ _
      refine r_sipush F_31_39 si_1000 ?_
      refine r_icmp (t := 76) F_31_42 rfl (l10 e6 e8) (by decide) ?_ ?_
      · intro e9
        replace e9 : (sgn s) = 1000 := e9
        refine r_ldI_n (m := 3) F_31_76 rfl ?_
        refine r_bipush F_31_77 bi__9 ?_
        refine r_icmpF (t := 95) F_31_79 rfl (l7 e6) (by decide) (not_not_intro e8) ?_
        refine r_ldR_n (m := 0) F_31_82 rfl ?_
        refine r_getI (J := 4) (e := (s 23 4)) F_31_83 o_31 fl_2_28 ty_23 (by decide) rfl kd_23_4 rfl ?_
        refine r_iconst F_31_86 ?_
        refine r_icmp (t := 95) F_31_87 rfl (l11 e6 e8 e9) (by decide) ?_ ?_
        · intro e10
          replace e10 : 2 ≤ (s 23 4) := e10
          refine r_ldI_n (m := 3) F_31_95 rfl ?_
          refine r_ireturn F_31_96 rt_31 ?_
          exact (l12 e6 e8 e9 e10)
        · intro e11
          replace e11 : (s 23 4) < 2 := (Int.not_le.mp e11)
          refine r_ldR_n (m := 0) F_31_90 rfl ?_
          refine r_getI (J := 2) (e := (s 23 2)) F_31_91 o_31 fl_2_21 ty_23 (by decide) rfl kd_23_2 rfl ?_
          refine r_ireturn F_31_94 rt_31 ?_
          exact (l13 e6 e8 e9 e11)
      · intro e12
        replace e12 : ¬ (sgn s) = 1000 := e12
        refine r_ldR_n (m := 0) F_31_45 rfl ?_
        refine r_virt2 (A := []) (r := []) (n := 0) F_31_46 o_31 il_2_49 rfl rfl rfl rfl ty_23 vy_35 (lay_le n_35 rfl) ?_
        refine sp_sign (l9 e6 e8) ?_
        show Rn _ _ _ _ _ [vI (sgn s)] _ _
        refine r_bipush F_31_49 bi_102 ?_
        refine r_icmp (t := 61) F_31_51 rfl (l10 e6 e8) (by decide) ?_ ?_
        · intro e13
          replace e13 : ¬ (sgn s) = 102 := e13
          refine r_ldR_n (m := 0) F_31_61 rfl ?_
          refine r_virt2 (A := []) (r := []) (n := 0) F_31_62 o_31 il_2_55 rfl rfl rfl rfl ty_23 vy_39 (lay_le n_39 rfl) ?_
          refine sp_readGuest (l9 e6 e8) (l14 e6 e8 e12 e13) (l15 e6 e8 e12 e13) (l16 e6 e8 e12 e13) (l17 e6 e8 e12 e13) ?_
          intro v14 s14 q14
          show Rn _ _ _ _ _ [vI v14] _ _
          refine r_stI_n (m := 3) (L' := [some (vR 23), some (vR 10), some (vI t), some (vI v14), some (vI i)]) F_31_65 rfl rfl ?_
          refine r_ldR_n (m := 0) F_31_66 rfl ?_
          refine r_virt2 (A := []) (r := []) (n := 0) F_31_67 o_31 il_2_42 rfl rfl rfl rfl ty_23 vy_34 (lay_le n_34 rfl) ?_
          refine sp_skipBlanks (l18 e6 e8 e12 e13 v14 s14 q14) ?_
          show Rn _ _ _ _ _ [] _ _
          refine r_iinc (m := 4) (e := (i + 1)) (L' := [some (vR 23), some (vR 10), some (vI t), some (vI v14), some (vI (i + 1))]) F_31_70 rfl rfl rfl rfl ?_
          refine r_goto (t := 22) F_31_73 rfl ?_
          exact (l19 e6 e8 e12 e13 v14 s14 q14)
        · intro e15
          replace e15 : (sgn s) = 102 := (Classical.not_not.mp e15)
          refine r_ldR_n (m := 0) F_31_54 rfl ?_
          refine r_virt2 (A := []) (r := []) (n := 0) F_31_55 o_31 il_2_52 rfl rfl rfl rfl ty_23 vy_38 (lay_le n_38 rfl) ?_
          refine sp_readReason (l9 e6 e8) (l20 e6 e8 e12 e15) ?_
          intro v16 s16 q16
          show Rn _ _ _ _ _ [vI v16] _ _
          refine r_goto (t := 65) F_31_58 rfl ?_
          refine r_stI_n (m := 3) (L' := [some (vR 23), some (vR 10), some (vI t), some (vI v16), some (vI i)]) F_31_65 rfl rfl ?_
          refine r_ldR_n (m := 0) F_31_66 rfl ?_
          refine r_virt2 (A := []) (r := []) (n := 0) F_31_67 o_31 il_2_42 rfl rfl rfl rfl ty_23 vy_34 (lay_le n_34 rfl) ?_
          refine sp_skipBlanks (l21 e6 e8 e12 e15 v16 s16 q16) ?_
          show Rn _ _ _ _ _ [] _ _
          refine r_iinc (m := 4) (e := (i + 1)) (L' := [some (vR 23), some (vR 10), some (vI t), some (vI v16), some (vI (i + 1))]) F_31_70 rfl rfl rfl rfl ?_
          refine r_goto (t := 22) F_31_73 rfl ?_
          exact (l22 e6 e8 e12 e15 v16 s16 q16)
