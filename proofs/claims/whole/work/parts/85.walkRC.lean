/-! walks: the reference reads a text -/
theorem n_173 : m_n 173 = 3 := by decide +kernel
theorem F_173_0 : F 173 0 (.iconst 0) 1 := ⟨1, by decide +kernel, rfl, rfl⟩
theorem F_173_1 : F 173 1 (.istore_n 2) 2 := ⟨1, by decide +kernel, rfl, rfl⟩
theorem F_173_2 : F 173 2 (.iload_n 2) 3 := ⟨1, by decide +kernel, rfl, rfl⟩
theorem F_173_3 : F 173 3 (.sipush 198) 6 := ⟨3, by decide +kernel, rfl, rfl⟩
theorem F_173_6 : F 173 6 (.if_icmp .ge 16) 9 := ⟨3, by decide +kernel, rfl, rfl⟩
theorem F_173_22 : F 173 22 (.aload_n 0) 23 := ⟨1, by decide +kernel, rfl, rfl⟩
theorem F_173_23 : F 173 23 (.iconst 0) 24 := ⟨1, by decide +kernel, rfl, rfl⟩
theorem F_173_24 : F 173 24 (.putfield 93) 27 := ⟨3, by decide +kernel, rfl, rfl⟩
theorem o_173 : m_o 173 = 6 := by decide +kernel
theorem F_173_27 : F 173 27 (.aload_n 0) 28 := ⟨1, by decide +kernel, rfl, rfl⟩
theorem F_173_28 : F 173 28 (.iconst 1) 29 := ⟨1, by decide +kernel, rfl, rfl⟩
theorem F_173_29 : F 173 29 (.putfield 96) 32 := ⟨3, by decide +kernel, rfl, rfl⟩
theorem F_173_32 : F 173 32 (.aload_n 0) 33 := ⟨1, by decide +kernel, rfl, rfl⟩
theorem F_173_33 : F 173 33 (.iload_n 1) 34 := ⟨1, by decide +kernel, rfl, rfl⟩
theorem F_173_34 : F 173 34 (.invokevirtual 113) 37 := ⟨3, by decide +kernel, rfl, rfl⟩
theorem il_6_113 : ilq 6 113 0 174 1 = true := by decide +kernel
theorem vy_174 : (m_cls 6).1 = (m_y 174).cls ∧ 6 < m_cl.length := by decide +kernel
theorem F_173_9 : F 173 9 (.aload_n 0) 10 := ⟨1, by decide +kernel, rfl, rfl⟩
theorem F_173_10 : F 173 10 (.getfield 28) 13 := ⟨3, by decide +kernel, rfl, rfl⟩
theorem F_173_13 : F 173 13 (.iload_n 2) 14 := ⟨1, by decide +kernel, rfl, rfl⟩
theorem F_173_14 : F 173 14 (.iconst 0) 15 := ⟨1, by decide +kernel, rfl, rfl⟩
theorem F_173_15 : F 173 15 (.iastore) 16 := ⟨1, by decide +kernel, rfl, rfl⟩
theorem F_173_16 : F 173 16 (.iinc 2 1) 19 := ⟨3, by decide +kernel, rfl, rfl⟩
theorem F_173_19 : F 173 19 (.goto (-17)) 22 := ⟨3, by decide +kernel, rfl, rfl⟩
theorem F_173_37 : F 173 37 (.aload_n 0) 38 := ⟨1, by decide +kernel, rfl, rfl⟩
theorem F_173_38 : F 173 38 (.getfield 96) 41 := ⟨3, by decide +kernel, rfl, rfl⟩
theorem F_173_41 : F 173 41 (.ifCond .eq 42) 44 := ⟨3, by decide +kernel, rfl, rfl⟩
theorem F_173_83 : F 173 83 (.aload_n 0) 84 := ⟨1, by decide +kernel, rfl, rfl⟩
theorem F_173_84 : F 173 84 (.getfield 96) 87 := ⟨3, by decide +kernel, rfl, rfl⟩
theorem F_173_87 : F 173 87 (.ifCond .eq 18) 90 := ⟨3, by decide +kernel, rfl, rfl⟩
theorem F_173_105 : F 173 105 (.aload_n 0) 106 := ⟨1, by decide +kernel, rfl, rfl⟩
theorem F_173_106 : F 173 106 (.getfield 93) 109 := ⟨3, by decide +kernel, rfl, rfl⟩
theorem F_173_109 : F 173 109 (.ireturn) 110 := ⟨1, by decide +kernel, rfl, rfl⟩
theorem rt_173 : m_r 173 = (some .int) := by decide +kernel
theorem F_173_44 : F 173 44 (.aload_n 0) 45 := ⟨1, by decide +kernel, rfl, rfl⟩
theorem F_173_45 : F 173 45 (.getfield 93) 48 := ⟨3, by decide +kernel, rfl, rfl⟩
theorem F_173_48 : F 173 48 (.aload_n 0) 49 := ⟨1, by decide +kernel, rfl, rfl⟩
theorem F_173_49 : F 173 49 (.getfield 19) 52 := ⟨3, by decide +kernel, rfl, rfl⟩
theorem F_173_52 : F 173 52 (.iload_n 1) 53 := ⟨1, by decide +kernel, rfl, rfl⟩
theorem F_173_53 : F 173 53 (.iaload) 54 := ⟨1, by decide +kernel, rfl, rfl⟩
theorem F_173_54 : F 173 54 (.if_icmp .ge 29) 57 := ⟨3, by decide +kernel, rfl, rfl⟩
theorem F_173_90 : F 173 90 (.aload_n 0) 91 := ⟨1, by decide +kernel, rfl, rfl⟩
theorem F_173_91 : F 173 91 (.getfield 28) 94 := ⟨3, by decide +kernel, rfl, rfl⟩
theorem F_173_94 : F 173 94 (.iconst 0) 95 := ⟨1, by decide +kernel, rfl, rfl⟩
theorem F_173_95 : F 173 95 (.iaload) 96 := ⟨1, by decide +kernel, rfl, rfl⟩
theorem F_173_96 : F 173 96 (.iconst 1) 97 := ⟨1, by decide +kernel, rfl, rfl⟩
theorem F_173_97 : F 173 97 (.if_icmp .le 8) 100 := ⟨3, by decide +kernel, rfl, rfl⟩
theorem F_173_100 : F 173 100 (.bipush (-9)) 102 := ⟨2, by decide +kernel, rfl, rfl⟩
theorem F_173_102 : F 173 102 (.goto 7) 105 := ⟨3, by decide +kernel, rfl, rfl⟩
theorem F_173_57 : F 173 57 (.aload_n 0) 58 := ⟨1, by decide +kernel, rfl, rfl⟩
theorem F_173_58 : F 173 58 (.iload_n 1) 59 := ⟨1, by decide +kernel, rfl, rfl⟩
theorem F_173_59 : F 173 59 (.invokevirtual 100) 62 := ⟨3, by decide +kernel, rfl, rfl⟩
theorem F_173_62 : F 173 62 (.bipush 102) 64 := ⟨2, by decide +kernel, rfl, rfl⟩
theorem F_173_64 : F 173 64 (.if_icmp .ne 11) 67 := ⟨3, by decide +kernel, rfl, rfl⟩
theorem F_173_75 : F 173 75 (.aload_n 0) 76 := ⟨1, by decide +kernel, rfl, rfl⟩
theorem F_173_76 : F 173 76 (.iload_n 1) 77 := ⟨1, by decide +kernel, rfl, rfl⟩
theorem F_173_77 : F 173 77 (.invokevirtual 119) 80 := ⟨3, by decide +kernel, rfl, rfl⟩
theorem il_6_119 : ilq 6 119 0 179 1 = true := by decide +kernel
theorem vy_179 : (m_cls 6).1 = (m_y 179).cls ∧ 6 < m_cl.length := by decide +kernel
theorem F_173_67 : F 173 67 (.aload_n 0) 68 := ⟨1, by decide +kernel, rfl, rfl⟩
theorem F_173_68 : F 173 68 (.iload_n 1) 69 := ⟨1, by decide +kernel, rfl, rfl⟩
theorem F_173_69 : F 173 69 (.invokevirtual 116) 72 := ⟨3, by decide +kernel, rfl, rfl⟩
theorem il_6_116 : ilq 6 116 0 178 1 = true := by decide +kernel
theorem vy_178 : (m_cls 6).1 = (m_y 178).cls ∧ 6 < m_cl.length := by decide +kernel
theorem F_173_80 : F 173 80 (.goto (-43)) 83 := ⟨3, by decide +kernel, rfl, rfl⟩
theorem F_173_72 : F 173 72 (.goto (-35)) 75 := ⟨3, by decide +kernel, rfl, rfl⟩
theorem t_X6_reads {X : List Int32} {d : Nat} {s : m_St} {P : Option Value → m_St → Prop} {t : Int} (t0 : 0 ≤ t) (t4 : t < 4)
    (l1 : Rn X (d + 3) 173 2 [some (vR 77), some (vI t), some (vI 0)] [] s P)
    : Cl X (d + 3) 173 [vR 77, vI t] s P := by
  refine Cl_of n_173 rfl ?_
  show Rn _ _ _ _ [some (vR 77), some (vI t), none] [] _ _
  refine r_iconst F_173_0 ?_
  refine r_stI_n (m := 2) (L' := [some (vR 77), some (vI t), some (vI 0)]) F_173_1 rfl rfl ?_
  exact l1
theorem t_X6_reads_2 {X : List Int32} {d : Nat} {s : m_St} {P : Option Value → m_St → Prop} {t k : Int} (t0 : 0 ≤ t) (t4 : t < 4)
    (l1 : inR k)
    (l2 : 198 ≤ k → Cl X (d + 2) 174 [vR 77, vI t] (m_upd (m_upd s 77 18 0) 77 19 1) (fun v s' => Rn X (d + 3) 173 37 [some (vR 77), some (vI t), some (vI k)] (m_push v []) s' P))
    (l3 : k < 198 → 0 ≤ k)
    (l4 : k < 198 → Rn X (d + 3) 173 2 [some (vR 77), some (vI t), some (vI (k + 1))] [] (m_upd s 84 k 0) P)
    : Rn X (d + 3) 173 2 [some (vR 77), some (vI t), some (vI k)] [] s P := by
  refine r_ldI_n (m := 2) F_173_2 rfl ?_
  refine r_sipush F_173_3 si_198 ?_
  refine r_icmp (t := 22) F_173_6 rfl l1 (by decide) ?_ ?_
  · intro e1
    replace e1 : 198 ≤ k := e1
    refine r_ldR_n (m := 0) F_173_22 rfl ?_
    refine r_iconst F_173_23 ?_
    refine r_putI (J := 18) F_173_24 o_173 fl_6_93 ty_77 (by decide) rfl kd_77_18 pf_6_18 ?_
    refine r_ldR_n (m := 0) F_173_27 rfl ?_
    refine r_iconst F_173_28 ?_
    refine r_putZ (J := 19) F_173_29 o_173 fl_6_96 ty_77 (by decide) rfl kd_77_19 pf_6_19 (Or.inr rfl) ?_
    refine r_ldR_n (m := 0) F_173_32 rfl ?_
    refine r_ldI_n (m := 1) F_173_33 rfl ?_
    refine r_virt2 (A := [vI t]) (r := []) (n := 1) F_173_34 o_173 il_6_113 rfl rfl rfl rfl ty_77 vy_174 (lay_le n_174 rfl) ?_
    exact (l2 e1)
  · intro e2
    replace e2 : k < 198 := (Int.not_le.mp e2)
    refine r_ldR_n (m := 0) F_173_9 rfl ?_
    refine r_getR (J := 6) F_173_10 o_173 fl_6_28 ty_77 (by decide) rfl (kd2 kd_77_6 (by decide)) (kd9 kd_77_6 (by decide)) rf_77_6 ?_
    refine r_ldI_n (m := 2) F_173_13 rfl ?_
    refine r_iconst F_173_14 ?_
    refine r_iast F_173_15 ty_84 (l3 e2) (lt_ln ln_84 e2) ?_
    refine r_iinc (m := 2) (e := (k + 1)) (L' := [some (vR 77), some (vI t), some (vI (k + 1))]) F_173_16 rfl rfl rfl rfl ?_
    refine r_goto (t := 2) F_173_19 rfl ?_
    exact (l4 e2)
theorem t_X6_reads_37 {X : List Int32} {d : Nat} {s : m_St} {P : Option Value → m_St → Prop} {t k : Int} (t0 : 0 ≤ t) (t4 : t < 4)
    (l1 : inR (s 77 19))
    (l2 : (s 77 19) = 0 → P (some (vI (s 77 18))) s)
    (l3 : ¬ (s 77 19) = 0 → inR (s 77 18))
    (l4 : ¬ (s 77 19) = 0 → inR (s 81 t))
    (l5 : ¬ (s 77 19) = 0 → (s 81 t) ≤ (s 77 18) → inR (s 84 0))
    (l6 : ¬ (s 77 19) = 0 → (s 81 t) ≤ (s 77 18) → (s 84 0) ≤ 1 → P (some (vI (s 77 18))) s)
    (l7 : ¬ (s 77 19) = 0 → (s 81 t) ≤ (s 77 18) → 1 < (s 84 0) → P (some (vI (-9))) s)
    (l8 : ¬ (s 77 19) = 0 → (s 77 18) < (s 81 t) → rdk s t)
    (l9 : ¬ (s 77 19) = 0 → (s 77 18) < (s 81 t) → inR (lkM s t))
    (l10 : ¬ (s 77 19) = 0 → (s 77 18) < (s 81 t) → ¬ (lkM s t) = 102 → Cl X (d + 2) 179 [vR 77, vI t] s (fun v s' => Rn X (d + 3) 173 80 [some (vR 77), some (vI t), some (vI k)] (m_push v []) s' P))
    (l11 : ¬ (s 77 19) = 0 → (s 77 18) < (s 81 t) → (lkM s t) = 102 → Cl X (d + 2) 178 [vR 77, vI t] s (fun v s' => Rn X (d + 3) 173 72 [some (vR 77), some (vI t), some (vI k)] (m_push v []) s' P))
    : Rn X (d + 3) 173 37 [some (vR 77), some (vI t), some (vI k)] [] s P := by
  refine r_ldR_n (m := 0) F_173_37 rfl ?_
  refine r_getI (J := 19) (e := (s 77 19)) F_173_38 o_173 fl_6_96 ty_77 (by decide) rfl kd_77_19 rfl ?_
  refine r_if (t := 83) F_173_41 rfl l1 ?_ ?_
  · intro e1
    replace e1 : (s 77 19) = 0 := e1
    refine r_ldR_n (m := 0) F_173_83 rfl ?_
    refine r_getI (J := 19) (e := (s 77 19)) F_173_84 o_173 fl_6_96 ty_77 (by decide) rfl kd_77_19 rfl ?_
    refine r_ifT (t := 105) F_173_87 rfl l1 e1 ?_
    refine r_ldR_n (m := 0) F_173_105 rfl ?_
    refine r_getI (J := 18) (e := (s 77 18)) F_173_106 o_173 fl_6_93 ty_77 (by decide) rfl kd_77_18 rfl ?_
    refine r_ireturn F_173_109 rt_173 ?_
    exact (l2 e1)
  · intro e2
    replace e2 : ¬ (s 77 19) = 0 := e2
    refine r_ldR_n (m := 0) F_173_44 rfl ?_
    refine r_getI (J := 18) (e := (s 77 18)) F_173_45 o_173 fl_6_93 ty_77 (by decide) rfl kd_77_18 rfl ?_
    refine r_ldR_n (m := 0) F_173_48 rfl ?_
    refine r_getR (J := 3) F_173_49 o_173 fl_6_19 ty_77 (by decide) rfl (kd2 kd_77_3 (by decide)) (kd9 kd_77_3 (by decide)) rf_77_3 ?_
    refine r_ldI_n (m := 1) F_173_52 rfl ?_
    refine r_iald (e := (s 81 t)) F_173_53 ty_81 t0 (lt_ln ln_81 t4) rfl ?_
    refine r_icmp (t := 83) F_173_54 rfl (l3 e2) (l4 e2) ?_ ?_
    · intro e3
      replace e3 : (s 81 t) ≤ (s 77 18) := e3
      refine r_ldR_n (m := 0) F_173_83 rfl ?_
      refine r_getI (J := 19) (e := (s 77 19)) F_173_84 o_173 fl_6_96 ty_77 (by decide) rfl kd_77_19 rfl ?_
      refine r_ifF (t := 105) F_173_87 rfl l1 e2 ?_
      refine r_ldR_n (m := 0) F_173_90 rfl ?_
      refine r_getR (J := 6) F_173_91 o_173 fl_6_28 ty_77 (by decide) rfl (kd2 kd_77_6 (by decide)) (kd9 kd_77_6 (by decide)) rf_77_6 ?_
      refine r_iconst F_173_94 ?_
      refine r_iald (e := (s 84 0)) F_173_95 ty_84 (by decide) (lt_ln ln_84 (by decide)) rfl ?_
      refine r_iconst F_173_96 ?_
      refine r_icmp (t := 105) F_173_97 rfl (l5 e2 e3) (by decide) ?_ ?_
      · intro e4
        replace e4 : (s 84 0) ≤ 1 := e4
        refine r_ldR_n (m := 0) F_173_105 rfl ?_
        refine r_getI (J := 18) (e := (s 77 18)) F_173_106 o_173 fl_6_93 ty_77 (by decide) rfl kd_77_18 rfl ?_
        refine r_ireturn F_173_109 rt_173 ?_
        exact (l6 e2 e3 e4)
      · intro e5
        replace e5 : 1 < (s 84 0) := (Int.not_le.mp e5)
        refine r_bipush F_173_100 bi__9 ?_
        refine r_goto (t := 109) F_173_102 rfl ?_
        refine r_ireturn F_173_109 rt_173 ?_
        exact (l7 e2 e3 e5)
    · intro e6
      replace e6 : (s 77 18) < (s 81 t) := (Int.not_le.mp e6)
      refine r_ldR_n (m := 0) F_173_57 rfl ?_
      refine r_ldI_n (m := 1) F_173_58 rfl ?_
      refine r_virt2 (A := [vI t]) (r := []) (n := 1) F_173_59 o_173 il_6_100 rfl rfl rfl rfl ty_77 vy_176 (lay_le n_176 rfl) ?_
      refine sp_look t0 t4 (l8 e2 e6) ?_
      show Rn _ _ _ _ _ [vI (lkM s t)] _ _
      refine r_bipush F_173_62 bi_102 ?_
      refine r_icmp (t := 75) F_173_64 rfl (l9 e2 e6) (by decide) ?_ ?_
      · intro e7
        replace e7 : ¬ (lkM s t) = 102 := e7
        refine r_ldR_n (m := 0) F_173_75 rfl ?_
        refine r_ldI_n (m := 1) F_173_76 rfl ?_
        refine r_virt2 (A := [vI t]) (r := []) (n := 1) F_173_77 o_173 il_6_119 rfl rfl rfl rfl ty_77 vy_179 (lay_le n_179 rfl) ?_
        exact (l10 e2 e6 e7)
      · intro e8
        replace e8 : (lkM s t) = 102 := (Classical.not_not.mp e8)
        refine r_ldR_n (m := 0) F_173_67 rfl ?_
        refine r_ldI_n (m := 1) F_173_68 rfl ?_
        refine r_virt2 (A := [vI t]) (r := []) (n := 1) F_173_69 o_173 il_6_116 rfl rfl rfl rfl ty_77 vy_178 (lay_le n_178 rfl) ?_
        exact (l11 e2 e6 e8)
theorem t_X6_reads_80 {X : List Int32} {d : Nat} {s : m_St} {P : Option Value → m_St → Prop} {t k : Int} (t0 : 0 ≤ t) (t4 : t < 4)
    (l1 : Rn X (d + 3) 173 37 [some (vR 77), some (vI t), some (vI k)] [] s P)
    : Rn X (d + 3) 173 80 [some (vR 77), some (vI t), some (vI k)] [] s P := by
  refine r_goto (t := 37) F_173_80 rfl ?_
  exact l1
theorem t_X6_reads_72 {X : List Int32} {d : Nat} {s : m_St} {P : Option Value → m_St → Prop} {t k : Int} (t0 : 0 ≤ t) (t4 : t < 4)
    (l1 : Rn X (d + 3) 173 37 [some (vR 77), some (vI t), some (vI k)] [] s P)
    : Rn X (d + 3) 173 72 [some (vR 77), some (vI t), some (vI k)] [] s P := by
  refine r_goto (t := 37) F_173_72 rfl ?_
  exact l1
