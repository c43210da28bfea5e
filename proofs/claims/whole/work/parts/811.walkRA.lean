/-! walks: the reference reads signs -/
theorem n_175 : m_n 175 = 2 := by decide +kernel
theorem F_175_0 : F 175 0 (.aload_n 0) 1 := ⟨1, by decide +kernel, rfl, rfl⟩
theorem F_175_1 : F 175 1 (.getfield 96) 4 := ⟨3, by decide +kernel, rfl, rfl⟩
theorem fl_6_96 : m_fl.lookup (6, 96) = some (6, 19, 4164) := by decide +kernel
theorem kd_77_19 : kd 77 19 = 0 := by decide +kernel
theorem o_175 : m_o 175 = 6 := by decide +kernel
theorem F_175_4 : F 175 4 (.ifCond .eq 26) 7 := ⟨3, by decide +kernel, rfl, rfl⟩
theorem F_175_30 : F 175 30 (.return_) 31 := ⟨1, by decide +kernel, rfl, rfl⟩
theorem rt_175 : m_r 175 = none := by decide +kernel
theorem F_175_7 : F 175 7 (.aload_n 0) 8 := ⟨1, by decide +kernel, rfl, rfl⟩
theorem F_175_8 : F 175 8 (.iload_n 1) 9 := ⟨1, by decide +kernel, rfl, rfl⟩
theorem F_175_9 : F 175 9 (.invokevirtual 100) 12 := ⟨3, by decide +kernel, rfl, rfl⟩
theorem il_6_100 : ilq 6 100 0 176 1 = true := by decide +kernel
theorem vy_176 : (m_cls 6).1 = (m_y 176).cls ∧ 6 < m_cl.length := by decide +kernel
theorem F_175_12 : F 175 12 (.bipush 32) 14 := ⟨2, by decide +kernel, rfl, rfl⟩
theorem F_175_14 : F 175 14 (.if_icmp .ne 16) 17 := ⟨3, by decide +kernel, rfl, rfl⟩
theorem F_175_17 : F 175 17 (.aload_n 0) 18 := ⟨1, by decide +kernel, rfl, rfl⟩
theorem F_175_18 : F 175 18 (.dup) 19 := ⟨1, by decide +kernel, rfl, rfl⟩
theorem F_175_19 : F 175 19 (.getfield 93) 22 := ⟨3, by decide +kernel, rfl, rfl⟩
theorem F_175_22 : F 175 22 (.iconst 1) 23 := ⟨1, by decide +kernel, rfl, rfl⟩
theorem F_175_23 : F 175 23 (.iadd) 24 := ⟨1, by decide +kernel, rfl, rfl⟩
theorem F_175_24 : F 175 24 (.putfield 93) 27 := ⟨3, by decide +kernel, rfl, rfl⟩
theorem pf_6_18 : pfT 6 18 .int = true := by decide +kernel
theorem F_175_27 : F 175 27 (.goto (-27)) 30 := ⟨3, by decide +kernel, rfl, rfl⟩
theorem n_177 : m_n 177 = 4 := by decide +kernel
theorem F_177_0 : F 177 0 (.aload_n 0) 1 := ⟨1, by decide +kernel, rfl, rfl⟩
theorem F_177_1 : F 177 1 (.iload_n 1) 2 := ⟨1, by decide +kernel, rfl, rfl⟩
theorem F_177_2 : F 177 2 (.invokevirtual 100) 5 := ⟨3, by decide +kernel, rfl, rfl⟩
theorem o_177 : m_o 177 = 6 := by decide +kernel
theorem F_177_5 : F 177 5 (.bipush 48) 7 := ⟨2, by decide +kernel, rfl, rfl⟩
theorem F_177_7 : F 177 7 (.isub) 8 := ⟨1, by decide +kernel, rfl, rfl⟩
theorem F_177_8 : F 177 8 (.istore_n 3) 9 := ⟨1, by decide +kernel, rfl, rfl⟩
theorem F_177_9 : F 177 9 (.aload_n 0) 10 := ⟨1, by decide +kernel, rfl, rfl⟩
theorem F_177_10 : F 177 10 (.aload_n 0) 11 := ⟨1, by decide +kernel, rfl, rfl⟩
theorem F_177_11 : F 177 11 (.getfield 96) 14 := ⟨3, by decide +kernel, rfl, rfl⟩
theorem F_177_14 : F 177 14 (.ifCond .eq 27) 17 := ⟨3, by decide +kernel, rfl, rfl⟩
theorem F_177_41 : F 177 41 (.iconst 0) 42 := ⟨1, by decide +kernel, rfl, rfl⟩
theorem F_177_42 : F 177 42 (.putfield 96) 45 := ⟨3, by decide +kernel, rfl, rfl⟩
theorem pf_6_19 : pfT 6 19 .boolean = true := by decide +kernel
theorem F_177_45 : F 177 45 (.aload_n 0) 46 := ⟨1, by decide +kernel, rfl, rfl⟩
theorem F_177_46 : F 177 46 (.dup) 47 := ⟨1, by decide +kernel, rfl, rfl⟩
theorem F_177_47 : F 177 47 (.getfield 93) 50 := ⟨3, by decide +kernel, rfl, rfl⟩
theorem F_177_50 : F 177 50 (.aload_n 0) 51 := ⟨1, by decide +kernel, rfl, rfl⟩
theorem F_177_51 : F 177 51 (.getfield 96) 54 := ⟨3, by decide +kernel, rfl, rfl⟩
theorem F_177_54 : F 177 54 (.ifCond .eq 7) 57 := ⟨3, by decide +kernel, rfl, rfl⟩
theorem F_177_61 : F 177 61 (.iconst 0) 62 := ⟨1, by decide +kernel, rfl, rfl⟩
theorem F_177_62 : F 177 62 (.iadd) 63 := ⟨1, by decide +kernel, rfl, rfl⟩
theorem F_177_63 : F 177 63 (.putfield 93) 66 := ⟨3, by decide +kernel, rfl, rfl⟩
theorem F_177_66 : F 177 66 (.iload_n 3) 67 := ⟨1, by decide +kernel, rfl, rfl⟩
theorem F_177_67 : F 177 67 (.ireturn) 68 := ⟨1, by decide +kernel, rfl, rfl⟩
theorem rt_177 : m_r 177 = (some .int) := by decide +kernel
theorem F_177_17 : F 177 17 (.aload_n 0) 18 := ⟨1, by decide +kernel, rfl, rfl⟩
theorem F_177_18 : F 177 18 (.iload_n 1) 19 := ⟨1, by decide +kernel, rfl, rfl⟩
theorem F_177_19 : F 177 19 (.invokevirtual 100) 22 := ⟨3, by decide +kernel, rfl, rfl⟩
theorem F_177_22 : F 177 22 (.bipush 48) 24 := ⟨2, by decide +kernel, rfl, rfl⟩
theorem F_177_24 : F 177 24 (.bipush 57) 26 := ⟨2, by decide +kernel, rfl, rfl⟩
theorem bi_57 : (Int8.ofInt 57).toInt32 = Int32.ofInt 57 := by decide +kernel
theorem F_177_26 : F 177 26 (.invokestatic 67) 29 := ⟨3, by decide +kernel, rfl, rfl⟩
theorem F_177_29 : F 177 29 (.ifCond .eq 12) 32 := ⟨3, by decide +kernel, rfl, rfl⟩
theorem F_177_32 : F 177 32 (.iload_n 3) 33 := ⟨1, by decide +kernel, rfl, rfl⟩
theorem F_177_33 : F 177 33 (.iload_n 2) 34 := ⟨1, by decide +kernel, rfl, rfl⟩
theorem F_177_34 : F 177 34 (.if_icmp .gt 7) 37 := ⟨3, by decide +kernel, rfl, rfl⟩
theorem F_177_37 : F 177 37 (.iconst 1) 38 := ⟨1, by decide +kernel, rfl, rfl⟩
theorem F_177_38 : F 177 38 (.goto 4) 41 := ⟨3, by decide +kernel, rfl, rfl⟩
theorem F_177_57 : F 177 57 (.iconst 1) 58 := ⟨1, by decide +kernel, rfl, rfl⟩
theorem F_177_58 : F 177 58 (.goto 4) 61 := ⟨3, by decide +kernel, rfl, rfl⟩
theorem t_X6_skips {X : List Int32} {d : Nat} {s : m_St} {P : Option Value → m_St → Prop} {t : Int} (t0 : 0 ≤ t) (t4 : t < 4) (p0 : 0 ≤ (s 77 18))
    (l1 : inR (s 77 19))
    (l2 : (s 77 19) = 0 → P none s)
    (l3 : ¬ (s 77 19) = 0 → rdk s t)
    (l4 : ¬ (s 77 19) = 0 → inR (lkM s t))
    (l5 : ¬ (s 77 19) = 0 → ¬ (lkM s t) = 32 → P none s)
    (l6 : ¬ (s 77 19) = 0 → (lkM s t) = 32 → Rn X (d + 1) 175 0 [some (vR 77), some (vI t)] [] (m_upd s 77 18 ((s 77 18) + 1)) P)
    : Cl X (d + 1) 175 [vR 77, vI t] s P := by
  refine Cl_of n_175 rfl ?_
  show Rn _ _ _ _ [some (vR 77), some (vI t)] [] _ _
  refine r_ldR_n (m := 0) F_175_0 rfl ?_
  refine r_getI (J := 19) (e := (s 77 19)) F_175_1 o_175 fl_6_96 ty_77 (by decide) rfl kd_77_19 rfl ?_
  refine r_if (t := 30) F_175_4 rfl l1 ?_ ?_
  · intro e1
    replace e1 : (s 77 19) = 0 := e1
    refine r_return F_175_30 rt_175 ?_
    exact (l2 e1)
  · intro e2
    replace e2 : ¬ (s 77 19) = 0 := e2
    refine r_ldR_n (m := 0) F_175_7 rfl ?_
    refine r_ldI_n (m := 1) F_175_8 rfl ?_
    refine r_virt2 (A := [vI t]) (r := []) (n := 1) F_175_9 o_175 il_6_100 rfl rfl rfl rfl ty_77 vy_176 (lay_le n_176 rfl) ?_
    refine sp_look t0 t4 (l3 e2) ?_
    show Rn _ _ _ _ _ [vI (lkM s t)] _ _
    refine r_bipush F_175_12 bi_32 ?_
    refine r_icmp (t := 30) F_175_14 rfl (l4 e2) (by decide) ?_ ?_
    · intro e3
      replace e3 : ¬ (lkM s t) = 32 := e3
      refine r_return F_175_30 rt_175 ?_
      exact (l5 e2 e3)
    · intro e4
      replace e4 : (lkM s t) = 32 := (Classical.not_not.mp e4)
      refine r_ldR_n (m := 0) F_175_17 rfl ?_
      refine r_dupR F_175_18 ?_
      refine r_getI (J := 18) (e := (s 77 18)) F_175_19 o_175 fl_6_93 ty_77 (by decide) rfl kd_77_18 rfl ?_
      refine r_iconst F_175_22 ?_
      refine r_iadd F_175_23 rfl ?_
      refine r_putI (J := 18) F_175_24 o_175 fl_6_93 ty_77 (by decide) rfl kd_77_18 pf_6_18 ?_
      refine r_goto (t := 0) F_175_27 rfl ?_
      exact (l6 e2 e4)
theorem t_X6_figure {X : List Int32} {d : Nat} {s : m_St} {P : Option Value → m_St → Prop} {t h : Int} (t0 : 0 ≤ t) (t4 : t < 4) (p0 : 0 ≤ (s 77 18))
    (l1 : rdk s t)
    (l2 : inR (s 77 19))
    (l3 : (s 77 19) = 0 → P (some (vI ((lkM s t) - 48))) (m_upd (m_upd s 77 19 0) 77 18 (s 77 18)))
    (l4 : ¬ (s 77 19) = 0 → inR (lkM s t))
    (l5 : ¬ (s 77 19) = 0 → (lkM s t) < 48 → P (some (vI ((lkM s t) - 48))) (m_upd (m_upd s 77 19 0) 77 18 (s 77 18)))
    (l6 : ¬ (s 77 19) = 0 → 48 ≤ (lkM s t) → 57 < (lkM s t) → P (some (vI ((lkM s t) - 48))) (m_upd (m_upd s 77 19 0) 77 18 (s 77 18)))
    (l7 : ¬ (s 77 19) = 0 → 48 ≤ (lkM s t) → (lkM s t) ≤ 57 → inR ((lkM s t) - 48))
    (l8 : ¬ (s 77 19) = 0 → 48 ≤ (lkM s t) → (lkM s t) ≤ 57 → inR h)
    (l9 : ¬ (s 77 19) = 0 → 48 ≤ (lkM s t) → (lkM s t) ≤ 57 → h < ((lkM s t) - 48) → P (some (vI ((lkM s t) - 48))) (m_upd (m_upd s 77 19 0) 77 18 (s 77 18)))
    (l10 : ¬ (s 77 19) = 0 → 48 ≤ (lkM s t) → (lkM s t) ≤ 57 → ((lkM s t) - 48) ≤ h → P (some (vI ((lkM s t) - 48))) (m_upd (m_upd s 77 19 1) 77 18 ((s 77 18) + 1)))
    : Cl X (d + 1) 177 [vR 77, vI t, vI h] s P := by
  refine Cl_of n_177 rfl ?_
  show Rn _ _ _ _ [some (vR 77), some (vI t), some (vI h), none] [] _ _
  refine r_ldR_n (m := 0) F_177_0 rfl ?_
  refine r_ldI_n (m := 1) F_177_1 rfl ?_
  refine r_virt2 (A := [vI t]) (r := []) (n := 1) F_177_2 o_177 il_6_100 rfl rfl rfl rfl ty_77 vy_176 (lay_le n_176 rfl) ?_
  refine sp_look t0 t4 l1 ?_
  show Rn _ _ _ _ _ [vI (lkM s t)] _ _
  refine r_bipush F_177_5 bi_48 ?_
  refine r_isub F_177_7 rfl ?_
  refine r_stI_n (m := 3) (L' := [some (vR 77), some (vI t), some (vI h), some (vI ((lkM s t) - 48))]) F_177_8 rfl rfl ?_
  refine r_ldR_n (m := 0) F_177_9 rfl ?_
  refine r_ldR_n (m := 0) F_177_10 rfl ?_
  refine r_getI (J := 19) (e := (s 77 19)) F_177_11 o_177 fl_6_96 ty_77 (by decide) rfl kd_77_19 rfl ?_
  refine r_if (t := 41) F_177_14 rfl l2 ?_ ?_
  · intro e1
    replace e1 : (s 77 19) = 0 := e1
    refine r_iconst F_177_41 ?_
    refine r_putZ (J := 19) F_177_42 o_177 fl_6_96 ty_77 (by decide) rfl kd_77_19 pf_6_19 (Or.inl rfl) ?_
    refine r_ldR_n (m := 0) F_177_45 rfl ?_
    refine r_dupR F_177_46 ?_
    refine r_getI (J := 18) (e := (s 77 18)) F_177_47 o_177 fl_6_93 ty_77 (by decide) rfl kd_77_18 (upd_nj (by decide)) ?_
    refine r_ldR_n (m := 0) F_177_50 rfl ?_
    refine r_getI (J := 19) (e := 0) F_177_51 o_177 fl_6_96 ty_77 (by decide) rfl kd_77_19 upd_eq ?_
    refine r_ifT (t := 61) F_177_54 rfl (by decide) (by show (0 : Int) = 0; decide) ?_
    refine r_iconst F_177_61 ?_
    refine r_iadd (e := (s 77 18)) F_177_62 (Int.add_zero _) ?_
    refine r_putI (J := 18) F_177_63 o_177 fl_6_93 ty_77 (by decide) rfl kd_77_18 pf_6_18 ?_
    refine r_ldI_n (m := 3) F_177_66 rfl ?_
    refine r_ireturn F_177_67 rt_177 ?_
    exact (l3 e1)
  · intro e2
    replace e2 : ¬ (s 77 19) = 0 := e2
    refine r_ldR_n (m := 0) F_177_17 rfl ?_
    refine r_ldI_n (m := 1) F_177_18 rfl ?_
    refine r_virt2 (A := [vI t]) (r := [vR 77]) (n := 1) F_177_19 o_177 il_6_100 rfl rfl rfl rfl ty_77 vy_176 (lay_le n_176 rfl) ?_
    refine sp_look t0 t4 l1 ?_
    show Rn _ _ _ _ _ [vI (lkM s t), vR 77] _ _
    refine r_bipush F_177_22 bi_48 ?_
    refine r_bipush F_177_24 bi_57 ?_
    refine r_stat2 (A := [vI (lkM s t), vI 48, vI 57]) (r := [vR 77]) (n := 3) F_177_26 o_177 il_6_67 (by decide) rfl rfl rfl rfl (lay_le n_160 rfl) ?_
    refine Cl_of n_160 rfl ?_
    show Rn _ _ _ _ [some (vI (lkM s t)), some (vI 48), some (vI 57)] [] _ _
    refine r_ldI_n (m := 0) F_160_0 rfl ?_
    refine r_ldI_n (m := 1) F_160_1 rfl ?_
    refine r_icmp (t := 14) F_160_2 rfl (l4 e2) (by decide) ?_ ?_
    · intro e3
      replace e3 : (lkM s t) < 48 := e3
      refine r_iconst F_160_14 ?_
      refine r_zreturn F_160_15 rt_160 (Or.inl rfl) ?_
      show Rn _ _ _ _ _ [vI 0, vR 77] _ _
      refine r_ifT (t := 41) F_177_29 rfl (by decide) (by show (0 : Int) = 0; decide) ?_
      refine r_iconst F_177_41 ?_
      refine r_putZ (J := 19) F_177_42 o_177 fl_6_96 ty_77 (by decide) rfl kd_77_19 pf_6_19 (Or.inl rfl) ?_
      refine r_ldR_n (m := 0) F_177_45 rfl ?_
      refine r_dupR F_177_46 ?_
      refine r_getI (J := 18) (e := (s 77 18)) F_177_47 o_177 fl_6_93 ty_77 (by decide) rfl kd_77_18 (upd_nj (by decide)) ?_
      refine r_ldR_n (m := 0) F_177_50 rfl ?_
      refine r_getI (J := 19) (e := 0) F_177_51 o_177 fl_6_96 ty_77 (by decide) rfl kd_77_19 upd_eq ?_
      refine r_ifT (t := 61) F_177_54 rfl (by decide) (by show (0 : Int) = 0; decide) ?_
      refine r_iconst F_177_61 ?_
      refine r_iadd (e := (s 77 18)) F_177_62 (Int.add_zero _) ?_
      refine r_putI (J := 18) F_177_63 o_177 fl_6_93 ty_77 (by decide) rfl kd_77_18 pf_6_18 ?_
      refine r_ldI_n (m := 3) F_177_66 rfl ?_
      refine r_ireturn F_177_67 rt_177 ?_
      exact (l5 e2 e3)
    · intro e4
      replace e4 : 48 ≤ (lkM s t) := (Int.not_lt.mp e4)
      refine r_ldI_n (m := 0) F_160_5 rfl ?_
      refine r_ldI_n (m := 2) F_160_6 rfl ?_
      refine r_icmp (t := 14) F_160_7 rfl (l4 e2) (by decide) ?_ ?_
      · intro e5
        replace e5 : 57 < (lkM s t) := e5
        refine r_iconst F_160_14 ?_
        refine r_zreturn F_160_15 rt_160 (Or.inl rfl) ?_
        show Rn _ _ _ _ _ [vI 0, vR 77] _ _
        refine r_ifT (t := 41) F_177_29 rfl (by decide) (by show (0 : Int) = 0; decide) ?_
        refine r_iconst F_177_41 ?_
        refine r_putZ (J := 19) F_177_42 o_177 fl_6_96 ty_77 (by decide) rfl kd_77_19 pf_6_19 (Or.inl rfl) ?_
        refine r_ldR_n (m := 0) F_177_45 rfl ?_
        refine r_dupR F_177_46 ?_
        refine r_getI (J := 18) (e := (s 77 18)) F_177_47 o_177 fl_6_93 ty_77 (by decide) rfl kd_77_18 (upd_nj (by decide)) ?_
        refine r_ldR_n (m := 0) F_177_50 rfl ?_
        refine r_getI (J := 19) (e := 0) F_177_51 o_177 fl_6_96 ty_77 (by decide) rfl kd_77_19 upd_eq ?_
        refine r_ifT (t := 61) F_177_54 rfl (by decide) (by show (0 : Int) = 0; decide) ?_
        refine r_iconst F_177_61 ?_
        refine r_iadd (e := (s 77 18)) F_177_62 (Int.add_zero _) ?_
        refine r_putI (J := 18) F_177_63 o_177 fl_6_93 ty_77 (by decide) rfl kd_77_18 pf_6_18 ?_
        refine r_ldI_n (m := 3) F_177_66 rfl ?_
        refine r_ireturn F_177_67 rt_177 ?_
        exact (l6 e2 e4 e5)
      · intro e6
        replace e6 : (lkM s t) ≤ 57 := (Int.not_lt.mp e6)
        refine r_iconst F_160_10 ?_
        refine r_goto (t := 15) F_160_11 rfl ?_
        refine r_zreturn F_160_15 rt_160 (Or.inr rfl) ?_
        show Rn _ _ _ _ _ [vI 1, vR 77] _ _
        refine r_ifF (t := 41) F_177_29 rfl (by decide) (by show ¬ ((1 : Int) = 0); decide) ?_
        refine r_ldI_n (m := 3) F_177_32 rfl ?_
        refine r_ldI_n (m := 2) F_177_33 rfl ?_
        refine r_icmp (t := 41) F_177_34 rfl (l7 e2 e4 e6) (l8 e2 e4 e6) ?_ ?_
        · intro e7
          replace e7 : h < ((lkM s t) - 48) := e7
          refine r_iconst F_177_41 ?_
          refine r_putZ (J := 19) F_177_42 o_177 fl_6_96 ty_77 (by decide) rfl kd_77_19 pf_6_19 (Or.inl rfl) ?_
          refine r_ldR_n (m := 0) F_177_45 rfl ?_
          refine r_dupR F_177_46 ?_
          refine r_getI (J := 18) (e := (s 77 18)) F_177_47 o_177 fl_6_93 ty_77 (by decide) rfl kd_77_18 (upd_nj (by decide)) ?_
          refine r_ldR_n (m := 0) F_177_50 rfl ?_
          refine r_getI (J := 19) (e := 0) F_177_51 o_177 fl_6_96 ty_77 (by decide) rfl kd_77_19 upd_eq ?_
          refine r_ifT (t := 61) F_177_54 rfl (by decide) (by show (0 : Int) = 0; decide) ?_
          refine r_iconst F_177_61 ?_
          refine r_iadd (e := (s 77 18)) F_177_62 (Int.add_zero _) ?_
          refine r_putI (J := 18) F_177_63 o_177 fl_6_93 ty_77 (by decide) rfl kd_77_18 pf_6_18 ?_
          refine r_ldI_n (m := 3) F_177_66 rfl ?_
          refine r_ireturn F_177_67 rt_177 ?_
          exact (l9 e2 e4 e6 e7)
        · intro e8
          replace e8 : ((lkM s t) - 48) ≤ h := (Int.not_lt.mp e8)
          refine r_iconst F_177_37 ?_
          refine r_goto (t := 42) F_177_38 rfl ?_
          refine r_putZ (J := 19) F_177_42 o_177 fl_6_96 ty_77 (by decide) rfl kd_77_19 pf_6_19 (Or.inr rfl) ?_
          refine r_ldR_n (m := 0) F_177_45 rfl ?_
          refine r_dupR F_177_46 ?_
          refine r_getI (J := 18) (e := (s 77 18)) F_177_47 o_177 fl_6_93 ty_77 (by decide) rfl kd_77_18 (upd_nj (by decide)) ?_
          refine r_ldR_n (m := 0) F_177_50 rfl ?_
          refine r_getI (J := 19) (e := 1) F_177_51 o_177 fl_6_96 ty_77 (by decide) rfl kd_77_19 upd_eq ?_
          refine r_ifF (t := 61) F_177_54 rfl (by decide) (by show ¬ ((1 : Int) = 0); decide) ?_
          refine r_iconst F_177_57 ?_
          refine r_goto (t := 62) F_177_58 rfl ?_
          refine r_iadd F_177_62 rfl ?_
          refine r_putI (J := 18) F_177_63 o_177 fl_6_93 ty_77 (by decide) rfl kd_77_18 pf_6_18 ?_
          refine r_ldI_n (m := 3) F_177_66 rfl ?_
          refine r_ireturn F_177_67 rt_177 ?_
          exact (l10 e2 e4 e6 e8)
